/-! ===== 95: the constructors of the acts, of the reference, of the class ===== -/
set_option maxHeartbeats 1000000 in
set_option maxRecDepth 20000 in
theorem lpX0 {X : XC} (hX : PX X) {G : FE} : ∀ (k i : Nat) (F : FE) (qf : Nat → Option Nat), i + k = 24 → F 21 = .inr (0, [rv X 22, iv 0, iv 0]) → F 22 = .inl (X.2.2.2.1 4, 24, .inr (.inr (.inr (.inr qf)))) → (∀ j, j < i → qf j = some (X.2.2.1 (oH (4 + j)))) → (∀ h, 81 ≤ h → h < 81 + 9 * i → F h = cell X I0 h) → (∀ h, ¬ (21 ≤ h ∧ h < 23) → ¬ (81 ≤ h ∧ h < 81 + 9 * i) → F h = G h) →
    Rb X 2 217 2904 mX0_init 241 (fl X (fl X G 21 23) 81 297) 25 [(1, iv (i : Int)), (0, rv X 21)] [] (25 + 9 * i) F (1 + 9 * i) (24 + 120 * i) := by
  intro k
  induction k with
  | zero =>
    intro i F qf hi h21 h22 hq hc hg
    have hi : i = 24 := by omega
    subst hi
    refine b_iload_n 0 rfl rfl dX0_init_25 ?_
    refine b_bipush rfl dX0_init_26 ?_
    refine b_icmp_ge 50 (by unfold rg; omega) (by unfold rg; omega) dX0_init_28 rfl (fun hge => ?_) (fun hlt => by omega)
    refine b_vret rfl dX0_init_50 (by omega) (by omega) (by omega) (fun h hh hp => ?_)
    by_cases q : 81 ≤ h ∧ h < 297
    · rw [fl_i q]; exact .inl (hc h q.1 (by omega))
    · rw [fl_o q]
      by_cases q2 : 21 ≤ h ∧ h < 23
      · rw [fl_i q2]
        rcases (show h = 21 ∨ h = 22 by omega) with rfl | rfl
        · exact .inl (h21.trans rfl)
        · exact .inr ⟨X.2.2.2.1 4, 24, qf, fun i => some (X.2.2.1 (45 + 9 * (4 + i))), h22, rfl, fun j hj => hq j hj⟩
      · rw [fl_o q2]; exact .inl (hg h q2 (by omega))
  | succ k ih =>
    intro i F qf hi h21 h22 hq hc hg
    have hi2 : 4 + i < 28 := by omega
    have e0 : oH (4 + i) = 45 + 9 * (4 + i) := rfl
    have hpos : pos (oH (4 + i)) = 25 + 9 * i := by
      show pos (45 + 9 * (4 + i)) = _
      unfold pos
      rw [if_neg (by omega), if_neg (by omega), if_neg (by omega), if_neg (by omega), if_neg (by omega), if_neg (by omega), if_neg (by omega), if_neg (by omega), if_neg (by omega), if_neg (by omega)]
      omega
    have p21 : pos 21 = 23 := rfl
    have p22 : pos 22 = 24 := rfl
    refine b_iload_n 0 rfl rfl dX0_init_25 ?_
    refine b_bipush rfl dX0_init_26 ?_
    refine b_icmp_ge 50 (by unfold rg; omega) (by unfold rg; omega) dX0_init_28 rfl (fun hge => by omega) (fun hlt => ?_)
    refine b_aload_n 1 rfl rfl dX0_init_31 ?_
    refine b_get (h := 21) (fs := [rv X 22, iv 0, iv 0]) (j := 0) ckX0 (by decide) (by omega) h21 (by decide) rfl kf_X0_11 dX0_init_32 ?_
    refine b_iload_n 0 rfl rfl dX0_init_35 ?_
    refine b_new (h := oH (4 + i)) (fs := [.null, .null, .null, .null, .null, .null, .null, .null, iv 0, iv 0, iv 0, iv 0]) hX ckX3 (oH_lt hi2) hpos blX3 kl_X0_9 ki_X3 kn_X3 (by omega) (by omega) dX0_init_36 ?_
    refine b_dup dX0_init_39 ?_
    refine b_newN (h := oH (4 + i)) okX3_init (by decide) (Nat.le_of_ble_eq_true rfl) kx_X0_24 (by omega) (by omega) (kiX3 hX (w := 4 + i) hi2 (by omega) uF_s) dX0_init_40 ?_
    refine b_aast (h := 22) (hv := oH (4 + i)) (t := 4) (N := 24) (f := qf) (r := (RX3, TX3, 12)) (by decide) (by omega) ((fl_o (by omega)).trans ((uF_n (by omega)).trans h22)) rfl (oH_lt hi2) (by omega) ((fl_i (by omega)).trans (cellO hi2)) ckX3.1 (by omega) (by omega) (by decide) dX0_init_43 ?_
    refine b_iinc 0 [(1, iv ((i : Int) + 1)), (0, rv X 21)] rfl (by decide) rfl dX0_init_44 ?_
    refine b_goto (tgt := 25) dX0_init_47 rfl ?_
    have hN := ih (i + 1) _ _ (by omega) ((uF_n (h := 22) (F := fl X (uF F (oH (4 + i)) (.inr (3, [.null, .null, .null, .null, .null, .null, .null, .null, iv 0, iv 0, iv 0, iv 0]))) (oH (4 + i)) (oH (4 + i) + 9)) (e := .inl (X.2.2.2.1 4, 24, .inr (.inr (.inr (.inr (va_up qf (Int.toNat i) (some (X.2.2.1 (oH (4 + i)))))))))) (by omega)).trans ((fl_o (by omega)).trans ((uF_n (by omega)).trans h21))) uF_s (fun j hj => ?_) (fun h h1 h2 => ?_) (fun h h1 h2 => ?_)
    · rw [show 25 + 9 * (i + 1) = 25 + 9 * i + 1 + 8 by omega, show 1 + 9 * (i + 1) = 1 + 9 * i + 1 + 8 by omega, show 24 + 120 * (i + 1) = 24 + 120 * i + 12 + 108 by omega, show ((i + 1 : Nat) : Int) = (i : Int) + 1 by omega] at hN
      exact hN
    · unfold va_up
      by_cases q : j = i
      · subst q; rw [if_pos (by omega)]
      · rw [if_neg (by omega)]; exact hq j (by omega)
    · by_cases q : 81 + 9 * i ≤ h
      · rw [uF_n (by omega), fl_i (by omega)]
      · rw [uF_n (by omega), fl_o (by omega), uF_n (by omega)]; exact hc h h1 (by omega)
    · rw [uF_n (by omega), fl_o (by omega), uF_n (by omega)]; exact hg h h1 (by omega)
set_option maxHeartbeats 1000000 in
set_option maxRecDepth 20000 in
theorem kiX0 {X : XC} (hX : PX X) {F : FE} (hF : F 21 = .inr (0, [.null, iv 0, iv 0])) : CB X 2 217 2904 mX0_init [rv X 21] 24 F 241 (fl X (fl X F 21 23) 81 297) := by
  refine CB.of (by decide +kernel) (Nat.le_of_ble_eq_true rfl) ?_
  show Rb X 2 217 2904 mX0_init 241 _ 0 [(0, rv X 21)] [] 24 F 0 0
  refine b_aload_n 0 rfl rfl dX0_init_0 ?_
  refine b_obj ko_X0_3 (by omega) (by decide) dX0_init_1 ?_
  refine b_aload_n 0 rfl rfl dX0_init_4 ?_
  refine b_bipush rfl dX0_init_5 ?_
  refine b_newq (h := 22) (t := 4) (N := 24) hX (by decide) (by decide) rfl rfl (by decide) kl_X0_9 (fun _ o => o.1) (by omega) (by omega) dX0_init_7 ?_
  refine b_putF (h := 21) (fs := [.null, iv 0, iv 0]) 0 ckX0 (by decide) (by decide) ((uF_n (by omega)).trans (hF)) (by decide) (by show 0 < 3; decide) kf_X0_11 rfl rfl rfl (ckX0.2.2.1 0 (by decide)) rfl rfl dX0_init_10 ?_
  refine b_aload_n 0 rfl rfl dX0_init_13 ?_
  refine b_iconst dX0_init_14 ?_
  refine b_put (h := 21) (fs := [rv X 22, iv 0, iv 0]) 1 ckX0 (by decide) (by decide) (uF_s) (by decide) (by show 1 < 3; decide) kf_X0_17 rfl (ckX0.2.2.1 1 (by decide)) rfl rfl dX0_init_15 ?_
  refine b_aload_n 0 rfl rfl dX0_init_18 ?_
  refine b_iconst dX0_init_19 ?_
  refine b_put (h := 21) (fs := [rv X 22, iv 0, iv 0]) 2 ckX0 (by decide) (by decide) (uF_s) (by decide) (by show 2 < 3; decide) kf_X0_21 rfl (ckX0.2.2.1 2 (by decide)) rfl rfl dX0_init_20 ?_
  refine b_iconst dX0_init_23 ?_
  refine b_istore_n rfl [(1, iv ((0 : Nat) : Int)), (0, rv X 21)] (by decide) rfl dX0_init_24 ?_
  refine lpX0 hX 24 0 _ (fun _ => none) rfl uF_s ((uF_n (by omega)).trans ((uF_n (by omega)).trans ((uF_n (by omega)).trans (uF_s)))) (fun j hj => by omega) (fun h h1 h2 => by omega) (fun h h1 h2 => ?_)
  repeat rw [uF_n (by omega)]
theorem lane0 : (upd (upd (upd (upd (upd (upd (upd (upd (fun _ => 0) (Int.toNat 0) (iI ((-1)))) (Int.toNat 1) (iI ((-1)))) (Int.toNat 2) (iI ((-1)))) (Int.toNat 3) (iI ((-1)))) (Int.toNat 4) (iI ((-1)))) (Int.toNat 5) (iI ((-1)))) (Int.toNat 6) (iI ((-1)))) (Int.toNat 7) (iI ((-1)))) = fun i : Nat => iI (I0 31 i) := by
  funext i
  by_cases q : i < 8
  · rcases (show i = 0 ∨ i = 1 ∨ i = 2 ∨ i = 3 ∨ i = 4 ∨ i = 5 ∨ i = 6 ∨ i = 7 by omega) with rfl | rfl | rfl | rfl | rfl | rfl | rfl | rfl <;> rfl
  · have e : I0 31 i = 0 := by unfold I0; rw [if_neg (by omega), if_neg (by omega), if_pos rfl, if_neg (by omega)]
    rw [e]
    unfold upd
    rw [if_neg (by omega), if_neg (by omega), if_neg (by omega), if_neg (by omega), if_neg (by omega), if_neg (by omega), if_neg (by omega), if_neg (by omega)]
    rfl
set_option maxHeartbeats 1000000 in
set_option maxRecDepth 20000 in
theorem kiX9 {X : XC} (hX : PX X) {F : FE} (hF : F 30 = .inr (9, [iv 0, iv 0, .null, .null, .null, .null, .null, iv 0, .null, iv 0, .null, iv 0, iv 0, iv 0, iv 0, iv 0, iv 0, iv 0, iv 0, iv 0, .null, .null, .null, .null, .null, .null, .null, iv 0])) : CB X 1 14 4432 mX9_init [rv X 30] 283 F 297 (fl X F 30 45) := by
  refine CB.of (by decide +kernel) (Nat.le_of_ble_eq_true rfl) ?_
  show Rb X 1 14 4432 mX9_init 297 _ 0 [(0, rv X 30)] [] 283 F 0 0
  refine b_aload_n 0 rfl rfl dX9_init_0 ?_
  refine b_obj ko_X9_1 (by omega) (by decide) dX9_init_1 ?_
  refine b_aload_n 0 rfl rfl dX9_init_4 ?_
  refine b_bipush rfl dX9_init_5 ?_
  refine b_newa (atype := .int) (h := 31) (t := 0) (N := 8) (a0 := (8, .inl (fun _ => 0))) hX (by decide) (by decide) rfl (fun _ => rfl) rfl (by decide) (by decide) kar_int (by omega) (by omega) dX9_init_7 ?_
  refine b_dup dX9_init_9 ?_
  refine b_iconst dX9_init_10 ?_
  refine b_iconst dX9_init_11 ?_
  refine b_iast (h := 31) (f := fun _ => 0) (by decide) (by decide) (uF_s) (by decide) (by decide) (by decide) dX9_init_12 ?_
  refine b_dup dX9_init_13 ?_
  refine b_iconst dX9_init_14 ?_
  refine b_iconst dX9_init_15 ?_
  refine b_iast (h := 31) (f := upd (fun _ => 0) (Int.toNat 0) (iI ((-1)))) (by decide) (by decide) (uF_s) (by decide) (by decide) (by decide) dX9_init_16 ?_
  refine b_dup dX9_init_17 ?_
  refine b_iconst dX9_init_18 ?_
  refine b_iconst dX9_init_19 ?_
  refine b_iast (h := 31) (f := upd (upd (fun _ => 0) (Int.toNat 0) (iI ((-1)))) (Int.toNat 1) (iI ((-1)))) (by decide) (by decide) (uF_s) (by decide) (by decide) (by decide) dX9_init_20 ?_
  refine b_dup dX9_init_21 ?_
  refine b_iconst dX9_init_22 ?_
  refine b_iconst dX9_init_23 ?_
  refine b_iast (h := 31) (f := upd (upd (upd (fun _ => 0) (Int.toNat 0) (iI ((-1)))) (Int.toNat 1) (iI ((-1)))) (Int.toNat 2) (iI ((-1)))) (by decide) (by decide) (uF_s) (by decide) (by decide) (by decide) dX9_init_24 ?_
  refine b_dup dX9_init_25 ?_
  refine b_iconst dX9_init_26 ?_
  refine b_iconst dX9_init_27 ?_
  refine b_iast (h := 31) (f := upd (upd (upd (upd (fun _ => 0) (Int.toNat 0) (iI ((-1)))) (Int.toNat 1) (iI ((-1)))) (Int.toNat 2) (iI ((-1)))) (Int.toNat 3) (iI ((-1)))) (by decide) (by decide) (uF_s) (by decide) (by decide) (by decide) dX9_init_28 ?_
  refine b_dup dX9_init_29 ?_
  refine b_iconst dX9_init_30 ?_
  refine b_iconst dX9_init_31 ?_
  refine b_iast (h := 31) (f := upd (upd (upd (upd (upd (fun _ => 0) (Int.toNat 0) (iI ((-1)))) (Int.toNat 1) (iI ((-1)))) (Int.toNat 2) (iI ((-1)))) (Int.toNat 3) (iI ((-1)))) (Int.toNat 4) (iI ((-1)))) (by decide) (by decide) (uF_s) (by decide) (by decide) (by decide) dX9_init_32 ?_
  refine b_dup dX9_init_33 ?_
  refine b_bipush rfl dX9_init_34 ?_
  refine b_iconst dX9_init_36 ?_
  refine b_iast (h := 31) (f := upd (upd (upd (upd (upd (upd (fun _ => 0) (Int.toNat 0) (iI ((-1)))) (Int.toNat 1) (iI ((-1)))) (Int.toNat 2) (iI ((-1)))) (Int.toNat 3) (iI ((-1)))) (Int.toNat 4) (iI ((-1)))) (Int.toNat 5) (iI ((-1)))) (by decide) (by decide) (uF_s) (by decide) (by decide) (by decide) dX9_init_37 ?_
  refine b_dup dX9_init_38 ?_
  refine b_bipush rfl dX9_init_39 ?_
  refine b_iconst dX9_init_41 ?_
  refine b_iast (h := 31) (f := upd (upd (upd (upd (upd (upd (upd (fun _ => 0) (Int.toNat 0) (iI ((-1)))) (Int.toNat 1) (iI ((-1)))) (Int.toNat 2) (iI ((-1)))) (Int.toNat 3) (iI ((-1)))) (Int.toNat 4) (iI ((-1)))) (Int.toNat 5) (iI ((-1)))) (Int.toNat 6) (iI ((-1)))) (by decide) (by decide) (uF_s) (by decide) (by decide) (by decide) dX9_init_42 ?_
  refine b_putF (h := 30) (fs := [iv 0, iv 0, .null, .null, .null, .null, .null, iv 0, .null, iv 0, .null, iv 0, iv 0, iv 0, iv 0, iv 0, iv 0, iv 0, iv 0, iv 0, .null, .null, .null, .null, .null, .null, .null, iv 0]) 2 ckX9 (by decide) (by decide) ((uF_n (by omega)).trans ((uF_n (by omega)).trans ((uF_n (by omega)).trans ((uF_n (by omega)).trans ((uF_n (by omega)).trans ((uF_n (by omega)).trans ((uF_n (by omega)).trans ((uF_n (by omega)).trans ((uF_n (by omega)).trans (hF)))))))))) (by decide) (by show 2 < 28; decide) kf_X9_7 rfl rfl rfl (ckX9.2.2.1 2 (by decide)) rfl rfl dX9_init_43 ?_
  refine b_aload_n 0 rfl rfl dX9_init_46 ?_
  refine b_bipush rfl dX9_init_47 ?_
  refine b_newa (atype := .int) (h := 32) (t := 0) (N := 8) (a0 := (8, .inl (fun _ => 0))) hX (by decide) (by decide) rfl (fun _ => rfl) rfl (by decide) (by decide) kar_int (by omega) (by omega) dX9_init_49 ?_
  refine b_putF (h := 30) (fs := [iv 0, iv 0, rv X 31, .null, .null, .null, .null, iv 0, .null, iv 0, .null, iv 0, iv 0, iv 0, iv 0, iv 0, iv 0, iv 0, iv 0, iv 0, .null, .null, .null, .null, .null, .null, .null, iv 0]) 3 ckX9 (by decide) (by decide) ((uF_n (by omega)).trans (uF_s)) (by decide) (by show 3 < 28; decide) kf_X9_13 rfl rfl rfl (ckX9.2.2.1 3 (by decide)) rfl rfl dX9_init_51 ?_
  refine b_aload_n 0 rfl rfl dX9_init_54 ?_
  refine b_sipush rfl dX9_init_55 ?_
  refine b_newa (atype := .int) (h := 33) (t := 0) (N := 320) (a0 := (320, .inl (fun _ => 0))) hX (by decide) (by decide) rfl (fun _ => rfl) rfl (by decide) (by decide) kar_int (by omega) (by omega) dX9_init_58 ?_
  refine b_putF (h := 30) (fs := [iv 0, iv 0, rv X 31, rv X 32, .null, .null, .null, iv 0, .null, iv 0, .null, iv 0, iv 0, iv 0, iv 0, iv 0, iv 0, iv 0, iv 0, iv 0, .null, .null, .null, .null, .null, .null, .null, iv 0]) 4 ckX9 (by decide) (by decide) ((uF_n (by omega)).trans (uF_s)) (by decide) (by show 4 < 28; decide) kf_X9_16 rfl rfl rfl (ckX9.2.2.1 4 (by decide)) rfl rfl dX9_init_60 ?_
  refine b_aload_n 0 rfl rfl dX9_init_63 ?_
  refine b_bipush rfl dX9_init_64 ?_
  refine b_newa (atype := .int) (h := 34) (t := 0) (N := 127) (a0 := (127, .inl (fun _ => 0))) hX (by decide) (by decide) rfl (fun _ => rfl) rfl (by decide) (by decide) kar_int (by omega) (by omega) dX9_init_66 ?_
  refine b_putF (h := 30) (fs := [iv 0, iv 0, rv X 31, rv X 32, rv X 33, .null, .null, iv 0, .null, iv 0, .null, iv 0, iv 0, iv 0, iv 0, iv 0, iv 0, iv 0, iv 0, iv 0, .null, .null, .null, .null, .null, .null, .null, iv 0]) 5 ckX9 (by decide) (by decide) ((uF_n (by omega)).trans (uF_s)) (by decide) (by show 5 < 28; decide) kf_X9_19 rfl rfl rfl (ckX9.2.2.1 5 (by decide)) rfl rfl dX9_init_68 ?_
  refine b_aload_n 0 rfl rfl dX9_init_71 ?_
  refine b_bipush rfl dX9_init_72 ?_
  refine b_newa (atype := .int) (h := 35) (t := 0) (N := 127) (a0 := (127, .inl (fun _ => 0))) hX (by decide) (by decide) rfl (fun _ => rfl) rfl (by decide) (by decide) kar_int (by omega) (by omega) dX9_init_74 ?_
  refine b_putF (h := 30) (fs := [iv 0, iv 0, rv X 31, rv X 32, rv X 33, rv X 34, .null, iv 0, .null, iv 0, .null, iv 0, iv 0, iv 0, iv 0, iv 0, iv 0, iv 0, iv 0, iv 0, .null, .null, .null, .null, .null, .null, .null, iv 0]) 6 ckX9 (by decide) (by decide) ((uF_n (by omega)).trans (uF_s)) (by decide) (by show 6 < 28; decide) kf_X9_22 rfl rfl rfl (ckX9.2.2.1 6 (by decide)) rfl rfl dX9_init_76 ?_
  refine b_aload_n 0 rfl rfl dX9_init_79 ?_
  refine b_sipush rfl dX9_init_80 ?_
  refine b_newa (atype := .int) (h := 36) (t := 0) (N := 3048) (a0 := (3048, .inl (fun _ => 0))) hX (by decide) (by decide) rfl (fun _ => rfl) rfl (by decide) (by decide) kar_int (by omega) (by omega) dX9_init_83 ?_
  refine b_putF (h := 30) (fs := [iv 0, iv 0, rv X 31, rv X 32, rv X 33, rv X 34, rv X 35, iv 0, .null, iv 0, .null, iv 0, iv 0, iv 0, iv 0, iv 0, iv 0, iv 0, iv 0, iv 0, .null, .null, .null, .null, .null, .null, .null, iv 0]) 8 ckX9 (by decide) (by decide) ((uF_n (by omega)).trans (uF_s)) (by decide) (by show 8 < 28; decide) kf_X9_25 rfl rfl rfl (ckX9.2.2.1 8 (by decide)) rfl rfl dX9_init_85 ?_
  refine b_aload_n 0 rfl rfl dX9_init_88 ?_
  refine b_sipush rfl dX9_init_89 ?_
  refine b_newa (atype := .int) (h := 37) (t := 0) (N := 500) (a0 := (500, .inl (fun _ => 0))) hX (by decide) (by decide) rfl (fun _ => rfl) rfl (by decide) (by decide) kar_int (by omega) (by omega) dX9_init_92 ?_
  refine b_putF (h := 30) (fs := [iv 0, iv 0, rv X 31, rv X 32, rv X 33, rv X 34, rv X 35, iv 0, rv X 36, iv 0, .null, iv 0, iv 0, iv 0, iv 0, iv 0, iv 0, iv 0, iv 0, iv 0, .null, .null, .null, .null, .null, .null, .null, iv 0]) 10 ckX9 (by decide) (by decide) ((uF_n (by omega)).trans (uF_s)) (by decide) (by show 10 < 28; decide) kf_X9_28 rfl rfl rfl (ckX9.2.2.1 10 (by decide)) rfl rfl dX9_init_94 ?_
  refine b_aload_n 0 rfl rfl dX9_init_97 ?_
  refine b_iconst dX9_init_98 ?_
  refine b_newa (atype := .int) (h := 38) (t := 0) (N := 4) (a0 := (4, .inl (fun _ => 0))) hX (by decide) (by decide) rfl (fun _ => rfl) rfl (by decide) (by decide) kar_int (by omega) (by omega) dX9_init_99 ?_
  refine b_putF (h := 30) (fs := [iv 0, iv 0, rv X 31, rv X 32, rv X 33, rv X 34, rv X 35, iv 0, rv X 36, iv 0, rv X 37, iv 0, iv 0, iv 0, iv 0, iv 0, iv 0, iv 0, iv 0, iv 0, .null, .null, .null, .null, .null, .null, .null, iv 0]) 20 ckX9 (by decide) (by decide) ((uF_n (by omega)).trans (uF_s)) (by decide) (by show 20 < 28; decide) kf_X9_31 rfl rfl rfl (ckX9.2.2.1 20 (by decide)) rfl rfl dX9_init_101 ?_
  refine b_aload_n 0 rfl rfl dX9_init_104 ?_
  refine b_iconst dX9_init_105 ?_
  refine b_newa (atype := .long) (h := 39) (t := 2) (N := 4) (a0 := (4, .inr (.inl (fun _ => 0)))) hX (by decide) (by decide) rfl (fun _ => rfl) rfl (by decide) (by decide) kar_long (by omega) (by omega) dX9_init_106 ?_
  refine b_putF (h := 30) (fs := [iv 0, iv 0, rv X 31, rv X 32, rv X 33, rv X 34, rv X 35, iv 0, rv X 36, iv 0, rv X 37, iv 0, iv 0, iv 0, iv 0, iv 0, iv 0, iv 0, iv 0, iv 0, rv X 38, .null, .null, .null, .null, .null, .null, iv 0]) 21 ckX9 (by decide) (by decide) ((uF_n (by omega)).trans (uF_s)) (by decide) (by show 21 < 28; decide) kf_X9_34 rfl rfl rfl (ckX9.2.2.1 21 (by decide)) rfl rfl dX9_init_108 ?_
  refine b_aload_n 0 rfl rfl dX9_init_111 ?_
  refine b_bipush rfl dX9_init_112 ?_
  refine b_newa (atype := .int) (h := 40) (t := 0) (N := 7) (a0 := (7, .inl (fun _ => 0))) hX (by decide) (by decide) rfl (fun _ => rfl) rfl (by decide) (by decide) kar_int (by omega) (by omega) dX9_init_114 ?_
  refine b_putF (h := 30) (fs := [iv 0, iv 0, rv X 31, rv X 32, rv X 33, rv X 34, rv X 35, iv 0, rv X 36, iv 0, rv X 37, iv 0, iv 0, iv 0, iv 0, iv 0, iv 0, iv 0, iv 0, iv 0, rv X 38, rv X 39, .null, .null, .null, .null, .null, iv 0]) 22 ckX9 (by decide) (by decide) ((uF_n (by omega)).trans (uF_s)) (by decide) (by show 22 < 28; decide) kf_X9_38 rfl rfl rfl (ckX9.2.2.1 22 (by decide)) rfl rfl dX9_init_116 ?_
  refine b_aload_n 0 rfl rfl dX9_init_119 ?_
  refine b_bipush rfl dX9_init_120 ?_
  refine b_newa (atype := .int) (h := 41) (t := 0) (N := 7) (a0 := (7, .inl (fun _ => 0))) hX (by decide) (by decide) rfl (fun _ => rfl) rfl (by decide) (by decide) kar_int (by omega) (by omega) dX9_init_122 ?_
  refine b_putF (h := 30) (fs := [iv 0, iv 0, rv X 31, rv X 32, rv X 33, rv X 34, rv X 35, iv 0, rv X 36, iv 0, rv X 37, iv 0, iv 0, iv 0, iv 0, iv 0, iv 0, iv 0, iv 0, iv 0, rv X 38, rv X 39, rv X 40, .null, .null, .null, .null, iv 0]) 23 ckX9 (by decide) (by decide) ((uF_n (by omega)).trans (uF_s)) (by decide) (by show 23 < 28; decide) kf_X9_41 rfl rfl rfl (ckX9.2.2.1 23 (by decide)) rfl rfl dX9_init_124 ?_
  refine b_aload_n 0 rfl rfl dX9_init_127 ?_
  refine b_iconst dX9_init_128 ?_
  refine b_newa (atype := .boolean) (h := 42) (t := 3) (N := 2) (a0 := (2, .inl (fun _ => 0))) hX (by decide) (by decide) rfl (fun _ => rfl) rfl (by decide) (by decide) kar_boolean (by omega) (by omega) dX9_init_129 ?_
  refine b_putF (h := 30) (fs := [iv 0, iv 0, rv X 31, rv X 32, rv X 33, rv X 34, rv X 35, iv 0, rv X 36, iv 0, rv X 37, iv 0, iv 0, iv 0, iv 0, iv 0, iv 0, iv 0, iv 0, iv 0, rv X 38, rv X 39, rv X 40, rv X 41, .null, .null, .null, iv 0]) 24 ckX9 (by decide) (by decide) ((uF_n (by omega)).trans (uF_s)) (by decide) (by show 24 < 28; decide) kf_X9_44 rfl rfl rfl (ckX9.2.2.1 24 (by decide)) rfl rfl dX9_init_131 ?_
  refine b_aload_n 0 rfl rfl dX9_init_134 ?_
  refine b_sipush rfl dX9_init_135 ?_
  refine b_newa (atype := .int) (h := 43) (t := 0) (N := 254) (a0 := (254, .inl (fun _ => 0))) hX (by decide) (by decide) rfl (fun _ => rfl) rfl (by decide) (by decide) kar_int (by omega) (by omega) dX9_init_138 ?_
  refine b_putF (h := 30) (fs := [iv 0, iv 0, rv X 31, rv X 32, rv X 33, rv X 34, rv X 35, iv 0, rv X 36, iv 0, rv X 37, iv 0, iv 0, iv 0, iv 0, iv 0, iv 0, iv 0, iv 0, iv 0, rv X 38, rv X 39, rv X 40, rv X 41, rv X 42, .null, .null, iv 0]) 25 ckX9 (by decide) (by decide) ((uF_n (by omega)).trans (uF_s)) (by decide) (by show 25 < 28; decide) kf_X9_48 rfl rfl rfl (ckX9.2.2.1 25 (by decide)) rfl rfl dX9_init_140 ?_
  refine b_aload_n 0 rfl rfl dX9_init_143 ?_
  refine b_bipush rfl dX9_init_144 ?_
  refine b_newa (atype := .int) (h := 44) (t := 0) (N := 16) (a0 := (16, .inl (fun _ => 0))) hX (by decide) (by decide) rfl (fun _ => rfl) rfl (by decide) (by decide) kar_int (by omega) (by omega) dX9_init_146 ?_
  refine b_putF (h := 30) (fs := [iv 0, iv 0, rv X 31, rv X 32, rv X 33, rv X 34, rv X 35, iv 0, rv X 36, iv 0, rv X 37, iv 0, iv 0, iv 0, iv 0, iv 0, iv 0, iv 0, iv 0, iv 0, rv X 38, rv X 39, rv X 40, rv X 41, rv X 42, rv X 43, .null, iv 0]) 26 ckX9 (by decide) (by decide) ((uF_n (by omega)).trans (uF_s)) (by decide) (by show 26 < 28; decide) kf_X9_51 rfl rfl rfl (ckX9.2.2.1 26 (by decide)) rfl rfl dX9_init_148 ?_
  refine b_vret rfl dX9_init_151 (by omega) (by omega) (by omega) (fun h hh hp => ?_)
  by_cases q : 30 ≤ h ∧ h < 45
  · rw [fl_i q]
    rcases (show h = 30 ∨ h = 31 ∨ h = 32 ∨ h = 33 ∨ h = 34 ∨ h = 35 ∨ h = 36 ∨ h = 37 ∨ h = 38 ∨ h = 39 ∨ h = 40 ∨ h = 41 ∨ h = 42 ∨ h = 43 ∨ h = 44 by omega) with rfl | rfl | rfl | rfl | rfl | rfl | rfl | rfl | rfl | rfl | rfl | rfl | rfl | rfl | rfl
    · exact .inl ((uF_s).trans rfl)
    · exact .inl (((uF_n (by omega)).trans ((uF_n (by omega)).trans ((uF_n (by omega)).trans ((uF_n (by omega)).trans ((uF_n (by omega)).trans ((uF_n (by omega)).trans ((uF_n (by omega)).trans ((uF_n (by omega)).trans ((uF_n (by omega)).trans ((uF_n (by omega)).trans ((uF_n (by omega)).trans ((uF_n (by omega)).trans ((uF_n (by omega)).trans ((uF_n (by omega)).trans ((uF_n (by omega)).trans ((uF_n (by omega)).trans ((uF_n (by omega)).trans ((uF_n (by omega)).trans ((uF_n (by omega)).trans ((uF_n (by omega)).trans ((uF_n (by omega)).trans ((uF_n (by omega)).trans ((uF_n (by omega)).trans ((uF_n (by omega)).trans ((uF_n (by omega)).trans ((uF_n (by omega)).trans ((uF_n (by omega)).trans (uF_s)))))))))))))))))))))))))))).trans (by rw [lane0]; rfl))
    · exact .inl (((uF_n (by omega)).trans ((uF_n (by omega)).trans ((uF_n (by omega)).trans ((uF_n (by omega)).trans ((uF_n (by omega)).trans ((uF_n (by omega)).trans ((uF_n (by omega)).trans ((uF_n (by omega)).trans ((uF_n (by omega)).trans ((uF_n (by omega)).trans ((uF_n (by omega)).trans ((uF_n (by omega)).trans ((uF_n (by omega)).trans ((uF_n (by omega)).trans ((uF_n (by omega)).trans ((uF_n (by omega)).trans ((uF_n (by omega)).trans ((uF_n (by omega)).trans ((uF_n (by omega)).trans ((uF_n (by omega)).trans ((uF_n (by omega)).trans ((uF_n (by omega)).trans ((uF_n (by omega)).trans ((uF_n (by omega)).trans ((uF_n (by omega)).trans (uF_s)))))))))))))))))))))))))).trans rfl)
    · exact .inl (((uF_n (by omega)).trans ((uF_n (by omega)).trans ((uF_n (by omega)).trans ((uF_n (by omega)).trans ((uF_n (by omega)).trans ((uF_n (by omega)).trans ((uF_n (by omega)).trans ((uF_n (by omega)).trans ((uF_n (by omega)).trans ((uF_n (by omega)).trans ((uF_n (by omega)).trans ((uF_n (by omega)).trans ((uF_n (by omega)).trans ((uF_n (by omega)).trans ((uF_n (by omega)).trans ((uF_n (by omega)).trans ((uF_n (by omega)).trans ((uF_n (by omega)).trans ((uF_n (by omega)).trans ((uF_n (by omega)).trans ((uF_n (by omega)).trans ((uF_n (by omega)).trans ((uF_n (by omega)).trans (uF_s)))))))))))))))))))))))).trans rfl)
    · exact .inl (((uF_n (by omega)).trans ((uF_n (by omega)).trans ((uF_n (by omega)).trans ((uF_n (by omega)).trans ((uF_n (by omega)).trans ((uF_n (by omega)).trans ((uF_n (by omega)).trans ((uF_n (by omega)).trans ((uF_n (by omega)).trans ((uF_n (by omega)).trans ((uF_n (by omega)).trans ((uF_n (by omega)).trans ((uF_n (by omega)).trans ((uF_n (by omega)).trans ((uF_n (by omega)).trans ((uF_n (by omega)).trans ((uF_n (by omega)).trans ((uF_n (by omega)).trans ((uF_n (by omega)).trans ((uF_n (by omega)).trans ((uF_n (by omega)).trans (uF_s)))))))))))))))))))))).trans rfl)
    · exact .inl (((uF_n (by omega)).trans ((uF_n (by omega)).trans ((uF_n (by omega)).trans ((uF_n (by omega)).trans ((uF_n (by omega)).trans ((uF_n (by omega)).trans ((uF_n (by omega)).trans ((uF_n (by omega)).trans ((uF_n (by omega)).trans ((uF_n (by omega)).trans ((uF_n (by omega)).trans ((uF_n (by omega)).trans ((uF_n (by omega)).trans ((uF_n (by omega)).trans ((uF_n (by omega)).trans ((uF_n (by omega)).trans ((uF_n (by omega)).trans ((uF_n (by omega)).trans ((uF_n (by omega)).trans (uF_s)))))))))))))))))))).trans rfl)
    · exact .inl (((uF_n (by omega)).trans ((uF_n (by omega)).trans ((uF_n (by omega)).trans ((uF_n (by omega)).trans ((uF_n (by omega)).trans ((uF_n (by omega)).trans ((uF_n (by omega)).trans ((uF_n (by omega)).trans ((uF_n (by omega)).trans ((uF_n (by omega)).trans ((uF_n (by omega)).trans ((uF_n (by omega)).trans ((uF_n (by omega)).trans ((uF_n (by omega)).trans ((uF_n (by omega)).trans ((uF_n (by omega)).trans ((uF_n (by omega)).trans (uF_s)))))))))))))))))).trans rfl)
    · exact .inl (((uF_n (by omega)).trans ((uF_n (by omega)).trans ((uF_n (by omega)).trans ((uF_n (by omega)).trans ((uF_n (by omega)).trans ((uF_n (by omega)).trans ((uF_n (by omega)).trans ((uF_n (by omega)).trans ((uF_n (by omega)).trans ((uF_n (by omega)).trans ((uF_n (by omega)).trans ((uF_n (by omega)).trans ((uF_n (by omega)).trans ((uF_n (by omega)).trans ((uF_n (by omega)).trans (uF_s)))))))))))))))).trans rfl)
    · exact .inl (((uF_n (by omega)).trans ((uF_n (by omega)).trans ((uF_n (by omega)).trans ((uF_n (by omega)).trans ((uF_n (by omega)).trans ((uF_n (by omega)).trans ((uF_n (by omega)).trans ((uF_n (by omega)).trans ((uF_n (by omega)).trans ((uF_n (by omega)).trans ((uF_n (by omega)).trans ((uF_n (by omega)).trans ((uF_n (by omega)).trans (uF_s)))))))))))))).trans rfl)
    · exact .inl (((uF_n (by omega)).trans ((uF_n (by omega)).trans ((uF_n (by omega)).trans ((uF_n (by omega)).trans ((uF_n (by omega)).trans ((uF_n (by omega)).trans ((uF_n (by omega)).trans ((uF_n (by omega)).trans ((uF_n (by omega)).trans ((uF_n (by omega)).trans ((uF_n (by omega)).trans (uF_s)))))))))))).trans rfl)
    · exact .inl (((uF_n (by omega)).trans ((uF_n (by omega)).trans ((uF_n (by omega)).trans ((uF_n (by omega)).trans ((uF_n (by omega)).trans ((uF_n (by omega)).trans ((uF_n (by omega)).trans ((uF_n (by omega)).trans ((uF_n (by omega)).trans (uF_s)))))))))).trans rfl)
    · exact .inl (((uF_n (by omega)).trans ((uF_n (by omega)).trans ((uF_n (by omega)).trans ((uF_n (by omega)).trans ((uF_n (by omega)).trans ((uF_n (by omega)).trans ((uF_n (by omega)).trans (uF_s)))))))).trans rfl)
    · exact .inl (((uF_n (by omega)).trans ((uF_n (by omega)).trans ((uF_n (by omega)).trans ((uF_n (by omega)).trans ((uF_n (by omega)).trans (uF_s)))))).trans rfl)
    · exact .inl (((uF_n (by omega)).trans ((uF_n (by omega)).trans ((uF_n (by omega)).trans (uF_s)))).trans rfl)
    · exact .inl (((uF_n (by omega)).trans (uF_s)).trans rfl)
  · rw [fl_o q]; refine .inl ?_
    repeat rw [uF_n (by omega)]
