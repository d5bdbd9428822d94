/-! ===== 96: the constructor of the class ===== -/
set_option maxHeartbeats 1000000 in
set_option maxRecDepth 20000 in
theorem lpX8b {X : XC} (hX : PX X) : ∀ (k i : Nat) (F : FE) (qf : Nat → Option Nat), i + k = 2 → F 0 = .inr (8, [rv X 1, rv X 18, rv X 45, rv X 21, rv X 23, rv X 24, rv X 26, rv X 28, iv 0, iv 0]) → F 23 = .inl (X.2.2.2.1 4, 2, .inr (.inr (.inr (.inr qf)))) → (∀ j, j < i → qf j = some (X.2.2.1 (oH (2 + j)))) → (∀ h, 63 ≤ h → h < 63 + 9 * i → F h = cell X I0 h) → (∀ h, h < 297 → ¬ (30 ≤ h ∧ h < 45) → ¬ (63 ≤ h ∧ h < 81) → h ≠ 0 → h ≠ 1 → h ≠ 23 → F h = cell X I0 h) → eqE (F 1) (cell X I0 1) →
    Rb X 3 281 4285 mX8_init 282 (fun h => cell X I0 h) 126 [(1, iv (i : Int)), (0, rv X 0)] [] (264 + 9 * i) F (263 + 9 * i) (4045 + 120 * i) := by
  intro k
  induction k with
  | zero =>
    intro i F qf hi h0 h23 hq hc hg h1
    have hi : i = 2 := by omega
    subst hi
    refine b_iload_n 0 rfl rfl dX8_init_126 ?_
    refine b_iconst dX8_init_127 ?_
    refine b_icmp_ge 150 (by unfold rg; omega) (by unfold rg; omega) dX8_init_128 rfl (fun hge => ?_) (fun hlt => by omega)
    refine b_vret rfl dX8_init_150 (by omega) (by omega) (by omega) (fun h hh hp => ?_)
    have hh : h < 297 := hh
    have hn : ¬ (30 ≤ h ∧ h < 45) := by
      intro q
      have e : pos h = h + 252 := by
        unfold pos
        rw [if_neg (by omega), if_neg (by omega), if_neg (by omega), if_neg (by omega), if_neg (by omega), if_neg (by omega), if_pos (by omega)]
      omega
    by_cases q0 : h = 0
    · subst q0; exact .inl (h0.trans rfl)
    by_cases q1 : h = 1
    · subst q1; exact h1
    by_cases q2 : h = 23
    · subst q2; exact .inr ⟨X.2.2.2.1 4, 2, qf, fun i => some (X.2.2.1 (45 + 9 * (2 + i))), h23, rfl, fun j hj => hq j hj⟩
    by_cases q3 : 63 ≤ h ∧ h < 81
    · exact .inl (hc h q3.1 (by omega))
    · exact .inl (hg h hh hn q3 q0 q1 q2)
  | succ k ih =>
    intro i F qf hi h0 h23 hq hc hg h1
    have hi2 : 2 + i < 28 := by omega
    have e0 : oH (2 + i) = 45 + 9 * (2 + i) := rfl
    have hpos : pos (oH (2 + i)) = 264 + 9 * i := by
      show pos (45 + 9 * (2 + i)) = _
      unfold pos
      rw [if_neg (by omega), if_neg (by omega), if_neg (by omega), if_neg (by omega), if_neg (by omega), if_neg (by omega), if_neg (by omega), if_neg (by omega), if_neg (by omega), if_pos (by omega)]
      omega
    have p0 : pos 0 = 0 := rfl
    have p23 : pos 23 = 241 := rfl
    refine b_iload_n 0 rfl rfl dX8_init_126 ?_
    refine b_iconst dX8_init_127 ?_
    refine b_icmp_ge 150 (by unfold rg; omega) (by unfold rg; omega) dX8_init_128 rfl (fun hge => by omega) (fun hlt => ?_)
    refine b_aload_n 1 rfl rfl dX8_init_131 ?_
    refine b_get (h := 0) (fs := [rv X 1, rv X 18, rv X 45, rv X 21, rv X 23, rv X 24, rv X 26, rv X 28, iv 0, iv 0]) (j := 4) ckX8 (by decide) (by omega) h0 (by decide) rfl kf_X8_36 dX8_init_132 ?_
    refine b_iload_n 0 rfl rfl dX8_init_135 ?_
    refine b_new (h := oH (2 + i)) (fs := [.null, .null, .null, .null, .null, .null, .null, .null, iv 0, iv 0, iv 0, iv 0]) hX ckX3 (oH_lt hi2) hpos blX3 kl_X8_22 ki_X3 kn_X3 (by omega) (by omega) dX8_init_136 ?_
    refine b_dup dX8_init_139 ?_
    refine b_newN (h := oH (2 + i)) okX3_init (by decide) (Nat.le_of_ble_eq_true rfl) kx_X8_24 (by omega) (by omega) (kiX3 hX (w := 2 + i) hi2 (by omega) uF_s) dX8_init_140 ?_
    refine b_aast (h := 23) (hv := oH (2 + i)) (t := 4) (N := 2) (f := qf) (r := (RX3, TX3, 12)) (by decide) (by omega) ((fl_o (by omega)).trans ((uF_n (by omega)).trans h23)) rfl (oH_lt hi2) (by omega) ((fl_i (by omega)).trans (cellO hi2)) ckX3.1 (by omega) (by omega) (by decide) dX8_init_143 ?_
    refine b_iinc 0 [(1, iv ((i : Int) + 1)), (0, rv X 0)] rfl (by decide) rfl dX8_init_144 ?_
    refine b_goto (tgt := 126) dX8_init_147 rfl ?_
    have hN := ih (i + 1) (uF (fl X (uF F (oH (2 + i)) (.inr (3, [.null, .null, .null, .null, .null, .null, .null, .null, iv 0, iv 0, iv 0, iv 0]))) (oH (2 + i)) (oH (2 + i) + 9)) 23 (.inl (X.2.2.2.1 4, 2, .inr (.inr (.inr (.inr (va_up qf (Int.toNat i) (some (X.2.2.1 (oH (2 + i))))))))))) _ (by omega) ((uF_n (by omega)).trans ((fl_o (by omega)).trans ((uF_n (by omega)).trans h0))) uF_s (fun j hj => ?_) (fun h h1 h2 => ?_) (fun h a1 a2 a3 a4 a5 a6 => ?_) ?_
    · rw [show 264 + 9 * (i + 1) = 264 + 9 * i + 1 + 8 by omega, show 263 + 9 * (i + 1) = 263 + 9 * i + 1 + 8 by omega, show 4045 + 120 * (i + 1) = 4045 + 120 * i + 12 + 108 by omega, show ((i + 1 : Nat) : Int) = (i : Int) + 1 by omega] at hN
      exact hN
    · unfold va_up
      by_cases q : j = i
      · subst q; rw [if_pos (by omega)]
      · rw [if_neg (by omega)]; exact hq j (by omega)
    · by_cases q : 63 + 9 * i ≤ h
      · rw [uF_n (by omega), fl_i (by omega)]
      · rw [uF_n (by omega), fl_o (by omega), uF_n (by omega)]; exact hc h h1 (by omega)
    · rw [uF_n (by omega), fl_o (by omega), uF_n (by omega)]; exact hg h a1 a2 a3 a4 a5 a6
    · rw [uF_n (by omega), fl_o (by omega), uF_n (by omega)]; exact h1
set_option maxHeartbeats 1000000 in
set_option maxRecDepth 20000 in
theorem lpX8a {X : XC} (hX : PX X) : ∀ (k i : Nat) (F : FE) (qf : Nat → Option Nat), i + k = 8 → F 0 = .inr (8, [rv X 1, rv X 18, rv X 45, rv X 21, rv X 23, rv X 24, rv X 26, rv X 28, iv 0, iv 0]) → F 1 = .inl (X.2.2.2.1 5, 8, .inr (.inr (.inr (.inr qf)))) → (∀ j, j < i → qf j = some (X.2.2.1 (rH j))) → (∀ h, (2 ≤ h ∧ h < 2 + i) ∨ (10 ≤ h ∧ h < 10 + i) → F h = cell X I0 h) → (∀ h, (18 ≤ h ∧ h < 23) ∨ (24 ≤ h ∧ h < 30) ∨ (45 ≤ h ∧ h < 63) ∨ (81 ≤ h ∧ h < 297) → F h = cell X I0 h) → F 23 = .inl (X.2.2.2.1 4, 2, .inr (.inr (.inr (.inr (fun _ => none))))) →
    Rb X 3 281 4285 mX8_init 282 (fun h => cell X I0 h) 99 [(1, iv (i : Int)), (0, rv X 0)] [] (248 + 2 * i) F (247 + 2 * i) (3701 + 43 * i) := by
  intro k
  induction k with
  | zero =>
    intro i F qf hi h0 h1 hq hc hg h23
    have hi : i = 8 := by omega
    subst hi
    refine b_iload_n 0 rfl rfl dX8_init_99 ?_
    refine b_bipush rfl dX8_init_100 ?_
    refine b_icmp_ge 124 (by unfold rg; omega) (by unfold rg; omega) dX8_init_102 rfl (fun hge => ?_) (fun hlt => by omega)
    refine b_iconst dX8_init_124 ?_
    refine b_istore_n rfl [(1, iv ((0 : Nat) : Int)), (0, rv X 0)] (by decide) rfl dX8_init_125 ?_
    refine lpX8b hX 2 0 F (fun _ => none) rfl h0 h23 (fun j hj => by omega) (fun h a1 a2 => by omega) (fun h a1 a2 a3 a4 a5 a6 => ?_) (.inr ⟨X.2.2.2.1 5, 8, qf, fun i => some (X.2.2.1 (2 + i)), h1, rfl, fun j hj => hq j hj⟩)
    by_cases q : h < 18
    · exact hc h (by omega)
    · exact hg h (by omega)
  | succ k ih =>
    intro i F qf hi h0 h1 hq hc hg h23
    have hi2 : i < 8 := by omega
    have e0 : rH i = 2 + i := rfl
    have e1 : iH i = 10 + i := rfl
    have hpos : pos (rH i) = 248 + 2 * i := by
      show pos (2 + i) = _
      unfold pos
      rw [if_neg (by omega), if_pos (by omega)]
      omega
    have p0 : pos 0 = 0 := rfl
    have p1 : pos 1 = 1 := rfl
    refine b_iload_n 0 rfl rfl dX8_init_99 ?_
    refine b_bipush rfl dX8_init_100 ?_
    refine b_icmp_ge 124 (by unfold rg; omega) (by unfold rg; omega) dX8_init_102 rfl (fun hge => by omega) (fun hlt => ?_)
    refine b_aload_n 1 rfl rfl dX8_init_105 ?_
    refine b_get (h := 0) (fs := [rv X 1, rv X 18, rv X 45, rv X 21, rv X 23, rv X 24, rv X 26, rv X 28, iv 0, iv 0]) (j := 0) ckX8 (by decide) (by omega) h0 (by decide) rfl kf_X8_11 dX8_init_106 ?_
    refine b_iload_n 0 rfl rfl dX8_init_109 ?_
    refine b_new (h := rH i) (fs := [.null, iv 0, iv 0]) hX ckX5 (rH_lt hi2) hpos blX5 kl_X8_9 ki_X5 kn_X5 (by omega) (by omega) dX8_init_110 ?_
    refine b_dup dX8_init_113 ?_
    refine b_newN (h := rH i) okX5_init (by decide) (Nat.le_of_ble_eq_true rfl) kx_X8_68 (by omega) (by omega) (kiX5 hX (r := i) hi2 (by omega) uF_s) dX8_init_114 ?_
    refine b_aast (h := 1) (hv := rH i) (t := 5) (N := 8) (f := qf) (r := (RX5, TX5, 3)) (by decide) (by omega) ((fl_o (by omega)).trans ((fl_o (by omega)).trans ((uF_n (by omega)).trans h1))) rfl (rH_lt hi2) (by omega) ((fl_o (by omega)).trans ((fl_i (by omega)).trans (cellR hi2))) ckX5.1 (by omega) (by omega) (by decide) dX8_init_117 ?_
    refine b_iinc 0 [(1, iv ((i : Int) + 1)), (0, rv X 0)] rfl (by decide) rfl dX8_init_118 ?_
    refine b_goto (tgt := 99) dX8_init_121 rfl ?_
    have hN := ih (i + 1) (uF (fl X (fl X (uF F (rH i) (.inr (5, [.null, iv 0, iv 0]))) (rH i) (rH i + 1)) (iH i) (iH i + 1)) 1 (.inl (X.2.2.2.1 5, 8, .inr (.inr (.inr (.inr (va_up qf (Int.toNat i) (some (X.2.2.1 (rH i)))))))))) _ (by omega) ((uF_n (by omega)).trans ((fl_o (by omega)).trans ((fl_o (by omega)).trans ((uF_n (by omega)).trans h0)))) uF_s (fun j hj => ?_) (fun h hx => ?_) (fun h hx => ?_) ((uF_n (by omega)).trans ((fl_o (by omega)).trans ((fl_o (by omega)).trans ((uF_n (by omega)).trans h23))))
    · rw [show 248 + 2 * (i + 1) = 248 + 2 * i + 1 + 1 by omega, show 247 + 2 * (i + 1) = 247 + 2 * i + 1 + 1 by omega, show 3701 + 43 * (i + 1) = 3701 + 43 * i + 3 + 40 by omega, show ((i + 1 : Nat) : Int) = (i : Int) + 1 by omega] at hN
      exact hN
    · unfold va_up
      by_cases q : j = i
      · subst q; rw [if_pos (by omega)]
      · rw [if_neg (by omega)]; exact hq j (by omega)
    · by_cases q : h = iH i
      · rw [uF_n (by omega), fl_i (by omega)]
      by_cases q2 : h = rH i
      · rw [uF_n (by omega), fl_o (by omega), fl_i (by omega)]
      · rw [uF_n (by omega), fl_o (by omega), fl_o (by omega), uF_n (by omega)]; exact hc h (by omega)
    · rw [uF_n (by omega), fl_o (by omega), fl_o (by omega), uF_n (by omega)]; exact hg h hx
set_option maxHeartbeats 1000000 in
set_option maxRecDepth 20000 in
theorem kiX8 {X : XC} (hX : PX X) {F : FE} (hF : F 0 = .inr (8, [.null, .null, .null, .null, .null, .null, .null, .null, iv 0, iv 0])) : CB X 3 281 4285 mX8_init [rv X 0] 1 F 282 (fun h => cell X I0 h) := by
  refine CB.of (by decide +kernel) (Nat.le_of_ble_eq_true rfl) ?_
  have e9 : oH 0 = 45 := rfl
  show Rb X 3 281 4285 mX8_init 282 _ 0 [(0, rv X 0)] [] 1 F 0 0
  refine b_aload_n 0 rfl rfl dX8_init_0 ?_
  refine b_obj ko_X8_1 (by omega) (by decide) dX8_init_1 ?_
  refine b_aload_n 0 rfl rfl dX8_init_4 ?_
  refine b_bipush rfl dX8_init_5 ?_
  refine b_newq (h := 1) (t := 5) (N := 8) hX (by decide) (by decide) rfl rfl (by decide) kl_X8_9 (fun _ o => o.2) (by omega) (by omega) dX8_init_7 ?_
  refine b_putF (h := 0) (fs := [.null, .null, .null, .null, .null, .null, .null, .null, iv 0, iv 0]) 0 ckX8 (by decide) (by decide) ((uF_n (by omega)).trans (hF)) (by decide) (by show 0 < 10; decide) kf_X8_11 rfl rfl rfl (ckX8.2.2.1 0 (by decide)) rfl rfl dX8_init_10 ?_
  refine b_aload_n 0 rfl rfl dX8_init_13 ?_
  refine b_new (h := 18) (fs := [.null, .null, iv 0, iv 0, iv 0, iv 0, iv 0, iv 0]) hX ckX4 (by decide) (by decide) blX4 kl_X8_15 ki_X4 kn_X4 (by omega) (by omega) dX8_init_14 ?_
  refine b_dup dX8_init_17 ?_
  refine b_newN (h := 18) okX4_init (by decide) (Nat.le_of_ble_eq_true rfl) kx_X8_17 (by omega) (by omega) (kiX4 hX (uF_s)) dX8_init_18 ?_
  refine b_putF (h := 0) (fs := [rv X 1, .null, .null, .null, .null, .null, .null, .null, iv 0, iv 0]) 1 ckX8 (by decide) (by decide) ((fl_o (by omega)).trans ((fl_o (by omega)).trans ((uF_n (by omega)).trans (uF_s)))) (by decide) (by show 1 < 10; decide) kf_X8_18 rfl rfl rfl (ckX8.2.2.1 1 (by decide)) rfl rfl dX8_init_21 ?_
  refine b_aload_n 0 rfl rfl dX8_init_24 ?_
  refine b_new (h := 45) (fs := [.null, .null, .null, .null, .null, .null, .null, .null, iv 0, iv 0, iv 0, iv 0]) hX ckX3 (by decide) (by decide) blX3 kl_X8_22 ki_X3 kn_X3 (by omega) (by omega) dX8_init_25 ?_
  refine b_dup dX8_init_28 ?_
  refine b_newN (h := 45) okX3_init (by decide) (Nat.le_of_ble_eq_true rfl) kx_X8_24 (by omega) (by omega) (kiX3 (w := 0) hX (by decide) (by decide) (uF_s)) dX8_init_29 ?_
  refine b_putF (h := 0) (fs := [rv X 1, rv X 18, .null, .null, .null, .null, .null, .null, iv 0, iv 0]) 2 ckX8 (by decide) (by decide) ((fl_o (by omega)).trans ((uF_n (by omega)).trans (uF_s))) (by decide) (by show 2 < 10; decide) kf_X8_25 rfl rfl rfl (ckX8.2.2.1 2 (by decide)) rfl rfl dX8_init_32 ?_
  refine b_aload_n 0 rfl rfl dX8_init_35 ?_
  refine b_new (h := 21) (fs := [.null, iv 0, iv 0]) hX ckX0 (by decide) (by decide) blX0 kl_X8_29 ki_X0 kn_X0 (by omega) (by omega) dX8_init_36 ?_
  refine b_dup dX8_init_39 ?_
  refine b_new1 (h := 21) okX0_init (by decide) (Nat.le_of_ble_eq_true rfl) kx_X8_31 (by omega) (by omega) (kiX0 hX (uF_s)) dX8_init_40 ?_
  refine b_putF (h := 0) (fs := [rv X 1, rv X 18, rv X 45, .null, .null, .null, .null, .null, iv 0, iv 0]) 3 ckX8 (by decide) (by decide) ((fl_o (by omega)).trans ((fl_o (by omega)).trans ((uF_n (by omega)).trans (uF_s)))) (by decide) (by show 3 < 10; decide) kf_X8_32 rfl rfl rfl (ckX8.2.2.1 3 (by decide)) rfl rfl dX8_init_43 ?_
  refine b_aload_n 0 rfl rfl dX8_init_46 ?_
  refine b_iconst dX8_init_47 ?_
  refine b_newq (h := 23) (t := 4) (N := 2) hX (by decide) (by decide) rfl rfl (by decide) kl_X8_22 (fun _ o => o.1) (by omega) (by omega) dX8_init_48 ?_
  refine b_putF (h := 0) (fs := [rv X 1, rv X 18, rv X 45, rv X 21, .null, .null, .null, .null, iv 0, iv 0]) 4 ckX8 (by decide) (by decide) ((uF_n (by omega)).trans (uF_s)) (by decide) (by show 4 < 10; decide) kf_X8_36 rfl rfl rfl (ckX8.2.2.1 4 (by decide)) rfl rfl dX8_init_51 ?_
  refine b_aload_n 0 rfl rfl dX8_init_54 ?_
  refine b_new (h := 24) (fs := [.null, iv 0, iv 0]) hX ckX2 (by decide) (by decide) blX2 kl_X8_40 ki_X2 kn_X2 (by omega) (by omega) dX8_init_55 ?_
  refine b_dup dX8_init_58 ?_
  refine b_newN (h := 24) okX2_init (by decide) (Nat.le_of_ble_eq_true rfl) kx_X8_42 (by omega) (by omega) (kiX2 hX (uF_s)) dX8_init_59 ?_
  refine b_putF (h := 0) (fs := [rv X 1, rv X 18, rv X 45, rv X 21, rv X 23, .null, .null, .null, iv 0, iv 0]) 5 ckX8 (by decide) (by decide) ((fl_o (by omega)).trans ((uF_n (by omega)).trans (uF_s))) (by decide) (by show 5 < 10; decide) kf_X8_43 rfl rfl rfl (ckX8.2.2.1 5 (by decide)) rfl rfl dX8_init_62 ?_
  refine b_aload_n 0 rfl rfl dX8_init_65 ?_
  refine b_new (h := 26) (fs := [.null, iv 0]) hX ckX6 (by decide) (by decide) blX6 kl_X8_47 ki_X6 kn_X6 (by omega) (by omega) dX8_init_66 ?_
  refine b_dup dX8_init_69 ?_
  refine b_newN (h := 26) okX6_init (by decide) (Nat.le_of_ble_eq_true rfl) kx_X8_49 (by omega) (by omega) (kiX6 hX (uF_s)) dX8_init_70 ?_
  refine b_putF (h := 0) (fs := [rv X 1, rv X 18, rv X 45, rv X 21, rv X 23, rv X 24, .null, .null, iv 0, iv 0]) 6 ckX8 (by decide) (by decide) ((fl_o (by omega)).trans ((uF_n (by omega)).trans (uF_s))) (by decide) (by show 6 < 10; decide) kf_X8_50 rfl rfl rfl (ckX8.2.2.1 6 (by decide)) rfl rfl dX8_init_73 ?_
  refine b_aload_n 0 rfl rfl dX8_init_76 ?_
  refine b_new (h := 28) (fs := [.null, iv 0]) hX ckX1 (by decide) (by decide) blX1 kl_X8_54 ki_X1 kn_X1 (by omega) (by omega) dX8_init_77 ?_
  refine b_dup dX8_init_80 ?_
  refine b_newN (h := 28) okX1_init (by decide) (Nat.le_of_ble_eq_true rfl) kx_X8_56 (by omega) (by omega) (kiX1 hX (uF_s)) dX8_init_81 ?_
  refine b_putF (h := 0) (fs := [rv X 1, rv X 18, rv X 45, rv X 21, rv X 23, rv X 24, rv X 26, .null, iv 0, iv 0]) 7 ckX8 (by decide) (by decide) ((fl_o (by omega)).trans ((uF_n (by omega)).trans (uF_s))) (by decide) (by show 7 < 10; decide) kf_X8_57 rfl rfl rfl (ckX8.2.2.1 7 (by decide)) rfl rfl dX8_init_84 ?_
  refine b_aload_n 0 rfl rfl dX8_init_87 ?_
  refine b_iconst dX8_init_88 ?_
  refine b_put (h := 0) (fs := [rv X 1, rv X 18, rv X 45, rv X 21, rv X 23, rv X 24, rv X 26, rv X 28, iv 0, iv 0]) 8 ckX8 (by decide) (by decide) (uF_s) (by decide) (by show 8 < 10; decide) kf_X8_61 rfl (ckX8.2.2.1 8 (by decide)) rfl rfl dX8_init_89 ?_
  refine b_aload_n 0 rfl rfl dX8_init_92 ?_
  refine b_iconst dX8_init_93 ?_
  refine b_put (h := 0) (fs := [rv X 1, rv X 18, rv X 45, rv X 21, rv X 23, rv X 24, rv X 26, rv X 28, iv 0, iv 0]) 9 ckX8 (by decide) (by decide) (uF_s) (by decide) (by show 9 < 10; decide) kf_X8_65 rfl (ckX8.2.2.1 9 (by decide)) rfl rfl dX8_init_94 ?_
  refine b_iconst dX8_init_97 ?_
  refine b_istore_n rfl [(1, iv ((0 : Nat) : Int)), (0, rv X 0)] (by decide) rfl dX8_init_98 ?_
  refine lpX8a hX 8 0 _ (fun _ => none) rfl (uF_s) ((uF_n (by omega)).trans ((uF_n (by omega)).trans ((uF_n (by omega)).trans ((fl_o (by omega)).trans ((uF_n (by omega)).trans ((uF_n (by omega)).trans ((fl_o (by omega)).trans ((uF_n (by omega)).trans ((uF_n (by omega)).trans ((fl_o (by omega)).trans ((uF_n (by omega)).trans ((uF_n (by omega)).trans ((uF_n (by omega)).trans ((uF_n (by omega)).trans ((fl_o (by omega)).trans ((fl_o (by omega)).trans ((uF_n (by omega)).trans ((uF_n (by omega)).trans ((fl_o (by omega)).trans ((uF_n (by omega)).trans ((uF_n (by omega)).trans ((fl_o (by omega)).trans ((fl_o (by omega)).trans ((uF_n (by omega)).trans ((uF_n (by omega)).trans (uF_s)))))))))))))))))))))))))) (fun j hj => by omega) (fun h hx => by omega) (fun h hx => ?_) ((uF_n (by omega)).trans ((uF_n (by omega)).trans ((uF_n (by omega)).trans ((fl_o (by omega)).trans ((uF_n (by omega)).trans ((uF_n (by omega)).trans ((fl_o (by omega)).trans ((uF_n (by omega)).trans ((uF_n (by omega)).trans ((fl_o (by omega)).trans ((uF_n (by omega)).trans ((uF_n (by omega)).trans (uF_s)))))))))))))
  rcases (show (18 ≤ h ∧ h < 21) ∨ (21 ≤ h ∧ h < 23) ∨ (24 ≤ h ∧ h < 26) ∨ (26 ≤ h ∧ h < 28) ∨ (28 ≤ h ∧ h < 30) ∨ (45 ≤ h ∧ h < 54) ∨ (54 ≤ h ∧ h < 63) ∨ (81 ≤ h ∧ h < 297) by omega) with q | q | q | q | q | q | q | q
  all_goals (repeat first | rw [uF_n (by omega)] | rw [fl_o (by omega)])
  all_goals exact fl_i (by omega)
