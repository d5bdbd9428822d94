set_option maxRecDepth 100000 in
set_option maxHeartbeats 800000 in
theorem kX9_begin (X : XC) {I : HD} {c : Int → Int} {L : Int} (hl : I 30 11 = L) (L0 : 0 ≤ L) (L5 : L ≤ 500) (hS : ∀ k, 0 ≤ k → k < L → 0 ≤ c k ∧ c k < 256 ∧ I 37 k = c k) : Cl X 2 mX9_begin [rv X 30] I (fun r J => r = none ∧ (∀ a, a ≠ 30 → J a = I a) ∧ (∀ j, j ≠ 11 → (j < 13 ∨ 19 < j) → J 30 j = I 30 j) ∧ J 30 11 = 0 ∧ MS J c L (tkF c L 0, zF, 0)) := by
  refine Cl.of (by decide) (Nat.le_of_ble_eq_true rfl) ?_
  show Rn X 2 mX9_begin _ 0 [(0, rv X 30)] [] I
  refine r_aload_n (pc := 0) (a := 0) (i := 0) 0 rfl rfl dX9_begin_0 ?_
  refine r_aload_n (pc := 1) (a := 0) (i := 0) 0 rfl rfl dX9_begin_1 ?_
  refine r_get (pc := 2) ckX9 (by decide) rfl (j := 11) (by decide) (congrArg (fun q => some (iv q)) hl) kf_X9_81 dX9_begin_2 ?_
  refine r_put (pc := 5) 13 (ji := 13) rfl ckX9 (by decide) rfl rfl (by decide) (Nat.le_of_ble_eq_true rfl) kf_X9_87 rfl rfl rfl rfl dX9_begin_5 ?_
  refine r_aload_n (pc := 8) (a := 0) (i := 0) 0 rfl rfl dX9_begin_8 ?_
  refine r_iconst (pc := 9) dX9_begin_9 ?_
  refine r_put (pc := 10) 11 (ji := 11) rfl ckX9 (by decide) rfl rfl (by decide) (Nat.le_of_ble_eq_true rfl) kf_X9_81 rfl rfl rfl rfl dX9_begin_10 ?_
  refine r_aload_n (pc := 13) (a := 0) (i := 0) 0 rfl rfl dX9_begin_13 ?_
  refine r_iconst (pc := 14) dX9_begin_14 ?_
  refine r_put (pc := 15) 14 (ji := 14) rfl ckX9 (by decide) rfl rfl (by decide) (Nat.le_of_ble_eq_true rfl) kf_X9_91 rfl rfl rfl rfl dX9_begin_15 ?_
  refine r_aload_n (pc := 18) (a := 0) (i := 0) 0 rfl rfl dX9_begin_18 ?_
  refine r_iconst (pc := 19) dX9_begin_19 ?_
  refine r_put (pc := 20) 18 (ji := 18) rfl ckX9 (by decide) rfl rfl (by decide) (Nat.le_of_ble_eq_true rfl) kf_X9_112 rfl rfl rfl rfl dX9_begin_20 ?_
  refine r_aload_n (pc := 23) (a := 0) (i := 0) 0 rfl rfl dX9_begin_23 ?_
  have hT4 : TR (up (up (up (up I 30 13 L) 30 11 0) 30 14 0) 30 18 0) c L := ⟨(up_i (by decide)).trans ((up_i (by decide)).trans ((up_i (by decide)).trans up_s)), L0, L5, fun k a b => ⟨(hS k a b).1, (hS k a b).2.1, (congrFun ((up_row (by decide)).trans ((up_row (by decide)).trans ((up_row (by decide)).trans (up_row (by decide))))) _).trans (hS k a b).2.2⟩⟩
  refine r_callV (pc := 24) (st := []) (As := []) (D2 := 1) okX9_next (by decide) (by decide) rfl rfl rfl (Nat.le_of_ble_eq_true rfl) km_X9_115 (kX9_next X (c := c) (L := L) (p := 0) hT4 ((up_i (by decide)).trans up_s) (by omega) L0) dX9_begin_24 ?_
  rintro _ J1 ⟨rfl, g2, g3, g4, g5, g6⟩
  refine r_vret (pc := 27) (st := []) rfl dX9_begin_27 ?_
  have hr := tkF_r (c := c) (L := L) (p := 0) L0
  exact ⟨rfl, fun a x => (g2.1 a x).trans ((up_row x).trans ((up_row x).trans ((up_row x).trans (up_row x)))), fun j x y => (g2.2 j (by omega)).trans ((up_i (by omega)).trans ((up_i (by omega)).trans ((up_i x).trans (up_i (by omega))))), (g2.2 11 (by omega)).trans ((up_i (by decide)).trans ((up_i (by decide)).trans up_s)), ⟨hT4.fr (g2.2 13 (by omega)) (g2.1 37 (by decide)), (show 0 ≤ tkF c L 0 by omega), hr.2, g3, g4, g5, g6⟩, (g2.2 18 (by omega)).trans up_s, fun q => absurd (show (0 : Int) = 0 from rfl) q, (show (0 : Int) ≤ 0 by decide), (show (0 : Int) ≤ 3 by decide)⟩

set_option maxRecDepth 100000 in
set_option maxHeartbeats 800000 in
theorem kX9_kindBy (X : XC) {I : HD} {c : Int → Int} {L : Int} {s : Ps} (h0 : 0 ≤ s.1) : Cl X 0 mX9_kindBy [jv (nmS c L s)] I (Ki (kb c L s) I) := by
  refine Cl.of (by decide) (Nat.le_of_ble_eq_true rfl) ?_
  show Rn X 0 mX9_kindBy _ 0 [(0, jv (nmS c L s))] [] I
  have hnr := nmS_r (c := c) (L := L) h0
  have w3 : nmS c L s = 33602666401721972 ↔ (s.2.2 = 0 ∧ isW c L 3 s.1) := nmS_is (i := 3) (by decide)
  have w4 : nmS c L s = 2003397740 ↔ (s.2.2 = 0 ∧ isW c L 4 s.1) := nmS_is (i := 4) (by decide)
  have w5 : nmS c L s = 1651076204 ↔ (s.2.2 = 0 ∧ isW c L 5 s.1) := nmS_is (i := 5) (by decide)
  have w6 : nmS c L s = 422725119595 ↔ (s.2.2 = 0 ∧ isW c L 6 s.1) := nmS_is (i := 6) (by decide)
  have w7 : nmS c L s = 495739565157 ↔ (s.2.2 = 0 ∧ isW c L 7 s.1) := nmS_is (i := 7) (by decide)
  refine r_lload_n (pc := 0) (a := 0) (i := 0) 0 rfl rfl dX9_kindBy_0 ?_
  refine r_ldc2 (pc := 1) kc_X9_133 dX9_kindBy_1 ?_
  refine r_lcif_ne (pc := 4) 12 (by unfold rl; omega) (by unfold rl; omega) dX9_kindBy_4 dX9_kindBy_5 (by decide) (fun h4 => ?_) (fun h4 => ?_)
  · skip
    refine r_lload_n (pc := 12) (a := 0) (i := 0) 0 rfl rfl dX9_kindBy_12 ?_
    refine r_ldc2 (pc := 13) kc_X9_135 dX9_kindBy_13 ?_
    refine r_lcif_ne (pc := 16) 24 (by unfold rl; omega) (by unfold rl; omega) dX9_kindBy_16 dX9_kindBy_17 (by decide) (fun h16 => ?_) (fun h16 => ?_)
    · skip
      refine r_lload_n (pc := 24) (a := 0) (i := 0) 0 rfl rfl dX9_kindBy_24 ?_
      refine r_ldc2 (pc := 25) kc_X9_137 dX9_kindBy_25 ?_
      refine r_lcif_ne (pc := 28) 36 (by unfold rl; omega) (by unfold rl; omega) dX9_kindBy_28 dX9_kindBy_29 (by decide) (fun h28 => ?_) (fun h28 => ?_)
      · skip
        refine r_lload_n (pc := 36) (a := 0) (i := 0) 0 rfl rfl dX9_kindBy_36 ?_
        refine r_ldc2 (pc := 37) kc_X9_139 dX9_kindBy_37 ?_
        refine r_lcif_ne (pc := 40) 48 (by unfold rl; omega) (by unfold rl; omega) dX9_kindBy_40 dX9_kindBy_41 (by decide) (fun h40 => ?_) (fun h40 => ?_)
        · skip
          refine r_lload_n (pc := 48) (a := 0) (i := 0) 0 rfl rfl dX9_kindBy_48 ?_
          refine r_ldc2 (pc := 49) kc_X9_141 dX9_kindBy_49 ?_
          refine r_lcif_ne (pc := 52) 60 (by unfold rl; omega) (by unfold rl; omega) dX9_kindBy_52 dX9_kindBy_53 (by decide) (fun h52 => ?_) (fun h52 => ?_)
          · skip
            refine r_ldc (pc := 60) kc_X9_90 dX9_kindBy_60 ?_
            refine r_iret (pc := 62) (st := []) rfl dX9_kindBy_62 ?_
            have e : ¬ (s.2.2 = 0 ∧ ¬ kd c L s.1 = 0) := fun q => q.2 (by unfold kd; rw [if_neg (fun z => h4 (w3.mpr ⟨q.1, z⟩)), if_neg (fun z => h16 (w4.mpr ⟨q.1, z⟩)), if_neg (fun z => h28 (w5.mpr ⟨q.1, z⟩)), if_neg (fun z => h40 (w6.mpr ⟨q.1, z⟩)), if_neg (fun z => h52 (w7.mpr ⟨q.1, z⟩))])
            exact ⟨congrArg (fun q => some (iv q)) (kb_f e).symm, rfl⟩
          · skip
            refine r_iconst (pc := 56) dX9_kindBy_56 ?_
            refine r_goto (pc := 57) 62 dX9_kindBy_57 (by decide) ?_
            refine r_iret (pc := 62) (st := []) rfl dX9_kindBy_62 ?_
            have q := w7.mp h52
            have e : kd c L s.1 = 5 := by unfold kd; rw [if_neg (fun z => h4 (w3.mpr ⟨q.1, z⟩)), if_neg (fun z => h16 (w4.mpr ⟨q.1, z⟩)), if_neg (fun z => h28 (w5.mpr ⟨q.1, z⟩)), if_neg (fun z => h40 (w6.mpr ⟨q.1, z⟩)), if_pos q.2]
            exact ⟨congrArg (fun q => some (iv q)) (kb_t q.1 e (by decide)).symm, rfl⟩
        · skip
          refine r_iconst (pc := 44) dX9_kindBy_44 ?_
          refine r_goto (pc := 45) 62 dX9_kindBy_45 (by decide) ?_
          refine r_iret (pc := 62) (st := []) rfl dX9_kindBy_62 ?_
          have q := w6.mp h40
          have e : kd c L s.1 = 4 := by unfold kd; rw [if_neg (fun z => h4 (w3.mpr ⟨q.1, z⟩)), if_neg (fun z => h16 (w4.mpr ⟨q.1, z⟩)), if_neg (fun z => h28 (w5.mpr ⟨q.1, z⟩)), if_pos q.2]
          exact ⟨congrArg (fun q => some (iv q)) (kb_t q.1 e (by decide)).symm, rfl⟩
      · skip
        refine r_iconst (pc := 32) dX9_kindBy_32 ?_
        refine r_goto (pc := 33) 62 dX9_kindBy_33 (by decide) ?_
        refine r_iret (pc := 62) (st := []) rfl dX9_kindBy_62 ?_
        have q := w5.mp h28
        have e : kd c L s.1 = 1 := by unfold kd; rw [if_neg (fun z => h4 (w3.mpr ⟨q.1, z⟩)), if_neg (fun z => h16 (w4.mpr ⟨q.1, z⟩)), if_pos q.2]
        exact ⟨congrArg (fun q => some (iv q)) (kb_t q.1 e (by decide)).symm, rfl⟩
    · skip
      refine r_iconst (pc := 20) dX9_kindBy_20 ?_
      refine r_goto (pc := 21) 62 dX9_kindBy_21 (by decide) ?_
      refine r_iret (pc := 62) (st := []) rfl dX9_kindBy_62 ?_
      have q := w4.mp h16
      have e : kd c L s.1 = 3 := by unfold kd; rw [if_neg (fun z => h4 (w3.mpr ⟨q.1, z⟩)), if_pos q.2]
      exact ⟨congrArg (fun q => some (iv q)) (kb_t q.1 e (by decide)).symm, rfl⟩
  · skip
    refine r_iconst (pc := 8) dX9_kindBy_8 ?_
    refine r_goto (pc := 9) 62 dX9_kindBy_9 (by decide) ?_
    refine r_iret (pc := 62) (st := []) rfl dX9_kindBy_62 ?_
    have q := w3.mp h4
    have e : kd c L s.1 = 2 := by unfold kd; rw [if_pos q.2]
    exact ⟨congrArg (fun q => some (iv q)) (kb_t q.1 e (by decide)).symm, rfl⟩

set_option maxRecDepth 100000 in
set_option maxHeartbeats 800000 in
theorem kX9_readWind (X : XC) {I : HD} {c : Int → Int} {L : Int} {s : Ps} (hM : MS I c L s) (h0 : s.2.2 = 0) (hF : eqF I s.2.1) : Cl X 4 mX9_readWind [rv X 30] I (fun r J => r = none ∧ fMW I J ∧ MS J c L (pWind c L s) ∧ ((pWind c L s).2.2 = 0 → eqF J (pWind c L s).2.1)) := by
  refine Cl.of (by decide) (Nat.le_of_ble_eq_true rfl) ?_
  show Rn X 4 mX9_readWind _ 0 [(0, rv X 30)] [] I
  have hs0 := hM.1.2.1
  have hnr := nmS_r (c := c) (L := L) hs0
  have w0 : nmS c L s = 2003398244 ↔ (s.2.2 = 0 ∧ isW c L 0 s.1) := nmS_is (i := 0) (by decide)
  refine r_aload_n (pc := 0) (a := 0) (i := 0) 0 rfl rfl dX9_readWind_0 ?_
  refine r_aload_n (pc := 1) (a := 0) (i := 0) 0 rfl rfl dX9_readWind_1 ?_
  refine r_callVj (pc := 2) (st := [rv X 30]) (As := []) (D2 := 0) okX9_name (by decide) (by decide) rfl rfl rfl (Nat.le_of_ble_eq_true rfl) km_X9_143 (kNam X hM) dX9_readWind_2 ?_
  refine r_ldc2 (pc := 5) kc_X9_147 dX9_readWind_5 ?_
  refine r_lcif_ne (pc := 8) 16 (by unfold rl; omega) (by unfold rl; omega) dX9_readWind_8 dX9_readWind_9 (by decide) (fun h8 => ?_) (fun h8 => ?_)
  · skip
    refine r_iconst (pc := 16) dX9_readWind_16 ?_
    refine r_callV (pc := 17) (st := []) (As := [iv 0]) (D2 := 2) okX9_must (by decide) (by decide) rfl rfl rfl (Nat.le_of_ble_eq_true rfl) km_X9_129 (kX9_must X hM (B := isW c L 0 s.1) (Or.inr ⟨rfl, fun z => h8 (w0.mpr ⟨h0, z⟩)⟩)) dX9_readWind_17 ?_
    rintro _ J1 ⟨rfl, g2, g3⟩
    refine r_iconst (pc := 20) dX9_readWind_20 ?_
    refine r_istore_n (pc := 21) (a := 1) (i := 1) rfl [(1, iv 0), (0, rv X 30)] (by decide) rfl dX9_readWind_21 ?_
    have at22 : ∀ (n22 : Nat) (J : HD) (q : Int), (12 - q).toNat < n22 → (hq0 : 0 ≤ q) → (hq1 : q ≤ 12) → (hMS : MS J c L (pWq c L q.toNat (pWi c L 0 s))) → (hFq : (pWq c L q.toNat (pWi c L 0 s)).2.2 = 0 → eqF J (pWq c L q.toNat (pWi c L 0 s)).2.1) → (hfr : fMW I J) → Rn X 4 mX9_readWind (fun r J => r = none ∧ fMW I J ∧ MS J c L (pWind c L s) ∧ ((pWind c L s).2.2 = 0 → eqF J (pWind c L s).2.1)) 22 [(0, rv X 30), (1, iv q)] [] J := by
      intro n22
      induction n22 with
      | zero => intro J q hm; omega
      | succ n22 ih22 =>
        intro J q hm22 hq0 hq1 hMS hFq hfr
        refine r_iload_n (pc := 22) (a := 1) (i := 1) 1 rfl rfl dX9_readWind_22 ?_
        refine r_bipush (pc := 23) rfl dX9_readWind_23 ?_
        refine r_icmp_ge (pc := 25) 49 (by unfold rg; omega) (by unfold rg; omega) dX9_readWind_25 (by decide) (fun h25 => ?_) (fun h25 => ?_)
        · skip
          refine r_aload_n (pc := 49) (a := 0) (i := 0) 0 rfl rfl dX9_readWind_49 ?_
          refine r_callV (pc := 50) (st := []) (As := []) (D2 := 3) okX9_mustEnd (by decide) (by decide) rfl rfl rfl (Nat.le_of_ble_eq_true rfl) km_X9_153 (kX9_mustEnd X hMS) dX9_readWind_50 ?_
          rintro _ J3 ⟨rfl, n2, n3⟩
          refine r_vret (pc := 53) (st := []) rfl dX9_readWind_53 ?_
          rw [show q = 12 by omega] at n3 hFq
          exact ⟨rfl, hfr.tr n2, n3, fun e => by rw [show (pWind c L s).2.1 = (pWq c L (12 : Int).toNat (pWi c L 0 s)).2.1 from pMu_F]; exact (hFq (pMu_e e).1).fr (n2.1 35 (by decide))⟩
        · skip
          refine r_aload_n (pc := 28) (a := 0) (i := 0) 0 rfl rfl dX9_readWind_28 ?_
          refine r_get (pc := 29) ckX9 (by decide) rfl (j := 6) (by decide) rfl kf_X9_22 dX9_readWind_29 ?_
          refine r_iconst (pc := 32) dX9_readWind_32 ?_
          refine r_iload_n (pc := 33) (a := 1) (i := 1) 1 rfl rfl dX9_readWind_33 ?_
          refine r_iadd (pc := 34) dX9_readWind_34 ?_
          refine r_aload_n (pc := 35) (a := 0) (i := 0) 0 rfl rfl dX9_readWind_35 ?_
          refine r_iconst (pc := 36) dX9_readWind_36 ?_
          refine r_bipush (pc := 37) rfl dX9_readWind_37 ?_
          refine r_callV (pc := 39) (st := [iv (3 + q), rv X 35]) (As := [iv 0, iv 100]) (D2 := 3) okX9_number (by decide) (by decide) rfl rfl rfl (Nat.le_of_ble_eq_true rfl) km_X9_149 (kX9_number X hMS (lo := 0) (hi := 100) (by unfold rg; omega) (by unfold rg; omega)) dX9_readWind_39 ?_
          rintro _ J2 ⟨v, rfl, m2, m3, m4⟩
          refine r_iast (pc := 42) (by decide) (fun _ => rfl) (by omega) (by omega) (by decide) dX9_readWind_42 ?_
          refine r_iinc (pc := 43) 1 [(1, iv (q + 1)), (0, rv X 30)] rfl (by decide) rfl dX9_readWind_43 ?_
          refine r_goto (pc := 46) 22 dX9_readWind_46 (by decide) ?_
          refine r_lv [1, 0] [(0, rv X 30), (1, iv (q + 1))] rfl ?_
          exact ih22 (up J2 35 (3 + q) v) (q + 1) (by omega) (by omega) (by omega) ((m3.sim (pWq_1 hq0).1 (pWq_1 hq0).2).up) (fun e => by rw [(pWq_1 hq0).2] at e; rw [pWq_t hq0 e, m4 e]; exact ((hFq (pNm_e e).1).fr (m2.1 35 (by decide))).up) ((hfr.tr m2).up)
    refine r_lv [1, 0] [(0, rv X 30), (1, iv 0)] rfl ?_
    exact at22 _ J1 0 (Nat.lt_succ_self _) (by omega) (by omega) (g3) (fun _ => by rw [show (pWq c L (0 : Int).toNat (pWi c L 0 s)).2.1 = s.2.1 from pMu_F]; exact hF.fr (g2.1 35 (by decide))) (g2.w)
  · skip
    refine r_iconst (pc := 12) dX9_readWind_12 ?_
    refine r_goto (pc := 13) 17 dX9_readWind_13 (by decide) ?_
    refine r_callV (pc := 17) (st := []) (As := [iv 1]) (D2 := 2) okX9_must (by decide) (by decide) rfl rfl rfl (Nat.le_of_ble_eq_true rfl) km_X9_129 (kX9_must X hM (B := isW c L 0 s.1) (Or.inl ⟨rfl, (w0.mp h8).2⟩)) dX9_readWind_17 ?_
    rintro _ J1 ⟨rfl, g2, g3⟩
    refine r_iconst (pc := 20) dX9_readWind_20 ?_
    refine r_istore_n (pc := 21) (a := 1) (i := 1) rfl [(1, iv 0), (0, rv X 30)] (by decide) rfl dX9_readWind_21 ?_
    have at22 : ∀ (n22 : Nat) (J : HD) (q : Int), (12 - q).toNat < n22 → (hq0 : 0 ≤ q) → (hq1 : q ≤ 12) → (hMS : MS J c L (pWq c L q.toNat (pWi c L 0 s))) → (hFq : (pWq c L q.toNat (pWi c L 0 s)).2.2 = 0 → eqF J (pWq c L q.toNat (pWi c L 0 s)).2.1) → (hfr : fMW I J) → Rn X 4 mX9_readWind (fun r J => r = none ∧ fMW I J ∧ MS J c L (pWind c L s) ∧ ((pWind c L s).2.2 = 0 → eqF J (pWind c L s).2.1)) 22 [(0, rv X 30), (1, iv q)] [] J := by
      intro n22
      induction n22 with
      | zero => intro J q hm; omega
      | succ n22 ih22 =>
        intro J q hm22 hq0 hq1 hMS hFq hfr
        refine r_iload_n (pc := 22) (a := 1) (i := 1) 1 rfl rfl dX9_readWind_22 ?_
        refine r_bipush (pc := 23) rfl dX9_readWind_23 ?_
        refine r_icmp_ge (pc := 25) 49 (by unfold rg; omega) (by unfold rg; omega) dX9_readWind_25 (by decide) (fun h25 => ?_) (fun h25 => ?_)
        · skip
          refine r_aload_n (pc := 49) (a := 0) (i := 0) 0 rfl rfl dX9_readWind_49 ?_
          refine r_callV (pc := 50) (st := []) (As := []) (D2 := 3) okX9_mustEnd (by decide) (by decide) rfl rfl rfl (Nat.le_of_ble_eq_true rfl) km_X9_153 (kX9_mustEnd X hMS) dX9_readWind_50 ?_
          rintro _ J3 ⟨rfl, n2, n3⟩
          refine r_vret (pc := 53) (st := []) rfl dX9_readWind_53 ?_
          rw [show q = 12 by omega] at n3 hFq
          exact ⟨rfl, hfr.tr n2, n3, fun e => by rw [show (pWind c L s).2.1 = (pWq c L (12 : Int).toNat (pWi c L 0 s)).2.1 from pMu_F]; exact (hFq (pMu_e e).1).fr (n2.1 35 (by decide))⟩
        · skip
          refine r_aload_n (pc := 28) (a := 0) (i := 0) 0 rfl rfl dX9_readWind_28 ?_
          refine r_get (pc := 29) ckX9 (by decide) rfl (j := 6) (by decide) rfl kf_X9_22 dX9_readWind_29 ?_
          refine r_iconst (pc := 32) dX9_readWind_32 ?_
          refine r_iload_n (pc := 33) (a := 1) (i := 1) 1 rfl rfl dX9_readWind_33 ?_
          refine r_iadd (pc := 34) dX9_readWind_34 ?_
          refine r_aload_n (pc := 35) (a := 0) (i := 0) 0 rfl rfl dX9_readWind_35 ?_
          refine r_iconst (pc := 36) dX9_readWind_36 ?_
          refine r_bipush (pc := 37) rfl dX9_readWind_37 ?_
          refine r_callV (pc := 39) (st := [iv (3 + q), rv X 35]) (As := [iv 0, iv 100]) (D2 := 3) okX9_number (by decide) (by decide) rfl rfl rfl (Nat.le_of_ble_eq_true rfl) km_X9_149 (kX9_number X hMS (lo := 0) (hi := 100) (by unfold rg; omega) (by unfold rg; omega)) dX9_readWind_39 ?_
          rintro _ J2 ⟨v, rfl, m2, m3, m4⟩
          refine r_iast (pc := 42) (by decide) (fun _ => rfl) (by omega) (by omega) (by decide) dX9_readWind_42 ?_
          refine r_iinc (pc := 43) 1 [(1, iv (q + 1)), (0, rv X 30)] rfl (by decide) rfl dX9_readWind_43 ?_
          refine r_goto (pc := 46) 22 dX9_readWind_46 (by decide) ?_
          refine r_lv [1, 0] [(0, rv X 30), (1, iv (q + 1))] rfl ?_
          exact ih22 (up J2 35 (3 + q) v) (q + 1) (by omega) (by omega) (by omega) ((m3.sim (pWq_1 hq0).1 (pWq_1 hq0).2).up) (fun e => by rw [(pWq_1 hq0).2] at e; rw [pWq_t hq0 e, m4 e]; exact ((hFq (pNm_e e).1).fr (m2.1 35 (by decide))).up) ((hfr.tr m2).up)
    refine r_lv [1, 0] [(0, rv X 30), (1, iv 0)] rfl ?_
    exact at22 _ J1 0 (Nat.lt_succ_self _) (by omega) (by omega) (g3) (fun _ => by rw [show (pWq c L (0 : Int).toNat (pWi c L 0 s)).2.1 = s.2.1 from pMu_F]; exact hF.fr (g2.1 35 (by decide))) (g2.w)

set_option maxRecDepth 100000 in
set_option maxHeartbeats 800000 in
theorem kX9_readDesk (X : XC) {I : HD} {c : Int → Int} {L f : Int} {F : OF} (hM : MS I c L (f, F, 0)) (hF : eqF I F) (hG : GD F) : Cl X 4 mX9_readDesk [rv X 30] I (fun r J => r = none ∧ fMW I J ∧ MS J c L (pDesk c L (f, F, 0)) ∧ ((pDesk c L (f, F, 0)).2.2 = 0 → eqF J (pDesk c L (f, F, 0)).2.1)) := by
  refine Cl.of (by decide) (Nat.le_of_ble_eq_true rfl) ?_
  show Rn X 4 mX9_readDesk _ 0 [(0, rv X 30)] [] I
  have v0 := hG.1.a
  refine r_aload_n (pc := 0) (a := 0) (i := 0) 0 rfl rfl dX9_readDesk_0 ?_
  refine r_iconst (pc := 1) dX9_readDesk_1 ?_
  refine r_iconst (pc := 2) dX9_readDesk_2 ?_
  refine r_callV (pc := 3) (st := []) (As := [iv 0, iv 4]) (D2 := 3) okX9_begins (by decide) (by decide) rfl rfl rfl (Nat.le_of_ble_eq_true rfl) km_X9_156 (kX9_begins X hM rfl hF (k := 0) (m := 4) (by decide) (by decide) (show rg (F 0) by unfold rg; omega) (by unfold rg; omega)) dX9_readDesk_3 ?_
  rintro _ J1 ⟨rfl, g2, g3⟩
  refine r_aload_n (pc := 6) (a := 0) (i := 0) 0 rfl rfl dX9_readDesk_6 ?_
  refine r_iconst (pc := 7) dX9_readDesk_7 ?_
  refine r_bipush (pc := 8) rfl dX9_readDesk_8 ?_
  refine r_callV (pc := 10) (st := []) (As := [iv 1, iv 9]) (D2 := 3) okX9_number (by decide) (by decide) rfl rfl rfl (Nat.le_of_ble_eq_true rfl) km_X9_149 (kX9_number X g3 (lo := 1) (hi := 9) (by unfold rg; omega) (by unfold rg; omega)) dX9_readDesk_10 ?_
  rintro _ J2 ⟨va, rfl, m2, m3, m4⟩
  refine r_istore_n (pc := 13) (a := 1) (i := 1) rfl [(1, iv va), (0, rv X 30)] (by decide) rfl dX9_readDesk_13 ?_
  refine r_aload_n (pc := 14) (a := 0) (i := 0) 1 rfl rfl dX9_readDesk_14 ?_
  refine r_iconst (pc := 15) dX9_readDesk_15 ?_
  refine r_iconst (pc := 16) dX9_readDesk_16 ?_
  refine r_callV (pc := 17) (st := []) (As := [iv 0, iv 3]) (D2 := 3) okX9_number (by decide) (by decide) rfl rfl rfl (Nat.le_of_ble_eq_true rfl) km_X9_149 (kX9_number X m3 (lo := 0) (hi := 3) (by unfold rg; omega) (by unfold rg; omega)) dX9_readDesk_17 ?_
  rintro _ J3 ⟨vb, rfl, n2, n3, n4⟩
  refine r_istore_n (pc := 20) (a := 2) (i := 2) rfl [(2, iv vb), (1, iv va), (0, rv X 30)] (by decide) rfl dX9_readDesk_20 ?_
  refine r_aload_n (pc := 21) (a := 0) (i := 0) 2 rfl rfl dX9_readDesk_21 ?_
  refine r_callV (pc := 22) (st := []) (As := []) (D2 := 3) okX9_mustEnd (by decide) (by decide) rfl rfl rfl (Nat.le_of_ble_eq_true rfl) km_X9_153 (kX9_mustEnd X n3) dX9_readDesk_22 ?_
  rintro _ J4 ⟨rfl, u2, u3⟩
  have hfr := (((g2.tr m2).tr n2).tr u2).w
  have u5 := u3.2.2.2
  refine r_aload_n (pc := 25) (a := 0) (i := 0) 2 rfl rfl dX9_readDesk_25 ?_
  refine r_get (pc := 26) ckX9 (by decide) rfl (j := 18) (by decide) (congrArg (fun q => some (iv q)) u3.2.1) kf_X9_112 dX9_readDesk_26 ?_
  refine r_if_ne (pc := 29) 78 (by unfold rg; omega) dX9_readDesk_29 (by decide) (fun h29 => ?_) (fun h29 => ?_)
  · skip
    refine r_vret (pc := 78) (st := []) rfl dX9_readDesk_78 ?_
    rw [pDesk_m, if_neg h29]
    exact ⟨rfl, hfr, u3, fun e => absurd e h29⟩
  · skip
    have e1 := (pMu_e h29).1
    have e2 := (pNm_e e1).1
    have hb4 := bgS_e (pNm_e e2).1
    have hb4 : ¬ F 0 = 4 := hb4
    have hF4 : eqF J4 F := hF.fr ((u2.1 35 (by decide)).trans ((n2.1 35 (by decide)).trans ((m2.1 35 (by decide)).trans (g2.1 35 (by decide)))))
    have ev := m4 e2
    have ew := n4 e1
    refine r_aload_n (pc := 32) (a := 0) (i := 0) 2 rfl rfl dX9_readDesk_32 ?_
    refine r_get (pc := 33) ckX9 (by decide) rfl (j := 6) (by decide) rfl kf_X9_22 dX9_readDesk_33 ?_
    refine r_bipush (pc := 36) rfl dX9_readDesk_36 ?_
    refine r_iconst (pc := 38) dX9_readDesk_38 ?_
    refine r_aload_n (pc := 39) (a := 0) (i := 0) 2 rfl rfl dX9_readDesk_39 ?_
    refine r_get (pc := 40) ckX9 (by decide) rfl (j := 6) (by decide) rfl kf_X9_22 dX9_readDesk_40 ?_
    refine r_iconst (pc := 43) dX9_readDesk_43 ?_
    refine r_iald (pc := 44) (z := F 0) (by decide) rfl (by omega) (by omega) (by decide) (hF4 0 (by omega) (by omega)) dX9_readDesk_44 ?_
    refine r_imul (pc := 45) dX9_readDesk_45 ?_
    refine r_iadd (pc := 46) dX9_readDesk_46 ?_
    refine r_iload_n (pc := 47) (a := 1) (i := 1) 1 rfl rfl dX9_readDesk_47 ?_
    refine r_iast (pc := 48) (by decide) (fun _ => rfl) (by omega) (by omega) (by decide) dX9_readDesk_48 ?_
    refine r_aload_n (pc := 49) (a := 0) (i := 0) 2 rfl rfl dX9_readDesk_49 ?_
    refine r_get (pc := 50) ckX9 (by decide) rfl (j := 6) (by decide) rfl kf_X9_22 dX9_readDesk_50 ?_
    refine r_bipush (pc := 53) rfl dX9_readDesk_53 ?_
    refine r_iconst (pc := 55) dX9_readDesk_55 ?_
    refine r_aload_n (pc := 56) (a := 0) (i := 0) 2 rfl rfl dX9_readDesk_56 ?_
    refine r_get (pc := 57) ckX9 (by decide) rfl (j := 6) (by decide) rfl kf_X9_22 dX9_readDesk_57 ?_
    refine r_iconst (pc := 60) dX9_readDesk_60 ?_
    refine r_iald (pc := 61) (z := F 0) (by decide) rfl (by omega) (by omega) (by decide) ((up_i (by omega)).trans (hF4 0 (by omega) (by omega))) dX9_readDesk_61 ?_
    refine r_imul (pc := 62) dX9_readDesk_62 ?_
    refine r_iadd (pc := 63) dX9_readDesk_63 ?_
    refine r_iconst (pc := 64) dX9_readDesk_64 ?_
    refine r_iadd (pc := 65) dX9_readDesk_65 ?_
    refine r_iload_n (pc := 66) (a := 2) (i := 2) 0 rfl rfl dX9_readDesk_66 ?_
    refine r_iast (pc := 67) (by decide) (fun _ => rfl) (by omega) (by omega) (by decide) dX9_readDesk_67 ?_
    refine r_aload_n (pc := 68) (a := 0) (i := 0) 2 rfl rfl dX9_readDesk_68 ?_
    refine r_get (pc := 69) ckX9 (by decide) rfl (j := 6) (by decide) rfl kf_X9_22 dX9_readDesk_69 ?_
    refine r_iconst (pc := 72) dX9_readDesk_72 ?_
    refine r_dup2 (pc := 73) rfl rfl dX9_readDesk_73 ?_
    refine r_iald (pc := 74) (z := F 0) (by decide) rfl (by omega) (by omega) (by decide) ((up_i (by omega)).trans ((up_i (by omega)).trans (hF4 0 (by omega) (by omega)))) dX9_readDesk_74 ?_
    refine r_iconst (pc := 75) dX9_readDesk_75 ?_
    refine r_iadd (pc := 76) dX9_readDesk_76 ?_
    refine r_iast (pc := 77) (by decide) (fun _ => rfl) (by omega) (by omega) (by decide) dX9_readDesk_77 ?_
    refine r_vret (pc := 78) (st := []) rfl dX9_readDesk_78 ?_
    rw [pDesk_m, if_pos h29, ev, ew]
    exact ⟨rfl, hfr.up.up.up, MS.up (MS.up (MS.up (MS.sim u3 rfl h29.symm))), fun _ => eqF_dk v0.1 hF4⟩

set_option maxRecDepth 100000 in
set_option maxHeartbeats 800000 in
theorem kX9_readSheet (X : XC) {I : HD} {c : Int → Int} {L f : Int} {F : OF} (hM : MS I c L (f, F, 0)) (hF : eqF I F) (hG : GD F) (h12 : F 1 ≤ 12) (h01 : 1 ≤ F 0) : Cl X 4 mX9_readSheet [rv X 30] I (fun r J => r = none ∧ fMW I J ∧ MS J c L (pSheet c L (f, F, 0)) ∧ ((pSheet c L (f, F, 0)).2.2 = 0 → eqF J (pSheet c L (f, F, 0)).2.1)) := by
  refine Cl.of (by decide) (Nat.le_of_ble_eq_true rfl) ?_
  show Rn X 4 mX9_readSheet _ 0 [(0, rv X 30)] [] I
  have v0 := hG.1.a
  have hkr := kb_r (c := c) (L := L) (s := bgS c L 1 12 (f, F, 0))
  have hkd := kd_r (c := c) (L := L) (f := (bgS c L 1 12 (f, F, 0)).1)
  have hfg := fgV_r (c := c) (L := L) (f := (shK c L f F).1)
  have hSKF := shK_F (c := c) (L := L) (f := f) (F := F)
  refine r_aload_n (pc := 0) (a := 0) (i := 0) 0 rfl rfl dX9_readSheet_0 ?_
  refine r_iconst (pc := 1) dX9_readSheet_1 ?_
  refine r_bipush (pc := 2) rfl dX9_readSheet_2 ?_
  refine r_callV (pc := 4) (st := []) (As := [iv 1, iv 12]) (D2 := 3) okX9_begins (by decide) (by decide) rfl rfl rfl (Nat.le_of_ble_eq_true rfl) km_X9_156 (kX9_begins X hM rfl hF (k := 1) (m := 12) (by decide) (by decide) (show rg (F 1) by unfold rg; omega) (by unfold rg; omega)) dX9_readSheet_4 ?_
  rintro _ J1 ⟨rfl, g2, g3⟩
  have g5 := g3.2.2.2
  refine r_aload_n (pc := 7) (a := 0) (i := 0) 0 rfl rfl dX9_readSheet_7 ?_
  refine r_callVj (pc := 8) (st := []) (As := []) (D2 := 0) okX9_name (by decide) (by decide) rfl rfl rfl (Nat.le_of_ble_eq_true rfl) km_X9_143 (kNam X g3) dX9_readSheet_8 ?_
  refine r_callSi (pc := 11) (st := []) (As := [jv (nmS c L (bgS c L 1 12 (f, F, 0)))]) (D2 := 0) okX9_kindBy (by decide) trivial rfl (Nat.le_of_ble_eq_true rfl) km_X9_160 (kX9_kindBy X (s := bgS c L 1 12 (f, F, 0)) g3.1.2.1) dX9_readSheet_11 ?_
  refine r_istore_n (pc := 14) (a := 1) (i := 1) rfl [(1, iv (kb c L (bgS c L 1 12 (f, F, 0)))), (0, rv X 30)] (by decide) rfl dX9_readSheet_14 ?_
  have at37 : ∀ (J2 : HD), (hM2 : MS J2 c L (shK c L f F)) → (hfr2 : fM3 I J2) → Rn X 4 mX9_readSheet (fun r J => r = none ∧ fMW I J ∧ MS J c L (pSheet c L (f, F, 0)) ∧ ((pSheet c L (f, F, 0)).2.2 = 0 → eqF J (pSheet c L (f, F, 0)).2.1)) 37 [(0, rv X 30), (1, iv (kb c L (bgS c L 1 12 (f, F, 0))))] [] J2 := by
    intro J2 hM2 hfr2
    have hM5 := hM2.2.2.2
    have hF2 : eqF J2 F := hF.fr (hfr2.1 35 (by decide))
    have hkr2 := tkK_r (c := c) (L := L) (f := (shK c L f F).1)
    have hrt2 := rt_r hkr2
    refine r_aload_n (pc := 37) (a := 0) (i := 0) 0 rfl rfl dX9_readSheet_37 ?_
    refine r_callVi (pc := 38) (st := []) (As := []) (D2 := 0) okX9_figures (by decide) (by decide) rfl rfl rfl (Nat.le_of_ble_eq_true rfl) km_X9_125 (kX9_figures X hM2) dX9_readSheet_38 ?_
    refine r_istore_n (pc := 41) (a := 2) (i := 2) rfl [(2, iv (fgV c L (shK c L f F).1)), (0, rv X 30), (1, iv (kb c L (bgS c L 1 12 (f, F, 0))))] (by decide) rfl dX9_readSheet_41 ?_
    have at106 : ∀ (J3 : HD), (hM3 : MS J3 c L (shA c L (shK c L f F))) → (hfr3 : fM3 I J3) → Rn X 4 mX9_readSheet (fun r J => r = none ∧ fMW I J ∧ MS J c L (pSheet c L (f, F, 0)) ∧ ((pSheet c L (f, F, 0)).2.2 = 0 → eqF J (pSheet c L (f, F, 0)).2.1)) 106 [(0, rv X 30), (1, iv (kb c L (bgS c L 1 12 (f, F, 0))))] [] J3 := by
      intro J3 hM3 hfr3
      have hSAF : (shA c L (shK c L f F)).2.1 = F := shA_F.trans hSKF
      have hF3 : eqF J3 F := hF.fr (hfr3.1 35 (by decide))
      have hbS : pSb c L (shA c L (shK c L f F)) = pSm c L (pNm c L 0 12 (pNm c L 0 99 (pNm c L 0 (F 0 - 1) (shA c L (shK c L f F))))) := by unfold pSb; rw [hSAF]
      refine r_aload_n (pc := 106) (a := 0) (i := 0) 0 rfl rfl dX9_readSheet_106 ?_
      refine r_iconst (pc := 107) dX9_readSheet_107 ?_
      refine r_aload_n (pc := 108) (a := 0) (i := 0) 0 rfl rfl dX9_readSheet_108 ?_
      refine r_get (pc := 109) ckX9 (by decide) rfl (j := 6) (by decide) rfl kf_X9_22 dX9_readSheet_109 ?_
      refine r_iconst (pc := 112) dX9_readSheet_112 ?_
      refine r_iald (pc := 113) (z := F 0) (by decide) rfl (by omega) (by omega) (by decide) (hF3 0 (by omega) (by omega)) dX9_readSheet_113 ?_
      refine r_iconst (pc := 114) dX9_readSheet_114 ?_
      refine r_isub (pc := 115) dX9_readSheet_115 ?_
      refine r_callV (pc := 116) (st := []) (As := [iv 0, iv ((F 0) - 1)]) (D2 := 3) okX9_number (by decide) (by decide) rfl rfl rfl (Nat.le_of_ble_eq_true rfl) km_X9_149 (kX9_number X hM3 (lo := 0) (hi := (F 0 - 1)) (by unfold rg; omega) (by unfold rg; omega)) dX9_readSheet_116 ?_
      rintro _ J4 ⟨vd, rfl, m2, m3, m4⟩
      refine r_istore_n (pc := 119) (a := 2) (i := 2) rfl [(2, iv vd), (0, rv X 30), (1, iv (kb c L (bgS c L 1 12 (f, F, 0))))] (by decide) rfl dX9_readSheet_119 ?_
      refine r_aload_n (pc := 120) (a := 0) (i := 0) 1 rfl rfl dX9_readSheet_120 ?_
      refine r_iconst (pc := 121) dX9_readSheet_121 ?_
      refine r_bipush (pc := 122) rfl dX9_readSheet_122 ?_
      refine r_callV (pc := 124) (st := []) (As := [iv 0, iv 99]) (D2 := 3) okX9_number (by decide) (by decide) rfl rfl rfl (Nat.le_of_ble_eq_true rfl) km_X9_149 (kX9_number X m3 (lo := 0) (hi := 99) (by unfold rg; omega) (by unfold rg; omega)) dX9_readSheet_124 ?_
      rintro _ J5 ⟨vw, rfl, n2, n3, n4⟩
      refine r_istore_n (pc := 127) (a := 3) (i := 3) rfl [(3, iv vw), (2, iv vd), (0, rv X 30), (1, iv (kb c L (bgS c L 1 12 (f, F, 0))))] (by decide) rfl dX9_readSheet_127 ?_
      refine r_aload_n (pc := 128) (a := 0) (i := 0) 2 rfl rfl dX9_readSheet_128 ?_
      refine r_iconst (pc := 129) dX9_readSheet_129 ?_
      refine r_bipush (pc := 130) rfl dX9_readSheet_130 ?_
      refine r_callV (pc := 132) (st := []) (As := [iv 0, iv 12]) (D2 := 3) okX9_number (by decide) (by decide) rfl rfl rfl (Nat.le_of_ble_eq_true rfl) km_X9_149 (kX9_number X n3 (lo := 0) (hi := 12) (by unfold rg; omega) (by unfold rg; omega)) dX9_readSheet_132 ?_
      rintro _ J6 ⟨vn, rfl, o2, o3, o4⟩
      refine r_istore (pc := 135) [(4, iv vn), (3, iv vw), (2, iv vd), (0, rv X 30), (1, iv (kb c L (bgS c L 1 12 (f, F, 0))))] (by decide) rfl dX9_readSheet_135 ?_
      refine r_aload_n (pc := 137) (a := 0) (i := 0) 3 rfl rfl dX9_readSheet_137 ?_
      refine r_callV (pc := 138) (st := []) (As := []) (D2 := 3) okX9_mustEnd (by decide) (by decide) rfl rfl rfl (Nat.le_of_ble_eq_true rfl) km_X9_153 (kX9_mustEnd X o3) dX9_readSheet_138 ?_
      rintro _ J7 ⟨rfl, u2, u3⟩
      have hfr := ((((hfr3.tr m2).tr n2).tr o2).tr u2)
      have u5 := u3.2.2.2
      refine r_aload_n (pc := 141) (a := 0) (i := 0) 3 rfl rfl dX9_readSheet_141 ?_
      refine r_get (pc := 142) ckX9 (by decide) rfl (j := 18) (by decide) (congrArg (fun q => some (iv q)) u3.2.1) kf_X9_112 dX9_readSheet_142 ?_
      refine r_if_ne (pc := 145) 253 (by unfold rg; omega) dX9_readSheet_145 (by decide) (fun h145 => ?_) (fun h145 => ?_)
      · skip
        refine r_vret (pc := 253) (st := []) rfl dX9_readSheet_253 ?_
        rw [pSheet_m, hbS, if_neg h145]
        exact ⟨rfl, hfr.w, u3, fun e => absurd e h145⟩
      · skip
        have e1 := (pMu_e h145).1
        have e2 := (pNm_e e1).1
        have e3 := (pNm_e e2).1
        have vd_e := m4 e3
        have vw_e := n4 e2
        have vn_e := o4 e1
        obtain ⟨e4, kA, rA, _⟩ := pNm_e e3
        have eSA : shA c L (shK c L f F) = shK c L f F ∧ (shK c L f F).2.2 = 0 ∧ ¬ noR c L F (shK c L f F).1 := shA_1 hSKF e4
        obtain ⟨e6, e7, _⟩ := pMu_e (s := bgS c L 1 12 (f, F, 0)) eSA.2.1
        have hb12 : ¬ F 1 = 12 := bgS_e e6
        have hkk : kb c L (bgS c L 1 12 (f, F, 0)) = kd c L (bgS c L 1 12 (f, F, 0)).1 := by omega
        have hF7 : eqF J7 F := hF.fr (hfr.1 35 (by decide))
        have hvd : 0 ≤ vd ∧ vd < F 0 := by rw [vd_e]; omega
        have hroom : F (23 + 10 * vd) < F (15 + 2 * vd) := by rw [vd_e]; exact shA_2 eSA.1 eSA.2.2 kA (by omega)
        have hvd2 := hG.1.d hvd.1 hvd.2
        refine r_aload_n (pc := 148) (a := 0) (i := 0) 3 rfl rfl dX9_readSheet_148 ?_
        refine r_get (pc := 149) ckX9 (by decide) rfl (j := 6) (by decide) rfl kf_X9_22 dX9_readSheet_149 ?_
        refine r_iconst (pc := 152) dX9_readSheet_152 ?_
        refine r_iald (pc := 153) (z := F 1) (by decide) rfl (by omega) (by omega) (by decide) (hF7 1 (by omega) (by omega)) dX9_readSheet_153 ?_
        refine r_istore (pc := 154) [(5, iv (F 1)), (4, iv vn), (3, iv vw), (2, iv vd), (0, rv X 30), (1, iv (kb c L (bgS c L 1 12 (f, F, 0))))] (by decide) rfl dX9_readSheet_154 ?_
        refine r_aload_n (pc := 156) (a := 0) (i := 0) 4 rfl rfl dX9_readSheet_156 ?_
        refine r_get (pc := 157) ckX9 (by decide) rfl (j := 6) (by decide) rfl kf_X9_22 dX9_readSheet_157 ?_
        refine r_bipush (pc := 160) rfl dX9_readSheet_160 ?_
        refine r_iconst (pc := 162) dX9_readSheet_162 ?_
        refine r_iload (pc := 163) 0 rfl dX9_readSheet_163 ?_
        refine r_imul (pc := 165) dX9_readSheet_165 ?_
        refine r_iadd (pc := 166) dX9_readSheet_166 ?_
        refine r_iload_n (pc := 167) (a := 1) (i := 1) 5 rfl rfl dX9_readSheet_167 ?_
        refine r_iast (pc := 168) (by decide) (fun _ => rfl) (by omega) (by omega) (by decide) dX9_readSheet_168 ?_
        refine r_aload_n (pc := 169) (a := 0) (i := 0) 4 rfl rfl dX9_readSheet_169 ?_
        refine r_get (pc := 170) ckX9 (by decide) rfl (j := 6) (by decide) rfl kf_X9_22 dX9_readSheet_170 ?_
        refine r_bipush (pc := 173) rfl dX9_readSheet_173 ?_
        refine r_iconst (pc := 175) dX9_readSheet_175 ?_
        refine r_iload (pc := 176) 0 rfl dX9_readSheet_176 ?_
        refine r_imul (pc := 178) dX9_readSheet_178 ?_
        refine r_iadd (pc := 179) dX9_readSheet_179 ?_
        refine r_iconst (pc := 180) dX9_readSheet_180 ?_
        refine r_iadd (pc := 181) dX9_readSheet_181 ?_
        refine r_iload_n (pc := 182) (a := 3) (i := 3) 2 rfl rfl dX9_readSheet_182 ?_
        refine r_iast (pc := 183) (by decide) (fun _ => rfl) (by omega) (by omega) (by decide) dX9_readSheet_183 ?_
        refine r_aload_n (pc := 184) (a := 0) (i := 0) 4 rfl rfl dX9_readSheet_184 ?_
        refine r_get (pc := 185) ckX9 (by decide) rfl (j := 6) (by decide) rfl kf_X9_22 dX9_readSheet_185 ?_
        refine r_bipush (pc := 188) rfl dX9_readSheet_188 ?_
        refine r_iconst (pc := 190) dX9_readSheet_190 ?_
        refine r_iload (pc := 191) 0 rfl dX9_readSheet_191 ?_
        refine r_imul (pc := 193) dX9_readSheet_193 ?_
        refine r_iadd (pc := 194) dX9_readSheet_194 ?_
        refine r_iconst (pc := 195) dX9_readSheet_195 ?_
        refine r_iadd (pc := 196) dX9_readSheet_196 ?_
        refine r_iload (pc := 197) 1 rfl dX9_readSheet_197 ?_
        refine r_iast (pc := 199) (by decide) (fun _ => rfl) (by omega) (by omega) (by decide) dX9_readSheet_199 ?_
        refine r_aload_n (pc := 200) (a := 0) (i := 0) 4 rfl rfl dX9_readSheet_200 ?_
        refine r_get (pc := 201) ckX9 (by decide) rfl (j := 6) (by decide) rfl kf_X9_22 dX9_readSheet_201 ?_
        refine r_bipush (pc := 204) rfl dX9_readSheet_204 ?_
        refine r_bipush (pc := 206) rfl dX9_readSheet_206 ?_
        refine r_iload_n (pc := 208) (a := 2) (i := 2) 3 rfl rfl dX9_readSheet_208 ?_
        refine r_imul (pc := 209) dX9_readSheet_209 ?_
        refine r_iadd (pc := 210) dX9_readSheet_210 ?_
        refine r_dup2 (pc := 211) rfl rfl dX9_readSheet_211 ?_
        refine r_iald (pc := 212) (z := F (23 + 10 * vd)) (by decide) rfl (by omega) (by omega) (by decide) (by rw [up_i (by omega), up_i (by omega), up_i (by omega)]; exact hF7 _ (by omega) (by omega)) dX9_readSheet_212 ?_
        refine r_iconst (pc := 213) dX9_readSheet_213 ?_
        refine r_iadd (pc := 214) dX9_readSheet_214 ?_
        refine r_iast (pc := 215) (by decide) (fun _ => rfl) (by omega) (by omega) (by decide) dX9_readSheet_215 ?_
        refine r_aload_n (pc := 216) (a := 0) (i := 0) 4 rfl rfl dX9_readSheet_216 ?_
        refine r_get (pc := 217) ckX9 (by decide) rfl (j := 6) (by decide) rfl kf_X9_22 dX9_readSheet_217 ?_
        refine r_bipush (pc := 220) rfl dX9_readSheet_220 ?_
        refine r_bipush (pc := 222) rfl dX9_readSheet_222 ?_
        refine r_iload_n (pc := 224) (a := 2) (i := 2) 3 rfl rfl dX9_readSheet_224 ?_
        refine r_imul (pc := 225) dX9_readSheet_225 ?_
        refine r_iadd (pc := 226) dX9_readSheet_226 ?_
        refine r_aload_n (pc := 227) (a := 0) (i := 0) 4 rfl rfl dX9_readSheet_227 ?_
        refine r_get (pc := 228) ckX9 (by decide) rfl (j := 6) (by decide) rfl kf_X9_22 dX9_readSheet_228 ?_
        refine r_bipush (pc := 231) rfl dX9_readSheet_231 ?_
        refine r_bipush (pc := 233) rfl dX9_readSheet_233 ?_
        refine r_iload_n (pc := 235) (a := 2) (i := 2) 3 rfl rfl dX9_readSheet_235 ?_
        refine r_imul (pc := 236) dX9_readSheet_236 ?_
        refine r_iadd (pc := 237) dX9_readSheet_237 ?_
        refine r_iald (pc := 238) (z := F (23 + 10 * vd) + 1) (by decide) rfl (by omega) (by omega) (by decide) (up_s) dX9_readSheet_238 ?_
        refine r_iadd (pc := 239) dX9_readSheet_239 ?_
        refine r_iload (pc := 240) 0 rfl dX9_readSheet_240 ?_
        refine r_iast (pc := 242) (by decide) (fun _ => rfl) (by omega) (by omega) (by decide) dX9_readSheet_242 ?_
        refine r_aload_n (pc := 243) (a := 0) (i := 0) 4 rfl rfl dX9_readSheet_243 ?_
        refine r_get (pc := 244) ckX9 (by decide) rfl (j := 6) (by decide) rfl kf_X9_22 dX9_readSheet_244 ?_
        refine r_iconst (pc := 247) dX9_readSheet_247 ?_
        refine r_dup2 (pc := 248) rfl rfl dX9_readSheet_248 ?_
        refine r_iald (pc := 249) (z := F 1) (by decide) rfl (by omega) (by omega) (by decide) (by rw [up_i (by omega)]; rw [up_i (by omega)]; rw [up_i (by omega)]; rw [up_i (by omega)]; rw [up_i (by omega)]; exact hF7 1 (by omega) (by omega)) dX9_readSheet_249 ?_
        refine r_iconst (pc := 250) dX9_readSheet_250 ?_
        refine r_iadd (pc := 251) dX9_readSheet_251 ?_
        refine r_iast (pc := 252) (by decide) (fun _ => rfl) (by omega) (by omega) (by decide) dX9_readSheet_252 ?_
        refine r_vret (pc := 253) (st := []) rfl dX9_readSheet_253 ?_
        rw [pSheet_m, hbS, if_pos h145, ← vd_e, ← vw_e, ← vn_e, ← hkk]
        exact ⟨rfl, hfr.w.up.up.up.up.up.up, MS.up (MS.up (MS.up (MS.up (MS.up (MS.up (MS.sim u3 rfl h145.symm))))) ), fun _ => eqF_sh hG hvd.1 hvd.2 (by omega) hroom hF7⟩
    refine r_aload_n (pc := 42) (a := 0) (i := 0) 1 rfl rfl dX9_readSheet_42 ?_
    refine r_get (pc := 43) ckX9 (by decide) rfl (j := 18) (by decide) (congrArg (fun q => some (iv q)) hM2.2.1) kf_X9_112 dX9_readSheet_43 ?_
    refine r_if_ne (pc := 46) 106 (by unfold rg; omega) dX9_readSheet_46 (by decide) (fun h46 => ?_) (fun h46 => ?_)
    · skip
      refine r_lv [1, 2] [(0, rv X 30), (1, iv (kb c L (bgS c L 1 12 (f, F, 0))))] rfl ?_
      exact at106 J2 (by rw [show shA c L (shK c L f F) = shK c L f F from if_neg (fun q => h46 q.1)]; exact hM2) (hfr2)
    · skip
      refine r_aload_n (pc := 49) (a := 0) (i := 0) 1 rfl rfl dX9_readSheet_49 ?_
      refine r_get (pc := 50) ckX9 (by decide) rfl (j := 15) (by decide) (congrArg (fun q => some (iv q)) hM2.1.2.2.2.1) kf_X9_100 dX9_readSheet_50 ?_
      refine r_iconst (pc := 53) dX9_readSheet_53 ?_
      refine r_icmp_ne (pc := 54) 106 (by unfold rg; omega) (by unfold rg; omega) dX9_readSheet_54 (by decide) (fun h54 => ?_) (fun h54 => ?_)
      · skip
        refine r_lv [1, 2] [(0, rv X 30), (1, iv (kb c L (bgS c L 1 12 (f, F, 0))))] rfl ?_
        exact at106 J2 (by rw [show shA c L (shK c L f F) = shK c L f F from if_neg (fun q => by have := q.2.1; omega)]; exact hM2) (hfr2)
      · skip
        refine r_iload_n (pc := 57) (a := 2) (i := 2) 0 rfl rfl dX9_readSheet_57 ?_
        refine r_i2l (pc := 58) (by unfold rg; omega) dX9_readSheet_58 ?_
        refine r_lconst (pc := 59) (z := 0) rfl dX9_readSheet_59 ?_
        refine r_aload_n (pc := 60) (a := 0) (i := 0) 1 rfl rfl dX9_readSheet_60 ?_
        refine r_get (pc := 61) ckX9 (by decide) rfl (j := 6) (by decide) rfl kf_X9_22 dX9_readSheet_61 ?_
        refine r_iconst (pc := 64) dX9_readSheet_64 ?_
        refine r_iald (pc := 65) (z := F 0) (by decide) rfl (by omega) (by omega) (by decide) (hF2 0 (by omega) (by omega)) dX9_readSheet_65 ?_
        refine r_iconst (pc := 66) dX9_readSheet_66 ?_
        refine r_isub (pc := 67) dX9_readSheet_67 ?_
        refine r_i2l (pc := 68) (by unfold rg; omega) dX9_readSheet_68 ?_
        refine r_callSi (pc := 69) (st := []) (As := [jv (fgV c L (shK c L f F).1), jv 0, jv ((F 0) - 1)]) okX9_in (by decide) trivial rfl (Nat.le_of_ble_eq_true rfl) km_X9_64 (kX9_in X (by unfold rl; omega) (by unfold rl; omega) (by unfold rl; omega)) dX9_readSheet_69 ?_
        refine r_if_eq (pc := 72) 106 rg_bI dX9_readSheet_72 (by decide) (fun h72 => ?_) (fun h72 => ?_)
        · skip
          have h72 := bI_0.mp h72
          refine r_lv [1, 2] [(0, rv X 30), (1, iv (kb c L (bgS c L 1 12 (f, F, 0))))] rfl ?_
          exact at106 J2 (by rw [show shA c L (shK c L f F) = shK c L f F from if_neg (fun q => h72 (nr_1 hSKF q.2))]; exact hM2) (hfr2)
        · skip
          have h72 := bI_n.mp h72
          refine r_aload_n (pc := 75) (a := 0) (i := 0) 1 rfl rfl dX9_readSheet_75 ?_
          have hin := hG.1.d h72.1 (by omega)
          refine r_get (pc := 76) ckX9 (by decide) rfl (j := 6) (by decide) rfl kf_X9_22 dX9_readSheet_76 ?_
          refine r_bipush (pc := 79) rfl dX9_readSheet_79 ?_
          refine r_bipush (pc := 81) rfl dX9_readSheet_81 ?_
          refine r_iload_n (pc := 83) (a := 2) (i := 2) 0 rfl rfl dX9_readSheet_83 ?_
          refine r_imul (pc := 84) dX9_readSheet_84 ?_
          refine r_iadd (pc := 85) dX9_readSheet_85 ?_
          refine r_iald (pc := 86) (z := F (23 + (10 * (fgV c L (shK c L f F).1)))) (by decide) rfl (by omega) (by omega) (by decide) (hF2 _ (by omega) (by omega)) dX9_readSheet_86 ?_
          refine r_aload_n (pc := 87) (a := 0) (i := 0) 1 rfl rfl dX9_readSheet_87 ?_
          refine r_get (pc := 88) ckX9 (by decide) rfl (j := 6) (by decide) rfl kf_X9_22 dX9_readSheet_88 ?_
          refine r_bipush (pc := 91) rfl dX9_readSheet_91 ?_
          refine r_iconst (pc := 93) dX9_readSheet_93 ?_
          refine r_iload_n (pc := 94) (a := 2) (i := 2) 0 rfl rfl dX9_readSheet_94 ?_
          refine r_imul (pc := 95) dX9_readSheet_95 ?_
          refine r_iadd (pc := 96) dX9_readSheet_96 ?_
          refine r_iald (pc := 97) (z := F (15 + (2 * (fgV c L (shK c L f F).1)))) (by decide) rfl (by omega) (by omega) (by decide) (hF2 _ (by omega) (by omega)) dX9_readSheet_97 ?_
          refine r_icmp_ne (pc := 98) 106 (by unfold rg; omega) (by unfold rg; omega) dX9_readSheet_98 (by decide) (fun h98 => ?_) (fun h98 => ?_)
          · skip
            refine r_lv [1, 2] [(0, rv X 30), (1, iv (kb c L (bgS c L 1 12 (f, F, 0))))] rfl ?_
            exact at106 J2 (by rw [show shA c L (shK c L f F) = shK c L f F from if_neg (fun q => nr_2 hG hSKF q.2 h98)]; exact hM2) (hfr2)
          · skip
            refine r_aload_n (pc := 101) (a := 0) (i := 0) 1 rfl rfl dX9_readSheet_101 ?_
            refine r_iconst (pc := 102) dX9_readSheet_102 ?_
            refine r_callV (pc := 103) (st := []) (As := [iv 2]) (D2 := 0) okX9_bad (by decide) (by decide) rfl rfl rfl (Nat.le_of_ble_eq_true rfl) km_X9_121 (kBad X hM2 (by decide) (by decide)) dX9_readSheet_103 ?_
            rintro _ J3 ⟨rfl, b2, b3, b4⟩
            rw [pBad_t (by omega)] at b3
            refine r_lv [1, 2] [(0, rv X 30), (1, iv (kb c L (bgS c L 1 12 (f, F, 0))))] rfl ?_
            exact at106 J3 (by rw [show shA c L (shK c L f F) = ((shK c L f F).1, (shK c L f F).2.1, 2) from if_pos ⟨by omega, nr_3 hSKF (by omega) h72.2 h98⟩]; exact b3) (hfr2.tr b2)
  refine r_aload_n (pc := 15) (a := 0) (i := 0) 1 rfl rfl dX9_readSheet_15 ?_
  refine r_get (pc := 16) ckX9 (by decide) rfl (j := 18) (by decide) (congrArg (fun q => some (iv q)) g3.2.1) kf_X9_112 dX9_readSheet_16 ?_
  refine r_if_ne (pc := 19) 37 (by unfold rg; omega) dX9_readSheet_19 (by decide) (fun h19 => ?_) (fun h19 => ?_)
  · skip
    refine r_lv [1, 0] [(0, rv X 30), (1, iv (kb c L (bgS c L 1 12 (f, F, 0))))] rfl ?_
    exact at37 J1 (by rw [show shK c L f F = bgS c L 1 12 (f, F, 0) from pMu_x h19]; exact g3) (g2)
  · skip
    refine r_aload_n (pc := 22) (a := 0) (i := 0) 1 rfl rfl dX9_readSheet_22 ?_
    refine r_iload_n (pc := 23) (a := 1) (i := 1) 0 rfl rfl dX9_readSheet_23 ?_
    refine r_ldc (pc := 24) kc_X9_90 dX9_readSheet_24 ?_
    refine r_icmp_eq (pc := 26) 33 (by unfold rg; omega) (by unfold rg; omega) dX9_readSheet_26 (by decide) (fun h26 => ?_) (fun h26 => ?_)
    · skip
      refine r_iconst (pc := 33) dX9_readSheet_33 ?_
      refine r_callV (pc := 34) (st := []) (As := [iv 0]) (D2 := 2) okX9_must (by decide) (by decide) rfl rfl rfl (Nat.le_of_ble_eq_true rfl) km_X9_129 (kX9_must X g3 (B := ¬ kd c L (bgS c L 1 12 (f, F, 0)).1 = 0) (by omega)) dX9_readSheet_34 ?_
      rintro _ J2 ⟨rfl, k2, k3⟩
      refine r_lv [1, 0] [(0, rv X 30), (1, iv (kb c L (bgS c L 1 12 (f, F, 0))))] rfl ?_
      exact at37 J2 (k3) (g2.tr k2)
    · skip
      refine r_iconst (pc := 29) dX9_readSheet_29 ?_
      refine r_goto (pc := 30) 34 dX9_readSheet_30 (by decide) ?_
      refine r_callV (pc := 34) (st := []) (As := [iv 1]) (D2 := 2) okX9_must (by decide) (by decide) rfl rfl rfl (Nat.le_of_ble_eq_true rfl) km_X9_129 (kX9_must X g3 (B := ¬ kd c L (bgS c L 1 12 (f, F, 0)).1 = 0) (by omega)) dX9_readSheet_34 ?_
      rintro _ J2 ⟨rfl, k2, k3⟩
      refine r_lv [1, 0] [(0, rv X 30), (1, iv (kb c L (bgS c L 1 12 (f, F, 0))))] rfl ?_
      exact at37 J2 (k3) (g2.tr k2)
