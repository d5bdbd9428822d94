set_option maxRecDepth 100000 in
set_option maxHeartbeats 800000 in
theorem kX4_readSheets (X : XC) {I : HD} {c : Int → Int} {L f : Int} (hA : atC I c L f) {F : OF} (hR : RepC F I 1) (hG : GD F) (hF1 : F 1 = 0) (hF0 : 1 ≤ F 0) : Cl X 7 mX4_readSheets [rv X 18] I (fun r J => r = some (iv (bI ((pA3 c L (pSh c L (13 : Int).toNat (f, F, 0))).2.2 = 0))) ∧ frD I J ∧ CS J c L (pA3 c L (pSh c L (13 : Int).toNat (f, F, 0))) ∧ ((pA3 c L (pSh c L (13 : Int).toNat (f, F, 0))).2.2 = 0 → RepC (pA3 c L (pSh c L (13 : Int).toNat (f, F, 0))).2.1 J 1)) := by
  refine Cl.of (by decide) (Nat.le_of_ble_eq_true rfl) ?_
  show Rn X 7 mX4_readSheets _ 0 [(0, rv X 18)] [] I
  obtain ⟨hT, hf0, hf1, a2, a3, a4, a5⟩ := id hA
  have hL5 := hT.2.2.1
  have hkr := tkK_r (c := c) (L := L) (f := f)
  have hnr := tkN_r (c := c) (L := L) (f := f) hf1
  refine r_iconst (pc := 0) dX4_readSheets_0 ?_
  refine r_istore_n (pc := 1) (a := 1) (i := 1) rfl [(1, iv 0), (0, rv X 18)] (by decide) rfl dX4_readSheets_1 ?_
  have at2 : ∀ (n2 : Nat) (J : HD) (t : Ps) (d : Int), (13 - d).toNat < n2 → (hd0 : 0 ≤ d) → (hd1 : d ≤ 12) → (ht : t.2.2 = 0) → (hA1 : atC J c L t.1) → (hR1 : RepC t.2.1 J 1) → (hG1 : GD t.2.1) → (hT1 : t.2.1 1 = d) → (hT0 : 1 ≤ t.2.1 0) → (hP : pSh c L (13 - d).toNat t = pSh c L (13 : Int).toNat (f, F, 0)) → (hfr : frD I J) → Rn X 7 mX4_readSheets (fun r J => r = some (iv (bI ((pA3 c L (pSh c L (13 : Int).toNat (f, F, 0))).2.2 = 0))) ∧ frD I J ∧ CS J c L (pA3 c L (pSh c L (13 : Int).toNat (f, F, 0))) ∧ ((pA3 c L (pSh c L (13 : Int).toNat (f, F, 0))).2.2 = 0 → RepC (pA3 c L (pSh c L (13 : Int).toNat (f, F, 0))).2.1 J 1)) 2 [(0, rv X 18), (1, iv d)] [] J := by
    intro n2
    induction n2 with
    | zero => intro J t d hm; omega
    | succ n2 ih2 =>
      intro J t d hm2 hd0 hd1 ht hA1 hR1 hG1 hT1 hT0 hP hfr
      refine r_iload_n (pc := 2) (a := 1) (i := 1) 1 rfl rfl dX4_readSheets_2 ?_
      refine r_bipush (pc := 3) rfl dX4_readSheets_3 ?_
      refine r_icmp_gt (pc := 5) 44 (by unfold rg; omega) (by unfold rg; omega) dX4_readSheets_5 (by decide) (fun h5 => ?_) (fun h5 => ?_)
      · exact absurd h5 (by omega)
      · skip
        refine r_aload_n (pc := 8) (a := 0) (i := 0) 0 rfl rfl dX4_readSheets_8 ?_
        refine r_ldcS (pc := 9) 2 (by decide) (by rfl) rfl dX4_readSheets_9 ?_
        refine r_callVi (pc := 11) (st := []) (As := [.ref (X.2.2.2.2 (10 + 2))]) (D2 := 4) okX4_isWord (by decide) (by decide) rfl rfl rfl (Nat.le_of_ble_eq_true rfl) km_X4_62 (kX4_isWord X hA1 (i := 2) (by decide)) dX4_readSheets_11 ?_
        refine r_if_eq (pc := 14) 44 rg_bI dX4_readSheets_14 (by decide) (fun h14 => ?_) (fun h14 => ?_)
        · skip
          have h14 := bI_0.mp h14
          refine r_aload_n (pc := 44) (a := 0) (i := 0) 0 rfl rfl dX4_readSheets_44 ?_
          have hkr := tkK_r (c := c) (L := L) (f := t.1)
          refine r_get (pc := 45) ckX4 (by decide) rfl (j := 2) (by decide) (congrArg (fun q => some (iv q)) hA1.2.2.2.1) kf_X4_25 dX4_readSheets_45 ?_
          refine r_if_eq (pc := 48) 59 (by unfold rg; omega) dX4_readSheets_48 (by decide) (fun h48 => ?_) (fun h48 => ?_)
          · skip
            refine r_iconst (pc := 59) dX4_readSheets_59 ?_
            refine r_goto (pc := 60) 64 dX4_readSheets_60 (by decide) ?_
            refine r_zret (pc := 64) (st := []) rfl (rfl) dX4_readSheets_64 ?_
            rw [← hP, pSh_f (fun q => h14 q.2), pA3_t h48]
            exact ⟨congrArg (fun q => some (iv q)) (bI_t ht).symm, hfr, CS.t ht hA1, fun _ => hR1⟩
          · skip
            refine r_aload_n (pc := 51) (a := 0) (i := 0) 0 rfl rfl dX4_readSheets_51 ?_
            refine r_iconst (pc := 52) dX4_readSheets_52 ?_
            refine r_callVi (pc := 53) (st := []) (As := [iv 1]) (D2 := 0) okX4_fail (by decide) (by decide) rfl rfl rfl (Nat.le_of_ble_eq_true rfl) km_X4_66 (kX4_fail X) dX4_readSheets_53 ?_
            refine r_if_eq (pc := 56) 63 (by unfold rg; omega) dX4_readSheets_56 (by decide) (fun h56 => ?_) (fun h56 => ?_)
            · skip
              refine r_iconst (pc := 63) dX4_readSheets_63 ?_
              refine r_zret (pc := 64) (st := []) rfl (rfl) dX4_readSheets_64 ?_
              rw [← hP, pSh_f (fun q => h14 q.2), pA3_f ht h48]
              exact ⟨congrArg (fun q => some (iv q)) (bI_f (show ¬ (1 : Int) = 0 by decide)).symm, fun a x y => (up_row x).trans (hfr a x y), CS.f (show ¬ (1 : Int) = 0 by decide) ((up_i (by decide)).trans hA1.2.2.2.2.1) up_s, fun e => absurd (show (1 : Int) = 0 from e) (by decide)⟩
            · exact absurd h56 (by decide)
        · skip
          have h14 := bI_n.mp h14
          refine r_iload_n (pc := 17) (a := 1) (i := 1) 1 rfl rfl dX4_readSheets_17 ?_
          refine r_bipush (pc := 18) rfl dX4_readSheets_18 ?_
          refine r_icmp_ne (pc := 20) 29 (by unfold rg; omega) (by unfold rg; omega) dX4_readSheets_20 (by decide) (fun h20 => ?_) (fun h20 => ?_)
          · skip
            refine r_aload_n (pc := 29) (a := 0) (i := 0) 0 rfl rfl dX4_readSheets_29 ?_
            refine r_callV (pc := 30) (st := []) (As := []) (D2 := 6) okX4_readSheet (by decide) (by decide) rfl rfl rfl (Nat.le_of_ble_eq_true rfl) km_X4_91 (kX4_readSheet X hA1 hR1 hG1 (by omega) (by omega)) dX4_readSheets_30 ?_
            rintro _ J2 ⟨rfl, g2, g3, g4⟩
            rw [ps_eta ht] at g3 g4
            rw [ps_eta ht]
            refine r_if_ne (pc := 33) 38 rg_bI dX4_readSheets_33 (by decide) (fun h33 => ?_) (fun h33 => ?_)
            · skip
              have h33 := bI_n.mp h33
              have hse := pSheet_e (L := L) (c := c) (f := t.1) hG1 (by omega) (by rw [ps_eta ht]; exact h33)
              rw [ps_eta ht] at hse
              refine r_iinc (pc := 38) 1 [(1, iv (d + 1)), (0, rv X 18)] rfl (by decide) rfl dX4_readSheets_38 ?_
              refine r_goto (pc := 41) 2 dX4_readSheets_41 (by decide) ?_
              refine r_lv [1, 0] [(0, rv X 18), (1, iv (d + 1))] rfl ?_
              exact ih2 J2 (pSheet c L t) (d + 1) (by omega) (by omega) (by omega) (h33) (g3.1 h33) (g4 h33) (hse.1) (by rw [hse.2.2]; omega) (by rw [hse.2.1]; exact hT0) (by rw [← hP, pSh_t (by omega) ⟨ht, h14⟩, show 13 - (d + 1) = 13 - d - 1 by omega]) (fun a x y => (g2 a x y).trans (hfr a x y))
            · skip
              have h33 := bI_0.mp h33
              refine r_iconst (pc := 36) dX4_readSheets_36 ?_
              refine r_zret (pc := 37) (st := []) rfl (rfl) dX4_readSheets_37 ?_
              rw [← hP, pSh_x (by omega) ht h14 h33, pA3_x h33]
              exact ⟨congrArg (fun q => some (iv q)) (bI_f h33).symm, fun a x y => (g2 a x y).trans (hfr a x y), g3, fun e => absurd e h33⟩
          · skip
            refine r_aload_n (pc := 23) (a := 0) (i := 0) 0 rfl rfl dX4_readSheets_23 ?_
            refine r_iconst (pc := 24) dX4_readSheets_24 ?_
            refine r_callVi (pc := 25) (st := []) (As := [iv 3]) (D2 := 0) okX4_fail (by decide) (by decide) rfl rfl rfl (Nat.le_of_ble_eq_true rfl) km_X4_66 (kX4_fail X) dX4_readSheets_25 ?_
            refine r_zret (pc := 28) (st := []) rfl (rfl) dX4_readSheets_28 ?_
            have e5 : pSheet c L t = (t.1, t.2.1, 3) := by have := pSheet_12 (c := c) (L := L) (f := t.1) (F := t.2.1) (by omega); rw [ps_eta ht] at this; exact this
            have e6 : ¬ (pSheet c L t).2.2 = 0 := by rw [e5]; exact (show ¬ (3 : Int) = 0 by decide)
            rw [← hP, pSh_x (by omega) ht h14 e6, pA3_x e6, e5]
            exact ⟨congrArg (fun q => some (iv q)) (bI_f (show ¬ (3 : Int) = 0 by decide)).symm, fun a x y => (up_row x).trans (hfr a x y), CS.f (show ¬ (3 : Int) = 0 by decide) ((up_i (by decide)).trans hA1.2.2.2.2.1) up_s, fun e => absurd (show (3 : Int) = 0 from e) (by decide)⟩
  refine r_lv [1, 0] [(0, rv X 18), (1, iv 0)] rfl ?_
  exact at2 _ I (f, F, 0) 0 (Nat.lt_succ_self _) (by omega) (by omega) (rfl) (hA) (hR) (hG) (hF1) (hF0) (rfl) (fun _ _ _ => rfl)

set_option maxRecDepth 100000 in
set_option maxHeartbeats 800000 in
theorem kX4_read (X : XC) {I : HD} {c : Int → Int} {L : Int} (hT : TC I c L) : Cl X 8 mX4_read [rv X 18] I (fun r J => r = some (iv (bI ((pAll c L).2.2 = 0))) ∧ frD I J ∧ ((pAll c L).2.2 = 0 → RepC (pAll c L).2.1 J 1) ∧ (¬ (pAll c L).2.2 = 0 → J 18 3 = (pAll c L).1 ∧ J 18 7 = (pAll c L).2.2)) := by
  refine Cl.of (by decide) (Nat.le_of_ble_eq_true rfl) ?_
  show Rn X 8 mX4_read _ 0 [(0, rv X 18)] [] I
  have oe : oH 1 = 54 := rfl
  have hL0 := hT.2.1
  refine r_aload_n (pc := 0) (a := 0) (i := 0) 0 rfl rfl dX4_read_0 ?_
  refine r_get (pc := 1) ckX4 (by decide) rfl (j := 1) (by decide) rfl kf_X4_21 dX4_read_1 ?_
  refine r_callVv (pc := 4) (st := []) (As := []) (D2 := 0) okX3_clear (by decide) (oH_lt (show 1 < 28 by decide)) (cellO (show 1 < 28 by decide)) rfl rfl (Nat.le_of_ble_eq_true rfl) km_X4_44 (kX3_clear X (o := 1) (by decide)) dX4_read_4 ?_
  refine r_aload_n (pc := 7) (a := 0) (i := 0) 0 rfl rfl dX4_read_7 ?_
  refine r_iconst (pc := 8) dX4_read_8 ?_
  refine r_put (pc := 9) 4 (ji := 4) rfl ckX4 (by decide) rfl rfl (by decide) (Nat.le_of_ble_eq_true rfl) kf_X4_32 rfl rfl rfl rfl dX4_read_9 ?_
  refine r_aload_n (pc := 12) (a := 0) (i := 0) 0 rfl rfl dX4_read_12 ?_
  refine r_callV (pc := 13) (st := []) (As := []) (D2 := 1) okX4_step (by decide) (by decide) rfl rfl rfl (Nat.le_of_ble_eq_true rfl) km_X4_47 (kX4_step X (c := c) (L := L) (p := 0) (hT.fr ((up_row (by decide)).trans ((up_row (by decide)).trans ((up_row (by decide)).trans ((up_row (by decide)).trans (up_row (by decide)))))) ((up_row (by decide)).trans ((up_row (by decide)).trans ((up_row (by decide)).trans ((up_row (by decide)).trans (up_row (by decide))))))) up_s (by omega) (by omega)) dX4_read_13 ?_
  rintro _ J1 ⟨rfl, hst⟩
  have hf0 : ∀ a, a ≠ 18 → a ≠ oH 1 → J1 a = I a := fun a x y => (hst.1.1 a x).trans ((up_row x).trans ((up_row y).trans ((up_row y).trans ((up_row y).trans (up_row y)))))
  have hT1 : TC J1 c L := hT.fr (hf0 19 (by decide) (by decide)) (hf0 20 (by decide) (by decide))
  have A0 : atC J1 c L (tkF c L 0) := ⟨hT1, by have := tkF_r (c := c) (L := L) (p := 0) (by omega); omega, (tkF_r (c := c) (L := L) (p := 0) (by omega)).2, hst.2.1, hst.2.2.1, hst.2.2.2.1, hst.2.2.2.2⟩
  refine r_aload_n (pc := 16) (a := 0) (i := 0) 0 rfl rfl dX4_read_16 ?_
  refine r_callV (pc := 17) (st := []) (As := []) (D2 := 5) okX4_readWind (by decide) (by decide) rfl rfl rfl (Nat.le_of_ble_eq_true rfl) km_X4_50 (kX4_readWind X A0) dX4_read_17 ?_
  rintro _ J2 ⟨rfl, g2, g3, g4⟩
  have g3 : CS J2 c L (pA1 c L) := g3
  have g4 : (pA1 c L).2.2 = 0 → ∀ j, 0 ≤ j → j < 12 → J2 (oH 1 + 1) j = (pA1 c L).2.1 (3 + j) := g4
  show Rn X 8 mX4_read _ 20 _ [iv (bI ((pA1 c L).2.2 = 0))] J2
  have hf1 : frD I J2 := fun a x y => (g2 a x (by omega)).trans (hf0 a x (by omega))
  refine r_if_eq (pc := 20) 41 rg_bI dX4_read_20 (by decide) (fun h20 => ?_) (fun h20 => ?_)
  · skip
    have h20 := bI_0.mp h20
    refine r_iconst (pc := 41) dX4_read_41 ?_
    refine r_zret (pc := 42) (st := []) rfl (rfl) dX4_read_42 ?_
    rw [pAll_1 h20]
    exact ⟨congrArg (fun q => some (iv q)) (bI_f h20).symm, hf1, fun e => absurd e h20, g3.2⟩
  · skip
    have h20 := bI_n.mp h20
    obtain ⟨G1, Z0, Y1, _⟩ := pWind_F h20
    have e54 : ∀ j, (j = 8 ∨ j = 9 ∨ j = 10 ∨ j = 11) → J2 (oH 1) j = 0 := fun j q => by rw [g2 _ (by decide) (by decide), hst.1.1 _ (by decide), up_row (by decide)]; exact clr_0 q
    have R1 : RepC (pA1 c L).2.1 J2 1 := RepC.w0 G1 Z0 Y1 e54 (g4 h20)
    refine r_aload_n (pc := 23) (a := 0) (i := 0) 0 rfl rfl dX4_read_23 ?_
    refine r_callV (pc := 24) (st := []) (As := []) (D2 := 5) okX4_readDesks (by decide) (by decide) rfl rfl rfl (Nat.le_of_ble_eq_true rfl) km_X4_54 (kX4_readDesks X (g3.1 h20) R1 G1 Z0) dX4_read_24 ?_
    rintro _ J3 ⟨rfl, m2, m3, m4⟩
    rw [ps_eta h20] at m3 m4
    rw [ps_eta h20]
    refine r_if_eq (pc := 27) 41 rg_bI dX4_read_27 (by decide) (fun h27 => ?_) (fun h27 => ?_)
    · skip
      have h27 := bI_0.mp h27
      refine r_iconst (pc := 41) dX4_read_41 ?_
      refine r_zret (pc := 42) (st := []) rfl (rfl) dX4_read_42 ?_
      rw [pAll_2 h27]
      exact ⟨congrArg (fun q => some (iv q)) (bI_f h27).symm, fun a x y => (m2 a x y).trans (hf1 a x y), fun e => absurd e h27, m3.2⟩
    · skip
      have h27 := bI_n.mp h27
      obtain ⟨G2, Z2, Y2⟩ := pA2_e h20 G1 Z0 h27
      have Z1 : (pA2 c L (pA1 c L)).2.1 1 = 0 := Y2.trans Y1
      refine r_aload_n (pc := 30) (a := 0) (i := 0) 0 rfl rfl dX4_read_30 ?_
      refine r_callV (pc := 31) (st := []) (As := []) (D2 := 7) okX4_readSheets (by decide) (by decide) rfl rfl rfl (Nat.le_of_ble_eq_true rfl) km_X4_57 (kX4_readSheets X (m3.1 h27) (m4 h27) G2 Z1 Z2) dX4_read_31 ?_
      rintro _ J4 ⟨rfl, n2, n3, n4⟩
      rw [ps_eta h27] at n3 n4
      rw [ps_eta h27]
      have n3 : CS J4 c L (pAll c L) := n3
      have n4 : (pAll c L).2.2 = 0 → RepC (pAll c L).2.1 J4 1 := n4
      show Rn X 8 mX4_read _ 34 _ [iv (bI ((pAll c L).2.2 = 0))] J4
      refine r_if_eq (pc := 34) 41 rg_bI dX4_read_34 (by decide) (fun h34 => ?_) (fun h34 => ?_)
      · skip
        have h34 := bI_0.mp h34
        refine r_iconst (pc := 41) dX4_read_41 ?_
        refine r_zret (pc := 42) (st := []) rfl (rfl) dX4_read_42 ?_
        exact ⟨congrArg (fun q => some (iv q)) (bI_f h34).symm, fun a x y => (n2 a x y).trans ((m2 a x y).trans (hf1 a x y)), n4, n3.2⟩
      · skip
        have h34 := bI_n.mp h34
        refine r_iconst (pc := 37) dX4_read_37 ?_
        refine r_goto (pc := 38) 42 dX4_read_38 (by decide) ?_
        refine r_zret (pc := 42) (st := []) rfl (rfl) dX4_read_42 ?_
        exact ⟨congrArg (fun q => some (iv q)) (bI_t h34).symm, fun a x y => (n2 a x y).trans ((m2 a x y).trans (hf1 a x y)), n4, n3.2⟩

set_option maxRecDepth 100000 in
set_option maxHeartbeats 800000 in
theorem kX8_office (X : XC) {I : HD} {c : Int → Int} {L : Int} (hT : TC I c L) : Cl X 9 mX8_office [rv X 0] I (fun r J => J 19 1 = 0 ∧ (¬ (pAll c L).2.2 = 0 → r = some (iv (-1000100 - (pAll c L).1)) ∧ J 0 8 = (pAll c L).2.2 ∧ J 0 9 = I 0 9 ∧ ∀ a, a ≠ 0 → a ≠ 18 → a ≠ 19 → (a < 54 ∨ 63 ≤ a) → J a = I a) ∧ ((pAll c L).2.2 = 0 → r = some (iv ((pAll c L).2.1 0)) ∧ RepC (pAll c L).2.1 J 0 ∧ J 21 1 = 0 ∧ J 21 2 = 0 ∧ ∀ a, a ≠ 18 → a ≠ 19 → a ≠ 21 → (a < 45 ∨ 63 ≤ a) → J a = I a)) := by
  refine Cl.of (by decide) (Nat.le_of_ble_eq_true rfl) ?_
  show Rn X 9 mX8_office _ 0 [(0, rv X 0)] [] I
  have oe : ∀ x, oH x = 45 + 9 * x := fun _ => rfl
  refine r_aload_n (pc := 0) (a := 0) (i := 0) 0 rfl rfl dX8_office_0 ?_
  refine r_get (pc := 1) ckX8 (by decide) rfl (j := 1) (by decide) rfl kf_X8_18 dX8_office_1 ?_
  refine r_callV (pc := 4) (st := []) (As := []) (D2 := 8) okX4_read (by decide) (by decide) rfl rfl rfl (Nat.le_of_ble_eq_true rfl) km_X8_131 (kX4_read X hT) dX8_office_4 ?_
  rintro _ J1 ⟨rfl, g2, g3, g4⟩
  refine r_istore_n (pc := 7) (a := 1) (i := 1) rfl [(1, iv (bI ((pAll c L).2.2 = 0))), (0, rv X 0)] (by decide) rfl dX8_office_7 ?_
  refine r_aload_n (pc := 8) (a := 0) (i := 0) 1 rfl rfl dX8_office_8 ?_
  refine r_get (pc := 9) ckX8 (by decide) rfl (j := 1) (by decide) rfl kf_X8_18 dX8_office_9 ?_
  refine r_getN (pc := 12) ckX4 (by decide) rfl (j := 0) (by decide) rfl kf_X8_116 dX8_office_12 ?_
  refine r_iconst (pc := 15) dX8_office_15 ?_
  refine r_putN (pc := 16) 1 (ji := 1) rfl ckX7 (by decide) rfl rfl (by decide) (Nat.le_of_ble_eq_true rfl) kf_X8_130 rfl rfl rfl rfl dX8_office_16 ?_
  refine r_iload_n (pc := 19) (a := 1) (i := 1) 0 rfl rfl dX8_office_19 ?_
  refine r_if_ne (pc := 20) 45 rg_bI dX8_office_20 (by decide) (fun h20 => ?_) (fun h20 => ?_)
  · skip
    have h20 := bI_n.mp h20
    refine r_aload_n (pc := 45) (a := 0) (i := 0) 1 rfl rfl dX8_office_45 ?_
    refine r_get (pc := 46) ckX8 (by decide) rfl (j := 2) (by decide) rfl kf_X8_25 dX8_office_46 ?_
    refine r_aload_n (pc := 49) (a := 0) (i := 0) 1 rfl rfl dX8_office_49 ?_
    refine r_get (pc := 50) ckX8 (by decide) rfl (j := 1) (by decide) rfl kf_X8_18 dX8_office_50 ?_
    refine r_getN (pc := 53) ckX4 (by decide) rfl (j := 1) (by decide) rfl kf_X8_141 dX8_office_53 ?_
    refine r_callV (pc := 56) (st := []) (As := [rv X (oH 1)]) (D2 := 1) okX3_takeOver (by decide) (oH_lt (show 0 < 28 by decide)) (cellO (show 0 < 28 by decide)) rfl rfl (Nat.le_of_ble_eq_true rfl) km_X8_144 (kX3_takeOver X (s := 1) (t := 0) (by decide) (by decide) (by decide)) dX8_office_56 ?_
    rintro _ J2 ⟨rfl, m2, m3⟩
    refine r_aload_n (pc := 59) (a := 0) (i := 0) 1 rfl rfl dX8_office_59 ?_
    refine r_get (pc := 60) ckX8 (by decide) rfl (j := 3) (by decide) rfl kf_X8_32 dX8_office_60 ?_
    refine r_callVv (pc := 63) (st := []) (As := []) (D2 := 0) okX0_forget (by decide) (by decide) rfl rfl rfl (Nat.le_of_ble_eq_true rfl) km_X8_148 (kX0_forget X) dX8_office_63 ?_
    obtain ⟨hG, hF1⟩ := pAll_e h20
    have RR : RepC (pAll c L).2.1 (up (up J2 21 1 0) 21 2 0) 0 := RepC.of hG.1 (RepC.fr (g3 h20) (fun a x y => up_row (by rw [oe] at x; omega))) ((m3.up (Or.inl (by decide))).up (Or.inl (by decide)))
    refine r_aload_n (pc := 66) (a := 0) (i := 0) 1 rfl rfl dX8_office_66 ?_
    refine r_get (pc := 67) ckX8 (by decide) rfl (j := 2) (by decide) rfl kf_X8_25 dX8_office_67 ?_
    refine r_getN (pc := 70) ckX3 (oH_lt (show 0 < 28 by decide)) (cellO (show 0 < 28 by decide)) (j := 8) (by decide) (congrArg (fun q => some (iv q)) RR.f0) kf_X8_151 dX8_office_70 ?_
    refine r_iret (pc := 73) (st := []) rfl dX8_office_73 ?_
    exact ⟨(congrFun ((up_row (by decide)).trans ((up_row (by decide)).trans (m2 19 (by rw [oe]; omega)))) _).trans up_s, fun e => absurd h20 e, fun _ => ⟨rfl, RR, (up_i (by decide)).trans up_s, up_s, fun a x y z w => (up_row z).trans ((up_row z).trans ((m2 a (by rw [oe]; omega)).trans ((up_row y).trans (g2 a x (by omega)))))⟩⟩
  · skip
    have h20 := bI_0.mp h20
    refine r_aload_n (pc := 23) (a := 0) (i := 0) 1 rfl rfl dX8_office_23 ?_
    refine r_aload_n (pc := 24) (a := 0) (i := 0) 1 rfl rfl dX8_office_24 ?_
    refine r_get (pc := 25) ckX8 (by decide) rfl (j := 1) (by decide) rfl kf_X8_18 dX8_office_25 ?_
    refine r_getN (pc := 28) ckX4 (by decide) rfl (j := 7) (by decide) (congrArg (fun q => some (iv q)) ((congrFun (up_row (by decide)) _).trans (g4 h20).2)) kf_X8_134 dX8_office_28 ?_
    refine r_put (pc := 31) 8 (ji := 8) rfl ckX8 (by decide) rfl rfl (by decide) (Nat.le_of_ble_eq_true rfl) kf_X8_61 rfl rfl rfl rfl dX8_office_31 ?_
    refine r_ldc (pc := 34) kc_X8_137 dX8_office_34 ?_
    refine r_aload_n (pc := 36) (a := 0) (i := 0) 1 rfl rfl dX8_office_36 ?_
    refine r_get (pc := 37) ckX8 (by decide) rfl (j := 1) (by decide) rfl kf_X8_18 dX8_office_37 ?_
    refine r_getN (pc := 40) ckX4 (by decide) rfl (j := 3) (by decide) (congrArg (fun q => some (iv q)) ((congrFun (up_row (by decide)) _).trans ((congrFun (up_row (by decide)) _).trans (g4 h20).1))) kf_X8_138 dX8_office_40 ?_
    refine r_isub (pc := 43) dX8_office_43 ?_
    refine r_iret (pc := 44) (st := []) rfl dX8_office_44 ?_
    exact ⟨(congrFun (up_row (by decide)) _).trans up_s, fun _ => ⟨rfl, up_s, (up_i (by decide)).trans ((congrFun (up_row (by decide)) _).trans (congrFun (g2 0 (by decide) (by omega)) _)), fun a x y z w => (up_row x).trans ((up_row z).trans (g2 a y w))⟩, fun e => absurd e h20⟩
