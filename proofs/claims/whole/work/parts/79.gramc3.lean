set_option maxRecDepth 100000 in
set_option maxHeartbeats 800000 in
theorem kX4_readDesk (X : XC) {I : HD} {c : Int → Int} {L f : Int} (hA : atC I c L f) {F : OF} (hR : RepC F I 1) (hG : GD F) (h4 : F 0 < 4) : Cl X 3 mX4_readDesk [rv X 18] I (fun r J => r = some (iv (bI ((pDesk c L (f, F, 0)).2.2 = 0))) ∧ frD I J ∧ CS J c L (pDesk c L (f, F, 0)) ∧ ((pDesk c L (f, F, 0)).2.2 = 0 → RepC (pDesk c L (f, F, 0)).2.1 J 1)) := by
  refine Cl.of (by decide) (Nat.le_of_ble_eq_true rfl) ?_
  show Rn X 3 mX4_readDesk _ 0 [(0, rv X 18)] [] I
  obtain ⟨hT, hf0, hf1, a2, a3, a4, a5⟩ := id hA
  have hL5 := hT.2.2.1
  have hkr := tkK_r (c := c) (L := L) (f := f)
  have hnr := tkN_r (c := c) (L := L) (f := f) hf1
  have v0 := hG.1.a
  have oe : oH 1 = 54 := rfl
  have h4n : ¬ F 0 = 4 := by omega
  refine r_aload_n (pc := 0) (a := 0) (i := 0) 0 rfl rfl dX4_readDesk_0 ?_
  refine r_callV (pc := 1) (st := []) (As := []) (D2 := 1) okX4_step (by decide) (by decide) rfl rfl rfl (Nat.le_of_ble_eq_true rfl) km_X4_47 (kX4_step X (c := c) (L := L) (p := tkN c L f) hT a4 (by omega) (by omega)) dX4_readDesk_1 ?_
  rintro _ J1 ⟨rfl, hst⟩
  have A0 : atC J1 c L (nxt c L f) := atC.st (p := tkN c L f) hT (by omega) (by omega) hst
  refine r_aload_n (pc := 4) (a := 0) (i := 0) 0 rfl rfl dX4_readDesk_4 ?_
  refine r_iconst (pc := 5) dX4_readDesk_5 ?_
  refine r_bipush (pc := 6) rfl dX4_readDesk_6 ?_
  refine r_callV (pc := 8) (st := []) (As := [iv 1, iv 9]) (D2 := 2) okX4_takeNumber (by decide) (by decide) rfl rfl rfl (Nat.le_of_ble_eq_true rfl) km_X4_70 (kX4_takeNumber X A0 (F := F) (lo := 1) (hi := 9) (by unfold rg; omega) (by unfold rg; omega)) dX4_readDesk_8 ?_
  rintro _ J2 ⟨rfl, g2, g3, g4⟩
  refine r_if_ne (pc := 11) 16 rg_bI dX4_readDesk_11 (by decide) (fun h11 => ?_) (fun h11 => ?_)
  · skip
    have h11 := bI_n.mp h11
    obtain ⟨_, k1, r1, q1⟩ := pNm_e h11
    have A1 : atC J2 c L (nxt c L (nxt c L f)) := by have := g3.1 h11; rw [q1] at this; exact this
    refine r_aload_n (pc := 16) (a := 0) (i := 0) 0 rfl rfl dX4_readDesk_16 ?_
    refine r_get (pc := 17) ckX4 (by decide) rfl (j := 6) (by decide) (congrArg (fun q => some (iv q)) (g4 h11)) kf_X4_38 dX4_readDesk_17 ?_
    refine r_istore_n (pc := 20) (a := 1) (i := 1) rfl [(1, iv (tkV c L (nxt c L f))), (0, rv X 18)] (by decide) rfl dX4_readDesk_20 ?_
    refine r_aload_n (pc := 21) (a := 0) (i := 0) 1 rfl rfl dX4_readDesk_21 ?_
    refine r_iconst (pc := 22) dX4_readDesk_22 ?_
    refine r_iconst (pc := 23) dX4_readDesk_23 ?_
    refine r_callV (pc := 24) (st := []) (As := [iv 0, iv 3]) (D2 := 2) okX4_takeNumber (by decide) (by decide) rfl rfl rfl (Nat.le_of_ble_eq_true rfl) km_X4_70 (kX4_takeNumber X A1 (F := F) (lo := 0) (hi := 3) (by unfold rg; omega) (by unfold rg; omega)) dX4_readDesk_24 ?_
    rintro _ J3 ⟨rfl, m2, m3, m4⟩
    refine r_if_ne (pc := 27) 32 rg_bI dX4_readDesk_27 (by decide) (fun h27 => ?_) (fun h27 => ?_)
    · skip
      have h27 := bI_n.mp h27
      obtain ⟨_, k2, r2, q2⟩ := pNm_e h27
      have A2 : atC J3 c L (nxt c L (nxt c L (nxt c L f))) := by have := m3.1 h27; rw [q2] at this; exact this
      refine r_aload_n (pc := 32) (a := 0) (i := 0) 1 rfl rfl dX4_readDesk_32 ?_
      refine r_get (pc := 33) ckX4 (by decide) rfl (j := 1) (by decide) rfl kf_X4_21 dX4_readDesk_33 ?_
      refine r_iload_n (pc := 36) (a := 1) (i := 1) 0 rfl rfl dX4_readDesk_36 ?_
      refine r_aload_n (pc := 37) (a := 0) (i := 0) 1 rfl rfl dX4_readDesk_37 ?_
      refine r_get (pc := 38) ckX4 (by decide) rfl (j := 6) (by decide) (congrArg (fun q => some (iv q)) (m4 h27)) kf_X4_38 dX4_readDesk_38 ?_
      refine r_callV (pc := 41) (st := []) (As := [iv (tkV c L (nxt c L f)), iv (tkV c L (nxt c L (nxt c L f)))]) (D2 := 0) okX3_furnish (by decide) (oH_lt (show 1 < 28 by decide)) (cellO (show 1 < 28 by decide)) rfl rfl (Nat.le_of_ble_eq_true rfl) km_X4_85 (kX3_furnish X (by decide) (hR.fr (fun a x y => (m2 a (by omega)).trans ((g2 a (by omega)).trans (hst.1.1 a (by omega))))) hG h4 (r := tkV c L (nxt c L f)) (t := tkV c L (nxt c L (nxt c L f)))) dX4_readDesk_41 ?_
      rintro _ J4 ⟨rfl, u2, u3⟩
      have A3 := A2.fr (u2 18 (by omega)) (u2 19 (by omega)) (u2 20 (by omega))
      refine r_aload_n (pc := 44) (a := 0) (i := 0) 1 rfl rfl dX4_readDesk_44 ?_
      refine r_callV (pc := 45) (st := []) (As := []) (D2 := 2) okX4_takeSemicolon (by decide) (by decide) rfl rfl rfl (Nat.le_of_ble_eq_true rfl) km_X4_77 (kX4_takeSemicolon X A3 (F := F)) dX4_readDesk_45 ?_
      rintro _ J5 ⟨rfl, w2, w3⟩
      have eD := pDesk_c h4n q1 q2
      refine r_zret (pc := 48) (st := []) rfl (nar_bI) dX4_readDesk_48 ?_
      have hfr : frD I J5 := fun a x y => (w2 a x).trans ((u2 a (by omega)).trans ((m2 a x).trans ((g2 a x).trans (hst.1.1 a x))))
      by_cases e3 : (pSm c L (nxt c L (nxt c L (nxt c L f)), F, 0)).2.2 = 0
      · rw [eD, if_pos e3]
        exact ⟨congrArg (fun q => some (iv q)) ((bI_t e3).trans (bI_t (show (0 : Int) = 0 from rfl)).symm), hfr, CS.t rfl (w3.1 e3), fun _ => RepC.fr u3 (fun a x y => w2 a (by omega))⟩
      · rw [eD, if_neg e3]
        exact ⟨rfl, hfr, w3, fun e => absurd e e3⟩
    · skip
      have h27 := bI_0.mp h27
      refine r_iconst (pc := 30) dX4_readDesk_30 ?_
      refine r_zret (pc := 31) (st := []) rfl (rfl) dX4_readDesk_31 ?_
      rw [pDesk_b h4n q1 h27]
      exact ⟨congrArg (fun q => some (iv q)) (bI_f h27).symm, fun a x y => (m2 a x).trans ((g2 a x).trans (hst.1.1 a x)), m3, fun e => absurd e h27⟩
  · skip
    have h11 := bI_0.mp h11
    refine r_iconst (pc := 14) dX4_readDesk_14 ?_
    refine r_zret (pc := 15) (st := []) rfl (rfl) dX4_readDesk_15 ?_
    rw [pDesk_a h4n h11]
    exact ⟨congrArg (fun q => some (iv q)) (bI_f h11).symm, fun a x y => (g2 a x).trans (hst.1.1 a x), g3, fun e => absurd e h11⟩

set_option maxRecDepth 100000 in
set_option maxHeartbeats 800000 in
theorem kX4_readDesks (X : XC) {I : HD} {c : Int → Int} {L f : Int} (hA : atC I c L f) {F : OF} (hR : RepC F I 1) (hG : GD F) (hF0 : F 0 = 0) : Cl X 5 mX4_readDesks [rv X 18] I (fun r J => r = some (iv (bI ((pA2 c L (f, F, 0)).2.2 = 0))) ∧ frD I J ∧ CS J c L (pA2 c L (f, F, 0)) ∧ ((pA2 c L (f, F, 0)).2.2 = 0 → RepC (pA2 c L (f, F, 0)).2.1 J 1)) := by
  refine Cl.of (by decide) (Nat.le_of_ble_eq_true rfl) ?_
  show Rn X 5 mX4_readDesks _ 0 [(0, rv X 18)] [] I
  obtain ⟨hT, hf0, hf1, a2, a3, a4, a5⟩ := id hA
  have hL5 := hT.2.2.1
  have hkr := tkK_r (c := c) (L := L) (f := f)
  have hnr := tkN_r (c := c) (L := L) (f := f) hf1
  refine r_aload_n (pc := 0) (a := 0) (i := 0) 0 rfl rfl dX4_readDesks_0 ?_
  refine r_ldcS (pc := 1) 1 (by decide) (by rfl) rfl dX4_readDesks_1 ?_
  refine r_callVi (pc := 3) (st := []) (As := [.ref (X.2.2.2.2 (10 + 1))]) (D2 := 4) okX4_isWord (by decide) (by decide) rfl rfl rfl (Nat.le_of_ble_eq_true rfl) km_X4_62 (kX4_isWord X hA (i := 1) (by decide)) dX4_readDesks_3 ?_
  refine r_if_ne (pc := 6) 15 rg_bI dX4_readDesks_6 (by decide) (fun h6 => ?_) (fun h6 => ?_)
  · skip
    have h6 := bI_n.mp h6
    refine r_iconst (pc := 15) dX4_readDesks_15 ?_
    refine r_istore_n (pc := 16) (a := 1) (i := 1) rfl [(1, iv 0), (0, rv X 18)] (by decide) rfl dX4_readDesks_16 ?_
    have at17 : ∀ (n17 : Nat) (J : HD) (t : Ps) (d : Int), (5 - d).toNat < n17 → (hd0 : 0 ≤ d) → (hd1 : d ≤ 4) → (ht : t.2.2 = 0) → (hA1 : atC J c L t.1) → (hR1 : RepC t.2.1 J 1) → (hG1 : GD t.2.1) → (hF1 : t.2.1 0 = d) → (hP : pDs c L (5 - d).toNat t = pA2 c L (f, F, 0)) → (hfr : frD I J) → Rn X 5 mX4_readDesks (fun r J => r = some (iv (bI ((pA2 c L (f, F, 0)).2.2 = 0))) ∧ frD I J ∧ CS J c L (pA2 c L (f, F, 0)) ∧ ((pA2 c L (f, F, 0)).2.2 = 0 → RepC (pA2 c L (f, F, 0)).2.1 J 1)) 17 [(0, rv X 18), (1, iv d)] [] J := by
      intro n17
      induction n17 with
      | zero => intro J t d hm; omega
      | succ n17 ih17 =>
        intro J t d hm17 hd0 hd1 ht hA1 hR1 hG1 hF1 hP hfr
        refine r_iload_n (pc := 17) (a := 1) (i := 1) 1 rfl rfl dX4_readDesks_17 ?_
        refine r_iconst (pc := 18) dX4_readDesks_18 ?_
        refine r_icmp_gt (pc := 19) 57 (by unfold rg; omega) (by unfold rg; omega) dX4_readDesks_19 (by decide) (fun h19 => ?_) (fun h19 => ?_)
        · exact absurd h19 (by omega)
        · skip
          refine r_aload_n (pc := 22) (a := 0) (i := 0) 0 rfl rfl dX4_readDesks_22 ?_
          refine r_ldcS (pc := 23) 1 (by decide) (by rfl) rfl dX4_readDesks_23 ?_
          refine r_callVi (pc := 25) (st := []) (As := [.ref (X.2.2.2.2 (10 + 1))]) (D2 := 4) okX4_isWord (by decide) (by decide) rfl rfl rfl (Nat.le_of_ble_eq_true rfl) km_X4_62 (kX4_isWord X hA1 (i := 1) (by decide)) dX4_readDesks_25 ?_
          refine r_if_eq (pc := 28) 57 rg_bI dX4_readDesks_28 (by decide) (fun h28 => ?_) (fun h28 => ?_)
          · skip
            have h28 := bI_0.mp h28
            refine r_iconst (pc := 57) dX4_readDesks_57 ?_
            refine r_zret (pc := 58) (st := []) rfl (rfl) dX4_readDesks_58 ?_
            rw [← hP, pDs_f (fun q => h28 q.2)]
            exact ⟨congrArg (fun q => some (iv q)) (bI_t ht).symm, hfr, CS.t ht hA1, fun _ => hR1⟩
          · skip
            have h28 := bI_n.mp h28
            refine r_iload_n (pc := 31) (a := 1) (i := 1) 1 rfl rfl dX4_readDesks_31 ?_
            refine r_iconst (pc := 32) dX4_readDesks_32 ?_
            refine r_icmp_ne (pc := 33) 42 (by unfold rg; omega) (by unfold rg; omega) dX4_readDesks_33 (by decide) (fun h33 => ?_) (fun h33 => ?_)
            · skip
              refine r_aload_n (pc := 42) (a := 0) (i := 0) 0 rfl rfl dX4_readDesks_42 ?_
              refine r_callV (pc := 43) (st := []) (As := []) (D2 := 3) okX4_readDesk (by decide) (by decide) rfl rfl rfl (Nat.le_of_ble_eq_true rfl) km_X4_82 (kX4_readDesk X hA1 hR1 hG1 (by omega)) dX4_readDesks_43 ?_
              rintro _ J2 ⟨rfl, g2, g3, g4⟩
              rw [ps_eta ht] at g3 g4
              rw [ps_eta ht]
              refine r_if_ne (pc := 46) 51 rg_bI dX4_readDesks_46 (by decide) (fun h46 => ?_) (fun h46 => ?_)
              · skip
                have h46 := bI_n.mp h46
                refine r_iinc (pc := 51) 1 [(1, iv (d + 1)), (0, rv X 18)] rfl (by decide) rfl dX4_readDesks_51 ?_
                refine r_goto (pc := 54) 17 dX4_readDesks_54 (by decide) ?_
                refine r_lv [1, 0] [(0, rv X 18), (1, iv (d + 1))] rfl ?_
                exact ih17 J2 (pDesk c L t) (d + 1) (by omega) (by omega) (by have := pDesk_e (L := L) (c := c) (f := t.1) hG1 (by rw [ps_eta ht]; exact h46); rw [ps_eta ht] at this; have := this.1.1.a; omega) (h46) (g3.1 h46) (g4 h46) (by have := pDesk_e (L := L) (c := c) (f := t.1) hG1 (by rw [ps_eta ht]; exact h46); rw [ps_eta ht] at this; exact this.1) (by have := pDesk_e (L := L) (c := c) (f := t.1) hG1 (by rw [ps_eta ht]; exact h46); rw [ps_eta ht] at this; omega) (by rw [← hP, pDs_t (by omega) ⟨ht, h28⟩, show 5 - (d + 1) = 5 - d - 1 by omega]) (fun a x y => (g2 a x y).trans (hfr a x y))
              · skip
                have h46 := bI_0.mp h46
                refine r_iconst (pc := 49) dX4_readDesks_49 ?_
                refine r_zret (pc := 50) (st := []) rfl (rfl) dX4_readDesks_50 ?_
                rw [← hP, pDs_x (by omega) ht h28 h46]
                exact ⟨congrArg (fun q => some (iv q)) (bI_f h46).symm, fun a x y => (g2 a x y).trans (hfr a x y), g3, fun e => absurd e h46⟩
            · skip
              refine r_aload_n (pc := 36) (a := 0) (i := 0) 0 rfl rfl dX4_readDesks_36 ?_
              refine r_iconst (pc := 37) dX4_readDesks_37 ?_
              refine r_callVi (pc := 38) (st := []) (As := [iv 3]) (D2 := 0) okX4_fail (by decide) (by decide) rfl rfl rfl (Nat.le_of_ble_eq_true rfl) km_X4_66 (kX4_fail X) dX4_readDesks_38 ?_
              refine r_zret (pc := 41) (st := []) rfl (rfl) dX4_readDesks_41 ?_
              have e5 : pDesk c L t = (t.1, t.2.1, 3) := by have := pDesk_4 (c := c) (L := L) (f := t.1) (F := t.2.1) (by omega); rw [ps_eta ht] at this; exact this
              rw [← hP, pDs_x (by omega) ht h28 (by rw [e5]; exact (show ¬ (3 : Int) = 0 by decide)), e5]
              exact ⟨congrArg (fun q => some (iv q)) (bI_f (show ¬ (3 : Int) = 0 by decide)).symm, fun a x y => (up_row x).trans (hfr a x y), CS.f (show ¬ (3 : Int) = 0 by decide) ((up_i (by decide)).trans hA1.2.2.2.2.1) up_s, fun e => absurd (show (3 : Int) = 0 from e) (by decide)⟩
    refine r_lv [1, 0] [(0, rv X 18), (1, iv 0)] rfl ?_
    exact at17 _ I (f, F, 0) 0 (Nat.lt_succ_self _) (by omega) (by omega) (rfl) (hA) (hR) (hG) (hF0) (by rw [pA2_t h6]; rfl) (fun _ _ _ => rfl)
  · skip
    have h6 := bI_0.mp h6
    refine r_aload_n (pc := 9) (a := 0) (i := 0) 0 rfl rfl dX4_readDesks_9 ?_
    refine r_iconst (pc := 10) dX4_readDesks_10 ?_
    refine r_callVi (pc := 11) (st := []) (As := [iv 1]) (D2 := 0) okX4_fail (by decide) (by decide) rfl rfl rfl (Nat.le_of_ble_eq_true rfl) km_X4_66 (kX4_fail X) dX4_readDesks_11 ?_
    refine r_zret (pc := 14) (st := []) rfl (rfl) dX4_readDesks_14 ?_
    rw [pA2_f h6]
    exact ⟨congrArg (fun q => some (iv q)) (bI_f (show ¬ (1 : Int) = 0 by decide)).symm, fun a x _ => up_row x, CS.f (show ¬ (1 : Int) = 0 by decide) ((up_i (by decide)).trans a3) up_s, fun e => absurd (show (1 : Int) = 0 from e) (by decide)⟩

set_option maxRecDepth 100000 in
set_option maxHeartbeats 800000 in
theorem kX4_readSheet (X : XC) {I : HD} {c : Int → Int} {L f : Int} (hA : atC I c L f) {F : OF} (hR : RepC F I 1) (hG : GD F) (h1F : F 1 < 12) (h0F : 1 ≤ F 0) : Cl X 6 mX4_readSheet [rv X 18] I (fun r J => r = some (iv (bI ((pSheet c L (f, F, 0)).2.2 = 0))) ∧ frD I J ∧ CS J c L (pSheet c L (f, F, 0)) ∧ ((pSheet c L (f, F, 0)).2.2 = 0 → RepC (pSheet c L (f, F, 0)).2.1 J 1)) := by
  refine Cl.of (by decide) (Nat.le_of_ble_eq_true rfl) ?_
  show Rn X 6 mX4_readSheet _ 0 [(0, rv X 18)] [] I
  obtain ⟨hT, hf0, hf1, a2, a3, a4, a5⟩ := id hA
  have hL5 := hT.2.2.1
  have hkr := tkK_r (c := c) (L := L) (f := f)
  have hnr := tkN_r (c := c) (L := L) (f := f) hf1
  have v0 := hG.1.a
  have oe : oH 1 = 54 := rfl
  have h12 : ¬ F 1 = 12 := by omega
  have hkd := kd_r (c := c) (L := L) (f := nxt c L f)
  refine r_aload_n (pc := 0) (a := 0) (i := 0) 0 rfl rfl dX4_readSheet_0 ?_
  refine r_callV (pc := 1) (st := []) (As := []) (D2 := 1) okX4_step (by decide) (by decide) rfl rfl rfl (Nat.le_of_ble_eq_true rfl) km_X4_47 (kX4_step X (c := c) (L := L) (p := tkN c L f) hT a4 (by omega) (by omega)) dX4_readSheet_1 ?_
  rintro _ J1 ⟨rfl, hst⟩
  have A0 : atC J1 c L (nxt c L f) := atC.st (p := tkN c L f) hT (by omega) (by omega) hst
  have A0n := tkN_r (c := c) (L := L) (f := nxt c L f) A0.2.2.1
  have A0p := A0.2.1
  refine r_aload_n (pc := 4) (a := 0) (i := 0) 0 rfl rfl dX4_readSheet_4 ?_
  refine r_callVi (pc := 5) (st := []) (As := []) (D2 := 5) okX4_sortTold (by decide) (by decide) rfl rfl rfl (Nat.le_of_ble_eq_true rfl) km_X4_94 (kX4_sortTold X A0) dX4_readSheet_5 ?_
  refine r_istore_n (pc := 8) (a := 1) (i := 1) rfl [(1, iv (kd c L (nxt c L f))), (0, rv X 18)] (by decide) rfl dX4_readSheet_8 ?_
  refine r_iload_n (pc := 9) (a := 1) (i := 1) 0 rfl rfl dX4_readSheet_9 ?_
  refine r_if_ne (pc := 10) 19 (by unfold rg; omega) dX4_readSheet_10 (by decide) (fun h10 => ?_) (fun h10 => ?_)
  · skip
    refine r_aload_n (pc := 19) (a := 0) (i := 0) 1 rfl rfl dX4_readSheet_19 ?_
    refine r_callV (pc := 20) (st := []) (As := []) (D2 := 1) okX4_step (by decide) (by decide) rfl rfl rfl (Nat.le_of_ble_eq_true rfl) km_X4_47 (kX4_step X (c := c) (L := L) (p := tkN c L (nxt c L f)) A0.1 A0.2.2.2.2.2.1 (by omega) (by omega)) dX4_readSheet_20 ?_
    rintro _ J2 ⟨rfl, hst2⟩
    have B0 : atC J2 c L (nxt c L (nxt c L f)) := atC.st (p := tkN c L (nxt c L f)) A0.1 (by omega) (by omega) hst2
    have hkr2 := tkK_r (c := c) (L := L) (f := nxt c L (nxt c L f))
    have B0v := fun q => tkV_r (c := c) (L := L) (f := nxt c L (nxt c L f)) q
    have at65 : (hnr : ¬ noR c L F (nxt c L (nxt c L f))) → Rn X 6 mX4_readSheet (fun r J => r = some (iv (bI ((pSheet c L (f, F, 0)).2.2 = 0))) ∧ frD I J ∧ CS J c L (pSheet c L (f, F, 0)) ∧ ((pSheet c L (f, F, 0)).2.2 = 0 → RepC (pSheet c L (f, F, 0)).2.1 J 1)) 65 [(0, rv X 18), (1, iv (kd c L (nxt c L f)))] [] J2 := by
      intro hnr
      refine r_aload_n (pc := 65) (a := 0) (i := 0) 0 rfl rfl dX4_readSheet_65 ?_
      refine r_iconst (pc := 66) dX4_readSheet_66 ?_
      refine r_aload_n (pc := 67) (a := 0) (i := 0) 0 rfl rfl dX4_readSheet_67 ?_
      refine r_get (pc := 68) ckX4 (by decide) rfl (j := 1) (by decide) rfl kf_X4_21 dX4_readSheet_68 ?_
      refine r_getN (pc := 71) ckX3 (oH_lt (show 1 < 28 by decide)) (cellO (show 1 < 28 by decide)) (j := 8) (by decide) (congrArg (fun q => some (iv q)) (hR.fr (fun a x y => (hst2.1.1 a (by omega)).trans (hst.1.1 a (by omega)))).f0) kf_X4_104 dX4_readSheet_71 ?_
      refine r_iconst (pc := 74) dX4_readSheet_74 ?_
      refine r_isub (pc := 75) dX4_readSheet_75 ?_
      refine r_callV (pc := 76) (st := []) (As := [iv 0, iv ((F 0) - 1)]) (D2 := 2) okX4_takeNumber (by decide) (by decide) rfl rfl rfl (Nat.le_of_ble_eq_true rfl) km_X4_70 (kX4_takeNumber X B0 (F := F) (lo := 0) (hi := (F 0 - 1)) (by unfold rg; omega) (by unfold rg; omega)) dX4_readSheet_76 ?_
      rintro _ J3 ⟨rfl, g2, g3, g4⟩
      refine r_if_ne (pc := 79) 84 rg_bI dX4_readSheet_79 (by decide) (fun h79 => ?_) (fun h79 => ?_)
      · skip
        have h79 := bI_n.mp h79
        obtain ⟨_, k1, r1, q1⟩ := pNm_e h79
        have A1 : atC J3 c L (nxt c L (nxt c L (nxt c L f))) := by have := g3.1 h79; rw [q1] at this; exact this
        refine r_aload_n (pc := 84) (a := 0) (i := 0) 0 rfl rfl dX4_readSheet_84 ?_
        refine r_get (pc := 85) ckX4 (by decide) rfl (j := 6) (by decide) (congrArg (fun q => some (iv q)) (g4 h79)) kf_X4_38 dX4_readSheet_85 ?_
        refine r_istore_n (pc := 88) (a := 2) (i := 2) rfl [(2, iv (tkV c L (nxt c L (nxt c L f)))), (0, rv X 18), (1, iv (kd c L (nxt c L f)))] (by decide) rfl dX4_readSheet_88 ?_
        refine r_aload_n (pc := 89) (a := 0) (i := 0) 1 rfl rfl dX4_readSheet_89 ?_
        refine r_iconst (pc := 90) dX4_readSheet_90 ?_
        refine r_bipush (pc := 91) rfl dX4_readSheet_91 ?_
        refine r_callV (pc := 93) (st := []) (As := [iv 0, iv 99]) (D2 := 2) okX4_takeNumber (by decide) (by decide) rfl rfl rfl (Nat.le_of_ble_eq_true rfl) km_X4_70 (kX4_takeNumber X A1 (F := F) (lo := 0) (hi := 99) (by unfold rg; omega) (by unfold rg; omega)) dX4_readSheet_93 ?_
        rintro _ J4 ⟨rfl, m2, m3, m4⟩
        refine r_if_ne (pc := 96) 101 rg_bI dX4_readSheet_96 (by decide) (fun h96 => ?_) (fun h96 => ?_)
        · skip
          have h96 := bI_n.mp h96
          obtain ⟨_, k2, r2, q2⟩ := pNm_e h96
          have A2 : atC J4 c L (nxt c L (nxt c L (nxt c L (nxt c L f)))) := by have := m3.1 h96; rw [q2] at this; exact this
          refine r_aload_n (pc := 101) (a := 0) (i := 0) 1 rfl rfl dX4_readSheet_101 ?_
          refine r_get (pc := 102) ckX4 (by decide) rfl (j := 6) (by decide) (congrArg (fun q => some (iv q)) (m4 h96)) kf_X4_38 dX4_readSheet_102 ?_
          refine r_istore_n (pc := 105) (a := 3) (i := 3) rfl [(3, iv (tkV c L (nxt c L (nxt c L (nxt c L f))))), (2, iv (tkV c L (nxt c L (nxt c L f)))), (0, rv X 18), (1, iv (kd c L (nxt c L f)))] (by decide) rfl dX4_readSheet_105 ?_
          refine r_aload_n (pc := 106) (a := 0) (i := 0) 2 rfl rfl dX4_readSheet_106 ?_
          refine r_iconst (pc := 107) dX4_readSheet_107 ?_
          refine r_bipush (pc := 108) rfl dX4_readSheet_108 ?_
          refine r_callV (pc := 110) (st := []) (As := [iv 0, iv 12]) (D2 := 2) okX4_takeNumber (by decide) (by decide) rfl rfl rfl (Nat.le_of_ble_eq_true rfl) km_X4_70 (kX4_takeNumber X A2 (F := F) (lo := 0) (hi := 12) (by unfold rg; omega) (by unfold rg; omega)) dX4_readSheet_110 ?_
          rintro _ J5 ⟨rfl, n2, n3, n4⟩
          refine r_if_ne (pc := 113) 118 rg_bI dX4_readSheet_113 (by decide) (fun h113 => ?_) (fun h113 => ?_)
          · skip
            have h113 := bI_n.mp h113
            obtain ⟨_, k3, r3, q3⟩ := pNm_e h113
            have A3 : atC J5 c L (nxt c L (nxt c L (nxt c L (nxt c L (nxt c L f))))) := by have := n3.1 h113; rw [q3] at this; exact this
            have r1 : 0 ≤ tkV c L (nxt c L (nxt c L f)) ∧ tkV c L (nxt c L (nxt c L f)) ≤ F 0 - 1 := r1
            have r2 : 0 ≤ tkV c L (nxt c L (nxt c L (nxt c L f))) ∧ tkV c L (nxt c L (nxt c L (nxt c L f))) ≤ 99 := r2
            have r3 : 0 ≤ tkV c L (nxt c L (nxt c L (nxt c L (nxt c L f)))) ∧ tkV c L (nxt c L (nxt c L (nxt c L (nxt c L f)))) ≤ 12 := r3
            have hroom : F (23 + 10 * tkV c L (nxt c L (nxt c L f))) < F (15 + 2 * tkV c L (nxt c L (nxt c L f))) := Classical.byContradiction fun q => hnr ⟨k1, by omega, q⟩
            refine r_aload_n (pc := 118) (a := 0) (i := 0) 2 rfl rfl dX4_readSheet_118 ?_
            refine r_get (pc := 119) ckX4 (by decide) rfl (j := 1) (by decide) rfl kf_X4_21 dX4_readSheet_119 ?_
            refine r_iload_n (pc := 122) (a := 1) (i := 1) 3 rfl rfl dX4_readSheet_122 ?_
            refine r_iload_n (pc := 123) (a := 2) (i := 2) 1 rfl rfl dX4_readSheet_123 ?_
            refine r_iload_n (pc := 124) (a := 3) (i := 3) 0 rfl rfl dX4_readSheet_124 ?_
            refine r_aload_n (pc := 125) (a := 0) (i := 0) 2 rfl rfl dX4_readSheet_125 ?_
            refine r_get (pc := 126) ckX4 (by decide) rfl (j := 6) (by decide) (congrArg (fun q => some (iv q)) (n4 h113)) kf_X4_38 dX4_readSheet_126 ?_
            refine r_callV (pc := 129) (st := []) (As := [iv (kd c L (nxt c L f)), iv (tkV c L (nxt c L (nxt c L f))), iv (tkV c L (nxt c L (nxt c L (nxt c L f)))), iv (tkV c L (nxt c L (nxt c L (nxt c L (nxt c L f)))))]) (D2 := 2) okX3_bring (by decide) (oH_lt (show 1 < 28 by decide)) (cellO (show 1 < 28 by decide)) rfl rfl (Nat.le_of_ble_eq_true rfl) km_X4_107 (kX3_bring X (by decide) (hR.fr (fun a x y => (n2 a (by omega)).trans ((m2 a (by omega)).trans ((g2 a (by omega)).trans ((hst2.1.1 a (by omega)).trans (hst.1.1 a (by omega))))))) hG.1 (d := tkV c L (nxt c L (nxt c L f))) (q := kd c L (nxt c L f)) (w := tkV c L (nxt c L (nxt c L (nxt c L f)))) (n := tkV c L (nxt c L (nxt c L (nxt c L (nxt c L f))))) r1.1 (by omega) (by omega) hroom (by omega) r2 r3) dX4_readSheet_129 ?_
            rintro _ J6 ⟨rfl, u2, u3⟩
            have A4 := A3.fr (u2 18 (by omega)) (u2 19 (by omega)) (u2 20 (by omega))
            refine r_pop (pc := 132) rfl dX4_readSheet_132 ?_
            refine r_aload_n (pc := 133) (a := 0) (i := 0) 2 rfl rfl dX4_readSheet_133 ?_
            refine r_callV (pc := 134) (st := []) (As := []) (D2 := 2) okX4_takeSemicolon (by decide) (by decide) rfl rfl rfl (Nat.le_of_ble_eq_true rfl) km_X4_77 (kX4_takeSemicolon X A4 (F := F)) dX4_readSheet_134 ?_
            rintro _ J7 ⟨rfl, w2, w3⟩
            refine r_zret (pc := 137) (st := []) rfl (nar_bI) dX4_readSheet_137 ?_
            have eb := pSb_d q1 q2 q3
            have es := pSheet_s h12 h10 hnr
            rw [eb, q1] at es
            have hfr : frD I J7 := fun a x y => (w2 a x).trans ((u2 a (by omega)).trans ((n2 a x).trans ((m2 a x).trans ((g2 a x).trans ((hst2.1.1 a x).trans (hst.1.1 a x))))))
            by_cases e3 : (pSm c L (nxt c L (nxt c L (nxt c L (nxt c L (nxt c L f)))), F, 0)).2.2 = 0
            · rw [if_pos e3, q2] at es
              rw [es]
              exact ⟨congrArg (fun q => some (iv q)) ((bI_t e3).trans (bI_t (show (0 : Int) = 0 from rfl)).symm), hfr, CS.t rfl (w3.1 e3), fun _ => RepC.fr u3 (fun a x y => w2 a (by omega))⟩
            · rw [if_neg e3] at es
              rw [es]
              exact ⟨rfl, hfr, w3, fun e => absurd e e3⟩
          · skip
            have h113 := bI_0.mp h113
            refine r_iconst (pc := 116) dX4_readSheet_116 ?_
            refine r_zret (pc := 117) (st := []) rfl (rfl) dX4_readSheet_117 ?_
            have eb := pSb_c q1 q2 h113
            have es := pSheet_s h12 h10 hnr
            rw [es, if_neg (by rw [eb]; exact h113), eb]
            exact ⟨congrArg (fun q => some (iv q)) (bI_f h113).symm, fun a x y => (n2 a x).trans ((m2 a x).trans ((g2 a x).trans ((hst2.1.1 a x).trans (hst.1.1 a x)))), n3, fun e => absurd e h113⟩
        · skip
          have h96 := bI_0.mp h96
          refine r_iconst (pc := 99) dX4_readSheet_99 ?_
          refine r_zret (pc := 100) (st := []) rfl (rfl) dX4_readSheet_100 ?_
          have eb := pSb_b q1 h96
          have es := pSheet_s h12 h10 hnr
          rw [es, if_neg (by rw [eb]; exact h96), eb]
          exact ⟨congrArg (fun q => some (iv q)) (bI_f h96).symm, fun a x y => (m2 a x).trans ((g2 a x).trans ((hst2.1.1 a x).trans (hst.1.1 a x))), m3, fun e => absurd e h96⟩
      · skip
        have h79 := bI_0.mp h79
        refine r_iconst (pc := 82) dX4_readSheet_82 ?_
        refine r_zret (pc := 83) (st := []) rfl (rfl) dX4_readSheet_83 ?_
        have eb := pSb_a h79
        have es := pSheet_s h12 h10 hnr
        rw [es, if_neg (by rw [eb]; exact h79), eb]
        exact ⟨congrArg (fun q => some (iv q)) (bI_f h79).symm, fun a x y => (g2 a x).trans ((hst2.1.1 a x).trans (hst.1.1 a x)), g3, fun e => absurd e h79⟩
    refine r_aload_n (pc := 23) (a := 0) (i := 0) 1 rfl rfl dX4_readSheet_23 ?_
    refine r_get (pc := 24) ckX4 (by decide) rfl (j := 2) (by decide) (congrArg (fun q => some (iv q)) B0.2.2.2.1) kf_X4_25 dX4_readSheet_24 ?_
    refine r_iconst (pc := 27) dX4_readSheet_27 ?_
    refine r_icmp_ne (pc := 28) 65 (by unfold rg; omega) (by unfold rg; omega) dX4_readSheet_28 (by decide) (fun h28 => ?_) (fun h28 => ?_)
    · skip
      refine r_lv [1, 0] [(0, rv X 18), (1, iv (kd c L (nxt c L f)))] rfl ?_
      exact at65 (fun q => h28 q.1)
    · skip
      have hvr2 := tkV_r (c := c) (L := L) (f := nxt c L (nxt c L f)) (by omega)
      refine r_aload_n (pc := 31) (a := 0) (i := 0) 1 rfl rfl dX4_readSheet_31 ?_
      refine r_get (pc := 32) ckX4 (by decide) rfl (j := 1) (by decide) rfl kf_X4_21 dX4_readSheet_32 ?_
      refine r_aload_n (pc := 35) (a := 0) (i := 0) 1 rfl rfl dX4_readSheet_35 ?_
      refine r_get (pc := 36) ckX4 (by decide) rfl (j := 5) (by decide) (congrArg (fun q => some (iv q)) (B0.2.2.2.2.2.2 (by omega))) kf_X4_35 dX4_readSheet_36 ?_
      refine r_callVi (pc := 39) (st := []) (As := [iv (tkV c L (nxt c L (nxt c L f)))]) okX3_hasDesk (by decide) (oH_lt (show 1 < 28 by decide)) (cellO (show 1 < 28 by decide)) rfl rfl (Nat.le_of_ble_eq_true rfl) km_X4_98 (kX3_hasDesk X (by decide) (hR.fr (fun a x y => (hst2.1.1 a (by omega)).trans (hst.1.1 a (by omega)))) hG.1 (by unfold rg; omega)) dX4_readSheet_39 ?_
      refine r_if_eq (pc := 42) 65 rg_bI dX4_readSheet_42 (by decide) (fun h42 => ?_) (fun h42 => ?_)
      · skip
        have h42 := bI_0.mp h42
        refine r_lv [1, 0] [(0, rv X 18), (1, iv (kd c L (nxt c L f)))] rfl ?_
        exact at65 (fun q => h42 ⟨(B0v q.1).1, q.2.1⟩)
      · skip
        have h42 := bI_n.mp h42
        refine r_aload_n (pc := 45) (a := 0) (i := 0) 1 rfl rfl dX4_readSheet_45 ?_
        refine r_get (pc := 46) ckX4 (by decide) rfl (j := 1) (by decide) rfl kf_X4_21 dX4_readSheet_46 ?_
        refine r_aload_n (pc := 49) (a := 0) (i := 0) 1 rfl rfl dX4_readSheet_49 ?_
        refine r_get (pc := 50) ckX4 (by decide) rfl (j := 5) (by decide) (congrArg (fun q => some (iv q)) (B0.2.2.2.2.2.2 (by omega))) kf_X4_35 dX4_readSheet_50 ?_
        refine r_callVi (pc := 53) (st := []) (As := [iv (tkV c L (nxt c L (nxt c L f)))]) okX3_hasRoom (by decide) (oH_lt (show 1 < 28 by decide)) (cellO (show 1 < 28 by decide)) rfl rfl (Nat.le_of_ble_eq_true rfl) km_X4_101 (kX3_hasRoom X (by decide) (hR.fr (fun a x y => (hst2.1.1 a (by omega)).trans (hst.1.1 a (by omega)))) hG.1 (by omega) (by omega)) dX4_readSheet_53 ?_
        refine r_if_ne (pc := 56) 65 rg_bI dX4_readSheet_56 (by decide) (fun h56 => ?_) (fun h56 => ?_)
        · skip
          have h56 := bI_n.mp h56
          refine r_lv [1, 0] [(0, rv X 18), (1, iv (kd c L (nxt c L f)))] rfl ?_
          exact at65 (fun q => q.2.2 h56)
        · skip
          have h56 := bI_0.mp h56
          refine r_aload_n (pc := 59) (a := 0) (i := 0) 1 rfl rfl dX4_readSheet_59 ?_
          refine r_iconst (pc := 60) dX4_readSheet_60 ?_
          refine r_callVi (pc := 61) (st := []) (As := [iv 2]) (D2 := 0) okX4_fail (by decide) (by decide) rfl rfl rfl (Nat.le_of_ble_eq_true rfl) km_X4_66 (kX4_fail X) dX4_readSheet_61 ?_
          refine r_zret (pc := 64) (st := []) rfl (rfl) dX4_readSheet_64 ?_
          rw [pSheet_n h12 h10 ⟨h28, h42.2, h56⟩]
          exact ⟨congrArg (fun q => some (iv q)) (bI_f (show ¬ (2 : Int) = 0 by decide)).symm, fun a x _ => (up_row x).trans ((hst2.1.1 a x).trans (hst.1.1 a x)), CS.f (show ¬ (2 : Int) = 0 by decide) ((up_i (by decide)).trans B0.2.2.2.2.1) up_s, fun e => absurd (show (2 : Int) = 0 from e) (by decide)⟩
  · skip
    refine r_aload_n (pc := 13) (a := 0) (i := 0) 1 rfl rfl dX4_readSheet_13 ?_
    refine r_iconst (pc := 14) dX4_readSheet_14 ?_
    refine r_callVi (pc := 15) (st := []) (As := [iv 1]) (D2 := 0) okX4_fail (by decide) (by decide) rfl rfl rfl (Nat.le_of_ble_eq_true rfl) km_X4_66 (kX4_fail X) dX4_readSheet_15 ?_
    refine r_zret (pc := 18) (st := []) rfl (rfl) dX4_readSheet_18 ?_
    rw [pSheet_k h12 h10]
    exact ⟨congrArg (fun q => some (iv q)) (bI_f (show ¬ (1 : Int) = 0 by decide)).symm, fun a x _ => (up_row x).trans (hst.1.1 a x), CS.f (show ¬ (1 : Int) = 0 by decide) ((up_i (by decide)).trans A0.2.2.2.2.1) up_s, fun e => absurd (show (1 : Int) = 0 from e) (by decide)⟩
