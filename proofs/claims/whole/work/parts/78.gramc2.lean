set_option maxRecDepth 100000 in
set_option maxHeartbeats 800000 in
theorem kX4_takeNumber (X : XC) {I : HD} {c : Int → Int} {L f : Int} (hA : atC I c L f) {F : OF} {lo hi : Int} (hlo : rg lo) (hhi : rg hi) : Cl X 2 mX4_takeNumber [rv X 18, iv lo, iv hi] I (fun r J => r = some (iv (bI ((pNm c L lo hi (f, F, 0)).2.2 = 0))) ∧ fr8 I J ∧ CS J c L (pNm c L lo hi (f, F, 0)) ∧ ((pNm c L lo hi (f, F, 0)).2.2 = 0 → J 18 6 = tkV c L f)) := by
  refine Cl.of (by decide) (Nat.le_of_ble_eq_true rfl) ?_
  show Rn X 2 mX4_takeNumber _ 0 [(0, rv X 18), (1, iv lo), (2, iv hi)] [] I
  obtain ⟨hT, hf0, hf1, a2, a3, a4, a5⟩ := id hA
  have hL5 := hT.2.2.1
  have hkr := tkK_r (c := c) (L := L) (f := f)
  have hnr := tkN_r (c := c) (L := L) (f := f) hf1
  unfold rg at hlo hhi
  refine r_aload_n (pc := 0) (a := 0) (i := 0) 0 rfl rfl dX4_takeNumber_0 ?_
  refine r_get (pc := 1) ckX4 (by decide) rfl (j := 2) (by decide) (congrArg (fun q => some (iv q)) a2) kf_X4_25 dX4_takeNumber_1 ?_
  refine r_iconst (pc := 4) dX4_takeNumber_4 ?_
  refine r_icmp_eq (pc := 5) 14 (by unfold rg; omega) (by unfold rg; omega) dX4_takeNumber_5 (by decide) (fun h5 => ?_) (fun h5 => ?_)
  · skip
    have hvr := tkV_r (c := c) (L := L) (f := f) h5
    refine r_aload_n (pc := 14) (a := 0) (i := 0) 0 rfl rfl dX4_takeNumber_14 ?_
    refine r_get (pc := 15) ckX4 (by decide) rfl (j := 5) (by decide) (congrArg (fun q => some (iv q)) (a5 h5)) kf_X4_35 dX4_takeNumber_15 ?_
    refine r_iload_n (pc := 18) (a := 1) (i := 1) 1 rfl rfl dX4_takeNumber_18 ?_
    refine r_icmp_lt (pc := 19) 30 (by unfold rg; omega) (by unfold rg; omega) dX4_takeNumber_19 (by decide) (fun h19 => ?_) (fun h19 => ?_)
    · skip
      refine r_aload_n (pc := 30) (a := 0) (i := 0) 0 rfl rfl dX4_takeNumber_30 ?_
      refine r_iconst (pc := 31) dX4_takeNumber_31 ?_
      refine r_callVi (pc := 32) (st := []) (As := [iv 2]) (D2 := 0) okX4_fail (by decide) (by decide) rfl rfl rfl (Nat.le_of_ble_eq_true rfl) km_X4_66 (kX4_fail X) dX4_takeNumber_32 ?_
      refine r_zret (pc := 35) (st := []) rfl (rfl) dX4_takeNumber_35 ?_
      rw [pNm_b rfl h5 (show tkV c L f < lo ∨ hi < tkV c L f by omega)]
      exact ⟨congrArg (fun q => some (iv q)) (bI_f (show ¬ (2 : Int) = 0 by decide)).symm, fun a x => up_row x, CS.f (show ¬ (2 : Int) = 0 by decide) ((up_i (by decide)).trans a3) up_s, fun e => absurd (show (2 : Int) = 0 from e) (by decide)⟩
    · skip
      refine r_aload_n (pc := 22) (a := 0) (i := 0) 0 rfl rfl dX4_takeNumber_22 ?_
      refine r_get (pc := 23) ckX4 (by decide) rfl (j := 5) (by decide) (congrArg (fun q => some (iv q)) (a5 h5)) kf_X4_35 dX4_takeNumber_23 ?_
      refine r_iload_n (pc := 26) (a := 2) (i := 2) 2 rfl rfl dX4_takeNumber_26 ?_
      refine r_icmp_le (pc := 27) 36 (by unfold rg; omega) (by unfold rg; omega) dX4_takeNumber_27 (by decide) (fun h27 => ?_) (fun h27 => ?_)
      · skip
        refine r_aload_n (pc := 36) (a := 0) (i := 0) 0 rfl rfl dX4_takeNumber_36 ?_
        refine r_aload_n (pc := 37) (a := 0) (i := 0) 0 rfl rfl dX4_takeNumber_37 ?_
        refine r_get (pc := 38) ckX4 (by decide) rfl (j := 5) (by decide) (congrArg (fun q => some (iv q)) (a5 h5)) kf_X4_35 dX4_takeNumber_38 ?_
        refine r_put (pc := 41) 6 (ji := 6) rfl ckX4 (by decide) rfl rfl (by decide) (Nat.le_of_ble_eq_true rfl) kf_X4_38 rfl rfl rfl rfl dX4_takeNumber_41 ?_
        refine r_aload_n (pc := 44) (a := 0) (i := 0) 0 rfl rfl dX4_takeNumber_44 ?_
        refine r_callV (pc := 45) (st := []) (As := []) (D2 := 1) okX4_step (by decide) (by decide) rfl rfl rfl (Nat.le_of_ble_eq_true rfl) km_X4_47 (kX4_step X (c := c) (L := L) (p := tkN c L f) (hT.fr (up_row (by decide)) (up_row (by decide))) ((up_i (by decide)).trans a4) (by omega) (by omega)) dX4_takeNumber_45 ?_
        rintro _ J1 ⟨rfl, hst⟩
        refine r_iconst (pc := 48) dX4_takeNumber_48 ?_
        refine r_zret (pc := 49) (st := []) rfl (rfl) dX4_takeNumber_49 ?_
        rw [pNm_c rfl h5 (show lo ≤ tkV c L f ∧ tkV c L f ≤ hi by omega)]
        exact ⟨congrArg (fun q => some (iv q)) (bI_t (show (0 : Int) = 0 from rfl)).symm, fun a x => (hst.1.1 a x).trans (up_row x), CS.t rfl (atC.st (p := tkN c L f) (hT.fr (up_row (by decide)) (up_row (by decide))) (by omega) (by omega) hst), fun _ => (hst.1.2 6 (by decide)).trans up_s⟩
      · skip
        refine r_aload_n (pc := 30) (a := 0) (i := 0) 0 rfl rfl dX4_takeNumber_30 ?_
        refine r_iconst (pc := 31) dX4_takeNumber_31 ?_
        refine r_callVi (pc := 32) (st := []) (As := [iv 2]) (D2 := 0) okX4_fail (by decide) (by decide) rfl rfl rfl (Nat.le_of_ble_eq_true rfl) km_X4_66 (kX4_fail X) dX4_takeNumber_32 ?_
        refine r_zret (pc := 35) (st := []) rfl (rfl) dX4_takeNumber_35 ?_
        rw [pNm_b rfl h5 (show tkV c L f < lo ∨ hi < tkV c L f by omega)]
        exact ⟨congrArg (fun q => some (iv q)) (bI_f (show ¬ (2 : Int) = 0 by decide)).symm, fun a x => up_row x, CS.f (show ¬ (2 : Int) = 0 by decide) ((up_i (by decide)).trans a3) up_s, fun e => absurd (show (2 : Int) = 0 from e) (by decide)⟩
  · skip
    refine r_aload_n (pc := 8) (a := 0) (i := 0) 0 rfl rfl dX4_takeNumber_8 ?_
    refine r_iconst (pc := 9) dX4_takeNumber_9 ?_
    refine r_callVi (pc := 10) (st := []) (As := [iv 1]) (D2 := 0) okX4_fail (by decide) (by decide) rfl rfl rfl (Nat.le_of_ble_eq_true rfl) km_X4_66 (kX4_fail X) dX4_takeNumber_10 ?_
    refine r_zret (pc := 13) (st := []) rfl (rfl) dX4_takeNumber_13 ?_
    rw [pNm_a rfl h5]
    exact ⟨congrArg (fun q => some (iv q)) (bI_f (show ¬ (1 : Int) = 0 by decide)).symm, fun a x => up_row x, CS.f (show ¬ (1 : Int) = 0 by decide) ((up_i (by decide)).trans a3) up_s, fun e => absurd (show (1 : Int) = 0 from e) (by decide)⟩

set_option maxRecDepth 100000 in
set_option maxHeartbeats 800000 in
theorem kX4_takeSemicolon (X : XC) {I : HD} {c : Int → Int} {L f : Int} (hA : atC I c L f) {F : OF} : Cl X 2 mX4_takeSemicolon [rv X 18] I (fun r J => r = some (iv (bI ((pSm c L (f, F, 0)).2.2 = 0))) ∧ fr8 I J ∧ CS J c L (pSm c L (f, F, 0))) := by
  refine Cl.of (by decide) (Nat.le_of_ble_eq_true rfl) ?_
  show Rn X 2 mX4_takeSemicolon _ 0 [(0, rv X 18)] [] I
  obtain ⟨hT, hf0, hf1, a2, a3, a4, a5⟩ := id hA
  have hL5 := hT.2.2.1
  have hkr := tkK_r (c := c) (L := L) (f := f)
  have hnr := tkN_r (c := c) (L := L) (f := f) hf1
  refine r_aload_n (pc := 0) (a := 0) (i := 0) 0 rfl rfl dX4_takeSemicolon_0 ?_
  refine r_get (pc := 1) ckX4 (by decide) rfl (j := 2) (by decide) (congrArg (fun q => some (iv q)) a2) kf_X4_25 dX4_takeSemicolon_1 ?_
  refine r_iconst (pc := 4) dX4_takeSemicolon_4 ?_
  refine r_icmp_eq (pc := 5) 14 (by unfold rg; omega) (by unfold rg; omega) dX4_takeSemicolon_5 (by decide) (fun h5 => ?_) (fun h5 => ?_)
  · skip
    refine r_aload_n (pc := 14) (a := 0) (i := 0) 0 rfl rfl dX4_takeSemicolon_14 ?_
    refine r_callV (pc := 15) (st := []) (As := []) (D2 := 1) okX4_step (by decide) (by decide) rfl rfl rfl (Nat.le_of_ble_eq_true rfl) km_X4_47 (kX4_step X (c := c) (L := L) (p := tkN c L f) hT a4 (by omega) (by omega)) dX4_takeSemicolon_15 ?_
    rintro _ J1 ⟨rfl, hst⟩
    refine r_iconst (pc := 18) dX4_takeSemicolon_18 ?_
    refine r_zret (pc := 19) (st := []) rfl (rfl) dX4_takeSemicolon_19 ?_
    rw [show pSm c L (f, F, 0) = (nxt c L f, F, 0) from pMu_t rfl h5]
    exact ⟨congrArg (fun q => some (iv q)) (bI_t (show (0 : Int) = 0 from rfl)).symm, fun a x => hst.1.1 a x, CS.t rfl (atC.st (p := tkN c L f) hT (by omega) (by omega) hst)⟩
  · skip
    refine r_aload_n (pc := 8) (a := 0) (i := 0) 0 rfl rfl dX4_takeSemicolon_8 ?_
    refine r_iconst (pc := 9) dX4_takeSemicolon_9 ?_
    refine r_callVi (pc := 10) (st := []) (As := [iv 1]) (D2 := 0) okX4_fail (by decide) (by decide) rfl rfl rfl (Nat.le_of_ble_eq_true rfl) km_X4_66 (kX4_fail X) dX4_takeSemicolon_10 ?_
    refine r_zret (pc := 13) (st := []) rfl (rfl) dX4_takeSemicolon_13 ?_
    rw [show pSm c L (f, F, 0) = (f, F, 1) from pMu_f rfl h5]
    exact ⟨congrArg (fun q => some (iv q)) (bI_f (show ¬ (1 : Int) = 0 by decide)).symm, fun a x => up_row x, CS.f (show ¬ (1 : Int) = 0 by decide) ((up_i (by decide)).trans a3) up_s⟩

set_option maxRecDepth 100000 in
set_option maxHeartbeats 800000 in
theorem kX4_sortTold (X : XC) {I : HD} {c : Int → Int} {L f : Int} (hA : atC I c L f) : Cl X 5 mX4_sortTold [rv X 18] I (Ki (kd c L f) I) := by
  refine Cl.of (by decide) (Nat.le_of_ble_eq_true rfl) ?_
  show Rn X 5 mX4_sortTold _ 0 [(0, rv X 18)] [] I
  refine r_aload_n (pc := 0) (a := 0) (i := 0) 0 rfl rfl dX4_sortTold_0 ?_
  refine r_ldcS (pc := 1) 3 (by decide) (by rfl) rfl dX4_sortTold_1 ?_
  refine r_callVi (pc := 3) (st := []) (As := [.ref (X.2.2.2.2 (10 + 3))]) (D2 := 4) okX4_isWord (by decide) (by decide) rfl rfl rfl (Nat.le_of_ble_eq_true rfl) km_X4_62 (kX4_isWord X hA (i := 3) (by decide)) dX4_sortTold_3 ?_
  refine r_if_eq (pc := 6) 13 rg_bI dX4_sortTold_6 (by decide) (fun h6 => ?_) (fun h6 => ?_)
  · skip
    have h6 := bI_0.mp h6
    refine r_aload_n (pc := 13) (a := 0) (i := 0) 0 rfl rfl dX4_sortTold_13 ?_
    refine r_ldcS (pc := 14) 4 (by decide) (by rfl) rfl dX4_sortTold_14 ?_
    refine r_callVi (pc := 16) (st := []) (As := [.ref (X.2.2.2.2 (10 + 4))]) (D2 := 4) okX4_isWord (by decide) (by decide) rfl rfl rfl (Nat.le_of_ble_eq_true rfl) km_X4_62 (kX4_isWord X hA (i := 4) (by decide)) dX4_sortTold_16 ?_
    refine r_if_eq (pc := 19) 26 rg_bI dX4_sortTold_19 (by decide) (fun h19 => ?_) (fun h19 => ?_)
    · skip
      have h19 := bI_0.mp h19
      refine r_aload_n (pc := 26) (a := 0) (i := 0) 0 rfl rfl dX4_sortTold_26 ?_
      refine r_ldcS (pc := 27) 5 (by decide) (by rfl) rfl dX4_sortTold_27 ?_
      refine r_callVi (pc := 29) (st := []) (As := [.ref (X.2.2.2.2 (10 + 5))]) (D2 := 4) okX4_isWord (by decide) (by decide) rfl rfl rfl (Nat.le_of_ble_eq_true rfl) km_X4_62 (kX4_isWord X hA (i := 5) (by decide)) dX4_sortTold_29 ?_
      refine r_if_eq (pc := 32) 39 rg_bI dX4_sortTold_32 (by decide) (fun h32 => ?_) (fun h32 => ?_)
      · skip
        have h32 := bI_0.mp h32
        refine r_aload_n (pc := 39) (a := 0) (i := 0) 0 rfl rfl dX4_sortTold_39 ?_
        refine r_ldcS (pc := 40) 6 (by decide) (by rfl) rfl dX4_sortTold_40 ?_
        refine r_callVi (pc := 42) (st := []) (As := [.ref (X.2.2.2.2 (10 + 6))]) (D2 := 4) okX4_isWord (by decide) (by decide) rfl rfl rfl (Nat.le_of_ble_eq_true rfl) km_X4_62 (kX4_isWord X hA (i := 6) (by decide)) dX4_sortTold_42 ?_
        refine r_if_eq (pc := 45) 52 rg_bI dX4_sortTold_45 (by decide) (fun h45 => ?_) (fun h45 => ?_)
        · skip
          have h45 := bI_0.mp h45
          refine r_aload_n (pc := 52) (a := 0) (i := 0) 0 rfl rfl dX4_sortTold_52 ?_
          refine r_ldcS (pc := 53) 7 (by decide) (by rfl) rfl dX4_sortTold_53 ?_
          refine r_callVi (pc := 55) (st := []) (As := [.ref (X.2.2.2.2 (10 + 7))]) (D2 := 4) okX4_isWord (by decide) (by decide) rfl rfl rfl (Nat.le_of_ble_eq_true rfl) km_X4_62 (kX4_isWord X hA (i := 7) (by decide)) dX4_sortTold_55 ?_
          refine r_if_eq (pc := 58) 65 rg_bI dX4_sortTold_58 (by decide) (fun h58 => ?_) (fun h58 => ?_)
          · skip
            have h58 := bI_0.mp h58
            refine r_iconst (pc := 65) dX4_sortTold_65 ?_
            refine r_iret (pc := 66) (st := []) rfl dX4_sortTold_66 ?_
            exact ⟨congrArg (fun q => some (iv q)) (by unfold kd; rw [if_neg h6, if_neg h19, if_neg h32, if_neg h45, if_neg h58]), rfl⟩
          · skip
            have h58 := bI_n.mp h58
            refine r_iconst (pc := 61) dX4_sortTold_61 ?_
            refine r_goto (pc := 62) 66 dX4_sortTold_62 (by decide) ?_
            refine r_iret (pc := 66) (st := []) rfl dX4_sortTold_66 ?_
            exact ⟨congrArg (fun q => some (iv q)) (by unfold kd; rw [if_neg h6, if_neg h19, if_neg h32, if_neg h45, if_pos h58]), rfl⟩
        · skip
          have h45 := bI_n.mp h45
          refine r_iconst (pc := 48) dX4_sortTold_48 ?_
          refine r_goto (pc := 49) 66 dX4_sortTold_49 (by decide) ?_
          refine r_iret (pc := 66) (st := []) rfl dX4_sortTold_66 ?_
          exact ⟨congrArg (fun q => some (iv q)) (by unfold kd; rw [if_neg h6, if_neg h19, if_neg h32, if_pos h45]), rfl⟩
      · skip
        have h32 := bI_n.mp h32
        refine r_iconst (pc := 35) dX4_sortTold_35 ?_
        refine r_goto (pc := 36) 66 dX4_sortTold_36 (by decide) ?_
        refine r_iret (pc := 66) (st := []) rfl dX4_sortTold_66 ?_
        exact ⟨congrArg (fun q => some (iv q)) (by unfold kd; rw [if_neg h6, if_neg h19, if_pos h32]), rfl⟩
    · skip
      have h19 := bI_n.mp h19
      refine r_iconst (pc := 22) dX4_sortTold_22 ?_
      refine r_goto (pc := 23) 66 dX4_sortTold_23 (by decide) ?_
      refine r_iret (pc := 66) (st := []) rfl dX4_sortTold_66 ?_
      exact ⟨congrArg (fun q => some (iv q)) (by unfold kd; rw [if_neg h6, if_pos h19]), rfl⟩
  · skip
    have h6 := bI_n.mp h6
    refine r_iconst (pc := 9) dX4_sortTold_9 ?_
    refine r_goto (pc := 10) 66 dX4_sortTold_10 (by decide) ?_
    refine r_iret (pc := 66) (st := []) rfl dX4_sortTold_66 ?_
    exact ⟨congrArg (fun q => some (iv q)) (by unfold kd; rw [if_pos h6]), rfl⟩

set_option maxRecDepth 100000 in
set_option maxHeartbeats 800000 in
theorem kX4_readWind (X : XC) {I : HD} {c : Int → Int} {L f : Int} (hA : atC I c L f) : Cl X 5 mX4_readWind [rv X 18] I (fun r J => r = some (iv (bI ((pWind c L (f, zF, 0)).2.2 = 0))) ∧ (∀ a, a ≠ 18 → a ≠ oH 1 + 1 → J a = I a) ∧ CS J c L (pWind c L (f, zF, 0)) ∧ ((pWind c L (f, zF, 0)).2.2 = 0 → ∀ j, 0 ≤ j → j < 12 → J (oH 1 + 1) j = (pWind c L (f, zF, 0)).2.1 (3 + j))) := by
  refine Cl.of (by decide) (Nat.le_of_ble_eq_true rfl) ?_
  show Rn X 5 mX4_readWind _ 0 [(0, rv X 18)] [] I
  obtain ⟨hT, hf0, hf1, a2, a3, a4, a5⟩ := id hA
  have hL5 := hT.2.2.1
  have hkr := tkK_r (c := c) (L := L) (f := f)
  have hnr := tkN_r (c := c) (L := L) (f := f) hf1
  refine r_aload_n (pc := 0) (a := 0) (i := 0) 0 rfl rfl dX4_readWind_0 ?_
  refine r_ldcS (pc := 1) 0 (by decide) (by rfl) rfl dX4_readWind_1 ?_
  refine r_callVi (pc := 3) (st := []) (As := [.ref (X.2.2.2.2 (10 + 0))]) (D2 := 4) okX4_isWord (by decide) (by decide) rfl rfl rfl (Nat.le_of_ble_eq_true rfl) km_X4_62 (kX4_isWord X hA (i := 0) (by decide)) dX4_readWind_3 ?_
  refine r_if_ne (pc := 6) 15 rg_bI dX4_readWind_6 (by decide) (fun h6 => ?_) (fun h6 => ?_)
  · skip
    have h6 := bI_n.mp h6
    refine r_aload_n (pc := 15) (a := 0) (i := 0) 0 rfl rfl dX4_readWind_15 ?_
    refine r_callV (pc := 16) (st := []) (As := []) (D2 := 1) okX4_step (by decide) (by decide) rfl rfl rfl (Nat.le_of_ble_eq_true rfl) km_X4_47 (kX4_step X (c := c) (L := L) (p := tkN c L f) hT a4 (by omega) (by omega)) dX4_readWind_16 ?_
    rintro _ J1 ⟨rfl, hst⟩
    refine r_iconst (pc := 19) dX4_readWind_19 ?_
    refine r_istore_n (pc := 20) (a := 1) (i := 1) rfl [(1, iv 0), (0, rv X 18)] (by decide) rfl dX4_readWind_20 ?_
    have at21 : ∀ (n21 : Nat) (J : HD) (q : Int), (12 - q).toNat < n21 → (hq0 : 0 ≤ q) → (hq1 : q ≤ 12) → (ht : (pWq c L q.toNat (nxt c L f, zF, 0)).2.2 = 0) → (hQ : atC J c L (pWq c L q.toNat (nxt c L f, zF, 0)).1) → (hw : ∀ j, 0 ≤ j → j < q → J (oH 1 + 1) j = (pWq c L q.toNat (nxt c L f, zF, 0)).2.1 (3 + j)) → (hfr : ∀ a, a ≠ 18 → a ≠ oH 1 + 1 → J a = I a) → Rn X 5 mX4_readWind (fun r J => r = some (iv (bI ((pWind c L (f, zF, 0)).2.2 = 0))) ∧ (∀ a, a ≠ 18 → a ≠ oH 1 + 1 → J a = I a) ∧ CS J c L (pWind c L (f, zF, 0)) ∧ ((pWind c L (f, zF, 0)).2.2 = 0 → ∀ j, 0 ≤ j → j < 12 → J (oH 1 + 1) j = (pWind c L (f, zF, 0)).2.1 (3 + j))) 21 [(0, rv X 18), (1, iv q)] [] J := by
      intro n21
      induction n21 with
      | zero => intro J q hm; omega
      | succ n21 ih21 =>
        intro J q hm21 hq0 hq1 ht hQ hw hfr
        refine r_iload_n (pc := 21) (a := 1) (i := 1) 1 rfl rfl dX4_readWind_21 ?_
        refine r_bipush (pc := 22) rfl dX4_readWind_22 ?_
        refine r_icmp_ge (pc := 24) 58 (by unfold rg; omega) (by unfold rg; omega) dX4_readWind_24 (by decide) (fun h24 => ?_) (fun h24 => ?_)
        · skip
          refine r_aload_n (pc := 58) (a := 0) (i := 0) 0 rfl rfl dX4_readWind_58 ?_
          refine r_callV (pc := 59) (st := []) (As := []) (D2 := 2) okX4_takeSemicolon (by decide) (by decide) rfl rfl rfl (Nat.le_of_ble_eq_true rfl) km_X4_77 (kX4_takeSemicolon X hQ (F := (pWq c L q.toNat (nxt c L f, zF, 0)).2.1)) dX4_readWind_59 ?_
          rintro _ J2 ⟨rfl, g2, g3⟩
          rw [ps_eta ht] at g3
          rw [ps_eta ht]
          refine r_zret (pc := 62) (st := []) rfl (nar_bI) dX4_readWind_62 ?_
          rw [pWind_t h6, show (12 : Int) = q by omega]
          exact ⟨rfl, fun a x y => (g2 a x).trans (hfr a x y), g3, fun _ j a b => by rw [g2 _ (by decide), show (pSm c L (pWq c L q.toNat (nxt c L f, zF, 0))).2.1 = (pWq c L q.toNat (nxt c L f, zF, 0)).2.1 from pMu_F]; exact hw j a (by omega)⟩
        · skip
          refine r_aload_n (pc := 27) (a := 0) (i := 0) 0 rfl rfl dX4_readWind_27 ?_
          refine r_iconst (pc := 28) dX4_readWind_28 ?_
          refine r_bipush (pc := 29) rfl dX4_readWind_29 ?_
          refine r_callV (pc := 31) (st := []) (As := [iv 0, iv 100]) (D2 := 2) okX4_takeNumber (by decide) (by decide) rfl rfl rfl (Nat.le_of_ble_eq_true rfl) km_X4_70 (kX4_takeNumber X hQ (F := (pWq c L q.toNat (nxt c L f, zF, 0)).2.1) (lo := 0) (hi := 100) (by unfold rg; omega) (by unfold rg; omega)) dX4_readWind_31 ?_
          rintro _ J2 ⟨rfl, g2, g3, g4⟩
          rw [ps_eta ht] at g3 g4
          rw [ps_eta ht]
          refine r_if_ne (pc := 34) 39 rg_bI dX4_readWind_34 (by decide) (fun h34 => ?_) (fun h34 => ?_)
          · skip
            have h34 := bI_n.mp h34
            refine r_aload_n (pc := 39) (a := 0) (i := 0) 0 rfl rfl dX4_readWind_39 ?_
            refine r_get (pc := 40) ckX4 (by decide) rfl (j := 1) (by decide) rfl kf_X4_21 dX4_readWind_40 ?_
            refine r_getN (pc := 43) ckX3 (oH_lt (show 1 < 28 by decide)) (cellO (show 1 < 28 by decide)) (j := 0) (by decide) rfl kf_X4_74 dX4_readWind_43 ?_
            refine r_iload_n (pc := 46) (a := 1) (i := 1) 1 rfl rfl dX4_readWind_46 ?_
            refine r_aload_n (pc := 47) (a := 0) (i := 0) 0 rfl rfl dX4_readWind_47 ?_
            refine r_get (pc := 48) ckX4 (by decide) rfl (j := 6) (by decide) (congrArg (fun q => some (iv q)) (g4 h34)) kf_X4_38 dX4_readWind_48 ?_
            refine r_iast (pc := 51) (oH_lt1 (show 1 < 28 by decide)) (cellO1 (show 1 < 28 by decide)) (by omega) (by omega) (by decide) dX4_readWind_51 ?_
            refine r_iinc (pc := 52) 1 [(1, iv (q + 1)), (0, rv X 18)] rfl (by decide) rfl dX4_readWind_52 ?_
            refine r_goto (pc := 55) 21 dX4_readWind_55 (by decide) ?_
            refine r_lv [1, 0] [(0, rv X 18), (1, iv (q + 1))] rfl ?_
            exact ih21 (up J2 (oH 1 + 1) q (tkV c L (pWq c L q.toNat (nxt c L f, zF, 0)).1)) (q + 1) (by omega) (by omega) (by omega) (by rw [pWq_t hq0 h34]) (by rw [pWq_t hq0 h34]; exact (g3.1 h34).fr (up_row (by decide)) (up_row (by decide)) (up_row (by decide))) (fun j a b => by rw [pWq_t hq0 h34, up_at]; exact wd_s (fun j a b => (congrFun (g2 _ (by decide)) _).trans (hw j a b)) a b) (fun a x y => (up_row y).trans ((g2 a x).trans (hfr a x y)))
          · skip
            have h34 := bI_0.mp h34
            refine r_iconst (pc := 37) dX4_readWind_37 ?_
            refine r_zret (pc := 38) (st := []) rfl (rfl) dX4_readWind_38 ?_
            rw [pWind_x h6 hq0 (by omega) h34]
            exact ⟨congrArg (fun q => some (iv q)) (bI_f h34).symm, fun a x y => (g2 a x).trans (hfr a x y), g3, fun e => absurd e h34⟩
    refine r_lv [1, 0] [(0, rv X 18), (1, iv 0)] rfl ?_
    exact at21 _ J1 0 (Nat.lt_succ_self _) (by omega) (by omega) (rfl) (atC.st (p := tkN c L f) hT (by omega) (by omega) hst) (fun j a b => by omega) (fun a x _ => hst.1.1 a x)
  · skip
    have h6 := bI_0.mp h6
    refine r_aload_n (pc := 9) (a := 0) (i := 0) 0 rfl rfl dX4_readWind_9 ?_
    refine r_iconst (pc := 10) dX4_readWind_10 ?_
    refine r_callVi (pc := 11) (st := []) (As := [iv 1]) (D2 := 0) okX4_fail (by decide) (by decide) rfl rfl rfl (Nat.le_of_ble_eq_true rfl) km_X4_66 (kX4_fail X) dX4_readWind_11 ?_
    refine r_zret (pc := 14) (st := []) rfl (rfl) dX4_readWind_14 ?_
    rw [pWind_f h6]
    exact ⟨congrArg (fun q => some (iv q)) (bI_f (show ¬ (1 : Int) = 0 by decide)).symm, fun a x _ => up_row x, CS.f (show ¬ (1 : Int) = 0 by decide) ((up_i (by decide)).trans a3) up_s, fun e => absurd (show (1 : Int) = 0 from e) (by decide)⟩

set_option maxRecDepth 100000 in
set_option maxHeartbeats 800000 in
theorem kX3_furnish (X : XC) {I : HD} {O : OF} {o : Nat} (h_o : o < 28) (hR : RepC O I o) (hG : GD O) (h4 : O 0 < 4) {r t : Int} : Cl X 0 mX3_furnish [rv X (oH o), iv r, iv t] I (fun q J => q = none ∧ frO I J o ∧ RepC (dkO O r t) J o) := by
  refine Cl.of (by decide) (Nat.le_of_ble_eq_true rfl) ?_
  show Rn X 0 mX3_furnish _ 0 [(0, rv X (oH o)), (1, iv r), (2, iv t)] [] I
  have q0 := hG.1.a
  refine r_aload_n (pc := 0) (a := 0) (i := 0) 0 rfl rfl dX3_furnish_0 ?_
  refine r_get (pc := 1) ckX3 (oH_lt (h_o)) (cellO (h_o)) (j := 8) (by decide) (congrArg (fun q => some (iv q)) hR.f0) kf_X3_36 dX3_furnish_1 ?_
  refine r_iconst (pc := 4) dX3_furnish_4 ?_
  refine r_icmp_ge (pc := 5) 48 (by unfold rg; omega) (by unfold rg; omega) dX3_furnish_5 (by decide) (fun h5 => ?_) (fun h5 => ?_)
  · exact absurd h5 (by omega)
  · skip
    refine r_aload_n (pc := 8) (a := 0) (i := 0) 0 rfl rfl dX3_furnish_8 ?_
    refine r_get (pc := 9) ckX3 (oH_lt (h_o)) (cellO (h_o)) (j := 1) (by decide) rfl kf_X3_15 dX3_furnish_9 ?_
    refine r_aload_n (pc := 12) (a := 0) (i := 0) 0 rfl rfl dX3_furnish_12 ?_
    refine r_get (pc := 13) ckX3 (oH_lt (h_o)) (cellO (h_o)) (j := 8) (by decide) (congrArg (fun q => some (iv q)) hR.f0) kf_X3_36 dX3_furnish_13 ?_
    refine r_iload_n (pc := 16) (a := 1) (i := 1) 1 rfl rfl dX3_furnish_16 ?_
    refine r_iast (pc := 17) (oH_lt2 (h_o)) (cellO2 (h_o)) (by omega) (by omega) (by decide) dX3_furnish_17 ?_
    refine r_aload_n (pc := 18) (a := 0) (i := 0) 0 rfl rfl dX3_furnish_18 ?_
    refine r_get (pc := 19) ckX3 (oH_lt (h_o)) (cellO (h_o)) (j := 2) (by decide) rfl kf_X3_18 dX3_furnish_19 ?_
    refine r_aload_n (pc := 22) (a := 0) (i := 0) 0 rfl rfl dX3_furnish_22 ?_
    refine r_get (pc := 23) ckX3 (oH_lt (h_o)) (cellO (h_o)) (j := 8) (by decide) (congrArg (fun q => some (iv q)) ((congrFun (up_row (by omega)) _).trans hR.f0)) kf_X3_36 dX3_furnish_23 ?_
    refine r_iload_n (pc := 26) (a := 2) (i := 2) 2 rfl rfl dX3_furnish_26 ?_
    refine r_iast (pc := 27) (oH_lt3 (h_o)) (cellO3 (h_o)) (by omega) (by omega) (by decide) dX3_furnish_27 ?_
    refine r_aload_n (pc := 28) (a := 0) (i := 0) 0 rfl rfl dX3_furnish_28 ?_
    refine r_get (pc := 29) ckX3 (oH_lt (h_o)) (cellO (h_o)) (j := 3) (by decide) rfl kf_X3_21 dX3_furnish_29 ?_
    refine r_aload_n (pc := 32) (a := 0) (i := 0) 0 rfl rfl dX3_furnish_32 ?_
    refine r_get (pc := 33) ckX3 (oH_lt (h_o)) (cellO (h_o)) (j := 8) (by decide) (congrArg (fun q => some (iv q)) ((congrFun (up_row (by omega)) _).trans ((congrFun (up_row (by omega)) _).trans hR.f0))) kf_X3_36 dX3_furnish_33 ?_
    refine r_iconst (pc := 36) dX3_furnish_36 ?_
    refine r_iast (pc := 37) (oH_lt4 (h_o)) (cellO4 (h_o)) (by omega) (by omega) (by decide) dX3_furnish_37 ?_
    refine r_aload_n (pc := 38) (a := 0) (i := 0) 0 rfl rfl dX3_furnish_38 ?_
    refine r_dup (pc := 39) rfl dX3_furnish_39 ?_
    refine r_get (pc := 40) ckX3 (oH_lt (h_o)) (cellO (h_o)) (j := 8) (by decide) (congrArg (fun q => some (iv q)) ((congrFun (up_row (by omega)) _).trans ((congrFun (up_row (by omega)) _).trans ((congrFun (up_row (by omega)) _).trans hR.f0)))) kf_X3_36 dX3_furnish_40 ?_
    refine r_iconst (pc := 43) dX3_furnish_43 ?_
    refine r_iadd (pc := 44) dX3_furnish_44 ?_
    refine r_put (pc := 45) 8 (ji := 8) rfl ckX3 (oH_lt (h_o)) (cellO (h_o)) (cellOp8 (h_o)) (by decide) (Nat.le_of_ble_eq_true rfl) kf_X3_36 rfl rfl rfl rfl dX3_furnish_45 ?_
    refine r_vret (pc := 48) (st := []) rfl dX3_furnish_48 ?_
    exact ⟨rfl, fun a q => (up_row (by omega)).trans ((up_row (by omega)).trans ((up_row (by omega)).trans (up_row (by omega)))), RepC.furn hG hR h4⟩
