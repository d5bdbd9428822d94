set_option maxRecDepth 100000 in
set_option maxHeartbeats 4000000 in
theorem kX0_keep (X : XC) {I : HD} (hA : RA I I) (hB : RB I I) (hp : 0 < I 34 0) : Cl X 2 mX0_keep [rv X 21, rv X (oH 0)] I (fun r J => r = none ∧ RB (kpS I) J ∧ ∀ a, a ≠ 21 → a < 81 → J a = I a) := by
  refine Cl.of (by decide) (Nat.le_of_ble_eq_true rfl) ?_
  show Rn X 2 mX0_keep _ 0 [(0, rv X 21), (1, rv X (oH 0))] [] I
  have b1 := hB.1
  have b2 := hB.2.1
  have b4 := hB.2.2.2.1
  have b5 := hB.2.2.2.2.1
  have oe : ∀ x, oH x = 45 + 9 * x := fun _ => rfl
  refine r_aload_n (pc := 0) (a := 0) (i := 0) 0 rfl rfl dX0_keep_0 ?_
  refine r_get (pc := 1) ckX0 (by decide) rfl (j := 0) (by decide) rfl kf_X0_11 dX0_keep_1 ?_
  refine r_aload_n (pc := 4) (a := 0) (i := 0) 0 rfl rfl dX0_keep_4 ?_
  refine r_get (pc := 5) ckX0 (by decide) rfl (j := 1) (by decide) rfl kf_X0_17 dX0_keep_5 ?_
  refine r_aload_n (pc := 8) (a := 0) (i := 0) 0 rfl rfl dX0_keep_8 ?_
  refine r_get (pc := 9) ckX0 (by decide) rfl (j := 2) (by decide) (show _ = some (iv (I 30 9)) by rw [← hB.2.2.1]; rfl) kf_X0_21 dX0_keep_9 ?_
  refine r_iadd (pc := 12) dX0_keep_12 ?_
  refine r_bipush (pc := 13) rfl dX0_keep_13 ?_
  refine r_irem (pc := 15) (z := (I 21 1 + I 30 9) % 24) (by decide) (irem_n (n := 24) (by omega) (by omega) (by decide) (by decide)) dX0_keep_15 ?_
  refine r_aald (pc := 16) (g := (fun j => 45 + 9 * (4 + j))) (C := RX3) (by decide) rfl rfl (by omega) (by omega) (by decide) dX0_keep_16 ?_
  refine r_aload_n (pc := 17) (a := 1) (i := 1) 1 rfl rfl dX0_keep_17 ?_
  refine r_callV (pc := 18) (st := []) (As := [rv X (oH 0)]) okX3_takeOver (by decide) (oH_lt (show (4 + ((I 21 1 + I 30 9) % 24).toNat) < 28 by omega)) (cellO (show (4 + ((I 21 1 + I 30 9) % 24).toNat) < 28 by omega)) rfl rfl (Nat.le_of_ble_eq_true rfl) km_X0_25 (kX3_takeOver X (s := 0) (t := (4 + ((I 21 1 + I 30 9) % 24).toNat)) (by decide) (by omega) (by omega)) dX0_keep_18 ?_
  rintro _ J1 ⟨rfl, hf, hc⟩
  have hk2 : J1 21 2 = I 30 9 := (congrFun (hf 21 (Or.inl (by rw [oe]; omega))) 2).trans hB.2.2.1
  refine r_aload_n (pc := 21) (a := 0) (i := 0) 0 rfl rfl dX0_keep_21 ?_
  refine r_get (pc := 22) ckX0 (by decide) rfl (j := 2) (by decide) (show _ = some (iv (I 30 9)) by rw [← ((congrFun (hf 21 (Or.inl (by show 21 < 45 + _; omega))) 2).trans hB.2.2.1)]; rfl) kf_X0_21 dX0_keep_22 ?_
  refine r_bipush (pc := 25) rfl dX0_keep_25 ?_
  refine r_icmp_ge (pc := 27) 43 (by unfold rg; omega) (by unfold rg; omega) dX0_keep_27 (by decide) (fun h27 => ?_) (fun h27 => ?_)
  · skip
    refine r_aload_n (pc := 43) (a := 0) (i := 0) 0 rfl rfl dX0_keep_43 ?_
    refine r_aload_n (pc := 44) (a := 0) (i := 0) 0 rfl rfl dX0_keep_44 ?_
    refine r_get (pc := 45) ckX0 (by decide) rfl (j := 1) (by decide) (show _ = some (iv (I 21 1)) by rw [← (congrFun (hf 21 (Or.inl (by show 21 < 45 + _; omega))) 1)]; rfl) kf_X0_17 dX0_keep_45 ?_
    refine r_iconst (pc := 48) dX0_keep_48 ?_
    refine r_iadd (pc := 49) dX0_keep_49 ?_
    refine r_bipush (pc := 50) rfl dX0_keep_50 ?_
    refine r_irem (pc := 52) (z := (I 21 1 + 1) % 24) (by decide) (irem_n (n := 24) (by omega) (by omega) (by decide) (by decide)) dX0_keep_52 ?_
    refine r_put (pc := 53) 1 (ji := 1) rfl ckX0 (by decide) rfl rfl (by decide) (Nat.le_of_ble_eq_true rfl) kf_X0_17 rfl rfl rfl rfl dX0_keep_53 ?_
    refine r_vret (pc := 56) (st := []) rfl dX0_keep_56 ?_
    exact ⟨rfl, RB.keep hA hB hp (by rw [up_s, if_pos (by omega)]) (by rw [up_i (by decide), hk2]; unfold kpN; rw [if_pos (by omega)]; omega) (hc.up (Or.inl (by rw [oe]; omega))) (fun a x y w => (up_row (by omega)).trans (hf a w)), fun a x y => (up_row x).trans (hf a (Or.inl (by rw [oe]; omega)))⟩
  · skip
    refine r_aload_n (pc := 30) (a := 0) (i := 0) 0 rfl rfl dX0_keep_30 ?_
    refine r_dup (pc := 31) rfl dX0_keep_31 ?_
    refine r_get (pc := 32) ckX0 (by decide) rfl (j := 2) (by decide) (show _ = some (iv (I 30 9)) by rw [← ((congrFun (hf 21 (Or.inl (by show 21 < 45 + _; omega))) 2).trans hB.2.2.1)]; rfl) kf_X0_21 dX0_keep_32 ?_
    refine r_iconst (pc := 35) dX0_keep_35 ?_
    refine r_iadd (pc := 36) dX0_keep_36 ?_
    refine r_put (pc := 37) 2 (ji := 2) rfl ckX0 (by decide) rfl rfl (by decide) (Nat.le_of_ble_eq_true rfl) kf_X0_21 rfl rfl rfl rfl dX0_keep_37 ?_
    refine r_goto (pc := 40) 56 dX0_keep_40 (by decide) ?_
    refine r_vret (pc := 56) (st := []) rfl dX0_keep_56 ?_
    exact ⟨rfl, RB.keep hA hB hp (by rw [up_i (by decide), if_neg (by omega)]; exact congrFun (hf 21 (Or.inl (by rw [oe]; omega))) 1) (by rw [up_s]; unfold kpN; rw [if_neg (by omega)]) (hc.up (Or.inl (by rw [oe]; omega))) (fun a x y w => (up_row (by omega)).trans (hf a w)), fun a x y => (up_row x).trans (hf a (Or.inl (by rw [oe]; omega)))⟩

set_option maxRecDepth 100000 in
set_option maxHeartbeats 4000000 in
theorem kX0_forget (X : XC) {I : HD} : Cl X 0 mX0_forget [rv X 21] I (Kv (up (up I 21 1 0) 21 2 0)) := by
  refine Cl.of (by decide) (Nat.le_of_ble_eq_true rfl) ?_
  show Rn X 0 mX0_forget _ 0 [(0, rv X 21)] [] I
  refine r_aload_n (pc := 0) (a := 0) (i := 0) 0 rfl rfl dX0_forget_0 ?_
  refine r_iconst (pc := 1) dX0_forget_1 ?_
  refine r_put (pc := 2) 1 (ji := 1) rfl ckX0 (by decide) rfl rfl (by decide) (Nat.le_of_ble_eq_true rfl) kf_X0_17 rfl rfl rfl rfl dX0_forget_2 ?_
  refine r_aload_n (pc := 5) (a := 0) (i := 0) 0 rfl rfl dX0_forget_5 ?_
  refine r_iconst (pc := 6) dX0_forget_6 ?_
  refine r_put (pc := 7) 2 (ji := 2) rfl ckX0 (by decide) rfl rfl (by decide) (Nat.le_of_ble_eq_true rfl) kf_X0_21 rfl rfl rfl rfl dX0_forget_7 ?_
  refine r_vret (pc := 10) (st := []) rfl dX0_forget_10 ?_
  exact ⟨rfl, rfl⟩

set_option maxRecDepth 100000 in
set_option maxHeartbeats 4000000 in
theorem kX0_takeBack (X : XC) {I : HD} {n : Int} (hn : I 21 2 = n) (n0 : 0 < n) (n1 : n ≤ 24) (b1 : 0 ≤ I 21 1) (b2 : I 21 1 < 24) : Cl X 2 mX0_takeBack [rv X 21, rv X (oH 0)] I (fun r J => r = none ∧ ofC I J (slotO I (n - 1)) 0 ∧ J 21 2 = n - 1 ∧ J 21 1 = I 21 1 ∧ ∀ a, a ≠ 21 → (a < 45 ∨ 54 ≤ a) → J a = I a) := by
  refine Cl.of (by decide) (Nat.le_of_ble_eq_true rfl) ?_
  show Rn X 2 mX0_takeBack _ 0 [(0, rv X 21), (1, rv X (oH 0))] [] I
  have oe : ∀ x, oH x = 45 + 9 * x := fun _ => rfl
  refine r_aload_n (pc := 0) (a := 0) (i := 0) 0 rfl rfl dX0_takeBack_0 ?_
  refine r_get (pc := 1) ckX0 (by decide) rfl (j := 2) (by decide) (show _ = some (iv n) by rw [← hn]; rfl) kf_X0_21 dX0_takeBack_1 ?_
  refine r_if_le (pc := 4) 38 (by unfold rg; omega) dX0_takeBack_4 (by decide) (fun h4 => ?_) (fun h4 => ?_)
  · exact absurd h4 (by omega)
  · skip
    refine r_aload_n (pc := 7) (a := 0) (i := 0) 0 rfl rfl dX0_takeBack_7 ?_
    refine r_dup (pc := 8) rfl dX0_takeBack_8 ?_
    refine r_get (pc := 9) ckX0 (by decide) rfl (j := 2) (by decide) (show _ = some (iv n) by rw [← hn]; rfl) kf_X0_21 dX0_takeBack_9 ?_
    refine r_iconst (pc := 12) dX0_takeBack_12 ?_
    refine r_isub (pc := 13) dX0_takeBack_13 ?_
    refine r_put (pc := 14) 2 (ji := 2) rfl ckX0 (by decide) rfl rfl (by decide) (Nat.le_of_ble_eq_true rfl) kf_X0_21 rfl rfl rfl rfl dX0_takeBack_14 ?_
    refine r_aload_n (pc := 17) (a := 1) (i := 1) 1 rfl rfl dX0_takeBack_17 ?_
    refine r_aload_n (pc := 18) (a := 0) (i := 0) 0 rfl rfl dX0_takeBack_18 ?_
    refine r_get (pc := 19) ckX0 (by decide) rfl (j := 0) (by decide) rfl kf_X0_11 dX0_takeBack_19 ?_
    refine r_aload_n (pc := 22) (a := 0) (i := 0) 0 rfl rfl dX0_takeBack_22 ?_
    refine r_get (pc := 23) ckX0 (by decide) rfl (j := 1) (by decide) (show _ = some (iv (I 21 1)) by rw [← (show up I 21 2 (n - 1) 21 1 = I 21 1 from up_i (by decide))]; rfl) kf_X0_17 dX0_takeBack_23 ?_
    refine r_aload_n (pc := 26) (a := 0) (i := 0) 0 rfl rfl dX0_takeBack_26 ?_
    refine r_get (pc := 27) ckX0 (by decide) rfl (j := 2) (by decide) (show _ = some (iv (n - 1)) by rw [← (show up I 21 2 (n - 1) 21 2 = n - 1 from up_s)]; rfl) kf_X0_21 dX0_takeBack_27 ?_
    refine r_iadd (pc := 30) dX0_takeBack_30 ?_
    refine r_bipush (pc := 31) rfl dX0_takeBack_31 ?_
    refine r_irem (pc := 33) (z := (I 21 1 + (n - 1)) % 24) (by decide) (irem_n (n := 24) (by omega) (by omega) (by decide) (by decide)) dX0_takeBack_33 ?_
    refine r_aald (pc := 34) (g := (fun j => 45 + 9 * (4 + j))) (C := RX3) (by decide) rfl rfl (by omega) (by omega) (by decide) dX0_takeBack_34 ?_
    refine r_callV (pc := 35) (st := []) (As := [rv X (oH (4 + ((I 21 1 + (n - 1)) % 24).toNat))]) okX3_takeOver (by decide) (oH_lt (show 0 < 28 by decide)) (cellO (show 0 < 28 by decide)) rfl rfl (Nat.le_of_ble_eq_true rfl) km_X0_25 (kX3_takeOver X (s := 4 + ((I 21 1 + (n - 1)) % 24).toNat) (t := 0) (by omega) (by decide) (by omega)) dX0_takeBack_35 ?_
    rintro _ J1 ⟨rfl, hf, hc⟩
    refine r_vret (pc := 38) (st := []) rfl dX0_takeBack_38 ?_
    exact ⟨rfl, ofC_pre hc (by rw [oe]; unfold slotO; omega), (congrFun (hf 21 (Or.inl (by rw [oe]; omega))) 2).trans up_s, (congrFun (hf 21 (Or.inl (by rw [oe]; omega))) 1).trans (up_i (by decide)), fun a x y => (hf a (by rw [oe]; omega)).trans (up_row x)⟩

set_option maxRecDepth 100000 in
set_option maxHeartbeats 4000000 in
theorem kX8_lift (X : XC) {I : HD} {O : OF} (hO : I 34 = O) (hA : RA I I) (hB : RB I I) {p : Int} (hp : rg p) : Cl X 6 mX8_lift [rv X 0, iv p] I (fun r J => (¬ (0 ≤ p ∧ p < O 1) → r = some (iv (-1000001)) ∧ J = I) ∧ (0 ≤ p ∧ p < O 1 → dk O p < 0 → r = some (iv (-1000002)) ∧ J = I) ∧ (0 ≤ p ∧ p < O 1 → 0 ≤ dk O p → r = some (iv (ab O p)) ∧ RepC (lfO O p) J 0 ∧ RB (kpS I) J ∧ ∀ a, a ≠ 21 → (a < 45 ∨ (54 ≤ a ∧ a < 81)) → J a = I a)) := by
  refine Cl.of (by decide) (Nat.le_of_ble_eq_true rfl) ?_
  show Rn X 6 mX8_lift _ 0 [(0, rv X 0), (1, iv p)] [] I
  have hV : Val O := hO ▸ hA.1
  have hR : RepC O I 0 := hO ▸ hA.2.1
  have q0 := hV.a
  have oe : ∀ x, oH x = 45 + 9 * x := fun _ => rfl
  unfold rg at hp
  refine r_aload_n (pc := 0) (a := 0) (i := 0) 0 rfl rfl dX8_lift_0 ?_
  refine r_get (pc := 1) ckX8 (by decide) rfl (j := 2) (by decide) rfl kf_X8_25 dX8_lift_1 ?_
  refine r_iload_n (pc := 4) (a := 1) (i := 1) 1 rfl rfl dX8_lift_4 ?_
  refine r_callVi (pc := 5) (st := []) (As := [iv p]) okX3_hasSheet (by decide) (oH_lt (show 0 < 28 by decide)) (cellO (show 0 < 28 by decide)) rfl rfl (Nat.le_of_ble_eq_true rfl) km_X8_154 (kX3_hasSheet X (by decide) hR hV (by unfold rg; omega)) dX8_lift_5 ?_
  refine r_if_ne (pc := 8) 14 rg_bI dX8_lift_8 (by decide) (fun h8 => ?_) (fun h8 => ?_)
  · skip
    have h8 := bI_n.mp h8
    obtain ⟨hp0, hp1⟩ := h8
    have ql := @dk_lt O p
    have qp := hV.p hp0 hp1
    refine r_aload_n (pc := 14) (a := 0) (i := 0) 0 rfl rfl dX8_lift_14 ?_
    refine r_get (pc := 15) ckX8 (by decide) rfl (j := 2) (by decide) rfl kf_X8_25 dX8_lift_15 ?_
    refine r_iload_n (pc := 18) (a := 1) (i := 1) 1 rfl rfl dX8_lift_18 ?_
    refine r_callVi (pc := 19) (st := []) (As := [iv p]) okX3_deskOf (by decide) (oH_lt (show 0 < 28 by decide)) (cellO (show 0 < 28 by decide)) rfl rfl (Nat.le_of_ble_eq_true rfl) km_X8_157 (kX3_deskOf X (by decide) hR hV (by omega) (by omega)) dX8_lift_19 ?_
    refine r_istore_n (pc := 22) (a := 2) (i := 2) rfl [(2, iv (dk O p)), (0, rv X 0), (1, iv p)] (by decide) rfl dX8_lift_22 ?_
    refine r_iload_n (pc := 23) (a := 2) (i := 2) 0 rfl rfl dX8_lift_23 ?_
    refine r_if_ge (pc := 24) 30 (by unfold rg; omega) dX8_lift_24 (by decide) (fun h24 => ?_) (fun h24 => ?_)
    · skip
      have hdk : 0 ≤ dk O p := h24
      have hdl := (dk_on hdk).1
      have vd := hV.d hdk hdl
      have va := ab_r hdk
      obtain ⟨l1, l2, l3, l4, l5, l6, l7, l8⟩ := ly_all hV hp0 hp1 hdk (d := dk O p) (by omega) (by omega) (by first | exact Or.inl rfl | exact Or.inr (by omega))
      have w0 := l3 0 (by omega)
      have w1 := l3 1 (by omega)
      have w2 := l3 (15 + 2 * (dk O p)) (by omega)
      refine r_aload_n (pc := 30) (a := 0) (i := 0) 1 rfl rfl dX8_lift_30 ?_
      refine r_get (pc := 31) ckX8 (by decide) rfl (j := 3) (by decide) rfl kf_X8_32 dX8_lift_31 ?_
      refine r_aload_n (pc := 34) (a := 0) (i := 0) 1 rfl rfl dX8_lift_34 ?_
      refine r_get (pc := 35) ckX8 (by decide) rfl (j := 2) (by decide) rfl kf_X8_25 dX8_lift_35 ?_
      refine r_callV (pc := 38) (st := []) (As := [rv X (oH 0)]) okX0_keep (by decide) (by decide) rfl rfl rfl (Nat.le_of_ble_eq_true rfl) km_X8_161 (kX0_keep X hA hB (by rw [hO]; exact (by omega))) dX8_lift_38 ?_
      rintro _ J1 ⟨rfl, hB1, hf1⟩
      have hR1 : RepC O J1 0 := hR.fr (fun a x y => hf1 a (by rw [oe] at x; omega) (by rw [oe] at y; omega))
      refine r_aload_n (pc := 41) (a := 0) (i := 0) 1 rfl rfl dX8_lift_41 ?_
      refine r_get (pc := 42) ckX8 (by decide) rfl (j := 2) (by decide) rfl kf_X8_25 dX8_lift_42 ?_
      refine r_iload_n (pc := 45) (a := 1) (i := 1) 2 rfl rfl dX8_lift_45 ?_
      refine r_callVi (pc := 46) (st := []) (As := [iv p]) okX3_above (by decide) (oH_lt (show 0 < 28 by decide)) (cellO (show 0 < 28 by decide)) rfl rfl (Nat.le_of_ble_eq_true rfl) km_X8_164 (kX3_above X (by decide) hR1 hV hp0 hp1) dX8_lift_46 ?_
      refine r_istore_n (pc := 49) (a := 3) (i := 3) rfl [(3, iv (ab O p)), (2, iv (dk O p)), (0, rv X 0), (1, iv p)] (by decide) rfl dX8_lift_49 ?_
      refine r_aload_n (pc := 50) (a := 0) (i := 0) 2 rfl rfl dX8_lift_50 ?_
      refine r_get (pc := 51) ckX8 (by decide) rfl (j := 2) (by decide) rfl kf_X8_25 dX8_lift_51 ?_
      refine r_iload_n (pc := 54) (a := 1) (i := 1) 3 rfl rfl dX8_lift_54 ?_
      refine r_callV (pc := 55) (st := []) (As := [iv p]) okX3_takeOff (by decide) (oH_lt (show 0 < 28 by decide)) (cellO (show 0 < 28 by decide)) rfl rfl (Nat.le_of_ble_eq_true rfl) km_X8_167 (kX3_takeOff X (by decide) hR1 hV hp0 hp1 hdk) dX8_lift_55 ?_
      rintro _ J2 ⟨rfl, hf2, hR2⟩
      refine r_aload_n (pc := 58) (a := 0) (i := 0) 2 rfl rfl dX8_lift_58 ?_
      refine r_get (pc := 59) ckX8 (by decide) rfl (j := 2) (by decide) rfl kf_X8_25 dX8_lift_59 ?_
      refine r_iload_n (pc := 62) (a := 1) (i := 1) 3 rfl rfl dX8_lift_62 ?_
      refine r_iload_n (pc := 63) (a := 2) (i := 2) 1 rfl rfl dX8_lift_63 ?_
      refine r_callV (pc := 64) (st := []) (As := [iv p, iv (dk O p)]) okX3_putOn (by decide) (oH_lt (show 0 < 28 by decide)) (cellO (show 0 < 28 by decide)) rfl rfl (Nat.le_of_ble_eq_true rfl) km_X8_171 (kX3_putOn X (by decide) hR2 l1 (d := dk O p) (p := p) (by omega) (by omega) (by omega)) dX8_lift_64 ?_
      rintro _ J3 ⟨rfl, hf3, hR3⟩
      have hR3 : RepC (lyO O p (dk O p)) J3 0 := hR3
      have fr3 : ∀ a, a ≠ 21 → (a < 45 ∨ (54 ≤ a ∧ a < 81)) → J3 a = I a := fun a x y => (hf3 a (by rw [oe]; omega)).trans ((hf2 a (by rw [oe]; omega)).trans (hf1 a x (by omega)))
      have rb3 : RB (kpS I) J3 := hB1.cg rfl rfl ((hf3 21 (by rw [oe]; omega)).trans (hf2 21 (by rw [oe]; omega))) (fun a x y => (hf3 a (by rw [oe]; omega)).trans (hf2 a (by rw [oe]; omega)))
      refine r_aload_n (pc := 67) (a := 0) (i := 0) 2 rfl rfl dX8_lift_67 ?_
      refine r_get (pc := 68) ckX8 (by decide) rfl (j := 2) (by decide) rfl kf_X8_25 dX8_lift_68 ?_
      refine r_getN (pc := 71) ckX3 (oH_lt (show 0 < 28 by decide)) (cellO (show 0 < 28 by decide)) (j := 10) (by decide) (show _ = some (iv (O 2)) by rw [← (hR3.f2.trans (l4 2 (by omega)))]; rfl) kf_X8_174 dX8_lift_71 ?_
      refine r_aload_n (pc := 74) (a := 0) (i := 0) 2 rfl rfl dX8_lift_74 ?_
      refine r_get (pc := 75) ckX8 (by decide) rfl (j := 2) (by decide) rfl kf_X8_25 dX8_lift_75 ?_
      refine r_getN (pc := 78) ckX3 (oH_lt (show 0 < 28 by decide)) (cellO (show 0 < 28 by decide)) (j := 7) (by decide) rfl kf_X8_177 dX8_lift_78 ?_
      refine r_iload_n (pc := 81) (a := 1) (i := 1) 3 rfl rfl dX8_lift_81 ?_
      refine r_iald (pc := 82) (z := O (65 + 4 * p)) (oH_lt8 (show 0 < 28 by decide)) ((cellO8 (show 0 < 28 by decide)) _) (by omega) (by omega) (by decide) ((hR3.need hp0 (by rw [l4 1 (by omega)]; exact hp1)).trans (l4 _ (by omega))) dX8_lift_82 ?_
      refine r_icmp_gt (pc := 83) 101 (by unfold rg; omega) (by unfold rg; omega) dX8_lift_83 (by decide) (fun h83 => ?_) (fun h83 => ?_)
      · skip
        refine r_iload_n (pc := 101) (a := 3) (i := 3) 0 rfl rfl dX8_lift_101 ?_
        refine r_iret (pc := 102) (st := []) rfl dX8_lift_102 ?_
        exact ⟨fun a => absurd a (by omega), fun _ b => absurd b (by omega), fun _ _ => ⟨rfl, by rw [lfO_b (by omega)]; exact hR3, rb3, fr3⟩⟩
      · skip
        have l9 := l4 1 (by omega)
        refine r_aload_n (pc := 86) (a := 0) (i := 0) 2 rfl rfl dX8_lift_86 ?_
        refine r_get (pc := 87) ckX8 (by decide) rfl (j := 2) (by decide) rfl kf_X8_25 dX8_lift_87 ?_
        refine r_dup (pc := 90) rfl dX8_lift_90 ?_
        refine r_getN (pc := 91) ckX3 (oH_lt (show 0 < 28 by decide)) (cellO (show 0 < 28 by decide)) (j := 11) (by decide) (show _ = some (iv ((bset (fun x => x < lyO O p (dk O p) 1 ∧ lyO O p (dk O p) (66 + 4 * x) = 1) 16 : Nat) : Int)) by rw [← hR3.met]; rfl) kf_X8_180 dX8_lift_91 ?_
        refine r_iconst (pc := 94) dX8_lift_94 ?_
        refine r_iload_n (pc := 95) (a := 1) (i := 1) 3 rfl rfl dX8_lift_95 ?_
        refine r_ishl (pc := 96) (z := ((2 ^ (p).toNat : Nat) : Int)) (sh_1 (by omega) (by omega)) dX8_lift_96 ?_
        refine r_ior (pc := 97) (z := ((bset (fun x => (x < lyO O p (dk O p) 1 ∧ lyO O p (dk O p) (66 + 4 * x) = 1) ∨ x = p) 16 : Nat) : Int)) (bs_add (by omega) (by omega)) dX8_lift_97 ?_
        refine r_putN (pc := 98) 11 (ji := 11) rfl ckX3 (oH_lt (show 0 < 28 by decide)) (cellO (show 0 < 28 by decide)) (cellOp11 (show 0 < 28 by decide)) (by decide) (Nat.le_of_ble_eq_true rfl) kf_X8_180 rfl rfl rfl rfl dX8_lift_98 ?_
        refine r_iload_n (pc := 101) (a := 3) (i := 3) 0 rfl rfl dX8_lift_101 ?_
        refine r_iret (pc := 102) (st := []) rfl dX8_lift_102 ?_
        exact ⟨fun a => absurd a (by omega), fun _ b => absurd b (by omega), fun _ _ => ⟨rfl, by rw [lfO_a (by omega)]; exact RepC.meet l2 hR3 hp0 (by rw [l4 1 (by omega)]; exact hp1), rb3.cg rfl rfl (up_row (by decide)) (fun a x y => up_row (by first | omega | (rw [oe]; omega))), fun a x y => (up_row (by first | omega | (rw [oe]; omega))).trans (fr3 a x y)⟩⟩
    · skip
      refine r_ldc (pc := 27) kc_X8_160 dX8_lift_27 ?_
      refine r_iret (pc := 29) (st := []) rfl dX8_lift_29 ?_
      exact ⟨fun a => absurd a (by omega), fun _ _ => ⟨rfl, rfl⟩, fun _ b => absurd b (by omega)⟩
  · skip
    have h8 := bI_0.mp h8
    refine r_ldc (pc := 11) kc_X8_73 dX8_lift_11 ?_
    refine r_iret (pc := 13) (st := []) rfl dX8_lift_13 ?_
    exact ⟨fun _ => ⟨rfl, rfl⟩, fun a => absurd a (by omega), fun a => absurd a (by omega)⟩

set_option maxRecDepth 100000 in
set_option maxHeartbeats 4000000 in
theorem kX8_lay (X : XC) {I : HD} {O : OF} (hO : I 34 = O) (hA : RA I I) (hB : RB I I) {p d : Int} (hp : rg p) (hd : rg d) : Cl X 6 mX8_lay [rv X 0, iv p, iv d] I (fun r J => (¬ (0 ≤ p ∧ p < O 1 ∧ 0 ≤ d ∧ d < O 0) → r = some (iv (-1000001)) ∧ J = I) ∧ (0 ≤ p ∧ p < O 1 ∧ 0 ≤ d ∧ d < O 0 → (dk O p < 0 ∨ dk O p = d) → r = some (iv (-1000002)) ∧ J = I) ∧ (0 ≤ p ∧ p < O 1 ∧ 0 ≤ d ∧ d < O 0 → ¬ (dk O p < 0 ∨ dk O p = d) → ¬ O (23 + 10 * d) < O (15 + 2 * d) → r = some (iv (-1000003)) ∧ J = I) ∧ (0 ≤ p ∧ p < O 1 ∧ 0 ≤ d ∧ d < O 0 → ¬ (dk O p < 0 ∨ dk O p = d) → O (23 + 10 * d) < O (15 + 2 * d) → r = some (iv (O (23 + 10 * d) + 1)) ∧ RepC (lyO O p d) J 0 ∧ RB (kpS I) J ∧ ∀ a, a ≠ 21 → (a < 45 ∨ (54 ≤ a ∧ a < 81)) → J a = I a)) := by
  refine Cl.of (by decide) (Nat.le_of_ble_eq_true rfl) ?_
  show Rn X 6 mX8_lay _ 0 [(0, rv X 0), (1, iv p), (2, iv d)] [] I
  have hV : Val O := hO ▸ hA.1
  have hR : RepC O I 0 := hO ▸ hA.2.1
  have q0 := hV.a
  have oe : ∀ x, oH x = 45 + 9 * x := fun _ => rfl
  unfold rg at hp hd
  refine r_aload_n (pc := 0) (a := 0) (i := 0) 0 rfl rfl dX8_lay_0 ?_
  refine r_get (pc := 1) ckX8 (by decide) rfl (j := 2) (by decide) rfl kf_X8_25 dX8_lay_1 ?_
  refine r_iload_n (pc := 4) (a := 1) (i := 1) 1 rfl rfl dX8_lay_4 ?_
  refine r_callVi (pc := 5) (st := []) (As := [iv p]) okX3_hasSheet (by decide) (oH_lt (show 0 < 28 by decide)) (cellO (show 0 < 28 by decide)) rfl rfl (Nat.le_of_ble_eq_true rfl) km_X8_154 (kX3_hasSheet X (by decide) hR hV (by unfold rg; omega)) dX8_lay_5 ?_
  refine r_if_eq (pc := 8) 22 rg_bI dX8_lay_8 (by decide) (fun h8 => ?_) (fun h8 => ?_)
  · skip
    have h8 := bI_0.mp h8
    refine r_ldc (pc := 22) kc_X8_73 dX8_lay_22 ?_
    refine r_iret (pc := 24) (st := []) rfl dX8_lay_24 ?_
    exact ⟨fun _ => ⟨rfl, rfl⟩, fun a => absurd a (by omega), fun a => absurd a (by omega), fun a => absurd a (by omega)⟩
  · skip
    have h8 := bI_n.mp h8
    refine r_aload_n (pc := 11) (a := 0) (i := 0) 0 rfl rfl dX8_lay_11 ?_
    refine r_get (pc := 12) ckX8 (by decide) rfl (j := 2) (by decide) rfl kf_X8_25 dX8_lay_12 ?_
    refine r_iload_n (pc := 15) (a := 2) (i := 2) 2 rfl rfl dX8_lay_15 ?_
    refine r_callVi (pc := 16) (st := []) (As := [iv d]) okX3_hasDesk (by decide) (oH_lt (show 0 < 28 by decide)) (cellO (show 0 < 28 by decide)) rfl rfl (Nat.le_of_ble_eq_true rfl) km_X8_183 (kX3_hasDesk X (by decide) hR hV (by unfold rg; omega)) dX8_lay_16 ?_
    refine r_if_ne (pc := 19) 25 rg_bI dX8_lay_19 (by decide) (fun h19 => ?_) (fun h19 => ?_)
    · skip
      have h19 := bI_n.mp h19
      obtain ⟨hp0, hp1⟩ := h8
      obtain ⟨hd0, hd1⟩ := h19
      have ql := @dk_lt O p
      have qp := hV.p hp0 hp1
      have qd := hV.d hd0 hd1
      refine r_aload_n (pc := 25) (a := 0) (i := 0) 0 rfl rfl dX8_lay_25 ?_
      refine r_get (pc := 26) ckX8 (by decide) rfl (j := 2) (by decide) rfl kf_X8_25 dX8_lay_26 ?_
      refine r_iload_n (pc := 29) (a := 1) (i := 1) 1 rfl rfl dX8_lay_29 ?_
      refine r_callVi (pc := 30) (st := []) (As := [iv p]) okX3_deskOf (by decide) (oH_lt (show 0 < 28 by decide)) (cellO (show 0 < 28 by decide)) rfl rfl (Nat.le_of_ble_eq_true rfl) km_X8_157 (kX3_deskOf X (by decide) hR hV (by omega) (by omega)) dX8_lay_30 ?_
      refine r_istore_n (pc := 33) (a := 3) (i := 3) rfl [(3, iv (dk O p)), (0, rv X 0), (1, iv p), (2, iv d)] (by decide) rfl dX8_lay_33 ?_
      refine r_iload_n (pc := 34) (a := 3) (i := 3) 0 rfl rfl dX8_lay_34 ?_
      refine r_if_lt (pc := 35) 43 (by unfold rg; omega) dX8_lay_35 (by decide) (fun h35 => ?_) (fun h35 => ?_)
      · skip
        refine r_ldc (pc := 43) kc_X8_160 dX8_lay_43 ?_
        refine r_iret (pc := 45) (st := []) rfl dX8_lay_45 ?_
        exact ⟨fun a => absurd a (by omega), fun _ _ => ⟨rfl, rfl⟩, fun _ b => absurd b (by omega), fun _ b => absurd b (by omega)⟩
      · skip
        refine r_iload_n (pc := 38) (a := 3) (i := 3) 0 rfl rfl dX8_lay_38 ?_
        refine r_iload_n (pc := 39) (a := 2) (i := 2) 3 rfl rfl dX8_lay_39 ?_
        refine r_icmp_ne (pc := 40) 46 (by unfold rg; omega) (by unfold rg; omega) dX8_lay_40 (by decide) (fun h40 => ?_) (fun h40 => ?_)
        · skip
          refine r_aload_n (pc := 46) (a := 0) (i := 0) 1 rfl rfl dX8_lay_46 ?_
          refine r_get (pc := 47) ckX8 (by decide) rfl (j := 2) (by decide) rfl kf_X8_25 dX8_lay_47 ?_
          refine r_iload_n (pc := 50) (a := 2) (i := 2) 3 rfl rfl dX8_lay_50 ?_
          refine r_callVi (pc := 51) (st := []) (As := [iv d]) okX3_hasRoom (by decide) (oH_lt (show 0 < 28 by decide)) (cellO (show 0 < 28 by decide)) rfl rfl (Nat.le_of_ble_eq_true rfl) km_X8_186 (kX3_hasRoom X (by decide) hR hV (by omega) (by omega)) dX8_lay_51 ?_
          refine r_if_ne (pc := 54) 60 rg_bI dX8_lay_54 (by decide) (fun h54 => ?_) (fun h54 => ?_)
          · skip
            have h54 := bI_n.mp h54
            have hdk : 0 ≤ dk O p := by omega
            have hdl := (dk_on hdk).1
            have vd := hV.d hdk hdl
            have va := ab_r hdk
            obtain ⟨l1, l2, l3, l4, l5, l6, l7, l8⟩ := ly_all hV hp0 hp1 hdk (d := d) (by omega) (by omega) (by first | exact Or.inl rfl | exact Or.inr (by omega))
            have w0 := l3 0 (by omega)
            have w1 := l3 1 (by omega)
            have w2 := l3 (15 + 2 * (d)) (by omega)
            have l8 := l8 (by omega)
            refine r_aload_n (pc := 60) (a := 0) (i := 0) 1 rfl rfl dX8_lay_60 ?_
            refine r_get (pc := 61) ckX8 (by decide) rfl (j := 3) (by decide) rfl kf_X8_32 dX8_lay_61 ?_
            refine r_aload_n (pc := 64) (a := 0) (i := 0) 1 rfl rfl dX8_lay_64 ?_
            refine r_get (pc := 65) ckX8 (by decide) rfl (j := 2) (by decide) rfl kf_X8_25 dX8_lay_65 ?_
            refine r_callV (pc := 68) (st := []) (As := [rv X (oH 0)]) okX0_keep (by decide) (by decide) rfl rfl rfl (Nat.le_of_ble_eq_true rfl) km_X8_161 (kX0_keep X hA hB (by rw [hO]; exact (by omega))) dX8_lay_68 ?_
            rintro _ J1 ⟨rfl, hB1, hf1⟩
            have hR1 : RepC O J1 0 := hR.fr (fun a x y => hf1 a (by rw [oe] at x; omega) (by rw [oe] at y; omega))
            refine r_aload_n (pc := 71) (a := 0) (i := 0) 1 rfl rfl dX8_lay_71 ?_
            refine r_get (pc := 72) ckX8 (by decide) rfl (j := 2) (by decide) rfl kf_X8_25 dX8_lay_72 ?_
            refine r_iload_n (pc := 75) (a := 1) (i := 1) 2 rfl rfl dX8_lay_75 ?_
            refine r_callV (pc := 76) (st := []) (As := [iv p]) okX3_takeOff (by decide) (oH_lt (show 0 < 28 by decide)) (cellO (show 0 < 28 by decide)) rfl rfl (Nat.le_of_ble_eq_true rfl) km_X8_167 (kX3_takeOff X (by decide) hR1 hV hp0 hp1 hdk) dX8_lay_76 ?_
            rintro _ J2 ⟨rfl, hf2, hR2⟩
            refine r_aload_n (pc := 79) (a := 0) (i := 0) 1 rfl rfl dX8_lay_79 ?_
            refine r_get (pc := 80) ckX8 (by decide) rfl (j := 2) (by decide) rfl kf_X8_25 dX8_lay_80 ?_
            refine r_iload_n (pc := 83) (a := 1) (i := 1) 2 rfl rfl dX8_lay_83 ?_
            refine r_iload_n (pc := 84) (a := 2) (i := 2) 3 rfl rfl dX8_lay_84 ?_
            refine r_callV (pc := 85) (st := []) (As := [iv p, iv d]) okX3_putOn (by decide) (oH_lt (show 0 < 28 by decide)) (cellO (show 0 < 28 by decide)) rfl rfl (Nat.le_of_ble_eq_true rfl) km_X8_171 (kX3_putOn X (by decide) hR2 l1 (d := d) (p := p) (by omega) (by omega) (by omega)) dX8_lay_85 ?_
            rintro _ J3 ⟨rfl, hf3, hR3⟩
            have hR3 : RepC (lyO O p (d)) J3 0 := hR3
            have fr3 : ∀ a, a ≠ 21 → (a < 45 ∨ (54 ≤ a ∧ a < 81)) → J3 a = I a := fun a x y => (hf3 a (by rw [oe]; omega)).trans ((hf2 a (by rw [oe]; omega)).trans (hf1 a x (by omega)))
            have rb3 : RB (kpS I) J3 := hB1.cg rfl rfl ((hf3 21 (by rw [oe]; omega)).trans (hf2 21 (by rw [oe]; omega))) (fun a x y => (hf3 a (by rw [oe]; omega)).trans (hf2 a (by rw [oe]; omega)))
            refine r_aload_n (pc := 88) (a := 0) (i := 0) 1 rfl rfl dX8_lay_88 ?_
            refine r_get (pc := 89) ckX8 (by decide) rfl (j := 2) (by decide) rfl kf_X8_25 dX8_lay_89 ?_
            refine r_getN (pc := 92) ckX3 (oH_lt (show 0 < 28 by decide)) (cellO (show 0 < 28 by decide)) (j := 3) (by decide) rfl kf_X8_187 dX8_lay_92 ?_
            refine r_iload_n (pc := 95) (a := 2) (i := 2) 3 rfl rfl dX8_lay_95 ?_
            refine r_iald (pc := 96) (z := lyO O p d (23 + 10 * d)) (oH_lt4 (show 0 < 28 by decide)) ((cellO4 (show 0 < 28 by decide)) _) (by omega) (by omega) (by decide) (hR3.hgt hd0 (by rw [l4 0 (by omega)]; exact hd1)) dX8_lay_96 ?_
            refine r_iret (pc := 97) (st := []) rfl dX8_lay_97 ?_
            exact ⟨fun a => absurd a (by omega), fun _ b => absurd b (by omega), fun _ _ c => absurd c (by omega), fun _ _ _ => ⟨congrArg (fun q => some (iv q)) (by omega), hR3, rb3, fr3⟩⟩
          · skip
            have h54 := bI_0.mp h54
            refine r_ldc (pc := 57) kc_X8_125 dX8_lay_57 ?_
            refine r_iret (pc := 59) (st := []) rfl dX8_lay_59 ?_
            exact ⟨fun a => absurd a (by omega), fun _ b => absurd b (by omega), fun _ _ _ => ⟨rfl, rfl⟩, fun _ _ c => absurd c (by omega)⟩
        · skip
          refine r_ldc (pc := 43) kc_X8_160 dX8_lay_43 ?_
          refine r_iret (pc := 45) (st := []) rfl dX8_lay_45 ?_
          exact ⟨fun a => absurd a (by omega), fun _ _ => ⟨rfl, rfl⟩, fun _ b => absurd b (by omega), fun _ b => absurd b (by omega)⟩
    · skip
      have h19 := bI_0.mp h19
      refine r_ldc (pc := 22) kc_X8_73 dX8_lay_22 ?_
      refine r_iret (pc := 24) (st := []) rfl dX8_lay_24 ?_
      exact ⟨fun _ => ⟨rfl, rfl⟩, fun a => absurd a (by omega), fun a => absurd a (by omega), fun a => absurd a (by omega)⟩
