set_option maxRecDepth 100000 in
set_option maxHeartbeats 4000000 in
theorem kX9_lift (X : XC) {I : HD} {O : OF} (hO : I 34 = O) (hV : Val O) (n0 : 0 ≤ I 30 9) (n1 : I 30 9 ≤ 24) {p : Int} (hp : rg p) : Cl X 6 mX9_lift [rv X 30, iv p] I (fun r J => (¬ (0 ≤ p ∧ p < O 1) → r = some (iv (-1000001)) ∧ J = up I 30 0 0) ∧ (0 ≤ p ∧ p < O 1 → dk O p < 0 → r = some (iv (-1000002)) ∧ J = up I 30 0 0) ∧ (0 ≤ p ∧ p < O 1 → 0 ≤ dk O p → r = some (iv (ab O p)) ∧ J = upA (kpS (up I 30 0 0)) 34 (lfO O p))) := by
  refine Cl.of (by decide) (Nat.le_of_ble_eq_true rfl) ?_
  show Rn X 6 mX9_lift _ 0 [(0, rv X 30), (1, iv p)] [] I
  have hO2 : (up I 30 0 0) 34 = O := (up_row (by decide)).trans hO
  have hOk : (kpS (up I 30 0 0)) 34 = O := kpS_34.trans hO2
  have q0 := hV.a
  unfold rg at hp
  refine r_aload_n (pc := 0) (a := 0) (i := 0) 0 rfl rfl dX9_lift_0 ?_
  refine r_iconst (pc := 1) dX9_lift_1 ?_
  refine r_put (pc := 2) 0 (ji := 0) rfl ckX9 (by decide) rfl rfl (by decide) (Nat.le_of_ble_eq_true rfl) kf_X9_54 rfl rfl rfl rfl dX9_lift_2 ?_
  refine r_aload_n (pc := 5) (a := 0) (i := 0) 0 rfl rfl dX9_lift_5 ?_
  refine r_iload_n (pc := 6) (a := 1) (i := 1) 1 rfl rfl dX9_lift_6 ?_
  refine r_callVi (pc := 7) (st := []) (As := [iv p]) okX9_isSheet (by decide) (by decide) rfl rfl rfl (Nat.le_of_ble_eq_true rfl) km_X9_200 (kX9_isSheet X hO2 hV (by unfold rg; omega)) dX9_lift_7 ?_
  refine r_if_ne (pc := 10) 16 rg_bI dX9_lift_10 (by decide) (fun h10 => ?_) (fun h10 => ?_)
  · skip
    have h10 := bI_n.mp h10
    obtain ⟨hp0, hp1⟩ := h10
    have ql := @dk_lt O p
    have qN := dkN_or O p
    have qp := hV.p hp0 hp1
    refine r_aload_n (pc := 16) (a := 0) (i := 0) 0 rfl rfl dX9_lift_16 ?_
    refine r_iload_n (pc := 17) (a := 1) (i := 1) 1 rfl rfl dX9_lift_17 ?_
    refine r_callVi (pc := 18) (st := []) (As := [iv p]) okX9_deskOf (by decide) (by decide) rfl rfl rfl (Nat.le_of_ble_eq_true rfl) km_X9_203 (kX9_deskOf X hO2 hV (by omega) (by omega)) dX9_lift_18 ?_
    refine r_istore_n (pc := 21) (a := 2) (i := 2) rfl [(2, iv (dkN O p)), (0, rv X 30), (1, iv p)] (by decide) rfl dX9_lift_21 ?_
    refine r_iload_n (pc := 22) (a := 2) (i := 2) 0 rfl rfl dX9_lift_22 ?_
    refine r_ldc (pc := 23) kc_X9_90 dX9_lift_23 ?_
    refine r_icmp_ne (pc := 25) 31 (by unfold rg; omega) (by unfold rg; omega) dX9_lift_25 (by decide) (fun h25 => ?_) (fun h25 => ?_)
    · skip
      have hdk : 0 ≤ dk O p := by omega
      have hd9 : dkN O p = dk O p := dkN_b hdk
      have hdl := (dk_on hdk).1
      have vd := hV.d hdk hdl
      have va := ab_r hdk
      obtain ⟨l1, l2, l3, l4, l5, l6, l7, l8⟩ := ly_all hV hp0 hp1 hdk (d := dk O p) (by omega) (by omega) (by first | exact Or.inl rfl | exact Or.inr (by omega))
      have w0 := l3 0 (by omega)
      have w1 := l3 1 (by omega)
      have w2 := l3 (15 + 2 * (dk O p)) (by omega)
      refine r_lve (lv2 := [(2, iv (dk O p)), (0, rv X 30), (1, iv p)]) (by rw [hd9]) ?_
      refine r_aload_n (pc := 31) (a := 0) (i := 0) 1 rfl rfl dX9_lift_31 ?_
      refine r_callVv (pc := 32) (st := []) (As := []) okX9_keep (by decide) (by decide) rfl rfl rfl (Nat.le_of_ble_eq_true rfl) km_X9_207 (kX9_keep X hO2 rfl ((up_i (by decide)).trans rfl) n0 n1) dX9_lift_32 ?_
      refine r_I (J := kpS (up I 30 0 0)) (by unfold kpS; rw [hO2, up_i (show (9 : Int) ≠ 0 by decide)]) ?_
      refine r_aload_n (pc := 35) (a := 0) (i := 0) 1 rfl rfl dX9_lift_35 ?_
      refine r_iload_n (pc := 36) (a := 2) (i := 2) 0 rfl rfl dX9_lift_36 ?_
      refine r_callVi (pc := 37) (st := []) (As := [iv (dk O p)]) okX9_manyOn (by decide) (by decide) rfl rfl rfl (Nat.le_of_ble_eq_true rfl) km_X9_191 (kX9_manyOn X hOk hV hdk hdl) dX9_lift_37 ?_
      refine r_iconst (pc := 40) dX9_lift_40 ?_
      refine r_isub (pc := 41) dX9_lift_41 ?_
      refine r_aload_n (pc := 42) (a := 0) (i := 0) 1 rfl rfl dX9_lift_42 ?_
      refine r_iload_n (pc := 43) (a := 2) (i := 2) 0 rfl rfl dX9_lift_43 ?_
      refine r_iload_n (pc := 44) (a := 1) (i := 1) 2 rfl rfl dX9_lift_44 ?_
      refine r_callVi (pc := 45) (st := [iv ((O (23 + 10 * dk O p)) - 1)]) (As := [iv (dk O p), iv p]) okX9_placeOf (by decide) (by decide) rfl rfl rfl (Nat.le_of_ble_eq_true rfl) km_X9_197 (kX9_placeOf X hOk hV hdk hdl (k9 := O (23 + 10 * dk O p) - 1 - ab O p) (by omega) (by omega) (ab_3 hdk)) dX9_lift_45 ?_
      refine r_isub (pc := 48) dX9_lift_48 ?_
      refine r_istore_n (pc := 49) (a := 3) (i := 3) rfl [(3, iv (((O (23 + 10 * dk O p)) - 1) - (O (23 + 10 * dk O p) - 1 - ab O p))), (2, iv (dk O p)), (0, rv X 30), (1, iv p)] (by decide) rfl dX9_lift_49 ?_
      refine r_aload_n (pc := 50) (a := 0) (i := 0) 2 rfl rfl dX9_lift_50 ?_
      refine r_iload_n (pc := 51) (a := 2) (i := 2) 1 rfl rfl dX9_lift_51 ?_
      refine r_iload_n (pc := 52) (a := 1) (i := 1) 3 rfl rfl dX9_lift_52 ?_
      refine r_callVv (pc := 53) (st := []) (As := [iv (dk O p), iv p]) okX9_leaves (by decide) (by decide) rfl rfl rfl (Nat.le_of_ble_eq_true rfl) km_X9_210 (kX9_leaves X hOk hV hdk hdl (k9 := O (23 + 10 * dk O p) - 1 - ab O p) (by omega) (by omega) (ab_3 hdk)) dX9_lift_53 ?_
      refine r_aload_n (pc := 56) (a := 0) (i := 0) 2 rfl rfl dX9_lift_56 ?_
      refine r_iload_n (pc := 57) (a := 2) (i := 2) 1 rfl rfl dX9_lift_57 ?_
      refine r_iload_n (pc := 58) (a := 1) (i := 1) 3 rfl rfl dX9_lift_58 ?_
      refine r_callVv (pc := 59) (st := []) (As := [iv (dk O p), iv p]) okX9_comes (by decide) (by decide) rfl rfl rfl (Nat.le_of_ble_eq_true rfl) km_X9_213 (kX9_comes X upA_s l1 (d := dk O p) (p := p) (by omega) (by omega)) dX9_lift_59 ?_
      refine r_I (J := upA (kpS (up I 30 0 0)) 34 (lyO O p (dk O p))) (upA_A) ?_
      refine r_aload_n (pc := 62) (a := 0) (i := 0) 2 rfl rfl dX9_lift_62 ?_
      refine r_get (pc := 63) ckX9 (by decide) rfl (j := 5) (by decide) rfl kf_X9_19 dX9_lift_63 ?_
      refine r_iconst (pc := 66) dX9_lift_66 ?_
      refine r_iald (pc := 67) (z := O 2) (by decide) rfl (by omega) (by omega) (by decide) ((congrFun upA_s _).trans (l4 2 (by omega))) dX9_lift_67 ?_
      refine r_aload_n (pc := 68) (a := 0) (i := 0) 2 rfl rfl dX9_lift_68 ?_
      refine r_iload_n (pc := 69) (a := 1) (i := 1) 3 rfl rfl dX9_lift_69 ?_
      refine r_iconst (pc := 70) dX9_lift_70 ?_
      refine r_callVi (pc := 71) (st := [iv (O 2)]) (As := [iv p, iv 2]) okX9_of (by decide) (by decide) rfl rfl rfl (Nat.le_of_ble_eq_true rfl) km_X9_216 (kX9_of X (O := lyO O p (dk O p)) upA_s l2 (z := O (65 + 4 * p)) hp0 (by omega) (by omega) ((congrArg _ (by omega)).trans (l4 (65 + 4 * p) (by omega)))) dX9_lift_71 ?_
      refine r_icmp_gt (pc := 74) 91 (by unfold rg; omega) (by unfold rg; omega) dX9_lift_74 (by decide) (fun h74 => ?_) (fun h74 => ?_)
      · skip
        refine r_iload_n (pc := 91) (a := 3) (i := 3) 0 rfl rfl dX9_lift_91 ?_
        refine r_iret (pc := 92) (st := []) rfl dX9_lift_92 ?_
        exact ⟨fun a => absurd a (by omega), fun _ b => absurd b (by omega), fun _ _ => ⟨congrArg (fun q => some (iv q)) (by omega), by rw [lfO_b (by omega)]⟩⟩
      · skip
        refine r_aload_n (pc := 77) (a := 0) (i := 0) 2 rfl rfl dX9_lift_77 ?_
        refine r_get (pc := 78) ckX9 (by decide) rfl (j := 5) (by decide) rfl kf_X9_19 dX9_lift_78 ?_
        refine r_bipush (pc := 81) rfl dX9_lift_81 ?_
        refine r_iconst (pc := 83) dX9_lift_83 ?_
        refine r_iload_n (pc := 84) (a := 1) (i := 1) 3 rfl rfl dX9_lift_84 ?_
        refine r_imul (pc := 85) dX9_lift_85 ?_
        refine r_iadd (pc := 86) dX9_lift_86 ?_
        refine r_iconst (pc := 87) dX9_lift_87 ?_
        refine r_iadd (pc := 88) dX9_lift_88 ?_
        refine r_iconst (pc := 89) dX9_lift_89 ?_
        refine r_iast (pc := 90) (by decide) (fun _ => rfl) (by omega) (by omega) (by decide) dX9_lift_90 ?_
        refine r_iload_n (pc := 91) (a := 3) (i := 3) 0 rfl rfl dX9_lift_91 ?_
        refine r_iret (pc := 92) (st := []) rfl dX9_lift_92 ?_
        exact ⟨fun a => absurd a (by omega), fun _ b => absurd b (by omega), fun _ _ => ⟨congrArg (fun q => some (iv q)) (by omega), by rw [lfO_a (by omega), upA_u]; congr 1; funext k; by_cases e : k = 66 + 4 * p; (rw [if_pos e, if_pos (by omega)]); (rw [if_neg e, if_neg (by omega)])⟩⟩
    · skip
      refine r_ldc (pc := 28) kc_X9_206 dX9_lift_28 ?_
      refine r_iret (pc := 30) (st := []) rfl dX9_lift_30 ?_
      exact ⟨fun a => absurd a (by omega), fun _ _ => ⟨rfl, rfl⟩, fun _ b => absurd b (by omega)⟩
  · skip
    have h10 := bI_0.mp h10
    refine r_ldc (pc := 13) kc_X9_74 dX9_lift_13 ?_
    refine r_iret (pc := 15) (st := []) rfl dX9_lift_15 ?_
    exact ⟨fun _ => ⟨rfl, rfl⟩, fun a => absurd a (by omega), fun a => absurd a (by omega)⟩

set_option maxRecDepth 100000 in
set_option maxHeartbeats 4000000 in
theorem kX9_lay (X : XC) {I : HD} {O : OF} (hO : I 34 = O) (hV : Val O) (n0 : 0 ≤ I 30 9) (n1 : I 30 9 ≤ 24) {p d : Int} (hp : rg p) (hd : rg d) : Cl X 6 mX9_lay [rv X 30, iv p, iv d] I (fun r J => (¬ (0 ≤ p ∧ p < O 1 ∧ 0 ≤ d ∧ d < O 0) → r = some (iv (-1000001)) ∧ J = up I 30 0 0) ∧ (0 ≤ p ∧ p < O 1 ∧ 0 ≤ d ∧ d < O 0 → (dk O p < 0 ∨ dk O p = d) → r = some (iv (-1000002)) ∧ J = up I 30 0 0) ∧ (0 ≤ p ∧ p < O 1 ∧ 0 ≤ d ∧ d < O 0 → ¬ (dk O p < 0 ∨ dk O p = d) → ¬ O (23 + 10 * d) < O (15 + 2 * d) → r = some (iv (-1000003)) ∧ J = up I 30 0 0) ∧ (0 ≤ p ∧ p < O 1 ∧ 0 ≤ d ∧ d < O 0 → ¬ (dk O p < 0 ∨ dk O p = d) → O (23 + 10 * d) < O (15 + 2 * d) → r = some (iv (O (23 + 10 * d) + 1)) ∧ J = upA (kpS (up I 30 0 0)) 34 (lyO O p d))) := by
  refine Cl.of (by decide) (Nat.le_of_ble_eq_true rfl) ?_
  show Rn X 6 mX9_lay _ 0 [(0, rv X 30), (1, iv p), (2, iv d)] [] I
  have hO2 : (up I 30 0 0) 34 = O := (up_row (by decide)).trans hO
  have hOk : (kpS (up I 30 0 0)) 34 = O := kpS_34.trans hO2
  have q0 := hV.a
  unfold rg at hp hd
  refine r_aload_n (pc := 0) (a := 0) (i := 0) 0 rfl rfl dX9_lay_0 ?_
  refine r_iconst (pc := 1) dX9_lay_1 ?_
  refine r_put (pc := 2) 0 (ji := 0) rfl ckX9 (by decide) rfl rfl (by decide) (Nat.le_of_ble_eq_true rfl) kf_X9_54 rfl rfl rfl rfl dX9_lay_2 ?_
  refine r_aload_n (pc := 5) (a := 0) (i := 0) 0 rfl rfl dX9_lay_5 ?_
  refine r_iload_n (pc := 6) (a := 1) (i := 1) 1 rfl rfl dX9_lay_6 ?_
  refine r_callVi (pc := 7) (st := []) (As := [iv p]) okX9_isSheet (by decide) (by decide) rfl rfl rfl (Nat.le_of_ble_eq_true rfl) km_X9_200 (kX9_isSheet X hO2 hV (by unfold rg; omega)) dX9_lay_7 ?_
  refine r_if_eq (pc := 10) 21 rg_bI dX9_lay_10 (by decide) (fun h10 => ?_) (fun h10 => ?_)
  · skip
    have h10 := bI_0.mp h10
    refine r_ldc (pc := 21) kc_X9_74 dX9_lay_21 ?_
    refine r_iret (pc := 23) (st := []) rfl dX9_lay_23 ?_
    exact ⟨fun _ => ⟨rfl, rfl⟩, fun a => absurd a (by omega), fun a => absurd a (by omega), fun a => absurd a (by omega)⟩
  · skip
    have h10 := bI_n.mp h10
    refine r_aload_n (pc := 13) (a := 0) (i := 0) 0 rfl rfl dX9_lay_13 ?_
    refine r_iload_n (pc := 14) (a := 2) (i := 2) 2 rfl rfl dX9_lay_14 ?_
    refine r_callVi (pc := 15) (st := []) (As := [iv d]) okX9_isDesk (by decide) (by decide) rfl rfl rfl (Nat.le_of_ble_eq_true rfl) km_X9_219 (kX9_isDesk X hO2 hV (by unfold rg; omega)) dX9_lay_15 ?_
    refine r_if_ne (pc := 18) 24 rg_bI dX9_lay_18 (by decide) (fun h18 => ?_) (fun h18 => ?_)
    · skip
      have h18 := bI_n.mp h18
      obtain ⟨hp0, hp1⟩ := h10
      obtain ⟨hd0, hd1⟩ := h18
      have ql := @dk_lt O p
      have qN := dkN_or O p
      have qp := hV.p hp0 hp1
      have qd := hV.d hd0 hd1
      refine r_aload_n (pc := 24) (a := 0) (i := 0) 0 rfl rfl dX9_lay_24 ?_
      refine r_iload_n (pc := 25) (a := 1) (i := 1) 1 rfl rfl dX9_lay_25 ?_
      refine r_callVi (pc := 26) (st := []) (As := [iv p]) okX9_deskOf (by decide) (by decide) rfl rfl rfl (Nat.le_of_ble_eq_true rfl) km_X9_203 (kX9_deskOf X hO2 hV (by omega) (by omega)) dX9_lay_26 ?_
      refine r_istore_n (pc := 29) (a := 3) (i := 3) rfl [(3, iv (dkN O p)), (0, rv X 30), (1, iv p), (2, iv d)] (by decide) rfl dX9_lay_29 ?_
      refine r_iload_n (pc := 30) (a := 3) (i := 3) 0 rfl rfl dX9_lay_30 ?_
      refine r_ldc (pc := 31) kc_X9_90 dX9_lay_31 ?_
      refine r_icmp_eq (pc := 33) 41 (by unfold rg; omega) (by unfold rg; omega) dX9_lay_33 (by decide) (fun h33 => ?_) (fun h33 => ?_)
      · skip
        refine r_ldc (pc := 41) kc_X9_206 dX9_lay_41 ?_
        refine r_iret (pc := 43) (st := []) rfl dX9_lay_43 ?_
        exact ⟨fun a => absurd a (by omega), fun _ _ => ⟨rfl, rfl⟩, fun _ b => absurd b (by omega), fun _ b => absurd b (by omega)⟩
      · skip
        refine r_iload_n (pc := 36) (a := 3) (i := 3) 0 rfl rfl dX9_lay_36 ?_
        refine r_iload_n (pc := 37) (a := 2) (i := 2) 3 rfl rfl dX9_lay_37 ?_
        refine r_icmp_ne (pc := 38) 44 (by unfold rg; omega) (by unfold rg; omega) dX9_lay_38 (by decide) (fun h38 => ?_) (fun h38 => ?_)
        · skip
          refine r_aload_n (pc := 44) (a := 0) (i := 0) 1 rfl rfl dX9_lay_44 ?_
          refine r_iload_n (pc := 45) (a := 2) (i := 2) 3 rfl rfl dX9_lay_45 ?_
          refine r_callVi (pc := 46) (st := []) (As := [iv d]) okX9_hasRoom (by decide) (by decide) rfl rfl rfl (Nat.le_of_ble_eq_true rfl) km_X9_222 (kX9_hasRoom X hO2 hV (by omega) (by omega)) dX9_lay_46 ?_
          refine r_if_ne (pc := 49) 55 rg_bI dX9_lay_49 (by decide) (fun h49 => ?_) (fun h49 => ?_)
          · skip
            have h49 := bI_n.mp h49
            have hdk : 0 ≤ dk O p := by omega
            have hd9 : dkN O p = dk O p := dkN_b hdk
            have hdl := (dk_on hdk).1
            have vd := hV.d hdk hdl
            have va := ab_r hdk
            obtain ⟨l1, l2, l3, l4, l5, l6, l7, l8⟩ := ly_all hV hp0 hp1 hdk (d := d) (by omega) (by omega) (by first | exact Or.inl rfl | exact Or.inr (by omega))
            have w0 := l3 0 (by omega)
            have w1 := l3 1 (by omega)
            have w2 := l3 (15 + 2 * (d)) (by omega)
            have l8 := l8 (by omega)
            refine r_lve (lv2 := [(3, iv (dk O p)), (0, rv X 30), (1, iv p), (2, iv d)]) (by rw [hd9]) ?_
            refine r_aload_n (pc := 55) (a := 0) (i := 0) 1 rfl rfl dX9_lay_55 ?_
            refine r_callVv (pc := 56) (st := []) (As := []) okX9_keep (by decide) (by decide) rfl rfl rfl (Nat.le_of_ble_eq_true rfl) km_X9_207 (kX9_keep X hO2 rfl ((up_i (by decide)).trans rfl) n0 n1) dX9_lay_56 ?_
            refine r_I (J := kpS (up I 30 0 0)) (by unfold kpS; rw [hO2, up_i (show (9 : Int) ≠ 0 by decide)]) ?_
            refine r_aload_n (pc := 59) (a := 0) (i := 0) 1 rfl rfl dX9_lay_59 ?_
            refine r_iload_n (pc := 60) (a := 3) (i := 3) 0 rfl rfl dX9_lay_60 ?_
            refine r_iload_n (pc := 61) (a := 1) (i := 1) 2 rfl rfl dX9_lay_61 ?_
            refine r_callVv (pc := 62) (st := []) (As := [iv (dk O p), iv p]) okX9_leaves (by decide) (by decide) rfl rfl rfl (Nat.le_of_ble_eq_true rfl) km_X9_210 (kX9_leaves X hOk hV hdk hdl (k9 := O (23 + 10 * dk O p) - 1 - ab O p) (by omega) (by omega) (ab_3 hdk)) dX9_lay_62 ?_
            refine r_aload_n (pc := 65) (a := 0) (i := 0) 1 rfl rfl dX9_lay_65 ?_
            refine r_iload_n (pc := 66) (a := 2) (i := 2) 3 rfl rfl dX9_lay_66 ?_
            refine r_iload_n (pc := 67) (a := 1) (i := 1) 2 rfl rfl dX9_lay_67 ?_
            refine r_callVv (pc := 68) (st := []) (As := [iv d, iv p]) okX9_comes (by decide) (by decide) rfl rfl rfl (Nat.le_of_ble_eq_true rfl) km_X9_213 (kX9_comes X upA_s l1 (d := d) (p := p) (by omega) (by omega)) dX9_lay_68 ?_
            refine r_I (J := upA (kpS (up I 30 0 0)) 34 (lyO O p d)) (upA_A) ?_
            refine r_aload_n (pc := 71) (a := 0) (i := 0) 1 rfl rfl dX9_lay_71 ?_
            refine r_iload_n (pc := 72) (a := 2) (i := 2) 3 rfl rfl dX9_lay_72 ?_
            refine r_callVi (pc := 73) (st := []) (As := [iv d]) okX9_manyOn (by decide) (by decide) rfl rfl rfl (Nat.le_of_ble_eq_true rfl) km_X9_191 (kX9_manyOn X (O := lyO O p d) upA_s l2 (by omega) (by rw [l4 0 (by omega)]; exact hd1)) dX9_lay_73 ?_
            refine r_iret (pc := 76) (st := []) rfl dX9_lay_76 ?_
            exact ⟨fun a => absurd a (by omega), fun _ b => absurd b (by omega), fun _ _ c => absurd c (by omega), fun _ _ _ => ⟨congrArg (fun q => some (iv q)) (by omega), rfl⟩⟩
          · skip
            have h49 := bI_0.mp h49
            refine r_ldc (pc := 52) kc_X9_84 dX9_lay_52 ?_
            refine r_iret (pc := 54) (st := []) rfl dX9_lay_54 ?_
            exact ⟨fun a => absurd a (by omega), fun _ b => absurd b (by omega), fun _ _ _ => ⟨rfl, rfl⟩, fun _ _ c => absurd c (by omega)⟩
        · skip
          refine r_ldc (pc := 41) kc_X9_206 dX9_lay_41 ?_
          refine r_iret (pc := 43) (st := []) rfl dX9_lay_43 ?_
          exact ⟨fun a => absurd a (by omega), fun _ _ => ⟨rfl, rfl⟩, fun _ b => absurd b (by omega), fun _ b => absurd b (by omega)⟩
    · skip
      have h18 := bI_0.mp h18
      refine r_ldc (pc := 21) kc_X9_74 dX9_lay_21 ?_
      refine r_iret (pc := 23) (st := []) rfl dX9_lay_23 ?_
      exact ⟨fun _ => ⟨rfl, rfl⟩, fun a => absurd a (by omega), fun a => absurd a (by omega), fun a => absurd a (by omega)⟩
