set_option maxRecDepth 100000 in
set_option maxHeartbeats 4000000 in
theorem kX8_set (X : XC) {I : HD} (hE : RE I I) {r i v : Int} (hr : rg r) (hi : rg i) (hv : rg v) : Cl X 3 mX8_set [rv X 0, iv r, iv i, iv v] I (fun q J => (¬ (0 ≤ r ∧ r < 8) → q = some (iv (-1000001)) ∧ J = I) ∧ (0 ≤ r ∧ r < 8 → I 31 r < 0 → q = some (iv (-1000011)) ∧ J = up I 0 9 1) ∧ (0 ≤ r ∧ r < 8 → 0 ≤ I 31 r → ¬ (0 ≤ i ∧ i < I 32 r) → q = some (iv (-1000012)) ∧ J = up I 0 9 2) ∧ (0 ≤ r ∧ r < 8 → 0 ≤ I 31 r → 0 ≤ i ∧ i < I 32 r → q = some (iv (narL (I 31 r) v)) ∧ J = up (up I (iH r.toNat) i (narL (I 31 r) v)) 0 9 0)) := by
  refine Cl.of (by decide) (Nat.le_of_ble_eq_true rfl) ?_
  show Rn X 3 mX8_set _ 0 [(0, rv X 0), (1, iv r), (2, iv i), (3, iv v)] [] I
  unfold rg at hr hi hv
  refine r_iload_n (pc := 0) (a := 1) (i := 1) 1 rfl rfl dX8_set_0 ?_
  refine r_callSi (pc := 1) (st := []) (As := [iv r]) okX8_isRow (by decide) trivial rfl (Nat.le_of_ble_eq_true rfl) km_X8_69 (kX8_isRow X (by unfold rg; omega)) dX8_set_1 ?_
  refine r_if_ne (pc := 4) 10 rg_bI dX8_set_4 (by decide) (fun h4 => ?_) (fun h4 => ?_)
  · skip
    have h4 := bI_n.mp h4
    obtain ⟨g1, g2, g3, g4, g5⟩ := hE r h4.1 h4.2
    refine r_aload_n (pc := 10) (a := 0) (i := 0) 0 rfl rfl dX8_set_10 ?_
    refine r_get (pc := 11) ckX8 (by decide) rfl (j := 0) (by decide) rfl kf_X8_11 dX8_set_11 ?_
    refine r_iload_n (pc := 14) (a := 1) (i := 1) 1 rfl rfl dX8_set_14 ?_
    refine r_aald (pc := 15) (g := (fun j => 2 + j)) (C := RX5) (by decide) rfl rfl (by omega) (by omega) (by decide) dX8_set_15 ?_
    refine r_astore (pc := 16) [(4, rv X (rH ((r).toNat))), (0, rv X 0), (1, iv r), (2, iv i), (3, iv v)] (by decide) rfl dX8_set_16 ?_
    refine r_aload (pc := 18) 0 rfl dX8_set_18 ?_
    refine r_callVi (pc := 20) (st := []) (As := []) okX5_isMissing (by decide) (rH_lt (show ((r).toNat) < 8 by omega)) (cellR (show ((r).toNat) < 8 by omega)) rfl rfl (Nat.le_of_ble_eq_true rfl) km_X8_85 (kX5_isMissing X (show r.toNat < 8 by omega) g1 (by unfold rg; omega)) dX8_set_20 ?_
    refine r_if_eq (pc := 23) 32 rg_bI dX8_set_23 (by decide) (fun h23 => ?_) (fun h23 => ?_)
    · skip
      have h23 := bI_0.mp h23
      obtain ⟨g6, g7, g8, g9⟩ := g5 (by omega)
      refine r_aload (pc := 32) 0 rfl dX8_set_32 ?_
      refine r_iload_n (pc := 34) (a := 2) (i := 2) 3 rfl rfl dX8_set_34 ?_
      refine r_iconst (pc := 35) dX8_set_35 ?_
      refine r_callVi (pc := 36) (st := []) (As := [iv i, iv 1]) okX5_hasPlaces (by decide) (rH_lt (show ((r).toNat) < 8 by omega)) (cellR (show ((r).toNat) < 8 by omega)) rfl rfl (Nat.le_of_ble_eq_true rfl) km_X8_89 (kX5_hasPlaces X (show r.toNat < 8 by omega) g6 g7 g8 (by unfold rg; omega) (by unfold rg; omega)) dX8_set_36 ?_
      refine r_if_ne (pc := 39) 48 rg_bI dX8_set_39 (by decide) (fun h39 => ?_) (fun h39 => ?_)
      · skip
        have h39 := bI_n.mp h39
        refine r_aload_n (pc := 48) (a := 0) (i := 0) 1 rfl rfl dX8_set_48 ?_
        refine r_aload (pc := 49) 0 rfl dX8_set_49 ?_
        refine r_iload_n (pc := 51) (a := 2) (i := 2) 3 rfl rfl dX8_set_51 ?_
        refine r_iload_n (pc := 52) (a := 3) (i := 3) 4 rfl rfl dX8_set_52 ?_
        refine r_callV (pc := 53) (st := [rv X 0]) (As := [iv i, iv v]) okX5_put (by decide) (rH_lt (show ((r).toNat) < 8 by omega)) (cellR (show ((r).toNat) < 8 by omega)) rfl rfl (Nat.le_of_ble_eq_true rfl) km_X8_93 (kX5_put X (show r.toNat < 8 by omega) g1 (by unfold rg; omega) (by omega) (by omega) (by unfold rg; omega)) dX8_set_53 ?_
        rintro _ _ ⟨rfl, rfl⟩
        refine r_callVi (pc := 56) (st := []) (As := [iv (narL (I 31 r) v)]) okX8_well (by decide) (by decide) rfl rfl rfl (Nat.le_of_ble_eq_true rfl) km_X8_82 (kX8_well X) dX8_set_56 ?_
        refine r_iret (pc := 59) (st := []) rfl dX8_set_59 ?_
        exact ⟨fun a => absurd a (by omega), fun _ b => absurd b (by omega), fun _ _ c => absurd c (by omega), fun _ _ _ => ⟨rfl, rfl⟩⟩
      · skip
        have h39 := bI_0.mp h39
        refine r_aload_n (pc := 42) (a := 0) (i := 0) 1 rfl rfl dX8_set_42 ?_
        refine r_iconst (pc := 43) dX8_set_43 ?_
        refine r_callVi (pc := 44) (st := []) (As := [iv 2]) okX8_found (by decide) (by decide) rfl rfl rfl (Nat.le_of_ble_eq_true rfl) km_X8_74 (kX8_found X (by unfold rg; omega)) dX8_set_44 ?_
        refine r_iret (pc := 47) (st := []) rfl dX8_set_47 ?_
        exact ⟨fun a => absurd a (by omega), fun _ b => absurd b (by omega), fun _ _ _ => ⟨rfl, rfl⟩, fun _ _ c => absurd c (by omega)⟩
    · skip
      have h23 := bI_n.mp h23
      refine r_aload_n (pc := 26) (a := 0) (i := 0) 1 rfl rfl dX8_set_26 ?_
      refine r_iconst (pc := 27) dX8_set_27 ?_
      refine r_callVi (pc := 28) (st := []) (As := [iv 1]) okX8_found (by decide) (by decide) rfl rfl rfl (Nat.le_of_ble_eq_true rfl) km_X8_74 (kX8_found X (by unfold rg; omega)) dX8_set_28 ?_
      refine r_iret (pc := 31) (st := []) rfl dX8_set_31 ?_
      exact ⟨fun a => absurd a (by omega), fun _ _ => ⟨rfl, rfl⟩, fun _ b => absurd b (by omega), fun _ b => absurd b (by omega)⟩
  · skip
    have h4 := bI_0.mp h4
    refine r_ldc (pc := 7) kc_X8_73 dX8_set_7 ?_
    refine r_iret (pc := 9) (st := []) rfl dX8_set_9 ?_
    exact ⟨fun _ => ⟨rfl, rfl⟩, fun a => absurd a (by omega), fun a => absurd a (by omega), fun a => absurd a (by omega)⟩

set_option maxRecDepth 100000 in
set_option maxHeartbeats 4000000 in
theorem kX9_set (X : XC) {I S : HD} (e31 : I 31 = S 31) (e32 : I 32 = S 32) (hE : RE S S) {r i v : Int} (hr : rg r) (hi : rg i) (hv : rg v) : Cl X 3 mX9_set [rv X 30, iv r, iv i, iv v] I (fun q J => (¬ (0 ≤ r ∧ r < 8) → q = some (iv (-1000001)) ∧ J = up I 30 0 0) ∧ (0 ≤ r ∧ r < 8 → S 31 r < 0 → q = some (iv (-1000011)) ∧ J = up (up (up I 30 0 0) 30 1 0) 30 1 1) ∧ (0 ≤ r ∧ r < 8 → 0 ≤ S 31 r → ¬ (0 ≤ i ∧ i < S 32 r) → q = some (iv (-1000012)) ∧ J = up (up (up I 30 0 0) 30 1 0) 30 1 2) ∧ (0 ≤ r ∧ r < 8 → 0 ≤ S 31 r → 0 ≤ i ∧ i < S 32 r → q = some (iv (narL (S 31 r) v)) ∧ J = up (up (up I 30 0 0) 30 1 0) 33 (40 * r + i) (narL (S 31 r) v))) := by
  refine Cl.of (by decide) (Nat.le_of_ble_eq_true rfl) ?_
  show Rn X 3 mX9_set _ 0 [(0, rv X 30), (1, iv r), (2, iv i), (3, iv v)] [] I
  unfold rg at hr hi hv
  refine r_aload_n (pc := 0) (a := 0) (i := 0) 0 rfl rfl dX9_set_0 ?_
  refine r_iconst (pc := 1) dX9_set_1 ?_
  refine r_put (pc := 2) 0 (ji := 0) rfl ckX9 (by decide) rfl rfl (by decide) (Nat.le_of_ble_eq_true rfl) kf_X9_54 rfl rfl rfl rfl dX9_set_2 ?_
  refine r_iload_n (pc := 5) (a := 1) (i := 1) 1 rfl rfl dX9_set_5 ?_
  refine r_callSi (pc := 6) (st := []) (As := [iv r]) okX9_isRow (by decide) trivial rfl (Nat.le_of_ble_eq_true rfl) km_X9_68 (kX9_isRow X (by unfold rg; omega)) dX9_set_6 ?_
  refine r_if_ne (pc := 9) 15 rg_bI dX9_set_9 (by decide) (fun h9 => ?_) (fun h9 => ?_)
  · skip
    have h9 := bI_n.mp h9
    obtain ⟨g1, g2, g3, g4, g5⟩ := hE r h9.1 h9.2
    refine r_aload_n (pc := 15) (a := 0) (i := 0) 0 rfl rfl dX9_set_15 ?_
    refine r_iconst (pc := 16) dX9_set_16 ?_
    refine r_put (pc := 17) 1 (ji := 1) rfl ckX9 (by decide) rfl rfl (by decide) (Nat.le_of_ble_eq_true rfl) kf_X9_58 rfl rfl rfl rfl dX9_set_17 ?_
    refine r_aload_n (pc := 20) (a := 0) (i := 0) 0 rfl rfl dX9_set_20 ?_
    refine r_get (pc := 21) ckX9 (by decide) rfl (j := 2) (by decide) rfl kf_X9_7 dX9_set_21 ?_
    refine r_iload_n (pc := 24) (a := 1) (i := 1) 1 rfl rfl dX9_set_24 ?_
    refine r_iald (pc := 25) (z := S 31 r) (by decide) rfl (by omega) (by omega) (by decide) ((congrFun (up_row (by decide)) _).trans ((congrFun (up_row (by decide)) _).trans (congrFun e31 _))) dX9_set_25 ?_
    refine r_if_ge (pc := 26) 35 (by unfold rg; omega) dX9_set_26 (by decide) (fun h26 => ?_) (fun h26 => ?_)
    · skip
      obtain ⟨g6, g7, g8, g9⟩ := g5 (by omega)
      refine r_iload_n (pc := 35) (a := 2) (i := 2) 2 rfl rfl dX9_set_35 ?_
      refine r_i2l (pc := 36) (by unfold rg; omega) dX9_set_36 ?_
      refine r_lconst (pc := 37) (z := 0) rfl dX9_set_37 ?_
      refine r_aload_n (pc := 38) (a := 0) (i := 0) 0 rfl rfl dX9_set_38 ?_
      refine r_get (pc := 39) ckX9 (by decide) rfl (j := 3) (by decide) rfl kf_X9_13 dX9_set_39 ?_
      refine r_iload_n (pc := 42) (a := 1) (i := 1) 1 rfl rfl dX9_set_42 ?_
      refine r_iald (pc := 43) (z := S 32 r) (by decide) rfl (by omega) (by omega) (by decide) ((congrFun (up_row (by decide)) _).trans ((congrFun (up_row (by decide)) _).trans (congrFun e32 _))) dX9_set_43 ?_
      refine r_iconst (pc := 44) dX9_set_44 ?_
      refine r_isub (pc := 45) dX9_set_45 ?_
      refine r_i2l (pc := 46) (by unfold rg; omega) dX9_set_46 ?_
      refine r_callSi (pc := 47) (st := []) (As := [jv i, jv 0, jv ((S 32 r) - 1)]) okX9_in (by decide) trivial rfl (Nat.le_of_ble_eq_true rfl) km_X9_64 (kX9_in X (by unfold rl; omega) (by unfold rl; omega) (by unfold rl; omega)) dX9_set_47 ?_
      refine r_if_ne (pc := 50) 59 rg_bI dX9_set_50 (by decide) (fun h50 => ?_) (fun h50 => ?_)
      · skip
        have h50 := bI_n.mp h50
        refine r_aload_n (pc := 59) (a := 0) (i := 0) 0 rfl rfl dX9_set_59 ?_
        refine r_get (pc := 60) ckX9 (by decide) rfl (j := 4) (by decide) rfl kf_X9_16 dX9_set_60 ?_
        refine r_bipush (pc := 63) rfl dX9_set_63 ?_
        refine r_iload_n (pc := 65) (a := 1) (i := 1) 1 rfl rfl dX9_set_65 ?_
        refine r_imul (pc := 66) dX9_set_66 ?_
        refine r_iload_n (pc := 67) (a := 2) (i := 2) 2 rfl rfl dX9_set_67 ?_
        have at99 : ∀ (w : Int), (hw : w = narL (S 31 r) v) → Rn X 3 mX9_set (fun q J => (¬ (0 ≤ r ∧ r < 8) → q = some (iv (-1000001)) ∧ J = up I 30 0 0) ∧ (0 ≤ r ∧ r < 8 → S 31 r < 0 → q = some (iv (-1000011)) ∧ J = up (up (up I 30 0 0) 30 1 0) 30 1 1) ∧ (0 ≤ r ∧ r < 8 → 0 ≤ S 31 r → ¬ (0 ≤ i ∧ i < S 32 r) → q = some (iv (-1000012)) ∧ J = up (up (up I 30 0 0) 30 1 0) 30 1 2) ∧ (0 ≤ r ∧ r < 8 → 0 ≤ S 31 r → 0 ≤ i ∧ i < S 32 r → q = some (iv (narL (S 31 r) v)) ∧ J = up (up (up I 30 0 0) 30 1 0) 33 (40 * r + i) (narL (S 31 r) v))) 99 [(0, rv X 30), (1, iv r), (2, iv i), (3, iv v)] [iv w, iv (40 * r + i), rv X 33] (up (up I 30 0 0) 30 1 0) := by
          intro w hw
          subst hw
          refine r_iast (pc := 99) (by decide) (fun _ => rfl) (by omega) (by omega) (by decide) dX9_set_99 ?_
          refine r_aload_n (pc := 100) (a := 0) (i := 0) 0 rfl rfl dX9_set_100 ?_
          refine r_get (pc := 101) ckX9 (by decide) rfl (j := 4) (by decide) rfl kf_X9_16 dX9_set_101 ?_
          refine r_bipush (pc := 104) rfl dX9_set_104 ?_
          refine r_iload_n (pc := 106) (a := 1) (i := 1) 1 rfl rfl dX9_set_106 ?_
          refine r_imul (pc := 107) dX9_set_107 ?_
          refine r_iload_n (pc := 108) (a := 2) (i := 2) 2 rfl rfl dX9_set_108 ?_
          refine r_iadd (pc := 109) dX9_set_109 ?_
          refine r_iald (pc := 110) (z := narL (S 31 r) v) (by decide) rfl (by omega) (by omega) (by decide) (up_s) dX9_set_110 ?_
          refine r_iret (pc := 111) (st := []) rfl dX9_set_111 ?_
          exact ⟨fun a => absurd a (by omega), fun _ b => absurd b (by omega), fun _ _ c => absurd c (by omega), fun _ _ _ => ⟨rfl, rfl⟩⟩
        refine r_iadd (pc := 68) dX9_set_68 ?_
        refine r_aload_n (pc := 69) (a := 0) (i := 0) 0 rfl rfl dX9_set_69 ?_
        refine r_get (pc := 70) ckX9 (by decide) rfl (j := 2) (by decide) rfl kf_X9_7 dX9_set_70 ?_
        refine r_iload_n (pc := 73) (a := 1) (i := 1) 1 rfl rfl dX9_set_73 ?_
        refine r_iald (pc := 74) (z := S 31 r) (by decide) rfl (by omega) (by omega) (by decide) ((congrFun (up_row (by decide)) _).trans ((congrFun (up_row (by decide)) _).trans (congrFun e31 _))) dX9_set_74 ?_
        refine r_if_ne (pc := 75) 83 (by unfold rg; omega) dX9_set_75 (by decide) (fun h75 => ?_) (fun h75 => ?_)
        · skip
          refine r_aload_n (pc := 83) (a := 0) (i := 0) 0 rfl rfl dX9_set_83 ?_
          refine r_get (pc := 84) ckX9 (by decide) rfl (j := 2) (by decide) rfl kf_X9_7 dX9_set_84 ?_
          refine r_iload_n (pc := 87) (a := 1) (i := 1) 1 rfl rfl dX9_set_87 ?_
          refine r_iald (pc := 88) (z := S 31 r) (by decide) rfl (by omega) (by omega) (by decide) ((congrFun (up_row (by decide)) _).trans ((congrFun (up_row (by decide)) _).trans (congrFun e31 _))) dX9_set_88 ?_
          refine r_iconst (pc := 89) dX9_set_89 ?_
          refine r_icmp_ne (pc := 90) 98 (by unfold rg; omega) (by unfold rg; omega) dX9_set_90 (by decide) (fun h90 => ?_) (fun h90 => ?_)
          · skip
            refine r_iload_n (pc := 98) (a := 3) (i := 3) 3 rfl rfl dX9_set_98 ?_
            refine r_lv [0, 1, 2, 3] [(0, rv X 30), (1, iv r), (2, iv i), (3, iv v)] rfl ?_
            exact at99 v (by unfold narL; rw [if_neg (by omega), if_neg (by omega)])
          · skip
            refine r_iload_n (pc := 93) (a := 3) (i := 3) 3 rfl rfl dX9_set_93 ?_
            refine r_i2s (pc := 94) (z := ((iI v).toInt16.toInt32).toInt) ((iI_to _).symm) dX9_set_94 ?_
            refine r_goto (pc := 95) 99 dX9_set_95 (by decide) ?_
            refine r_lv [0, 1, 2, 3] [(0, rv X 30), (1, iv r), (2, iv i), (3, iv v)] rfl ?_
            exact at99 (((iI v).toInt16.toInt32).toInt) (by unfold narL; rw [if_neg (by omega), if_pos (by omega)])
        · skip
          refine r_iload_n (pc := 78) (a := 3) (i := 3) 3 rfl rfl dX9_set_78 ?_
          refine r_i2b (pc := 79) (z := ((iI v).toInt8.toInt32).toInt) ((iI_to _).symm) dX9_set_79 ?_
          refine r_goto (pc := 80) 99 dX9_set_80 (by decide) ?_
          refine r_lv [0, 1, 2, 3] [(0, rv X 30), (1, iv r), (2, iv i), (3, iv v)] rfl ?_
          exact at99 (((iI v).toInt8.toInt32).toInt) (by unfold narL; rw [if_pos (by omega)])
      · skip
        have h50 := bI_0.mp h50
        refine r_aload_n (pc := 53) (a := 0) (i := 0) 0 rfl rfl dX9_set_53 ?_
        refine r_iconst (pc := 54) dX9_set_54 ?_
        refine r_callVi (pc := 55) (st := []) (As := [iv 2]) okX9_finding (by decide) (by decide) rfl rfl rfl (Nat.le_of_ble_eq_true rfl) km_X9_75 (kX9_finding X) dX9_set_55 ?_
        refine r_iret (pc := 58) (st := []) rfl dX9_set_58 ?_
        exact ⟨fun a => absurd a (by omega), fun _ b => absurd b (by omega), fun _ _ _ => ⟨rfl, rfl⟩, fun _ _ c => absurd c (by omega)⟩
    · skip
      refine r_aload_n (pc := 29) (a := 0) (i := 0) 0 rfl rfl dX9_set_29 ?_
      refine r_iconst (pc := 30) dX9_set_30 ?_
      refine r_callVi (pc := 31) (st := []) (As := [iv 1]) okX9_finding (by decide) (by decide) rfl rfl rfl (Nat.le_of_ble_eq_true rfl) km_X9_75 (kX9_finding X) dX9_set_31 ?_
      refine r_iret (pc := 34) (st := []) rfl dX9_set_34 ?_
      exact ⟨fun a => absurd a (by omega), fun _ _ => ⟨rfl, rfl⟩, fun _ b => absurd b (by omega), fun _ b => absurd b (by omega)⟩
  · skip
    have h9 := bI_0.mp h9
    refine r_ldc (pc := 12) kc_X9_74 dX9_set_12 ?_
    refine r_iret (pc := 14) (st := []) rfl dX9_set_14 ?_
    exact ⟨fun _ => ⟨rfl, rfl⟩, fun a => absurd a (by omega), fun a => absurd a (by omega), fun a => absurd a (by omega)⟩
