set_option maxRecDepth 100000 in
set_option maxHeartbeats 4000000 in
theorem kX4_isLetter (X : XC) {I : HD} {c : Int} (h : rg c) : Cl X 0 mX4_isLetter [iv c] I (Ki (bI (97 ≤ c ∧ c ≤ 122)) I) := by
  refine Cl.of (by decide) (Nat.le_of_ble_eq_true rfl) ?_
  show Rn X 0 mX4_isLetter _ 0 [(0, iv c)] [] I
  unfold rg at h
  refine r_iload_n (pc := 0) (a := 0) (i := 0) 0 rfl rfl dX4_isLetter_0 ?_
  refine r_bipush (pc := 1) rfl dX4_isLetter_1 ?_
  refine r_icmp_lt (pc := 3) 16 (by unfold rg; omega) (by unfold rg; omega) dX4_isLetter_3 (by decide) (fun h3 => ?_) (fun h3 => ?_)
  · skip
    refine r_iconst (pc := 16) dX4_isLetter_16 ?_
    refine r_zret (pc := 17) (st := []) rfl (rfl) dX4_isLetter_17 ?_
    exact ⟨by rw [bI_f (by omega)], rfl⟩
  · skip
    refine r_iload_n (pc := 6) (a := 0) (i := 0) 0 rfl rfl dX4_isLetter_6 ?_
    refine r_bipush (pc := 7) rfl dX4_isLetter_7 ?_
    refine r_icmp_gt (pc := 9) 16 (by unfold rg; omega) (by unfold rg; omega) dX4_isLetter_9 (by decide) (fun h9 => ?_) (fun h9 => ?_)
    · skip
      refine r_iconst (pc := 16) dX4_isLetter_16 ?_
      refine r_zret (pc := 17) (st := []) rfl (rfl) dX4_isLetter_17 ?_
      exact ⟨by rw [bI_f (by omega)], rfl⟩
    · skip
      refine r_iconst (pc := 12) dX4_isLetter_12 ?_
      refine r_goto (pc := 13) 17 dX4_isLetter_13 (by decide) ?_
      refine r_zret (pc := 17) (st := []) rfl (rfl) dX4_isLetter_17 ?_
      exact ⟨by rw [bI_t (by omega)], rfl⟩

set_option maxRecDepth 100000 in
set_option maxHeartbeats 4000000 in
theorem kX9_isLetter (X : XC) {I : HD} {c : Int} (h : rg c) : Cl X 0 mX9_isLetter [iv c] I (Ki (bI (97 ≤ c ∧ c ≤ 122)) I) := by
  refine Cl.of (by decide) (Nat.le_of_ble_eq_true rfl) ?_
  show Rn X 0 mX9_isLetter _ 0 [(0, iv c)] [] I
  unfold rg at h
  refine r_iload_n (pc := 0) (a := 0) (i := 0) 0 rfl rfl dX9_isLetter_0 ?_
  refine r_bipush (pc := 1) rfl dX9_isLetter_1 ?_
  refine r_icmp_lt (pc := 3) 16 (by unfold rg; omega) (by unfold rg; omega) dX9_isLetter_3 (by decide) (fun h3 => ?_) (fun h3 => ?_)
  · skip
    refine r_iconst (pc := 16) dX9_isLetter_16 ?_
    refine r_zret (pc := 17) (st := []) rfl (rfl) dX9_isLetter_17 ?_
    exact ⟨by rw [bI_f (by omega)], rfl⟩
  · skip
    refine r_iload_n (pc := 6) (a := 0) (i := 0) 0 rfl rfl dX9_isLetter_6 ?_
    refine r_bipush (pc := 7) rfl dX9_isLetter_7 ?_
    refine r_icmp_gt (pc := 9) 16 (by unfold rg; omega) (by unfold rg; omega) dX9_isLetter_9 (by decide) (fun h9 => ?_) (fun h9 => ?_)
    · skip
      refine r_iconst (pc := 16) dX9_isLetter_16 ?_
      refine r_zret (pc := 17) (st := []) rfl (rfl) dX9_isLetter_17 ?_
      exact ⟨by rw [bI_f (by omega)], rfl⟩
    · skip
      refine r_iconst (pc := 12) dX9_isLetter_12 ?_
      refine r_goto (pc := 13) 17 dX9_isLetter_13 (by decide) ?_
      refine r_zret (pc := 17) (st := []) rfl (rfl) dX9_isLetter_17 ?_
      exact ⟨by rw [bI_t (by omega)], rfl⟩

set_option maxRecDepth 100000 in
set_option maxHeartbeats 4000000 in
theorem kX4_isFigure (X : XC) {I : HD} {c : Int} (h : rg c) : Cl X 0 mX4_isFigure [iv c] I (Ki (bI (48 ≤ c ∧ c ≤ 57)) I) := by
  refine Cl.of (by decide) (Nat.le_of_ble_eq_true rfl) ?_
  show Rn X 0 mX4_isFigure _ 0 [(0, iv c)] [] I
  unfold rg at h
  refine r_iload_n (pc := 0) (a := 0) (i := 0) 0 rfl rfl dX4_isFigure_0 ?_
  refine r_bipush (pc := 1) rfl dX4_isFigure_1 ?_
  refine r_icmp_lt (pc := 3) 16 (by unfold rg; omega) (by unfold rg; omega) dX4_isFigure_3 (by decide) (fun h3 => ?_) (fun h3 => ?_)
  · skip
    refine r_iconst (pc := 16) dX4_isFigure_16 ?_
    refine r_zret (pc := 17) (st := []) rfl (rfl) dX4_isFigure_17 ?_
    exact ⟨by rw [bI_f (by omega)], rfl⟩
  · skip
    refine r_iload_n (pc := 6) (a := 0) (i := 0) 0 rfl rfl dX4_isFigure_6 ?_
    refine r_bipush (pc := 7) rfl dX4_isFigure_7 ?_
    refine r_icmp_gt (pc := 9) 16 (by unfold rg; omega) (by unfold rg; omega) dX4_isFigure_9 (by decide) (fun h9 => ?_) (fun h9 => ?_)
    · skip
      refine r_iconst (pc := 16) dX4_isFigure_16 ?_
      refine r_zret (pc := 17) (st := []) rfl (rfl) dX4_isFigure_17 ?_
      exact ⟨by rw [bI_f (by omega)], rfl⟩
    · skip
      refine r_iconst (pc := 12) dX4_isFigure_12 ?_
      refine r_goto (pc := 13) 17 dX4_isFigure_13 (by decide) ?_
      refine r_zret (pc := 17) (st := []) rfl (rfl) dX4_isFigure_17 ?_
      exact ⟨by rw [bI_t (by omega)], rfl⟩

set_option maxRecDepth 100000 in
set_option maxHeartbeats 4000000 in
theorem kX9_isFigure (X : XC) {I : HD} {c : Int} (h : rg c) : Cl X 0 mX9_isFigure [iv c] I (Ki (bI (48 ≤ c ∧ c ≤ 57)) I) := by
  refine Cl.of (by decide) (Nat.le_of_ble_eq_true rfl) ?_
  show Rn X 0 mX9_isFigure _ 0 [(0, iv c)] [] I
  unfold rg at h
  refine r_iload_n (pc := 0) (a := 0) (i := 0) 0 rfl rfl dX9_isFigure_0 ?_
  refine r_bipush (pc := 1) rfl dX9_isFigure_1 ?_
  refine r_icmp_lt (pc := 3) 16 (by unfold rg; omega) (by unfold rg; omega) dX9_isFigure_3 (by decide) (fun h3 => ?_) (fun h3 => ?_)
  · skip
    refine r_iconst (pc := 16) dX9_isFigure_16 ?_
    refine r_zret (pc := 17) (st := []) rfl (rfl) dX9_isFigure_17 ?_
    exact ⟨by rw [bI_f (by omega)], rfl⟩
  · skip
    refine r_iload_n (pc := 6) (a := 0) (i := 0) 0 rfl rfl dX9_isFigure_6 ?_
    refine r_bipush (pc := 7) rfl dX9_isFigure_7 ?_
    refine r_icmp_gt (pc := 9) 16 (by unfold rg; omega) (by unfold rg; omega) dX9_isFigure_9 (by decide) (fun h9 => ?_) (fun h9 => ?_)
    · skip
      refine r_iconst (pc := 16) dX9_isFigure_16 ?_
      refine r_zret (pc := 17) (st := []) rfl (rfl) dX9_isFigure_17 ?_
      exact ⟨by rw [bI_f (by omega)], rfl⟩
    · skip
      refine r_iconst (pc := 12) dX9_isFigure_12 ?_
      refine r_goto (pc := 13) 17 dX9_isFigure_13 (by decide) ?_
      refine r_zret (pc := 17) (st := []) rfl (rfl) dX9_isFigure_17 ?_
      exact ⟨by rw [bI_t (by omega)], rfl⟩

set_option maxRecDepth 100000 in
set_option maxHeartbeats 4000000 in
theorem kX4_isBlank (X : XC) {I : HD} {c : Int} (h : rg c) : Cl X 0 mX4_isBlank [iv c] I (Ki (bI (c = 32 ∨ c = 10)) I) := by
  refine Cl.of (by decide) (Nat.le_of_ble_eq_true rfl) ?_
  show Rn X 0 mX4_isBlank _ 0 [(0, iv c)] [] I
  unfold rg at h
  refine r_iload_n (pc := 0) (a := 0) (i := 0) 0 rfl rfl dX4_isBlank_0 ?_
  refine r_bipush (pc := 1) rfl dX4_isBlank_1 ?_
  refine r_icmp_eq (pc := 3) 12 (by unfold rg; omega) (by unfold rg; omega) dX4_isBlank_3 (by decide) (fun h3 => ?_) (fun h3 => ?_)
  · skip
    refine r_iconst (pc := 12) dX4_isBlank_12 ?_
    refine r_goto (pc := 13) 17 dX4_isBlank_13 (by decide) ?_
    refine r_zret (pc := 17) (st := []) rfl (rfl) dX4_isBlank_17 ?_
    exact ⟨by rw [bI_t (by omega)], rfl⟩
  · skip
    refine r_iload_n (pc := 6) (a := 0) (i := 0) 0 rfl rfl dX4_isBlank_6 ?_
    refine r_bipush (pc := 7) rfl dX4_isBlank_7 ?_
    refine r_icmp_ne (pc := 9) 16 (by unfold rg; omega) (by unfold rg; omega) dX4_isBlank_9 (by decide) (fun h9 => ?_) (fun h9 => ?_)
    · skip
      refine r_iconst (pc := 16) dX4_isBlank_16 ?_
      refine r_zret (pc := 17) (st := []) rfl (rfl) dX4_isBlank_17 ?_
      exact ⟨by rw [bI_f (by omega)], rfl⟩
    · skip
      refine r_iconst (pc := 12) dX4_isBlank_12 ?_
      refine r_goto (pc := 13) 17 dX4_isBlank_13 (by decide) ?_
      refine r_zret (pc := 17) (st := []) rfl (rfl) dX4_isBlank_17 ?_
      exact ⟨by rw [bI_t (by omega)], rfl⟩

set_option maxRecDepth 100000 in
set_option maxHeartbeats 4000000 in
theorem kX4_fail (X : XC) {I : HD} {n : Int} : Cl X 0 mX4_fail [rv X 18, iv n] I (Ki 0 (up I 18 7 n)) := by
  refine Cl.of (by decide) (Nat.le_of_ble_eq_true rfl) ?_
  show Rn X 0 mX4_fail _ 0 [(0, rv X 18), (1, iv n)] [] I
  refine r_aload_n (pc := 0) (a := 0) (i := 0) 0 rfl rfl dX4_fail_0 ?_
  refine r_iload_n (pc := 1) (a := 1) (i := 1) 1 rfl rfl dX4_fail_1 ?_
  refine r_put (pc := 2) 7 (ji := 7) rfl ckX4 (by decide) rfl rfl (by decide) (Nat.le_of_ble_eq_true rfl) kf_X4_41 rfl rfl rfl rfl dX4_fail_2 ?_
  refine r_iconst (pc := 5) dX4_fail_5 ?_
  refine r_zret (pc := 6) (st := []) rfl (rfl) dX4_fail_6 ?_
  exact ⟨rfl, rfl⟩

set_option maxRecDepth 100000 in
set_option maxHeartbeats 4000000 in
theorem kX7_hasRoom (X : XC) {I : HD} {n t : Int} (ht : I 19 1 = t) (t0 : 0 ≤ t) (t1 : t ≤ 500) (hn : rg n) : Cl X 0 mX7_hasRoom [rv X 19, iv n] I (Ki (bI (n ≤ 500 - t)) I) := by
  refine Cl.of (by decide) (Nat.le_of_ble_eq_true rfl) ?_
  show Rn X 0 mX7_hasRoom _ 0 [(0, rv X 19), (1, iv n)] [] I
  unfold rg at hn
  refine r_iload_n (pc := 0) (a := 1) (i := 1) 1 rfl rfl dX7_hasRoom_0 ?_
  refine r_sipush (pc := 1) rfl dX7_hasRoom_1 ?_
  refine r_aload_n (pc := 4) (a := 0) (i := 0) 0 rfl rfl dX7_hasRoom_4 ?_
  refine r_get (pc := 5) ckX7 (by decide) rfl (j := 1) (by decide) (show _ = some (iv t) by rw [← ht]; rfl) kf_X7_15 dX7_hasRoom_5 ?_
  refine r_isub (pc := 8) dX7_hasRoom_8 ?_
  refine r_icmp_gt (pc := 9) 16 (by unfold rg; omega) (by unfold rg; omega) dX7_hasRoom_9 (by decide) (fun h9 => ?_) (fun h9 => ?_)
  · skip
    refine r_iconst (pc := 16) dX7_hasRoom_16 ?_
    refine r_zret (pc := 17) (st := []) rfl (rfl) dX7_hasRoom_17 ?_
    exact ⟨by rw [bI_f (by omega)], rfl⟩
  · skip
    refine r_iconst (pc := 12) dX7_hasRoom_12 ?_
    refine r_goto (pc := 13) 17 dX7_hasRoom_13 (by decide) ?_
    refine r_zret (pc := 17) (st := []) rfl (rfl) dX7_hasRoom_17 ?_
    exact ⟨by rw [bI_t (by omega)], rfl⟩

set_option maxRecDepth 100000 in
set_option maxHeartbeats 4000000 in
theorem kX8_copy (X : XC) {I : HD} (hE : RE I I) {a i b j n : Int} (ha : rg a) (hi : rg i) (hb : rg b) (hj : rg j) (hn : rg n) : Cl X 3 mX8_copy [rv X 0, iv a, iv i, iv b, iv j, iv n] I (fun q J => (¬ (0 ≤ a ∧ a < 8 ∧ 0 ≤ b ∧ b < 8) → q = some (iv (-1000001)) ∧ J = I) ∧ (0 ≤ a ∧ a < 8 ∧ 0 ≤ b ∧ b < 8 → (I 31 a < 0 ∨ I 31 b < 0) → q = some (iv (-1000011)) ∧ J = up I 0 9 1) ∧ (0 ≤ a ∧ a < 8 ∧ 0 ≤ b ∧ b < 8 → ¬ (I 31 a < 0 ∨ I 31 b < 0) → ¬ I 31 a = I 31 b → q = some (iv (-1000015)) ∧ J = up I 0 9 5) ∧ (0 ≤ a ∧ a < 8 ∧ 0 ≤ b ∧ b < 8 → ¬ (I 31 a < 0 ∨ I 31 b < 0) → I 31 a = I 31 b → ¬ (0 ≤ i ∧ 0 ≤ j ∧ 0 ≤ n ∧ i + n ≤ I 32 a ∧ j + n ≤ I 32 b) → q = some (iv (-1000012)) ∧ J = up I 0 9 2) ∧ (0 ≤ a ∧ a < 8 ∧ 0 ≤ b ∧ b < 8 → ¬ (I 31 a < 0 ∨ I 31 b < 0) → I 31 a = I 31 b → 0 ≤ i ∧ 0 ≤ j ∧ 0 ≤ n ∧ i + n ≤ I 32 a ∧ j + n ≤ I 32 b → q = some (iv n) ∧ J = up (upA I (iH b.toNat) (cpyF (I (iH a.toNat)) (I (iH b.toNat)) i j n)) 0 9 0)) := by
  refine Cl.of (by decide) (Nat.le_of_ble_eq_true rfl) ?_
  show Rn X 3 mX8_copy _ 0 [(0, rv X 0), (1, iv a), (2, iv i), (3, iv b), (4, iv j), (5, iv n)] [] I
  unfold rg at ha hi hb hj hn
  refine r_iload_n (pc := 0) (a := 1) (i := 1) 1 rfl rfl dX8_copy_0 ?_
  refine r_callSi (pc := 1) (st := []) (As := [iv a]) okX8_isRow (by decide) trivial rfl (Nat.le_of_ble_eq_true rfl) km_X8_69 (kX8_isRow X (by unfold rg; omega)) dX8_copy_1 ?_
  refine r_if_eq (pc := 4) 14 rg_bI dX8_copy_4 (by decide) (fun h4 => ?_) (fun h4 => ?_)
  · skip
    have h4 := bI_0.mp h4
    refine r_ldc (pc := 14) kc_X8_73 dX8_copy_14 ?_
    refine r_iret (pc := 16) (st := []) rfl dX8_copy_16 ?_
    exact ⟨fun _ => ⟨rfl, rfl⟩, fun a => absurd a (by omega), fun a => absurd a (by omega), fun a => absurd a (by omega), fun a => absurd a (by omega)⟩
  · skip
    have h4 := bI_n.mp h4
    refine r_iload_n (pc := 7) (a := 3) (i := 3) 3 rfl rfl dX8_copy_7 ?_
    refine r_callSi (pc := 8) (st := []) (As := [iv b]) okX8_isRow (by decide) trivial rfl (Nat.le_of_ble_eq_true rfl) km_X8_69 (kX8_isRow X (by unfold rg; omega)) dX8_copy_8 ?_
    refine r_if_ne (pc := 11) 17 rg_bI dX8_copy_11 (by decide) (fun h11 => ?_) (fun h11 => ?_)
    · skip
      have h11 := bI_n.mp h11
      obtain ⟨e1, e2, e3, e4, e5⟩ := hE a h4.1 h4.2
      obtain ⟨f1, f2, f3, f4, f5⟩ := hE b h11.1 h11.2
      refine r_aload_n (pc := 17) (a := 0) (i := 0) 0 rfl rfl dX8_copy_17 ?_
      refine r_get (pc := 18) ckX8 (by decide) rfl (j := 0) (by decide) rfl kf_X8_11 dX8_copy_18 ?_
      refine r_iload_n (pc := 21) (a := 1) (i := 1) 1 rfl rfl dX8_copy_21 ?_
      refine r_aald (pc := 22) (g := (fun j => 2 + j)) (C := RX5) (by decide) rfl rfl (by omega) (by omega) (by decide) dX8_copy_22 ?_
      refine r_astore (pc := 23) [(6, rv X (rH ((a).toNat))), (0, rv X 0), (1, iv a), (2, iv i), (3, iv b), (4, iv j), (5, iv n)] (by decide) rfl dX8_copy_23 ?_
      refine r_aload_n (pc := 25) (a := 0) (i := 0) 1 rfl rfl dX8_copy_25 ?_
      refine r_get (pc := 26) ckX8 (by decide) rfl (j := 0) (by decide) rfl kf_X8_11 dX8_copy_26 ?_
      refine r_iload_n (pc := 29) (a := 3) (i := 3) 4 rfl rfl dX8_copy_29 ?_
      refine r_aald (pc := 30) (g := (fun j => 2 + j)) (C := RX5) (by decide) rfl rfl (by omega) (by omega) (by decide) dX8_copy_30 ?_
      refine r_astore (pc := 31) [(7, rv X (rH ((b).toNat))), (6, rv X (rH ((a).toNat))), (0, rv X 0), (1, iv a), (2, iv i), (3, iv b), (4, iv j), (5, iv n)] (by decide) rfl dX8_copy_31 ?_
      refine r_aload (pc := 33) 1 rfl dX8_copy_33 ?_
      refine r_callVi (pc := 35) (st := []) (As := []) okX5_isMissing (by decide) (rH_lt (show ((a).toNat) < 8 by omega)) (cellR (show ((a).toNat) < 8 by omega)) rfl rfl (Nat.le_of_ble_eq_true rfl) km_X8_85 (kX5_isMissing X (show a.toNat < 8 by omega) e1 (by unfold rg; omega)) dX8_copy_35 ?_
      refine r_if_ne (pc := 38) 49 rg_bI dX8_copy_38 (by decide) (fun h38 => ?_) (fun h38 => ?_)
      · skip
        have h38 := bI_n.mp h38
        refine r_aload_n (pc := 49) (a := 0) (i := 0) 2 rfl rfl dX8_copy_49 ?_
        refine r_iconst (pc := 50) dX8_copy_50 ?_
        refine r_callVi (pc := 51) (st := []) (As := [iv 1]) okX8_found (by decide) (by decide) rfl rfl rfl (Nat.le_of_ble_eq_true rfl) km_X8_74 (kX8_found X (by unfold rg; omega)) dX8_copy_51 ?_
        refine r_iret (pc := 54) (st := []) rfl dX8_copy_54 ?_
        exact ⟨fun a => absurd a (by omega), fun _ _ => ⟨rfl, rfl⟩, fun _ b => absurd b (by omega), fun _ b => absurd b (by omega), fun _ b => absurd b (by omega)⟩
      · skip
        have h38 := bI_0.mp h38
        refine r_aload (pc := 41) 0 rfl dX8_copy_41 ?_
        refine r_callVi (pc := 43) (st := []) (As := []) okX5_isMissing (by decide) (rH_lt (show ((b).toNat) < 8 by omega)) (cellR (show ((b).toNat) < 8 by omega)) rfl rfl (Nat.le_of_ble_eq_true rfl) km_X8_85 (kX5_isMissing X (show b.toNat < 8 by omega) f1 (by unfold rg; omega)) dX8_copy_43 ?_
        refine r_if_eq (pc := 46) 55 rg_bI dX8_copy_46 (by decide) (fun h46 => ?_) (fun h46 => ?_)
        · skip
          have h46 := bI_0.mp h46
          obtain ⟨e6, e7, e8, _⟩ := e5 (by omega)
          obtain ⟨f6, f7, f8, _⟩ := f5 (by omega)
          refine r_aload (pc := 55) 1 rfl dX8_copy_55 ?_
          refine r_getN (pc := 57) ckX5 (rH_lt (show ((a).toNat) < 8 by omega)) (cellR (show ((a).toNat) < 8 by omega)) (j := 1) (by decide) (show _ = some (iv (I 31 a)) by rw [← e1]; rfl) kf_X8_97 dX8_copy_57 ?_
          refine r_aload (pc := 60) 0 rfl dX8_copy_60 ?_
          refine r_getN (pc := 62) ckX5 (rH_lt (show ((b).toNat) < 8 by omega)) (cellR (show ((b).toNat) < 8 by omega)) (j := 1) (by decide) (show _ = some (iv (I 31 b)) by rw [← f1]; rfl) kf_X8_97 dX8_copy_62 ?_
          refine r_icmp_eq (pc := 65) 74 (by unfold rg; omega) (by unfold rg; omega) dX8_copy_65 (by decide) (fun h65 => ?_) (fun h65 => ?_)
          · skip
            refine r_aload (pc := 74) 1 rfl dX8_copy_74 ?_
            refine r_iload_n (pc := 76) (a := 2) (i := 2) 4 rfl rfl dX8_copy_76 ?_
            refine r_iload (pc := 77) 7 rfl dX8_copy_77 ?_
            refine r_callVi (pc := 79) (st := []) (As := [iv i, iv n]) okX5_hasPlaces (by decide) (rH_lt (show ((a).toNat) < 8 by omega)) (cellR (show ((a).toNat) < 8 by omega)) rfl rfl (Nat.le_of_ble_eq_true rfl) km_X8_89 (kX5_hasPlaces X (show a.toNat < 8 by omega) e6 e7 e8 (by unfold rg; omega) (by unfold rg; omega)) dX8_copy_79 ?_
            refine r_if_eq (pc := 82) 97 rg_bI dX8_copy_82 (by decide) (fun h82 => ?_) (fun h82 => ?_)
            · skip
              have h82 := bI_0.mp h82
              refine r_aload_n (pc := 97) (a := 0) (i := 0) 2 rfl rfl dX8_copy_97 ?_
              refine r_iconst (pc := 98) dX8_copy_98 ?_
              refine r_callVi (pc := 99) (st := []) (As := [iv 2]) okX8_found (by decide) (by decide) rfl rfl rfl (Nat.le_of_ble_eq_true rfl) km_X8_74 (kX8_found X (by unfold rg; omega)) dX8_copy_99 ?_
              refine r_iret (pc := 102) (st := []) rfl dX8_copy_102 ?_
              exact ⟨fun a => absurd a (by omega), fun _ b => absurd b (by omega), fun _ _ c => absurd c (by omega), fun _ _ _ _ => ⟨rfl, rfl⟩, fun _ _ _ d => absurd d (by omega)⟩
            · skip
              have h82 := bI_n.mp h82
              refine r_aload (pc := 85) 0 rfl dX8_copy_85 ?_
              refine r_iload (pc := 87) 6 rfl dX8_copy_87 ?_
              refine r_iload (pc := 89) 7 rfl dX8_copy_89 ?_
              refine r_callVi (pc := 91) (st := []) (As := [iv j, iv n]) okX5_hasPlaces (by decide) (rH_lt (show ((b).toNat) < 8 by omega)) (cellR (show ((b).toNat) < 8 by omega)) rfl rfl (Nat.le_of_ble_eq_true rfl) km_X8_89 (kX5_hasPlaces X (show b.toNat < 8 by omega) f6 f7 f8 (by unfold rg; omega) (by unfold rg; omega)) dX8_copy_91 ?_
              refine r_if_ne (pc := 94) 103 rg_bI dX8_copy_94 (by decide) (fun h94 => ?_) (fun h94 => ?_)
              · skip
                have h94 := bI_n.mp h94
                refine r_aload (pc := 103) 1 rfl dX8_copy_103 ?_
                refine r_getN (pc := 105) ckX5 (rH_lt (show ((a).toNat) < 8 by omega)) (cellR (show ((a).toNat) < 8 by omega)) (j := 0) (by decide) rfl kf_X8_100 dX8_copy_105 ?_
                refine r_iload_n (pc := 108) (a := 2) (i := 2) 4 rfl rfl dX8_copy_108 ?_
                refine r_aload (pc := 109) 0 rfl dX8_copy_109 ?_
                refine r_getN (pc := 111) ckX5 (rH_lt (show ((b).toNat) < 8 by omega)) (cellR (show ((b).toNat) < 8 by omega)) (j := 0) (by decide) rfl kf_X8_100 dX8_copy_111 ?_
                refine r_iload (pc := 114) 6 rfl dX8_copy_114 ?_
                refine r_iload (pc := 116) 7 rfl dX8_copy_116 ?_
                refine r_copy (pc := 118) (sp := i) (dp := j) (n := n) (iH_lt (show ((a).toNat) < 8 by omega)) (iH_lt (show ((b).toNat) < 8 by omega)) ((cellRi (show ((a).toNat) < 8 by omega)) _) (cellRi (show ((b).toNat) < 8 by omega)) (by omega) (by omega) (by omega) (by omega) (by omega) (by decide) (by decide) (by decide) (Nat.le_of_ble_eq_true rfl) kmcp_X8 dX8_copy_118 ?_
                refine r_aload_n (pc := 121) (a := 0) (i := 0) 2 rfl rfl dX8_copy_121 ?_
                refine r_iload (pc := 122) 7 rfl dX8_copy_122 ?_
                refine r_callVi (pc := 124) (st := []) (As := [iv n]) okX8_well (by decide) (by decide) rfl rfl rfl (Nat.le_of_ble_eq_true rfl) km_X8_82 (kX8_well X) dX8_copy_124 ?_
                refine r_iret (pc := 127) (st := []) rfl dX8_copy_127 ?_
                exact ⟨fun a => absurd a (by omega), fun _ b => absurd b (by omega), fun _ _ c => absurd c (by omega), fun _ _ _ d => absurd d (by omega), fun _ _ _ _ => ⟨rfl, rfl⟩⟩
              · skip
                have h94 := bI_0.mp h94
                refine r_aload_n (pc := 97) (a := 0) (i := 0) 2 rfl rfl dX8_copy_97 ?_
                refine r_iconst (pc := 98) dX8_copy_98 ?_
                refine r_callVi (pc := 99) (st := []) (As := [iv 2]) okX8_found (by decide) (by decide) rfl rfl rfl (Nat.le_of_ble_eq_true rfl) km_X8_74 (kX8_found X (by unfold rg; omega)) dX8_copy_99 ?_
                refine r_iret (pc := 102) (st := []) rfl dX8_copy_102 ?_
                exact ⟨fun a => absurd a (by omega), fun _ b => absurd b (by omega), fun _ _ c => absurd c (by omega), fun _ _ _ _ => ⟨rfl, rfl⟩, fun _ _ _ d => absurd d (by omega)⟩
          · skip
            refine r_aload_n (pc := 68) (a := 0) (i := 0) 2 rfl rfl dX8_copy_68 ?_
            refine r_iconst (pc := 69) dX8_copy_69 ?_
            refine r_callVi (pc := 70) (st := []) (As := [iv 5]) okX8_found (by decide) (by decide) rfl rfl rfl (Nat.le_of_ble_eq_true rfl) km_X8_74 (kX8_found X (by unfold rg; omega)) dX8_copy_70 ?_
            refine r_iret (pc := 73) (st := []) rfl dX8_copy_73 ?_
            exact ⟨fun a => absurd a (by omega), fun _ b => absurd b (by omega), fun _ _ _ => ⟨rfl, rfl⟩, fun _ _ c => absurd c (by omega), fun _ _ c => absurd c (by omega)⟩
        · skip
          have h46 := bI_n.mp h46
          refine r_aload_n (pc := 49) (a := 0) (i := 0) 2 rfl rfl dX8_copy_49 ?_
          refine r_iconst (pc := 50) dX8_copy_50 ?_
          refine r_callVi (pc := 51) (st := []) (As := [iv 1]) okX8_found (by decide) (by decide) rfl rfl rfl (Nat.le_of_ble_eq_true rfl) km_X8_74 (kX8_found X (by unfold rg; omega)) dX8_copy_51 ?_
          refine r_iret (pc := 54) (st := []) rfl dX8_copy_54 ?_
          exact ⟨fun a => absurd a (by omega), fun _ _ => ⟨rfl, rfl⟩, fun _ b => absurd b (by omega), fun _ b => absurd b (by omega), fun _ b => absurd b (by omega)⟩
    · skip
      have h11 := bI_0.mp h11
      refine r_ldc (pc := 14) kc_X8_73 dX8_copy_14 ?_
      refine r_iret (pc := 16) (st := []) rfl dX8_copy_16 ?_
      exact ⟨fun _ => ⟨rfl, rfl⟩, fun a => absurd a (by omega), fun a => absurd a (by omega), fun a => absurd a (by omega), fun a => absurd a (by omega)⟩

set_option maxRecDepth 100000 in
set_option maxHeartbeats 4000000 in
theorem kX9_copy (X : XC) {I S : HD} (e31 : I 31 = S 31) (e32 : I 32 = S 32) (hE : RE S S) {a i b j n : Int} (ha : rg a) (hi : rg i) (hb : rg b) (hj : rg j) (hn : rg n) : Cl X 3 mX9_copy [rv X 30, iv a, iv i, iv b, iv j, iv n] I (fun q J => (¬ (0 ≤ a ∧ a < 8 ∧ 0 ≤ b ∧ b < 8) → q = some (iv (-1000001)) ∧ J = up I 30 0 0) ∧ (0 ≤ a ∧ a < 8 ∧ 0 ≤ b ∧ b < 8 → (S 31 a < 0 ∨ S 31 b < 0) → q = some (iv (-1000011)) ∧ J = up (up (up I 30 0 0) 30 1 0) 30 1 1) ∧ (0 ≤ a ∧ a < 8 ∧ 0 ≤ b ∧ b < 8 → ¬ (S 31 a < 0 ∨ S 31 b < 0) → ¬ S 31 a = S 31 b → q = some (iv (-1000015)) ∧ J = up (up (up I 30 0 0) 30 1 0) 30 1 5) ∧ (0 ≤ a ∧ a < 8 ∧ 0 ≤ b ∧ b < 8 → ¬ (S 31 a < 0 ∨ S 31 b < 0) → S 31 a = S 31 b → ¬ (0 ≤ i ∧ 0 ≤ j ∧ 0 ≤ n ∧ i + n ≤ S 32 a ∧ j + n ≤ S 32 b) → q = some (iv (-1000012)) ∧ J = up (up (up I 30 0 0) 30 1 0) 30 1 2) ∧ (0 ≤ a ∧ a < 8 ∧ 0 ≤ b ∧ b < 8 → ¬ (S 31 a < 0 ∨ S 31 b < 0) → S 31 a = S 31 b → 0 ≤ i ∧ 0 ≤ j ∧ 0 ≤ n ∧ i + n ≤ S 32 a ∧ j + n ≤ S 32 b → q = some (iv n) ∧ J = upA (up (up I 30 0 0) 30 1 0) 33 (cpyF (I 33) (I 33) (40 * a + i) (40 * b + j) n))) := by
  refine Cl.of (by decide) (Nat.le_of_ble_eq_true rfl) ?_
  show Rn X 3 mX9_copy _ 0 [(0, rv X 30), (1, iv a), (2, iv i), (3, iv b), (4, iv j), (5, iv n)] [] I
  unfold rg at ha hi hb hj hn
  refine r_aload_n (pc := 0) (a := 0) (i := 0) 0 rfl rfl dX9_copy_0 ?_
  refine r_iconst (pc := 1) dX9_copy_1 ?_
  refine r_put (pc := 2) 0 (ji := 0) rfl ckX9 (by decide) rfl rfl (by decide) (Nat.le_of_ble_eq_true rfl) kf_X9_54 rfl rfl rfl rfl dX9_copy_2 ?_
  refine r_iload_n (pc := 5) (a := 1) (i := 1) 1 rfl rfl dX9_copy_5 ?_
  refine r_callSi (pc := 6) (st := []) (As := [iv a]) okX9_isRow (by decide) trivial rfl (Nat.le_of_ble_eq_true rfl) km_X9_68 (kX9_isRow X (by unfold rg; omega)) dX9_copy_6 ?_
  refine r_if_eq (pc := 9) 19 rg_bI dX9_copy_9 (by decide) (fun h9 => ?_) (fun h9 => ?_)
  · skip
    have h9 := bI_0.mp h9
    refine r_ldc (pc := 19) kc_X9_74 dX9_copy_19 ?_
    refine r_iret (pc := 21) (st := []) rfl dX9_copy_21 ?_
    exact ⟨fun _ => ⟨rfl, rfl⟩, fun a => absurd a (by omega), fun a => absurd a (by omega), fun a => absurd a (by omega), fun a => absurd a (by omega)⟩
  · skip
    have h9 := bI_n.mp h9
    refine r_iload_n (pc := 12) (a := 3) (i := 3) 3 rfl rfl dX9_copy_12 ?_
    refine r_callSi (pc := 13) (st := []) (As := [iv b]) okX9_isRow (by decide) trivial rfl (Nat.le_of_ble_eq_true rfl) km_X9_68 (kX9_isRow X (by unfold rg; omega)) dX9_copy_13 ?_
    refine r_if_ne (pc := 16) 22 rg_bI dX9_copy_16 (by decide) (fun h16 => ?_) (fun h16 => ?_)
    · skip
      have h16 := bI_n.mp h16
      obtain ⟨_, e2, e3, _, e5⟩ := hE a h9.1 h9.2
      obtain ⟨_, f2, f3, _, f5⟩ := hE b h16.1 h16.2
      refine r_aload_n (pc := 22) (a := 0) (i := 0) 0 rfl rfl dX9_copy_22 ?_
      refine r_iconst (pc := 23) dX9_copy_23 ?_
      refine r_put (pc := 24) 1 (ji := 1) rfl ckX9 (by decide) rfl rfl (by decide) (Nat.le_of_ble_eq_true rfl) kf_X9_58 rfl rfl rfl rfl dX9_copy_24 ?_
      refine r_aload_n (pc := 27) (a := 0) (i := 0) 0 rfl rfl dX9_copy_27 ?_
      refine r_get (pc := 28) ckX9 (by decide) rfl (j := 2) (by decide) rfl kf_X9_7 dX9_copy_28 ?_
      refine r_iload_n (pc := 31) (a := 1) (i := 1) 1 rfl rfl dX9_copy_31 ?_
      refine r_iald (pc := 32) (z := S 31 a) (by decide) rfl (by omega) (by omega) (by decide) ((congrFun (up_row (by decide)) _).trans ((congrFun (up_row (by decide)) _).trans (congrFun e31 _))) dX9_copy_32 ?_
      refine r_if_lt (pc := 33) 45 (by unfold rg; omega) dX9_copy_33 (by decide) (fun h33 => ?_) (fun h33 => ?_)
      · skip
        refine r_aload_n (pc := 45) (a := 0) (i := 0) 0 rfl rfl dX9_copy_45 ?_
        refine r_iconst (pc := 46) dX9_copy_46 ?_
        refine r_callVi (pc := 47) (st := []) (As := [iv 1]) okX9_finding (by decide) (by decide) rfl rfl rfl (Nat.le_of_ble_eq_true rfl) km_X9_75 (kX9_finding X) dX9_copy_47 ?_
        refine r_iret (pc := 50) (st := []) rfl dX9_copy_50 ?_
        exact ⟨fun a => absurd a (by omega), fun _ _ => ⟨rfl, rfl⟩, fun _ b => absurd b (by omega), fun _ b => absurd b (by omega), fun _ b => absurd b (by omega)⟩
      · skip
        refine r_aload_n (pc := 36) (a := 0) (i := 0) 0 rfl rfl dX9_copy_36 ?_
        refine r_get (pc := 37) ckX9 (by decide) rfl (j := 2) (by decide) rfl kf_X9_7 dX9_copy_37 ?_
        refine r_iload_n (pc := 40) (a := 3) (i := 3) 3 rfl rfl dX9_copy_40 ?_
        refine r_iald (pc := 41) (z := S 31 b) (by decide) rfl (by omega) (by omega) (by decide) ((congrFun (up_row (by decide)) _).trans ((congrFun (up_row (by decide)) _).trans (congrFun e31 _))) dX9_copy_41 ?_
        refine r_if_ge (pc := 42) 51 (by unfold rg; omega) dX9_copy_42 (by decide) (fun h42 => ?_) (fun h42 => ?_)
        · skip
          refine r_aload_n (pc := 51) (a := 0) (i := 0) 0 rfl rfl dX9_copy_51 ?_
          refine r_get (pc := 52) ckX9 (by decide) rfl (j := 2) (by decide) rfl kf_X9_7 dX9_copy_52 ?_
          refine r_iload_n (pc := 55) (a := 1) (i := 1) 1 rfl rfl dX9_copy_55 ?_
          refine r_iald (pc := 56) (z := S 31 a) (by decide) rfl (by omega) (by omega) (by decide) ((congrFun (up_row (by decide)) _).trans ((congrFun (up_row (by decide)) _).trans (congrFun e31 _))) dX9_copy_56 ?_
          refine r_aload_n (pc := 57) (a := 0) (i := 0) 0 rfl rfl dX9_copy_57 ?_
          refine r_get (pc := 58) ckX9 (by decide) rfl (j := 2) (by decide) rfl kf_X9_7 dX9_copy_58 ?_
          refine r_iload_n (pc := 61) (a := 3) (i := 3) 3 rfl rfl dX9_copy_61 ?_
          refine r_iald (pc := 62) (z := S 31 b) (by decide) rfl (by omega) (by omega) (by decide) ((congrFun (up_row (by decide)) _).trans ((congrFun (up_row (by decide)) _).trans (congrFun e31 _))) dX9_copy_62 ?_
          refine r_icmp_eq (pc := 63) 72 (by unfold rg; omega) (by unfold rg; omega) dX9_copy_63 (by decide) (fun h63 => ?_) (fun h63 => ?_)
          · skip
            obtain ⟨_, e7, e8, _⟩ := e5 (by omega)
            obtain ⟨_, f7, f8, _⟩ := f5 (by omega)
            refine r_iload_n (pc := 72) (a := 2) (i := 2) 2 rfl rfl dX9_copy_72 ?_
            refine r_if_lt (pc := 73) 121 (by unfold rg; omega) dX9_copy_73 (by decide) (fun h73 => ?_) (fun h73 => ?_)
            · skip
              refine r_aload_n (pc := 121) (a := 0) (i := 0) 0 rfl rfl dX9_copy_121 ?_
              refine r_iconst (pc := 122) dX9_copy_122 ?_
              refine r_callVi (pc := 123) (st := []) (As := [iv 2]) okX9_finding (by decide) (by decide) rfl rfl rfl (Nat.le_of_ble_eq_true rfl) km_X9_75 (kX9_finding X) dX9_copy_123 ?_
              refine r_iret (pc := 126) (st := []) rfl dX9_copy_126 ?_
              exact ⟨fun a => absurd a (by omega), fun _ b => absurd b (by omega), fun _ _ c => absurd c (by omega), fun _ _ _ _ => ⟨rfl, rfl⟩, fun _ _ _ d => absurd d (by omega)⟩
            · skip
              refine r_iload (pc := 76) 4 rfl dX9_copy_76 ?_
              refine r_if_lt (pc := 78) 121 (by unfold rg; omega) dX9_copy_78 (by decide) (fun h78 => ?_) (fun h78 => ?_)
              · skip
                refine r_aload_n (pc := 121) (a := 0) (i := 0) 0 rfl rfl dX9_copy_121 ?_
                refine r_iconst (pc := 122) dX9_copy_122 ?_
                refine r_callVi (pc := 123) (st := []) (As := [iv 2]) okX9_finding (by decide) (by decide) rfl rfl rfl (Nat.le_of_ble_eq_true rfl) km_X9_75 (kX9_finding X) dX9_copy_123 ?_
                refine r_iret (pc := 126) (st := []) rfl dX9_copy_126 ?_
                exact ⟨fun a => absurd a (by omega), fun _ b => absurd b (by omega), fun _ _ c => absurd c (by omega), fun _ _ _ _ => ⟨rfl, rfl⟩, fun _ _ _ d => absurd d (by omega)⟩
              · skip
                refine r_iload (pc := 81) 5 rfl dX9_copy_81 ?_
                refine r_if_lt (pc := 83) 121 (by unfold rg; omega) dX9_copy_83 (by decide) (fun h83 => ?_) (fun h83 => ?_)
                · skip
                  refine r_aload_n (pc := 121) (a := 0) (i := 0) 0 rfl rfl dX9_copy_121 ?_
                  refine r_iconst (pc := 122) dX9_copy_122 ?_
                  refine r_callVi (pc := 123) (st := []) (As := [iv 2]) okX9_finding (by decide) (by decide) rfl rfl rfl (Nat.le_of_ble_eq_true rfl) km_X9_75 (kX9_finding X) dX9_copy_123 ?_
                  refine r_iret (pc := 126) (st := []) rfl dX9_copy_126 ?_
                  exact ⟨fun a => absurd a (by omega), fun _ b => absurd b (by omega), fun _ _ c => absurd c (by omega), fun _ _ _ _ => ⟨rfl, rfl⟩, fun _ _ _ d => absurd d (by omega)⟩
                · skip
                  refine r_iload_n (pc := 86) (a := 2) (i := 2) 2 rfl rfl dX9_copy_86 ?_
                  refine r_i2l (pc := 87) (by unfold rg; omega) dX9_copy_87 ?_
                  refine r_iload (pc := 88) 5 rfl dX9_copy_88 ?_
                  refine r_i2l (pc := 90) (by unfold rg; omega) dX9_copy_90 ?_
                  refine r_ladd (pc := 91) dX9_copy_91 ?_
                  refine r_aload_n (pc := 92) (a := 0) (i := 0) 0 rfl rfl dX9_copy_92 ?_
                  refine r_get (pc := 93) ckX9 (by decide) rfl (j := 3) (by decide) rfl kf_X9_13 dX9_copy_93 ?_
                  refine r_iload_n (pc := 96) (a := 1) (i := 1) 1 rfl rfl dX9_copy_96 ?_
                  refine r_iald (pc := 97) (z := S 32 a) (by decide) rfl (by omega) (by omega) (by decide) ((congrFun (up_row (by decide)) _).trans ((congrFun (up_row (by decide)) _).trans (congrFun e32 _))) dX9_copy_97 ?_
                  refine r_i2l (pc := 98) (by unfold rg; omega) dX9_copy_98 ?_
                  refine r_lcif_gt (pc := 99) 121 (by unfold rl; omega) (by unfold rl; omega) dX9_copy_99 dX9_copy_100 (by decide) (fun h99 => ?_) (fun h99 => ?_)
                  · skip
                    refine r_aload_n (pc := 121) (a := 0) (i := 0) 0 rfl rfl dX9_copy_121 ?_
                    refine r_iconst (pc := 122) dX9_copy_122 ?_
                    refine r_callVi (pc := 123) (st := []) (As := [iv 2]) okX9_finding (by decide) (by decide) rfl rfl rfl (Nat.le_of_ble_eq_true rfl) km_X9_75 (kX9_finding X) dX9_copy_123 ?_
                    refine r_iret (pc := 126) (st := []) rfl dX9_copy_126 ?_
                    exact ⟨fun a => absurd a (by omega), fun _ b => absurd b (by omega), fun _ _ c => absurd c (by omega), fun _ _ _ _ => ⟨rfl, rfl⟩, fun _ _ _ d => absurd d (by omega)⟩
                  · skip
                    refine r_iload (pc := 103) 4 rfl dX9_copy_103 ?_
                    refine r_i2l (pc := 105) (by unfold rg; omega) dX9_copy_105 ?_
                    refine r_iload (pc := 106) 5 rfl dX9_copy_106 ?_
                    refine r_i2l (pc := 108) (by unfold rg; omega) dX9_copy_108 ?_
                    refine r_ladd (pc := 109) dX9_copy_109 ?_
                    refine r_aload_n (pc := 110) (a := 0) (i := 0) 0 rfl rfl dX9_copy_110 ?_
                    refine r_get (pc := 111) ckX9 (by decide) rfl (j := 3) (by decide) rfl kf_X9_13 dX9_copy_111 ?_
                    refine r_iload_n (pc := 114) (a := 3) (i := 3) 3 rfl rfl dX9_copy_114 ?_
                    refine r_iald (pc := 115) (z := S 32 b) (by decide) rfl (by omega) (by omega) (by decide) ((congrFun (up_row (by decide)) _).trans ((congrFun (up_row (by decide)) _).trans (congrFun e32 _))) dX9_copy_115 ?_
                    refine r_i2l (pc := 116) (by unfold rg; omega) dX9_copy_116 ?_
                    refine r_lcif_le (pc := 117) 127 (by unfold rl; omega) (by unfold rl; omega) dX9_copy_117 dX9_copy_118 (by decide) (fun h117 => ?_) (fun h117 => ?_)
                    · skip
                      refine r_iload_n (pc := 127) (a := 2) (i := 2) 2 rfl rfl dX9_copy_127 ?_
                      refine r_iload (pc := 128) 4 rfl dX9_copy_128 ?_
                      refine r_icmp_lt (pc := 130) 137 (by unfold rg; omega) (by unfold rg; omega) dX9_copy_130 (by decide) (fun h130 => ?_) (fun h130 => ?_)
                      · skip
                        refine r_iconst (pc := 137) dX9_copy_137 ?_
                        refine r_istore (pc := 138) [(6, iv 0), (0, rv X 30), (1, iv a), (2, iv i), (3, iv b), (4, iv j), (5, iv n)] (by decide) rfl dX9_copy_138 ?_
                        refine r_iconst (pc := 140) dX9_copy_140 ?_
                        refine r_istore (pc := 141) [(7, iv 0), (6, iv 0), (0, rv X 30), (1, iv a), (2, iv i), (3, iv b), (4, iv j), (5, iv n)] (by decide) rfl dX9_copy_141 ?_
                        refine r_I (J := upA (up (up I 30 0 0) 30 1 0) 33 (I 33)) (upA_e ((up_row (by decide)).trans (up_row (by decide)))) ?_
                        have at143 : ∀ (n143 : Nat) (w : Int → Int) (lo : Int) (k : Int) (u : Int), (n - k).toNat < n143 → (hw : ∀ q, w q = if 40 * b + j + lo ≤ q ∧ q < 40 * b + j + lo + k then I 33 (q - (40 * b + j) + (40 * a + i)) else I 33 q) → (hk0 : 0 ≤ k) → (hk1 : k ≤ n) → (hu : (u = 1 ∧ j ≤ i ∧ lo = 0) ∨ (u = 0 ∧ i < j ∧ lo = n - k)) → Rn X 3 mX9_copy (fun q J => (¬ (0 ≤ a ∧ a < 8 ∧ 0 ≤ b ∧ b < 8) → q = some (iv (-1000001)) ∧ J = up I 30 0 0) ∧ (0 ≤ a ∧ a < 8 ∧ 0 ≤ b ∧ b < 8 → (S 31 a < 0 ∨ S 31 b < 0) → q = some (iv (-1000011)) ∧ J = up (up (up I 30 0 0) 30 1 0) 30 1 1) ∧ (0 ≤ a ∧ a < 8 ∧ 0 ≤ b ∧ b < 8 → ¬ (S 31 a < 0 ∨ S 31 b < 0) → ¬ S 31 a = S 31 b → q = some (iv (-1000015)) ∧ J = up (up (up I 30 0 0) 30 1 0) 30 1 5) ∧ (0 ≤ a ∧ a < 8 ∧ 0 ≤ b ∧ b < 8 → ¬ (S 31 a < 0 ∨ S 31 b < 0) → S 31 a = S 31 b → ¬ (0 ≤ i ∧ 0 ≤ j ∧ 0 ≤ n ∧ i + n ≤ S 32 a ∧ j + n ≤ S 32 b) → q = some (iv (-1000012)) ∧ J = up (up (up I 30 0 0) 30 1 0) 30 1 2) ∧ (0 ≤ a ∧ a < 8 ∧ 0 ≤ b ∧ b < 8 → ¬ (S 31 a < 0 ∨ S 31 b < 0) → S 31 a = S 31 b → 0 ≤ i ∧ 0 ≤ j ∧ 0 ≤ n ∧ i + n ≤ S 32 a ∧ j + n ≤ S 32 b → q = some (iv n) ∧ J = upA (up (up I 30 0 0) 30 1 0) 33 (cpyF (I 33) (I 33) (40 * a + i) (40 * b + j) n))) 143 [(0, rv X 30), (1, iv a), (2, iv i), (3, iv b), (4, iv j), (5, iv n), (6, iv u), (7, iv k)] [] (upA (up (up I 30 0 0) 30 1 0) 33 w) := by
                          intro n143
                          induction n143 with
                          | zero => intro w lo k u hm; omega
                          | succ n143 ih143 =>
                            intro w lo k u hm143 hw hk0 hk1 hu
                            refine r_iload (pc := 143) 7 rfl dX9_copy_143 ?_
                            refine r_iload (pc := 145) 5 rfl dX9_copy_145 ?_
                            refine r_icmp_ge (pc := 147) 204 (by unfold rg; omega) (by unfold rg; omega) dX9_copy_147 (by decide) (fun h147 => ?_) (fun h147 => ?_)
                            · skip
                              refine r_iload (pc := 204) 5 rfl dX9_copy_204 ?_
                              refine r_iret (pc := 206) (st := []) rfl dX9_copy_206 ?_
                              exact ⟨fun a => absurd a (by omega), fun _ b => absurd b (by omega), fun _ _ c => absurd c (by omega), fun _ _ _ d => absurd d (by omega), fun _ _ _ _ => ⟨rfl, by congr 1; funext q; rw [hw]; unfold cpyF; by_cases e : 40 * b + j ≤ q ∧ q < 40 * b + j + n; (rw [if_pos (by omega), if_pos e]; congr 1; omega); (rw [if_neg (by omega), if_neg e])⟩⟩
                            · skip
                              have at167 : ∀ (t : Int), (ht : (u = 1 ∧ t = k) ∨ (u = 0 ∧ t = n - 1 - k)) → Rn X 3 mX9_copy (fun q J => (¬ (0 ≤ a ∧ a < 8 ∧ 0 ≤ b ∧ b < 8) → q = some (iv (-1000001)) ∧ J = up I 30 0 0) ∧ (0 ≤ a ∧ a < 8 ∧ 0 ≤ b ∧ b < 8 → (S 31 a < 0 ∨ S 31 b < 0) → q = some (iv (-1000011)) ∧ J = up (up (up I 30 0 0) 30 1 0) 30 1 1) ∧ (0 ≤ a ∧ a < 8 ∧ 0 ≤ b ∧ b < 8 → ¬ (S 31 a < 0 ∨ S 31 b < 0) → ¬ S 31 a = S 31 b → q = some (iv (-1000015)) ∧ J = up (up (up I 30 0 0) 30 1 0) 30 1 5) ∧ (0 ≤ a ∧ a < 8 ∧ 0 ≤ b ∧ b < 8 → ¬ (S 31 a < 0 ∨ S 31 b < 0) → S 31 a = S 31 b → ¬ (0 ≤ i ∧ 0 ≤ j ∧ 0 ≤ n ∧ i + n ≤ S 32 a ∧ j + n ≤ S 32 b) → q = some (iv (-1000012)) ∧ J = up (up (up I 30 0 0) 30 1 0) 30 1 2) ∧ (0 ≤ a ∧ a < 8 ∧ 0 ≤ b ∧ b < 8 → ¬ (S 31 a < 0 ∨ S 31 b < 0) → S 31 a = S 31 b → 0 ≤ i ∧ 0 ≤ j ∧ 0 ≤ n ∧ i + n ≤ S 32 a ∧ j + n ≤ S 32 b → q = some (iv n) ∧ J = upA (up (up I 30 0 0) 30 1 0) 33 (cpyF (I 33) (I 33) (40 * a + i) (40 * b + j) n))) 167 [(0, rv X 30), (1, iv a), (2, iv i), (3, iv b), (4, iv j), (5, iv n), (6, iv u), (7, iv k)] [iv t] (upA (up (up I 30 0 0) 30 1 0) 33 w) := by
                                intro t ht
                                refine r_istore (pc := 167) [(8, iv t), (0, rv X 30), (1, iv a), (2, iv i), (3, iv b), (4, iv j), (5, iv n), (6, iv u), (7, iv k)] (by decide) rfl dX9_copy_167 ?_
                                refine r_aload_n (pc := 169) (a := 0) (i := 0) 1 rfl rfl dX9_copy_169 ?_
                                refine r_get (pc := 170) ckX9 (by decide) rfl (j := 4) (by decide) rfl kf_X9_16 dX9_copy_170 ?_
                                refine r_bipush (pc := 173) rfl dX9_copy_173 ?_
                                refine r_iload_n (pc := 175) (a := 3) (i := 3) 4 rfl rfl dX9_copy_175 ?_
                                refine r_imul (pc := 176) dX9_copy_176 ?_
                                refine r_iload (pc := 177) 5 rfl dX9_copy_177 ?_
                                refine r_iadd (pc := 179) dX9_copy_179 ?_
                                refine r_iload (pc := 180) 0 rfl dX9_copy_180 ?_
                                refine r_iadd (pc := 182) dX9_copy_182 ?_
                                refine r_aload_n (pc := 183) (a := 0) (i := 0) 1 rfl rfl dX9_copy_183 ?_
                                refine r_get (pc := 184) ckX9 (by decide) rfl (j := 4) (by decide) rfl kf_X9_16 dX9_copy_184 ?_
                                refine r_bipush (pc := 187) rfl dX9_copy_187 ?_
                                refine r_iload_n (pc := 189) (a := 1) (i := 1) 2 rfl rfl dX9_copy_189 ?_
                                refine r_imul (pc := 190) dX9_copy_190 ?_
                                refine r_iload_n (pc := 191) (a := 2) (i := 2) 3 rfl rfl dX9_copy_191 ?_
                                refine r_iadd (pc := 192) dX9_copy_192 ?_
                                refine r_iload (pc := 193) 0 rfl dX9_copy_193 ?_
                                refine r_iadd (pc := 195) dX9_copy_195 ?_
                                refine r_iald (pc := 196) (z := I 33 (40 * a + i + t)) (by decide) rfl (by omega) (by omega) (by decide) (by rw [upA_s, hw, if_neg (by omega)]) dX9_copy_196 ?_
                                refine r_iast (pc := 197) (by decide) (fun _ => rfl) (by omega) (by omega) (by decide) dX9_copy_197 ?_
                                refine r_I (J := upA (up (up I 30 0 0) 30 1 0) 33 (fun q => if q = 40 * b + j + t then I 33 (40 * a + i + t) else w q)) (upA_u) ?_
                                refine r_iinc (pc := 198) 8 [(7, iv (k + 1)), (8, iv t), (0, rv X 30), (1, iv a), (2, iv i), (3, iv b), (4, iv j), (5, iv n), (6, iv u)] rfl (by decide) rfl dX9_copy_198 ?_
                                refine r_goto (pc := 201) 143 dX9_copy_201 (by decide) ?_
                                refine r_lv [2, 3, 4, 5, 6, 7, 8, 0] [(0, rv X 30), (1, iv a), (2, iv i), (3, iv b), (4, iv j), (5, iv n), (6, iv u), (7, iv (k + 1))] rfl ?_
                                exact ih143 _ (lo - (1 - u)) (k + 1) u (by omega) (fun q => cpy_st hw (by omega)) (by omega) (by omega) (by omega)
                              refine r_iload (pc := 150) 6 rfl dX9_copy_150 ?_
                              refine r_if_eq (pc := 152) 160 (by unfold rg; omega) dX9_copy_152 (by decide) (fun h152 => ?_) (fun h152 => ?_)
                              · skip
                                refine r_iload (pc := 160) 5 rfl dX9_copy_160 ?_
                                refine r_iconst (pc := 162) dX9_copy_162 ?_
                                refine r_isub (pc := 163) dX9_copy_163 ?_
                                refine r_iload (pc := 164) 7 rfl dX9_copy_164 ?_
                                refine r_isub (pc := 166) dX9_copy_166 ?_
                                refine r_lv [0, 1, 2, 3, 4, 5, 6, 7] [(0, rv X 30), (1, iv a), (2, iv i), (3, iv b), (4, iv j), (5, iv n), (6, iv u), (7, iv k)] rfl ?_
                                exact at167 ((n - 1) - k) (by omega)
                              · skip
                                refine r_iload (pc := 155) 7 rfl dX9_copy_155 ?_
                                refine r_goto (pc := 157) 167 dX9_copy_157 (by decide) ?_
                                refine r_lv [0, 1, 2, 3, 4, 5, 6, 7] [(0, rv X 30), (1, iv a), (2, iv i), (3, iv b), (4, iv j), (5, iv n), (6, iv u), (7, iv k)] rfl ?_
                                exact at167 k (by omega)
                        refine r_lv [2, 3, 4, 5, 6, 7, 1, 0] [(0, rv X 30), (1, iv a), (2, iv i), (3, iv b), (4, iv j), (5, iv n), (6, iv 0), (7, iv 0)] rfl ?_
                        exact at143 _ _ (if j ≤ i then 0 else n) 0 0 (Nat.lt_succ_self _) (fun q => by rw [if_neg (by omega)]) (by omega) (by omega) (by first | exact Or.inl ⟨rfl, by omega, if_pos (by omega)⟩ | exact Or.inr ⟨rfl, by omega, (if_neg (by omega)).trans (by omega)⟩)
                      · skip
                        refine r_iconst (pc := 133) dX9_copy_133 ?_
                        refine r_goto (pc := 134) 138 dX9_copy_134 (by decide) ?_
                        refine r_istore (pc := 138) [(6, iv 1), (0, rv X 30), (1, iv a), (2, iv i), (3, iv b), (4, iv j), (5, iv n)] (by decide) rfl dX9_copy_138 ?_
                        refine r_iconst (pc := 140) dX9_copy_140 ?_
                        refine r_istore (pc := 141) [(7, iv 0), (6, iv 1), (0, rv X 30), (1, iv a), (2, iv i), (3, iv b), (4, iv j), (5, iv n)] (by decide) rfl dX9_copy_141 ?_
                        refine r_I (J := upA (up (up I 30 0 0) 30 1 0) 33 (I 33)) (upA_e ((up_row (by decide)).trans (up_row (by decide)))) ?_
                        have at143 : ∀ (n143 : Nat) (w : Int → Int) (lo : Int) (k : Int) (u : Int), (n - k).toNat < n143 → (hw : ∀ q, w q = if 40 * b + j + lo ≤ q ∧ q < 40 * b + j + lo + k then I 33 (q - (40 * b + j) + (40 * a + i)) else I 33 q) → (hk0 : 0 ≤ k) → (hk1 : k ≤ n) → (hu : (u = 1 ∧ j ≤ i ∧ lo = 0) ∨ (u = 0 ∧ i < j ∧ lo = n - k)) → Rn X 3 mX9_copy (fun q J => (¬ (0 ≤ a ∧ a < 8 ∧ 0 ≤ b ∧ b < 8) → q = some (iv (-1000001)) ∧ J = up I 30 0 0) ∧ (0 ≤ a ∧ a < 8 ∧ 0 ≤ b ∧ b < 8 → (S 31 a < 0 ∨ S 31 b < 0) → q = some (iv (-1000011)) ∧ J = up (up (up I 30 0 0) 30 1 0) 30 1 1) ∧ (0 ≤ a ∧ a < 8 ∧ 0 ≤ b ∧ b < 8 → ¬ (S 31 a < 0 ∨ S 31 b < 0) → ¬ S 31 a = S 31 b → q = some (iv (-1000015)) ∧ J = up (up (up I 30 0 0) 30 1 0) 30 1 5) ∧ (0 ≤ a ∧ a < 8 ∧ 0 ≤ b ∧ b < 8 → ¬ (S 31 a < 0 ∨ S 31 b < 0) → S 31 a = S 31 b → ¬ (0 ≤ i ∧ 0 ≤ j ∧ 0 ≤ n ∧ i + n ≤ S 32 a ∧ j + n ≤ S 32 b) → q = some (iv (-1000012)) ∧ J = up (up (up I 30 0 0) 30 1 0) 30 1 2) ∧ (0 ≤ a ∧ a < 8 ∧ 0 ≤ b ∧ b < 8 → ¬ (S 31 a < 0 ∨ S 31 b < 0) → S 31 a = S 31 b → 0 ≤ i ∧ 0 ≤ j ∧ 0 ≤ n ∧ i + n ≤ S 32 a ∧ j + n ≤ S 32 b → q = some (iv n) ∧ J = upA (up (up I 30 0 0) 30 1 0) 33 (cpyF (I 33) (I 33) (40 * a + i) (40 * b + j) n))) 143 [(0, rv X 30), (1, iv a), (2, iv i), (3, iv b), (4, iv j), (5, iv n), (6, iv u), (7, iv k)] [] (upA (up (up I 30 0 0) 30 1 0) 33 w) := by
                          intro n143
                          induction n143 with
                          | zero => intro w lo k u hm; omega
                          | succ n143 ih143 =>
                            intro w lo k u hm143 hw hk0 hk1 hu
                            refine r_iload (pc := 143) 7 rfl dX9_copy_143 ?_
                            refine r_iload (pc := 145) 5 rfl dX9_copy_145 ?_
                            refine r_icmp_ge (pc := 147) 204 (by unfold rg; omega) (by unfold rg; omega) dX9_copy_147 (by decide) (fun h147 => ?_) (fun h147 => ?_)
                            · skip
                              refine r_iload (pc := 204) 5 rfl dX9_copy_204 ?_
                              refine r_iret (pc := 206) (st := []) rfl dX9_copy_206 ?_
                              exact ⟨fun a => absurd a (by omega), fun _ b => absurd b (by omega), fun _ _ c => absurd c (by omega), fun _ _ _ d => absurd d (by omega), fun _ _ _ _ => ⟨rfl, by congr 1; funext q; rw [hw]; unfold cpyF; by_cases e : 40 * b + j ≤ q ∧ q < 40 * b + j + n; (rw [if_pos (by omega), if_pos e]; congr 1; omega); (rw [if_neg (by omega), if_neg e])⟩⟩
                            · skip
                              have at167 : ∀ (t : Int), (ht : (u = 1 ∧ t = k) ∨ (u = 0 ∧ t = n - 1 - k)) → Rn X 3 mX9_copy (fun q J => (¬ (0 ≤ a ∧ a < 8 ∧ 0 ≤ b ∧ b < 8) → q = some (iv (-1000001)) ∧ J = up I 30 0 0) ∧ (0 ≤ a ∧ a < 8 ∧ 0 ≤ b ∧ b < 8 → (S 31 a < 0 ∨ S 31 b < 0) → q = some (iv (-1000011)) ∧ J = up (up (up I 30 0 0) 30 1 0) 30 1 1) ∧ (0 ≤ a ∧ a < 8 ∧ 0 ≤ b ∧ b < 8 → ¬ (S 31 a < 0 ∨ S 31 b < 0) → ¬ S 31 a = S 31 b → q = some (iv (-1000015)) ∧ J = up (up (up I 30 0 0) 30 1 0) 30 1 5) ∧ (0 ≤ a ∧ a < 8 ∧ 0 ≤ b ∧ b < 8 → ¬ (S 31 a < 0 ∨ S 31 b < 0) → S 31 a = S 31 b → ¬ (0 ≤ i ∧ 0 ≤ j ∧ 0 ≤ n ∧ i + n ≤ S 32 a ∧ j + n ≤ S 32 b) → q = some (iv (-1000012)) ∧ J = up (up (up I 30 0 0) 30 1 0) 30 1 2) ∧ (0 ≤ a ∧ a < 8 ∧ 0 ≤ b ∧ b < 8 → ¬ (S 31 a < 0 ∨ S 31 b < 0) → S 31 a = S 31 b → 0 ≤ i ∧ 0 ≤ j ∧ 0 ≤ n ∧ i + n ≤ S 32 a ∧ j + n ≤ S 32 b → q = some (iv n) ∧ J = upA (up (up I 30 0 0) 30 1 0) 33 (cpyF (I 33) (I 33) (40 * a + i) (40 * b + j) n))) 167 [(0, rv X 30), (1, iv a), (2, iv i), (3, iv b), (4, iv j), (5, iv n), (6, iv u), (7, iv k)] [iv t] (upA (up (up I 30 0 0) 30 1 0) 33 w) := by
                                intro t ht
                                refine r_istore (pc := 167) [(8, iv t), (0, rv X 30), (1, iv a), (2, iv i), (3, iv b), (4, iv j), (5, iv n), (6, iv u), (7, iv k)] (by decide) rfl dX9_copy_167 ?_
                                refine r_aload_n (pc := 169) (a := 0) (i := 0) 1 rfl rfl dX9_copy_169 ?_
                                refine r_get (pc := 170) ckX9 (by decide) rfl (j := 4) (by decide) rfl kf_X9_16 dX9_copy_170 ?_
                                refine r_bipush (pc := 173) rfl dX9_copy_173 ?_
                                refine r_iload_n (pc := 175) (a := 3) (i := 3) 4 rfl rfl dX9_copy_175 ?_
                                refine r_imul (pc := 176) dX9_copy_176 ?_
                                refine r_iload (pc := 177) 5 rfl dX9_copy_177 ?_
                                refine r_iadd (pc := 179) dX9_copy_179 ?_
                                refine r_iload (pc := 180) 0 rfl dX9_copy_180 ?_
                                refine r_iadd (pc := 182) dX9_copy_182 ?_
                                refine r_aload_n (pc := 183) (a := 0) (i := 0) 1 rfl rfl dX9_copy_183 ?_
                                refine r_get (pc := 184) ckX9 (by decide) rfl (j := 4) (by decide) rfl kf_X9_16 dX9_copy_184 ?_
                                refine r_bipush (pc := 187) rfl dX9_copy_187 ?_
                                refine r_iload_n (pc := 189) (a := 1) (i := 1) 2 rfl rfl dX9_copy_189 ?_
                                refine r_imul (pc := 190) dX9_copy_190 ?_
                                refine r_iload_n (pc := 191) (a := 2) (i := 2) 3 rfl rfl dX9_copy_191 ?_
                                refine r_iadd (pc := 192) dX9_copy_192 ?_
                                refine r_iload (pc := 193) 0 rfl dX9_copy_193 ?_
                                refine r_iadd (pc := 195) dX9_copy_195 ?_
                                refine r_iald (pc := 196) (z := I 33 (40 * a + i + t)) (by decide) rfl (by omega) (by omega) (by decide) (by rw [upA_s, hw, if_neg (by omega)]) dX9_copy_196 ?_
                                refine r_iast (pc := 197) (by decide) (fun _ => rfl) (by omega) (by omega) (by decide) dX9_copy_197 ?_
                                refine r_I (J := upA (up (up I 30 0 0) 30 1 0) 33 (fun q => if q = 40 * b + j + t then I 33 (40 * a + i + t) else w q)) (upA_u) ?_
                                refine r_iinc (pc := 198) 8 [(7, iv (k + 1)), (8, iv t), (0, rv X 30), (1, iv a), (2, iv i), (3, iv b), (4, iv j), (5, iv n), (6, iv u)] rfl (by decide) rfl dX9_copy_198 ?_
                                refine r_goto (pc := 201) 143 dX9_copy_201 (by decide) ?_
                                refine r_lv [2, 3, 4, 5, 6, 7, 8, 0] [(0, rv X 30), (1, iv a), (2, iv i), (3, iv b), (4, iv j), (5, iv n), (6, iv u), (7, iv (k + 1))] rfl ?_
                                exact ih143 _ (lo - (1 - u)) (k + 1) u (by omega) (fun q => cpy_st hw (by omega)) (by omega) (by omega) (by omega)
                              refine r_iload (pc := 150) 6 rfl dX9_copy_150 ?_
                              refine r_if_eq (pc := 152) 160 (by unfold rg; omega) dX9_copy_152 (by decide) (fun h152 => ?_) (fun h152 => ?_)
                              · skip
                                refine r_iload (pc := 160) 5 rfl dX9_copy_160 ?_
                                refine r_iconst (pc := 162) dX9_copy_162 ?_
                                refine r_isub (pc := 163) dX9_copy_163 ?_
                                refine r_iload (pc := 164) 7 rfl dX9_copy_164 ?_
                                refine r_isub (pc := 166) dX9_copy_166 ?_
                                refine r_lv [0, 1, 2, 3, 4, 5, 6, 7] [(0, rv X 30), (1, iv a), (2, iv i), (3, iv b), (4, iv j), (5, iv n), (6, iv u), (7, iv k)] rfl ?_
                                exact at167 ((n - 1) - k) (by omega)
                              · skip
                                refine r_iload (pc := 155) 7 rfl dX9_copy_155 ?_
                                refine r_goto (pc := 157) 167 dX9_copy_157 (by decide) ?_
                                refine r_lv [0, 1, 2, 3, 4, 5, 6, 7] [(0, rv X 30), (1, iv a), (2, iv i), (3, iv b), (4, iv j), (5, iv n), (6, iv u), (7, iv k)] rfl ?_
                                exact at167 k (by omega)
                        refine r_lv [2, 3, 4, 5, 6, 7, 1, 0] [(0, rv X 30), (1, iv a), (2, iv i), (3, iv b), (4, iv j), (5, iv n), (6, iv 1), (7, iv 0)] rfl ?_
                        exact at143 _ _ (if j ≤ i then 0 else n) 0 1 (Nat.lt_succ_self _) (fun q => by rw [if_neg (by omega)]) (by omega) (by omega) (by first | exact Or.inl ⟨rfl, by omega, if_pos (by omega)⟩ | exact Or.inr ⟨rfl, by omega, (if_neg (by omega)).trans (by omega)⟩)
                    · skip
                      refine r_aload_n (pc := 121) (a := 0) (i := 0) 0 rfl rfl dX9_copy_121 ?_
                      refine r_iconst (pc := 122) dX9_copy_122 ?_
                      refine r_callVi (pc := 123) (st := []) (As := [iv 2]) okX9_finding (by decide) (by decide) rfl rfl rfl (Nat.le_of_ble_eq_true rfl) km_X9_75 (kX9_finding X) dX9_copy_123 ?_
                      refine r_iret (pc := 126) (st := []) rfl dX9_copy_126 ?_
                      exact ⟨fun a => absurd a (by omega), fun _ b => absurd b (by omega), fun _ _ c => absurd c (by omega), fun _ _ _ _ => ⟨rfl, rfl⟩, fun _ _ _ d => absurd d (by omega)⟩
          · skip
            refine r_aload_n (pc := 66) (a := 0) (i := 0) 0 rfl rfl dX9_copy_66 ?_
            refine r_iconst (pc := 67) dX9_copy_67 ?_
            refine r_callVi (pc := 68) (st := []) (As := [iv 5]) okX9_finding (by decide) (by decide) rfl rfl rfl (Nat.le_of_ble_eq_true rfl) km_X9_75 (kX9_finding X) dX9_copy_68 ?_
            refine r_iret (pc := 71) (st := []) rfl dX9_copy_71 ?_
            exact ⟨fun a => absurd a (by omega), fun _ b => absurd b (by omega), fun _ _ _ => ⟨rfl, rfl⟩, fun _ _ c => absurd c (by omega), fun _ _ c => absurd c (by omega)⟩
        · skip
          refine r_aload_n (pc := 45) (a := 0) (i := 0) 0 rfl rfl dX9_copy_45 ?_
          refine r_iconst (pc := 46) dX9_copy_46 ?_
          refine r_callVi (pc := 47) (st := []) (As := [iv 1]) okX9_finding (by decide) (by decide) rfl rfl rfl (Nat.le_of_ble_eq_true rfl) km_X9_75 (kX9_finding X) dX9_copy_47 ?_
          refine r_iret (pc := 50) (st := []) rfl dX9_copy_50 ?_
          exact ⟨fun a => absurd a (by omega), fun _ _ => ⟨rfl, rfl⟩, fun _ b => absurd b (by omega), fun _ b => absurd b (by omega), fun _ b => absurd b (by omega)⟩
    · skip
      have h16 := bI_0.mp h16
      refine r_ldc (pc := 19) kc_X9_74 dX9_copy_19 ?_
      refine r_iret (pc := 21) (st := []) rfl dX9_copy_21 ?_
      exact ⟨fun _ => ⟨rfl, rfl⟩, fun a => absurd a (by omega), fun a => absurd a (by omega), fun a => absurd a (by omega), fun a => absurd a (by omega)⟩
