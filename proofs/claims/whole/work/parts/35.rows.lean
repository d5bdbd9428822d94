set_option maxRecDepth 100000 in
set_option maxHeartbeats 4000000 in
theorem kX5_isMissing (X : XC) {I : HD} {r : Nat} (h_r : r < 8) {l : Int} (hl : I (rH r) 1 = l) (hr : rg l) : Cl X 0 mX5_isMissing [rv X (rH r)] I (Ki (bI (l = -1)) I) := by
  refine Cl.of (by decide) (Nat.le_of_ble_eq_true rfl) ?_
  show Rn X 0 mX5_isMissing _ 0 [(0, rv X (rH r))] [] I
  unfold rg at hr
  refine r_aload_n (pc := 0) (a := 0) (i := 0) 0 rfl rfl dX5_isMissing_0 ?_
  refine r_get (pc := 1) ckX5 (rH_lt (h_r)) (cellR (h_r)) (j := 1) (by decide) (show _ = some (iv l) by rw [← hl]; rfl) kf_X5_15 dX5_isMissing_1 ?_
  refine r_iconst (pc := 4) dX5_isMissing_4 ?_
  refine r_icmp_ne (pc := 5) 12 (by unfold rg; omega) (by unfold rg; omega) dX5_isMissing_5 (by decide) (fun h5 => ?_) (fun h5 => ?_)
  · skip
    refine r_iconst (pc := 12) dX5_isMissing_12 ?_
    refine r_zret (pc := 13) (st := []) rfl (rfl) dX5_isMissing_13 ?_
    exact ⟨by rw [bI_f (by omega)], rfl⟩
  · skip
    refine r_iconst (pc := 8) dX5_isMissing_8 ?_
    refine r_goto (pc := 9) 13 dX5_isMissing_9 (by decide) ?_
    refine r_zret (pc := 13) (st := []) rfl (rfl) dX5_isMissing_13 ?_
    exact ⟨by rw [bI_t (by omega)], rfl⟩

set_option maxRecDepth 100000 in
set_option maxHeartbeats 4000000 in
theorem kX5_hasPlaces (X : XC) {I : HD} {r : Nat} (h_r : r < 8) {L i n : Int} (hL : I (rH r) 2 = L) (hL0 : 0 ≤ L) (hL1 : L ≤ 40) (hi : rg i) (hn : rg n) : Cl X 0 mX5_hasPlaces [rv X (rH r), iv i, iv n] I (Ki (bI (0 ≤ i ∧ 0 ≤ n ∧ i ≤ L ∧ n ≤ L - i)) I) := by
  refine Cl.of (by decide) (Nat.le_of_ble_eq_true rfl) ?_
  show Rn X 0 mX5_hasPlaces _ 0 [(0, rv X (rH r)), (1, iv i), (2, iv n)] [] I
  unfold rg at hi hn
  refine r_iload_n (pc := 0) (a := 1) (i := 1) 1 rfl rfl dX5_hasPlaces_0 ?_
  refine r_if_lt (pc := 1) 30 (by unfold rg; omega) dX5_hasPlaces_1 (by decide) (fun h1 => ?_) (fun h1 => ?_)
  · skip
    refine r_iconst (pc := 30) dX5_hasPlaces_30 ?_
    refine r_zret (pc := 31) (st := []) rfl (rfl) dX5_hasPlaces_31 ?_
    exact ⟨by rw [bI_f (by omega)], rfl⟩
  · skip
    refine r_iload_n (pc := 4) (a := 2) (i := 2) 2 rfl rfl dX5_hasPlaces_4 ?_
    refine r_if_lt (pc := 5) 30 (by unfold rg; omega) dX5_hasPlaces_5 (by decide) (fun h5 => ?_) (fun h5 => ?_)
    · skip
      refine r_iconst (pc := 30) dX5_hasPlaces_30 ?_
      refine r_zret (pc := 31) (st := []) rfl (rfl) dX5_hasPlaces_31 ?_
      exact ⟨by rw [bI_f (by omega)], rfl⟩
    · skip
      refine r_iload_n (pc := 8) (a := 1) (i := 1) 1 rfl rfl dX5_hasPlaces_8 ?_
      refine r_aload_n (pc := 9) (a := 0) (i := 0) 0 rfl rfl dX5_hasPlaces_9 ?_
      refine r_get (pc := 10) ckX5 (rH_lt (h_r)) (cellR (h_r)) (j := 2) (by decide) (show _ = some (iv L) by rw [← hL]; rfl) kf_X5_19 dX5_hasPlaces_10 ?_
      refine r_icmp_gt (pc := 13) 30 (by unfold rg; omega) (by unfold rg; omega) dX5_hasPlaces_13 (by decide) (fun h13 => ?_) (fun h13 => ?_)
      · skip
        refine r_iconst (pc := 30) dX5_hasPlaces_30 ?_
        refine r_zret (pc := 31) (st := []) rfl (rfl) dX5_hasPlaces_31 ?_
        exact ⟨by rw [bI_f (by omega)], rfl⟩
      · skip
        refine r_iload_n (pc := 16) (a := 2) (i := 2) 2 rfl rfl dX5_hasPlaces_16 ?_
        refine r_aload_n (pc := 17) (a := 0) (i := 0) 0 rfl rfl dX5_hasPlaces_17 ?_
        refine r_get (pc := 18) ckX5 (rH_lt (h_r)) (cellR (h_r)) (j := 2) (by decide) (show _ = some (iv L) by rw [← hL]; rfl) kf_X5_19 dX5_hasPlaces_18 ?_
        refine r_iload_n (pc := 21) (a := 1) (i := 1) 1 rfl rfl dX5_hasPlaces_21 ?_
        refine r_isub (pc := 22) dX5_hasPlaces_22 ?_
        refine r_icmp_gt (pc := 23) 30 (by unfold rg; omega) (by unfold rg; omega) dX5_hasPlaces_23 (by decide) (fun h23 => ?_) (fun h23 => ?_)
        · skip
          refine r_iconst (pc := 30) dX5_hasPlaces_30 ?_
          refine r_zret (pc := 31) (st := []) rfl (rfl) dX5_hasPlaces_31 ?_
          exact ⟨by rw [bI_f (by omega)], rfl⟩
        · skip
          refine r_iconst (pc := 26) dX5_hasPlaces_26 ?_
          refine r_goto (pc := 27) 31 dX5_hasPlaces_27 (by decide) ?_
          refine r_zret (pc := 31) (st := []) rfl (rfl) dX5_hasPlaces_31 ?_
          exact ⟨by rw [bI_t (by omega)], rfl⟩

set_option maxRecDepth 100000 in
set_option maxHeartbeats 4000000 in
theorem kX5_begin (X : XC) {I : HD} {r : Nat} (h_r : r < 8) {l n : Int} : Cl X 0 mX5_begin [rv X (rH r), iv l, iv n] I (Kv (upA (up (up I (rH r) 1 l) (rH r) 2 n) (iH r) (zro (I (iH r)) 0 40))) := by
  refine Cl.of (by decide) (Nat.le_of_ble_eq_true rfl) ?_
  show Rn X 0 mX5_begin _ 0 [(0, rv X (rH r)), (1, iv l), (2, iv n)] [] I
  have oe : rH r = 2 + r := rfl
  have oi : iH r = 10 + r := rfl
  refine r_aload_n (pc := 0) (a := 0) (i := 0) 0 rfl rfl dX5_begin_0 ?_
  refine r_iload_n (pc := 1) (a := 1) (i := 1) 1 rfl rfl dX5_begin_1 ?_
  refine r_put (pc := 2) 1 (ji := 1) rfl ckX5 (rH_lt (h_r)) (cellR (h_r)) (cellRp1 (h_r)) (by decide) (Nat.le_of_ble_eq_true rfl) kf_X5_15 rfl rfl rfl rfl dX5_begin_2 ?_
  refine r_aload_n (pc := 5) (a := 0) (i := 0) 0 rfl rfl dX5_begin_5 ?_
  refine r_iload_n (pc := 6) (a := 2) (i := 2) 2 rfl rfl dX5_begin_6 ?_
  refine r_put (pc := 7) 2 (ji := 2) rfl ckX5 (rH_lt (h_r)) (cellR (h_r)) (cellRp2 (h_r)) (by decide) (Nat.le_of_ble_eq_true rfl) kf_X5_19 rfl rfl rfl rfl dX5_begin_7 ?_
  refine r_iconst (pc := 10) dX5_begin_10 ?_
  refine r_istore_n (pc := 11) (a := 3) (i := 3) rfl [(3, iv 0), (0, rv X (rH r)), (1, iv l), (2, iv n)] (by decide) rfl dX5_begin_11 ?_
  refine r_I (J := upA (up (up I (rH r) 1 l) (rH r) 2 n) (iH r) (zro (I (iH r)) 0 0)) (by rw [zro_0]; exact upA_e ((up_row (by omega)).trans (up_row (by omega)))) ?_
  have at12 : ∀ (n12 : Nat) (k : Int), (40 - k).toNat < n12 → (hk0 : 0 ≤ k) → (hk1 : k ≤ 40) → Rn X 0 mX5_begin (Kv (upA (up (up I (rH r) 1 l) (rH r) 2 n) (iH r) (zro (I (iH r)) 0 40))) 12 [(0, rv X (rH r)), (1, iv l), (2, iv n), (3, iv k)] [] (upA (up (up I (rH r) 1 l) (rH r) 2 n) (iH r) (zro (I (iH r)) 0 k)) := by
    intro n12
    induction n12 with
    | zero => intro k hm; omega
    | succ n12 ih12 =>
      intro k hm12 hk0 hk1
      refine r_iload_n (pc := 12) (a := 3) (i := 3) 3 rfl rfl dX5_begin_12 ?_
      refine r_bipush (pc := 13) rfl dX5_begin_13 ?_
      refine r_icmp_ge (pc := 15) 31 (by unfold rg; omega) (by unfold rg; omega) dX5_begin_15 (by decide) (fun h15 => ?_) (fun h15 => ?_)
      · skip
        refine r_vret (pc := 31) (st := []) rfl dX5_begin_31 ?_
        exact ⟨rfl, by rw [show k = 40 by omega]⟩
      · skip
        refine r_aload_n (pc := 18) (a := 0) (i := 0) 0 rfl rfl dX5_begin_18 ?_
        refine r_get (pc := 19) ckX5 (rH_lt (h_r)) (cellR (h_r)) (j := 0) (by decide) rfl kf_X5_9 dX5_begin_19 ?_
        refine r_iload_n (pc := 22) (a := 3) (i := 3) 3 rfl rfl dX5_begin_22 ?_
        refine r_iconst (pc := 23) dX5_begin_23 ?_
        refine r_iast (pc := 24) (iH_lt (h_r)) (cellRi (h_r)) (by omega) (by omega) (by decide) dX5_begin_24 ?_
        refine r_I (J := upA (up (up I (rH r) 1 l) (rH r) 2 n) (iH r) (zro (I (iH r)) 0 (k + 1))) (zro_s hk0 (by omega)) ?_
        refine r_iinc (pc := 25) 3 [(3, iv (k + 1)), (0, rv X (rH r)), (1, iv l), (2, iv n)] rfl (by decide) rfl dX5_begin_25 ?_
        refine r_goto (pc := 28) 12 dX5_begin_28 (by decide) ?_
        refine r_lv [1, 2, 3, 0] [(0, rv X (rH r)), (1, iv l), (2, iv n), (3, iv (k + 1))] rfl ?_
        exact ih12 (k + 1) (by omega) (by omega) (by omega)
  refine r_lv [1, 2, 3, 0] [(0, rv X (rH r)), (1, iv l), (2, iv n), (3, iv 0)] rfl ?_
  exact at12 _ 0 (Nat.lt_succ_self _) (by omega) (by omega)

set_option maxRecDepth 100000 in
set_option maxHeartbeats 4000000 in
theorem kX5_end (X : XC) {I : HD} {r : Nat} (h_r : r < 8) : Cl X 0 mX5_end [rv X (rH r)] I (Kv (up (up I (rH r) 1 (-1)) (rH r) 2 0)) := by
  refine Cl.of (by decide) (Nat.le_of_ble_eq_true rfl) ?_
  show Rn X 0 mX5_end _ 0 [(0, rv X (rH r))] [] I
  refine r_aload_n (pc := 0) (a := 0) (i := 0) 0 rfl rfl dX5_end_0 ?_
  refine r_iconst (pc := 1) dX5_end_1 ?_
  refine r_put (pc := 2) 1 (ji := 1) rfl ckX5 (rH_lt (h_r)) (cellR (h_r)) (cellRp1 (h_r)) (by decide) (Nat.le_of_ble_eq_true rfl) kf_X5_15 rfl rfl rfl rfl dX5_end_2 ?_
  refine r_aload_n (pc := 5) (a := 0) (i := 0) 0 rfl rfl dX5_end_5 ?_
  refine r_iconst (pc := 6) dX5_end_6 ?_
  refine r_put (pc := 7) 2 (ji := 2) rfl ckX5 (rH_lt (h_r)) (cellR (h_r)) (cellRp2 (h_r)) (by decide) (Nat.le_of_ble_eq_true rfl) kf_X5_19 rfl rfl rfl rfl dX5_end_7 ?_
  refine r_vret (pc := 10) (st := []) rfl dX5_end_10 ?_
  exact ⟨rfl, rfl⟩

set_option maxRecDepth 100000 in
set_option maxHeartbeats 4000000 in
theorem kX5_put (X : XC) {I : HD} {r : Nat} (h_r : r < 8) {l i v : Int} (hl : I (rH r) 1 = l) (hr : rg l) (hi0 : 0 ≤ i) (hi1 : i < 40) (hv : rg v) : Cl X 0 mX5_put [rv X (rH r), iv i, iv v] I (fun q J => q = some (iv (narL l v)) ∧ J = up I (iH r) i (narL l v)) := by
  refine Cl.of (by decide) (Nat.le_of_ble_eq_true rfl) ?_
  show Rn X 0 mX5_put _ 0 [(0, rv X (rH r)), (1, iv i), (2, iv v)] [] I
  unfold rg at hr
  refine r_aload_n (pc := 0) (a := 0) (i := 0) 0 rfl rfl dX5_put_0 ?_
  refine r_get (pc := 1) ckX5 (rH_lt (h_r)) (cellR (h_r)) (j := 1) (by decide) (show _ = some (iv l) by rw [← hl]; rfl) kf_X5_15 dX5_put_1 ?_
  refine r_if_ne (pc := 4) 12 (by unfold rg; omega) dX5_put_4 (by decide) (fun h4 => ?_) (fun h4 => ?_)
  · skip
    refine r_aload_n (pc := 12) (a := 0) (i := 0) 0 rfl rfl dX5_put_12 ?_
    refine r_get (pc := 13) ckX5 (rH_lt (h_r)) (cellR (h_r)) (j := 1) (by decide) (show _ = some (iv l) by rw [← hl]; rfl) kf_X5_15 dX5_put_13 ?_
    refine r_iconst (pc := 16) dX5_put_16 ?_
    refine r_icmp_ne (pc := 17) 25 (by unfold rg; omega) (by unfold rg; omega) dX5_put_17 (by decide) (fun h17 => ?_) (fun h17 => ?_)
    · skip
      refine r_iload_n (pc := 25) (a := 2) (i := 2) 2 rfl rfl dX5_put_25 ?_
      refine r_istore_n (pc := 26) (a := 3) (i := 3) rfl [(3, iv v), (0, rv X (rH r)), (1, iv i), (2, iv v)] (by decide) rfl dX5_put_26 ?_
      refine r_aload_n (pc := 27) (a := 0) (i := 0) 1 rfl rfl dX5_put_27 ?_
      refine r_get (pc := 28) ckX5 (rH_lt (h_r)) (cellR (h_r)) (j := 0) (by decide) rfl kf_X5_9 dX5_put_28 ?_
      refine r_iload_n (pc := 31) (a := 1) (i := 1) 2 rfl rfl dX5_put_31 ?_
      refine r_iload_n (pc := 32) (a := 3) (i := 3) 0 rfl rfl dX5_put_32 ?_
      refine r_iast (pc := 33) (iH_lt (h_r)) (cellRi (h_r)) (by omega) (by omega) (by decide) dX5_put_33 ?_
      refine r_iload_n (pc := 34) (a := 3) (i := 3) 0 rfl rfl dX5_put_34 ?_
      refine r_iret (pc := 35) (st := []) rfl dX5_put_35 ?_
      have e : narL l v = v := by unfold narL; rw [if_neg (by omega), if_neg (by omega)]
      exact ⟨by rw [e], by rw [e]⟩
    · skip
      refine r_iload_n (pc := 20) (a := 2) (i := 2) 2 rfl rfl dX5_put_20 ?_
      refine r_i2s (pc := 21) (z := ((iI v).toInt16.toInt32).toInt) ((iI_to _).symm) dX5_put_21 ?_
      refine r_goto (pc := 22) 26 dX5_put_22 (by decide) ?_
      refine r_istore_n (pc := 26) (a := 3) (i := 3) rfl [(3, iv (((iI v).toInt16.toInt32).toInt)), (0, rv X (rH r)), (1, iv i), (2, iv v)] (by decide) rfl dX5_put_26 ?_
      refine r_aload_n (pc := 27) (a := 0) (i := 0) 1 rfl rfl dX5_put_27 ?_
      refine r_get (pc := 28) ckX5 (rH_lt (h_r)) (cellR (h_r)) (j := 0) (by decide) rfl kf_X5_9 dX5_put_28 ?_
      refine r_iload_n (pc := 31) (a := 1) (i := 1) 2 rfl rfl dX5_put_31 ?_
      refine r_iload_n (pc := 32) (a := 3) (i := 3) 0 rfl rfl dX5_put_32 ?_
      refine r_iast (pc := 33) (iH_lt (h_r)) (cellRi (h_r)) (by omega) (by omega) (by decide) dX5_put_33 ?_
      refine r_iload_n (pc := 34) (a := 3) (i := 3) 0 rfl rfl dX5_put_34 ?_
      refine r_iret (pc := 35) (st := []) rfl dX5_put_35 ?_
      have e : narL l v = ((iI v).toInt16.toInt32).toInt := by unfold narL; rw [if_neg (by omega), if_pos (by omega)]
      exact ⟨by rw [e], by rw [e]⟩
  · skip
    refine r_iload_n (pc := 7) (a := 2) (i := 2) 2 rfl rfl dX5_put_7 ?_
    refine r_i2b (pc := 8) (z := ((iI v).toInt8.toInt32).toInt) ((iI_to _).symm) dX5_put_8 ?_
    refine r_goto (pc := 9) 26 dX5_put_9 (by decide) ?_
    refine r_istore_n (pc := 26) (a := 3) (i := 3) rfl [(3, iv (((iI v).toInt8.toInt32).toInt)), (0, rv X (rH r)), (1, iv i), (2, iv v)] (by decide) rfl dX5_put_26 ?_
    refine r_aload_n (pc := 27) (a := 0) (i := 0) 1 rfl rfl dX5_put_27 ?_
    refine r_get (pc := 28) ckX5 (rH_lt (h_r)) (cellR (h_r)) (j := 0) (by decide) rfl kf_X5_9 dX5_put_28 ?_
    refine r_iload_n (pc := 31) (a := 1) (i := 1) 2 rfl rfl dX5_put_31 ?_
    refine r_iload_n (pc := 32) (a := 3) (i := 3) 0 rfl rfl dX5_put_32 ?_
    refine r_iast (pc := 33) (iH_lt (h_r)) (cellRi (h_r)) (by omega) (by omega) (by decide) dX5_put_33 ?_
    refine r_iload_n (pc := 34) (a := 3) (i := 3) 0 rfl rfl dX5_put_34 ?_
    refine r_iret (pc := 35) (st := []) rfl dX5_put_35 ?_
    have e : narL l v = ((iI v).toInt8.toInt32).toInt := by unfold narL; rw [if_pos (by omega)]
    exact ⟨by rw [e], by rw [e]⟩

set_option maxRecDepth 100000 in
set_option maxHeartbeats 4000000 in
theorem kX8_found (X : XC) {I : HD} {n : Int} (hn : rg n) : Cl X 0 mX8_found [rv X 0, iv n] I (Ki (-1000010 - n) (up I 0 9 n)) := by
  refine Cl.of (by decide) (Nat.le_of_ble_eq_true rfl) ?_
  show Rn X 0 mX8_found _ 0 [(0, rv X 0), (1, iv n)] [] I
  refine r_aload_n (pc := 0) (a := 0) (i := 0) 0 rfl rfl dX8_found_0 ?_
  refine r_iload_n (pc := 1) (a := 1) (i := 1) 1 rfl rfl dX8_found_1 ?_
  refine r_put (pc := 2) 9 (ji := 9) rfl ckX8 (by decide) rfl rfl (by decide) (Nat.le_of_ble_eq_true rfl) kf_X8_65 rfl rfl rfl rfl dX8_found_2 ?_
  refine r_ldcw (pc := 5) kc_X8_327 dX8_found_5 ?_
  refine r_iload_n (pc := 8) (a := 1) (i := 1) 1 rfl rfl dX8_found_8 ?_
  refine r_isub (pc := 9) dX8_found_9 ?_
  refine r_iret (pc := 10) (st := []) rfl dX8_found_10 ?_
  exact ⟨rfl, rfl⟩

set_option maxRecDepth 100000 in
set_option maxHeartbeats 4000000 in
theorem kX8_well (X : XC) {I : HD} {n : Int} : Cl X 0 mX8_well [rv X 0, iv n] I (Ki n (up I 0 9 0)) := by
  refine Cl.of (by decide) (Nat.le_of_ble_eq_true rfl) ?_
  show Rn X 0 mX8_well _ 0 [(0, rv X 0), (1, iv n)] [] I
  refine r_aload_n (pc := 0) (a := 0) (i := 0) 0 rfl rfl dX8_well_0 ?_
  refine r_iconst (pc := 1) dX8_well_1 ?_
  refine r_put (pc := 2) 9 (ji := 9) rfl ckX8 (by decide) rfl rfl (by decide) (Nat.le_of_ble_eq_true rfl) kf_X8_65 rfl rfl rfl rfl dX8_well_2 ?_
  refine r_iload_n (pc := 5) (a := 1) (i := 1) 1 rfl rfl dX8_well_5 ?_
  refine r_iret (pc := 6) (st := []) rfl dX8_well_6 ?_
  exact ⟨rfl, rfl⟩

set_option maxRecDepth 100000 in
set_option maxHeartbeats 4000000 in
theorem kX9_finding (X : XC) {I : HD} {n : Int} : Cl X 0 mX9_finding [rv X 30, iv n] I (Ki (-1000010 - n) (up I 30 1 n)) := by
  refine Cl.of (by decide) (Nat.le_of_ble_eq_true rfl) ?_
  show Rn X 0 mX9_finding _ 0 [(0, rv X 30), (1, iv n)] [] I
  refine r_aload_n (pc := 0) (a := 0) (i := 0) 0 rfl rfl dX9_finding_0 ?_
  refine r_iload_n (pc := 1) (a := 1) (i := 1) 1 rfl rfl dX9_finding_1 ?_
  refine r_put (pc := 2) 1 (ji := 1) rfl ckX9 (by decide) rfl rfl (by decide) (Nat.le_of_ble_eq_true rfl) kf_X9_58 rfl rfl rfl rfl dX9_finding_2 ?_
  refine r_ldc (pc := 5) kc_X9_61 dX9_finding_5 ?_
  refine r_iload_n (pc := 7) (a := 1) (i := 1) 1 rfl rfl dX9_finding_7 ?_
  refine r_isub (pc := 8) dX9_finding_8 ?_
  refine r_iret (pc := 9) (st := []) rfl dX9_finding_9 ?_
  exact ⟨rfl, rfl⟩

set_option maxRecDepth 100000 in
set_option maxHeartbeats 4000000 in
theorem kX9_isRow (X : XC) {I : HD} {r : Int} (h : rg r) : Cl X 1 mX9_isRow [iv r] I (Ki (bI (0 ≤ r ∧ r < 8)) I) := by
  refine Cl.of (by decide) (Nat.le_of_ble_eq_true rfl) ?_
  show Rn X 1 mX9_isRow _ 0 [(0, iv r)] [] I
  unfold rg at h
  refine r_iload_n (pc := 0) (a := 0) (i := 0) 0 rfl rfl dX9_isRow_0 ?_
  refine r_i2l (pc := 1) (by unfold rg; omega) dX9_isRow_1 ?_
  refine r_lconst (pc := 2) (z := 0) rfl dX9_isRow_2 ?_
  refine r_ldc2 (pc := 3) kc_X9_62 dX9_isRow_3 ?_
  refine r_callSi (pc := 6) (st := []) (As := [jv r, jv 0, jv 7]) okX9_in (by decide) trivial rfl (Nat.le_of_ble_eq_true rfl) km_X9_64 (kX9_in X (by unfold rl; omega) (by unfold rl; omega) (by unfold rl; omega)) dX9_isRow_6 ?_
  refine r_zret (pc := 9) (st := []) rfl (nar_bI) dX9_isRow_9 ?_
  exact ⟨congrArg (fun q => some (iv q)) (bI_c (show (0 ≤ r ∧ r ≤ 7) ↔ (0 ≤ r ∧ r < 8) by omega)), rfl⟩

set_option maxRecDepth 100000 in
set_option maxHeartbeats 4000000 in
theorem kX8_row (X : XC) {I : HD} {r l n : Int} (hr : rg r) (hl : rg l) (hn : rg n) : Cl X 3 mX8_row [rv X 0, iv r, iv l, iv n] I (fun q J => (¬ (0 ≤ r ∧ r < 8 ∧ 0 ≤ l ∧ l < 3 ∧ n ≤ 40) → q = some (iv (-1000001)) ∧ J = I) ∧ (0 ≤ r ∧ r < 8 ∧ 0 ≤ l ∧ l < 3 ∧ n ≤ 40 → n < 0 → q = some (iv (-1000014)) ∧ J = up I 0 9 4) ∧ (0 ≤ r ∧ r < 8 ∧ 0 ≤ l ∧ l < 3 ∧ n ≤ 40 → 0 ≤ n → q = some (iv n) ∧ J = up (upA (up (up I (rH r.toNat) 1 l) (rH r.toNat) 2 n) (iH r.toNat) (zro (I (iH r.toNat)) 0 40)) 0 9 0)) := by
  refine Cl.of (by decide) (Nat.le_of_ble_eq_true rfl) ?_
  show Rn X 3 mX8_row _ 0 [(0, rv X 0), (1, iv r), (2, iv l), (3, iv n)] [] I
  unfold rg at hr hl hn
  refine r_iload_n (pc := 0) (a := 1) (i := 1) 1 rfl rfl dX8_row_0 ?_
  refine r_callSi (pc := 1) (st := []) (As := [iv r]) okX8_isRow (by decide) trivial rfl (Nat.le_of_ble_eq_true rfl) km_X8_69 (kX8_isRow X (by unfold rg; omega)) dX8_row_1 ?_
  refine r_if_eq (pc := 4) 22 rg_bI dX8_row_4 (by decide) (fun h4 => ?_) (fun h4 => ?_)
  · skip
    have h4 := bI_0.mp h4
    refine r_ldc (pc := 22) kc_X8_73 dX8_row_22 ?_
    refine r_iret (pc := 24) (st := []) rfl dX8_row_24 ?_
    exact ⟨fun _ => ⟨rfl, rfl⟩, fun a => absurd a (by omega), fun a => absurd a (by omega)⟩
  · skip
    have h4 := bI_n.mp h4
    refine r_iload_n (pc := 7) (a := 2) (i := 2) 2 rfl rfl dX8_row_7 ?_
    refine r_if_lt (pc := 8) 22 (by unfold rg; omega) dX8_row_8 (by decide) (fun h8 => ?_) (fun h8 => ?_)
    · skip
      refine r_ldc (pc := 22) kc_X8_73 dX8_row_22 ?_
      refine r_iret (pc := 24) (st := []) rfl dX8_row_24 ?_
      exact ⟨fun _ => ⟨rfl, rfl⟩, fun a => absurd a (by omega), fun a => absurd a (by omega)⟩
    · skip
      refine r_iload_n (pc := 11) (a := 2) (i := 2) 2 rfl rfl dX8_row_11 ?_
      refine r_iconst (pc := 12) dX8_row_12 ?_
      refine r_icmp_ge (pc := 13) 22 (by unfold rg; omega) (by unfold rg; omega) dX8_row_13 (by decide) (fun h13 => ?_) (fun h13 => ?_)
      · skip
        refine r_ldc (pc := 22) kc_X8_73 dX8_row_22 ?_
        refine r_iret (pc := 24) (st := []) rfl dX8_row_24 ?_
        exact ⟨fun _ => ⟨rfl, rfl⟩, fun a => absurd a (by omega), fun a => absurd a (by omega)⟩
      · skip
        refine r_iload_n (pc := 16) (a := 3) (i := 3) 3 rfl rfl dX8_row_16 ?_
        refine r_bipush (pc := 17) rfl dX8_row_17 ?_
        refine r_icmp_le (pc := 19) 25 (by unfold rg; omega) (by unfold rg; omega) dX8_row_19 (by decide) (fun h19 => ?_) (fun h19 => ?_)
        · skip
          refine r_iload_n (pc := 25) (a := 3) (i := 3) 3 rfl rfl dX8_row_25 ?_
          refine r_if_ge (pc := 26) 35 (by unfold rg; omega) dX8_row_26 (by decide) (fun h26 => ?_) (fun h26 => ?_)
          · skip
            refine r_aload_n (pc := 35) (a := 0) (i := 0) 0 rfl rfl dX8_row_35 ?_
            refine r_get (pc := 36) ckX8 (by decide) rfl (j := 0) (by decide) rfl kf_X8_11 dX8_row_36 ?_
            refine r_iload_n (pc := 39) (a := 1) (i := 1) 1 rfl rfl dX8_row_39 ?_
            refine r_aald (pc := 40) (g := (fun j => 2 + j)) (C := RX5) (by decide) rfl rfl (by omega) (by omega) (by decide) dX8_row_40 ?_
            refine r_iload_n (pc := 41) (a := 2) (i := 2) 2 rfl rfl dX8_row_41 ?_
            refine r_iload_n (pc := 42) (a := 3) (i := 3) 3 rfl rfl dX8_row_42 ?_
            refine r_callVv (pc := 43) (st := []) (As := [iv l, iv n]) okX5_begin (by decide) (rH_lt (show ((r).toNat) < 8 by omega)) (cellR (show ((r).toNat) < 8 by omega)) rfl rfl (Nat.le_of_ble_eq_true rfl) km_X8_78 (kX5_begin X (show r.toNat < 8 by omega)) dX8_row_43 ?_
            refine r_aload_n (pc := 46) (a := 0) (i := 0) 0 rfl rfl dX8_row_46 ?_
            refine r_iload_n (pc := 47) (a := 3) (i := 3) 3 rfl rfl dX8_row_47 ?_
            refine r_callVi (pc := 48) (st := []) (As := [iv n]) okX8_well (by decide) (by decide) rfl rfl rfl (Nat.le_of_ble_eq_true rfl) km_X8_82 (kX8_well X) dX8_row_48 ?_
            refine r_iret (pc := 51) (st := []) rfl dX8_row_51 ?_
            exact ⟨fun a => absurd a (by omega), fun _ b => absurd b (by omega), fun _ _ => ⟨rfl, rfl⟩⟩
          · skip
            refine r_aload_n (pc := 29) (a := 0) (i := 0) 0 rfl rfl dX8_row_29 ?_
            refine r_iconst (pc := 30) dX8_row_30 ?_
            refine r_callVi (pc := 31) (st := []) (As := [iv 4]) okX8_found (by decide) (by decide) rfl rfl rfl (Nat.le_of_ble_eq_true rfl) km_X8_74 (kX8_found X (by unfold rg; omega)) dX8_row_31 ?_
            refine r_iret (pc := 34) (st := []) rfl dX8_row_34 ?_
            exact ⟨fun a => absurd a (by omega), fun _ _ => ⟨rfl, rfl⟩, fun _ b => absurd b (by omega)⟩
        · skip
          refine r_ldc (pc := 22) kc_X8_73 dX8_row_22 ?_
          refine r_iret (pc := 24) (st := []) rfl dX8_row_24 ?_
          exact ⟨fun _ => ⟨rfl, rfl⟩, fun a => absurd a (by omega), fun a => absurd a (by omega)⟩

set_option maxRecDepth 100000 in
set_option maxHeartbeats 4000000 in
theorem kX9_row (X : XC) {I : HD} {r l n : Int} (hr : rg r) (hl : rg l) (hn : rg n) : Cl X 3 mX9_row [rv X 30, iv r, iv l, iv n] I (fun q J => (¬ (0 ≤ r ∧ r < 8 ∧ 0 ≤ l ∧ l < 3 ∧ n ≤ 40) → q = some (iv (-1000001)) ∧ J = up I 30 0 0) ∧ (0 ≤ r ∧ r < 8 ∧ 0 ≤ l ∧ l < 3 ∧ n ≤ 40 → n < 0 → q = some (iv (-1000014)) ∧ J = up (up (up I 30 0 0) 30 1 0) 30 1 4) ∧ (0 ≤ r ∧ r < 8 ∧ 0 ≤ l ∧ l < 3 ∧ n ≤ 40 → 0 ≤ n → q = some (iv n) ∧ J = upA (up (up (up (up I 30 0 0) 30 1 0) 31 r l) 32 r n) 33 (zro (I 33) (40 * r) 40))) := by
  refine Cl.of (by decide) (Nat.le_of_ble_eq_true rfl) ?_
  show Rn X 3 mX9_row _ 0 [(0, rv X 30), (1, iv r), (2, iv l), (3, iv n)] [] I
  unfold rg at hr hl hn
  refine r_aload_n (pc := 0) (a := 0) (i := 0) 0 rfl rfl dX9_row_0 ?_
  refine r_iconst (pc := 1) dX9_row_1 ?_
  refine r_put (pc := 2) 0 (ji := 0) rfl ckX9 (by decide) rfl rfl (by decide) (Nat.le_of_ble_eq_true rfl) kf_X9_54 rfl rfl rfl rfl dX9_row_2 ?_
  refine r_iload_n (pc := 5) (a := 1) (i := 1) 1 rfl rfl dX9_row_5 ?_
  refine r_callSi (pc := 6) (st := []) (As := [iv r]) okX9_isRow (by decide) trivial rfl (Nat.le_of_ble_eq_true rfl) km_X9_68 (kX9_isRow X (by unfold rg; omega)) dX9_row_6 ?_
  refine r_if_eq (pc := 9) 30 rg_bI dX9_row_9 (by decide) (fun h9 => ?_) (fun h9 => ?_)
  · skip
    have h9 := bI_0.mp h9
    refine r_ldc (pc := 30) kc_X9_74 dX9_row_30 ?_
    refine r_iret (pc := 32) (st := []) rfl dX9_row_32 ?_
    exact ⟨fun _ => ⟨rfl, rfl⟩, fun a => absurd a (by omega), fun a => absurd a (by omega)⟩
  · skip
    have h9 := bI_n.mp h9
    refine r_iload_n (pc := 12) (a := 2) (i := 2) 2 rfl rfl dX9_row_12 ?_
    refine r_i2l (pc := 13) (by unfold rg; omega) dX9_row_13 ?_
    refine r_lconst (pc := 14) (z := 0) rfl dX9_row_14 ?_
    refine r_ldc2 (pc := 15) kc_X9_72 dX9_row_15 ?_
    refine r_callSi (pc := 18) (st := []) (As := [jv l, jv 0, jv 2]) okX9_in (by decide) trivial rfl (Nat.le_of_ble_eq_true rfl) km_X9_64 (kX9_in X (by unfold rl; omega) (by unfold rl; omega) (by unfold rl; omega)) dX9_row_18 ?_
    refine r_if_eq (pc := 21) 30 rg_bI dX9_row_21 (by decide) (fun h21 => ?_) (fun h21 => ?_)
    · skip
      have h21 := bI_0.mp h21
      refine r_ldc (pc := 30) kc_X9_74 dX9_row_30 ?_
      refine r_iret (pc := 32) (st := []) rfl dX9_row_32 ?_
      exact ⟨fun _ => ⟨rfl, rfl⟩, fun a => absurd a (by omega), fun a => absurd a (by omega)⟩
    · skip
      have h21 := bI_n.mp h21
      refine r_iload_n (pc := 24) (a := 3) (i := 3) 3 rfl rfl dX9_row_24 ?_
      refine r_bipush (pc := 25) rfl dX9_row_25 ?_
      refine r_icmp_le (pc := 27) 33 (by unfold rg; omega) (by unfold rg; omega) dX9_row_27 (by decide) (fun h27 => ?_) (fun h27 => ?_)
      · skip
        refine r_aload_n (pc := 33) (a := 0) (i := 0) 0 rfl rfl dX9_row_33 ?_
        refine r_iconst (pc := 34) dX9_row_34 ?_
        refine r_put (pc := 35) 1 (ji := 1) rfl ckX9 (by decide) rfl rfl (by decide) (Nat.le_of_ble_eq_true rfl) kf_X9_58 rfl rfl rfl rfl dX9_row_35 ?_
        refine r_iload_n (pc := 38) (a := 3) (i := 3) 3 rfl rfl dX9_row_38 ?_
        refine r_if_ge (pc := 39) 48 (by unfold rg; omega) dX9_row_39 (by decide) (fun h39 => ?_) (fun h39 => ?_)
        · skip
          refine r_aload_n (pc := 48) (a := 0) (i := 0) 0 rfl rfl dX9_row_48 ?_
          refine r_get (pc := 49) ckX9 (by decide) rfl (j := 2) (by decide) rfl kf_X9_7 dX9_row_49 ?_
          refine r_iload_n (pc := 52) (a := 1) (i := 1) 1 rfl rfl dX9_row_52 ?_
          refine r_iload_n (pc := 53) (a := 2) (i := 2) 2 rfl rfl dX9_row_53 ?_
          refine r_iast (pc := 54) (by decide) (fun _ => rfl) (by omega) (by omega) (by decide) dX9_row_54 ?_
          refine r_aload_n (pc := 55) (a := 0) (i := 0) 0 rfl rfl dX9_row_55 ?_
          refine r_get (pc := 56) ckX9 (by decide) rfl (j := 3) (by decide) rfl kf_X9_13 dX9_row_56 ?_
          refine r_iload_n (pc := 59) (a := 1) (i := 1) 1 rfl rfl dX9_row_59 ?_
          refine r_iload_n (pc := 60) (a := 3) (i := 3) 3 rfl rfl dX9_row_60 ?_
          refine r_iast (pc := 61) (by decide) (fun _ => rfl) (by omega) (by omega) (by decide) dX9_row_61 ?_
          refine r_iconst (pc := 62) dX9_row_62 ?_
          refine r_istore (pc := 63) [(4, iv 0), (0, rv X 30), (1, iv r), (2, iv l), (3, iv n)] (by decide) rfl dX9_row_63 ?_
          refine r_I (J := upA (up (up (up (up I 30 0 0) 30 1 0) 31 r l) 32 r n) 33 (zro (I 33) (40 * r) 0)) (by rw [zro_0]; exact upA_e ((up_row (by decide)).trans ((up_row (by decide)).trans ((up_row (by decide)).trans (up_row (by decide)))))) ?_
          have at65 : ∀ (n65 : Nat) (k : Int), (40 - k).toNat < n65 → (hk0 : 0 ≤ k) → (hk1 : k ≤ 40) → Rn X 3 mX9_row (fun q J => (¬ (0 ≤ r ∧ r < 8 ∧ 0 ≤ l ∧ l < 3 ∧ n ≤ 40) → q = some (iv (-1000001)) ∧ J = up I 30 0 0) ∧ (0 ≤ r ∧ r < 8 ∧ 0 ≤ l ∧ l < 3 ∧ n ≤ 40 → n < 0 → q = some (iv (-1000014)) ∧ J = up (up (up I 30 0 0) 30 1 0) 30 1 4) ∧ (0 ≤ r ∧ r < 8 ∧ 0 ≤ l ∧ l < 3 ∧ n ≤ 40 → 0 ≤ n → q = some (iv n) ∧ J = upA (up (up (up (up I 30 0 0) 30 1 0) 31 r l) 32 r n) 33 (zro (I 33) (40 * r) 40))) 65 [(0, rv X 30), (1, iv r), (2, iv l), (3, iv n), (4, iv k)] [] (upA (up (up (up (up I 30 0 0) 30 1 0) 31 r l) 32 r n) 33 (zro (I 33) (40 * r) k)) := by
            intro n65
            induction n65 with
            | zero => intro k hm; omega
            | succ n65 ih65 =>
              intro k hm65 hk0 hk1
              refine r_iload (pc := 65) 4 rfl dX9_row_65 ?_
              refine r_bipush (pc := 67) rfl dX9_row_67 ?_
              refine r_icmp_ge (pc := 69) 91 (by unfold rg; omega) (by unfold rg; omega) dX9_row_69 (by decide) (fun h69 => ?_) (fun h69 => ?_)
              · skip
                refine r_iload_n (pc := 91) (a := 3) (i := 3) 3 rfl rfl dX9_row_91 ?_
                refine r_iret (pc := 92) (st := []) rfl dX9_row_92 ?_
                exact ⟨fun a => absurd a (by omega), fun _ b => absurd b (by omega), fun _ _ => ⟨rfl, by rw [show k = 40 by omega]⟩⟩
              · skip
                refine r_aload_n (pc := 72) (a := 0) (i := 0) 0 rfl rfl dX9_row_72 ?_
                refine r_get (pc := 73) ckX9 (by decide) rfl (j := 4) (by decide) rfl kf_X9_16 dX9_row_73 ?_
                refine r_bipush (pc := 76) rfl dX9_row_76 ?_
                refine r_iload_n (pc := 78) (a := 1) (i := 1) 1 rfl rfl dX9_row_78 ?_
                refine r_imul (pc := 79) dX9_row_79 ?_
                refine r_iload (pc := 80) 4 rfl dX9_row_80 ?_
                refine r_iadd (pc := 82) dX9_row_82 ?_
                refine r_iconst (pc := 83) dX9_row_83 ?_
                refine r_iast (pc := 84) (by decide) (fun _ => rfl) (by omega) (by omega) (by decide) dX9_row_84 ?_
                refine r_I (J := upA (up (up (up (up I 30 0 0) 30 1 0) 31 r l) 32 r n) 33 (zro (I 33) (40 * r) (k + 1))) (zro_s hk0 (by omega)) ?_
                refine r_iinc (pc := 85) 4 [(4, iv (k + 1)), (0, rv X 30), (1, iv r), (2, iv l), (3, iv n)] rfl (by decide) rfl dX9_row_85 ?_
                refine r_goto (pc := 88) 65 dX9_row_88 (by decide) ?_
                refine r_lv [1, 2, 3, 4, 0] [(0, rv X 30), (1, iv r), (2, iv l), (3, iv n), (4, iv (k + 1))] rfl ?_
                exact ih65 (k + 1) (by omega) (by omega) (by omega)
          refine r_lv [1, 2, 3, 4, 0] [(0, rv X 30), (1, iv r), (2, iv l), (3, iv n), (4, iv 0)] rfl ?_
          exact at65 _ 0 (Nat.lt_succ_self _) (by omega) (by omega)
        · skip
          refine r_aload_n (pc := 42) (a := 0) (i := 0) 0 rfl rfl dX9_row_42 ?_
          refine r_iconst (pc := 43) dX9_row_43 ?_
          refine r_callVi (pc := 44) (st := []) (As := [iv 4]) okX9_finding (by decide) (by decide) rfl rfl rfl (Nat.le_of_ble_eq_true rfl) km_X9_75 (kX9_finding X) dX9_row_44 ?_
          refine r_iret (pc := 47) (st := []) rfl dX9_row_47 ?_
          exact ⟨fun a => absurd a (by omega), fun _ _ => ⟨rfl, rfl⟩, fun _ b => absurd b (by omega)⟩
      · skip
        refine r_ldc (pc := 30) kc_X9_74 dX9_row_30 ?_
        refine r_iret (pc := 32) (st := []) rfl dX9_row_32 ?_
        exact ⟨fun _ => ⟨rfl, rfl⟩, fun a => absurd a (by omega), fun a => absurd a (by omega)⟩

set_option maxRecDepth 100000 in
set_option maxHeartbeats 4000000 in
theorem kX8_drop (X : XC) {I : HD} (hE : RE I I) {r : Int} (hr : rg r) : Cl X 3 mX8_drop [rv X 0, iv r] I (fun q J => (¬ (0 ≤ r ∧ r < 8) → q = some (iv (-1000001)) ∧ J = I) ∧ (0 ≤ r ∧ r < 8 → I 31 r < 0 → q = some (iv (-1000011)) ∧ J = up I 0 9 1) ∧ (0 ≤ r ∧ r < 8 → 0 ≤ I 31 r → q = some (iv (I 32 r)) ∧ J = up (up (up I (rH r.toNat) 1 (-1)) (rH r.toNat) 2 0) 0 9 0)) := by
  refine Cl.of (by decide) (Nat.le_of_ble_eq_true rfl) ?_
  show Rn X 3 mX8_drop _ 0 [(0, rv X 0), (1, iv r)] [] I
  unfold rg at hr
  refine r_iload_n (pc := 0) (a := 1) (i := 1) 1 rfl rfl dX8_drop_0 ?_
  refine r_callSi (pc := 1) (st := []) (As := [iv r]) okX8_isRow (by decide) trivial rfl (Nat.le_of_ble_eq_true rfl) km_X8_69 (kX8_isRow X (by unfold rg; omega)) dX8_drop_1 ?_
  refine r_if_ne (pc := 4) 10 rg_bI dX8_drop_4 (by decide) (fun h4 => ?_) (fun h4 => ?_)
  · skip
    have h4 := bI_n.mp h4
    obtain ⟨g1, g2, g3, g4, g5⟩ := hE r h4.1 h4.2
    refine r_aload_n (pc := 10) (a := 0) (i := 0) 0 rfl rfl dX8_drop_10 ?_
    refine r_get (pc := 11) ckX8 (by decide) rfl (j := 0) (by decide) rfl kf_X8_11 dX8_drop_11 ?_
    refine r_iload_n (pc := 14) (a := 1) (i := 1) 1 rfl rfl dX8_drop_14 ?_
    refine r_aald (pc := 15) (g := (fun j => 2 + j)) (C := RX5) (by decide) rfl rfl (by omega) (by omega) (by decide) dX8_drop_15 ?_
    refine r_astore_n (pc := 16) (a := 2) (i := 2) rfl [(2, rv X (rH ((r).toNat))), (0, rv X 0), (1, iv r)] (by decide) rfl dX8_drop_16 ?_
    refine r_aload_n (pc := 17) (a := 2) (i := 2) 0 rfl rfl dX8_drop_17 ?_
    refine r_callVi (pc := 18) (st := []) (As := []) okX5_isMissing (by decide) (rH_lt (show ((r).toNat) < 8 by omega)) (cellR (show ((r).toNat) < 8 by omega)) rfl rfl (Nat.le_of_ble_eq_true rfl) km_X8_85 (kX5_isMissing X (show r.toNat < 8 by omega) g1 (by unfold rg; omega)) dX8_drop_18 ?_
    refine r_if_eq (pc := 21) 30 rg_bI dX8_drop_21 (by decide) (fun h21 => ?_) (fun h21 => ?_)
    · skip
      have h21 := bI_0.mp h21
      refine r_aload_n (pc := 30) (a := 2) (i := 2) 0 rfl rfl dX8_drop_30 ?_
      refine r_getN (pc := 31) ckX5 (rH_lt (show ((r).toNat) < 8 by omega)) (cellR (show ((r).toNat) < 8 by omega)) (j := 2) (by decide) (show _ = some (iv (I 32 r)) by rw [← (g5 (by omega)).1]; rfl) kf_X8_110 dX8_drop_31 ?_
      refine r_istore_n (pc := 34) (a := 3) (i := 3) rfl [(3, iv (I 32 r)), (2, rv X (rH ((r).toNat))), (0, rv X 0), (1, iv r)] (by decide) rfl dX8_drop_34 ?_
      refine r_aload_n (pc := 35) (a := 2) (i := 2) 1 rfl rfl dX8_drop_35 ?_
      refine r_callVv (pc := 36) (st := []) (As := []) okX5_end (by decide) (rH_lt (show ((r).toNat) < 8 by omega)) (cellR (show ((r).toNat) < 8 by omega)) rfl rfl (Nat.le_of_ble_eq_true rfl) km_X8_113 (kX5_end X (show r.toNat < 8 by omega)) dX8_drop_36 ?_
      refine r_aload_n (pc := 39) (a := 0) (i := 0) 2 rfl rfl dX8_drop_39 ?_
      refine r_iload_n (pc := 40) (a := 3) (i := 3) 0 rfl rfl dX8_drop_40 ?_
      refine r_callVi (pc := 41) (st := []) (As := [iv (I 32 r)]) okX8_well (by decide) (by decide) rfl rfl rfl (Nat.le_of_ble_eq_true rfl) km_X8_82 (kX8_well X) dX8_drop_41 ?_
      refine r_iret (pc := 44) (st := []) rfl dX8_drop_44 ?_
      exact ⟨fun a => absurd a (by omega), fun _ b => absurd b (by omega), fun _ _ => ⟨rfl, rfl⟩⟩
    · skip
      have h21 := bI_n.mp h21
      refine r_aload_n (pc := 24) (a := 0) (i := 0) 1 rfl rfl dX8_drop_24 ?_
      refine r_iconst (pc := 25) dX8_drop_25 ?_
      refine r_callVi (pc := 26) (st := []) (As := [iv 1]) okX8_found (by decide) (by decide) rfl rfl rfl (Nat.le_of_ble_eq_true rfl) km_X8_74 (kX8_found X (by unfold rg; omega)) dX8_drop_26 ?_
      refine r_iret (pc := 29) (st := []) rfl dX8_drop_29 ?_
      exact ⟨fun a => absurd a (by omega), fun _ _ => ⟨rfl, rfl⟩, fun _ b => absurd b (by omega)⟩
  · skip
    have h4 := bI_0.mp h4
    refine r_ldc (pc := 7) kc_X8_73 dX8_drop_7 ?_
    refine r_iret (pc := 9) (st := []) rfl dX8_drop_9 ?_
    exact ⟨fun _ => ⟨rfl, rfl⟩, fun a => absurd a (by omega), fun a => absurd a (by omega)⟩

set_option maxRecDepth 100000 in
set_option maxHeartbeats 4000000 in
theorem kX9_drop (X : XC) {I : HD} (hE : RE I I) {r : Int} (hr : rg r) : Cl X 3 mX9_drop [rv X 30, iv r] I (fun q J => (¬ (0 ≤ r ∧ r < 8) → q = some (iv (-1000001)) ∧ J = up I 30 0 0) ∧ (0 ≤ r ∧ r < 8 → I 31 r < 0 → q = some (iv (-1000011)) ∧ J = up (up (up I 30 0 0) 30 1 0) 30 1 1) ∧ (0 ≤ r ∧ r < 8 → 0 ≤ I 31 r → q = some (iv (I 32 r)) ∧ J = up (up (up I 30 0 0) 30 1 0) 31 r (-1))) := by
  refine Cl.of (by decide) (Nat.le_of_ble_eq_true rfl) ?_
  show Rn X 3 mX9_drop _ 0 [(0, rv X 30), (1, iv r)] [] I
  unfold rg at hr
  refine r_aload_n (pc := 0) (a := 0) (i := 0) 0 rfl rfl dX9_drop_0 ?_
  refine r_iconst (pc := 1) dX9_drop_1 ?_
  refine r_put (pc := 2) 0 (ji := 0) rfl ckX9 (by decide) rfl rfl (by decide) (Nat.le_of_ble_eq_true rfl) kf_X9_54 rfl rfl rfl rfl dX9_drop_2 ?_
  refine r_iload_n (pc := 5) (a := 1) (i := 1) 1 rfl rfl dX9_drop_5 ?_
  refine r_callSi (pc := 6) (st := []) (As := [iv r]) okX9_isRow (by decide) trivial rfl (Nat.le_of_ble_eq_true rfl) km_X9_68 (kX9_isRow X (by unfold rg; omega)) dX9_drop_6 ?_
  refine r_if_ne (pc := 9) 15 rg_bI dX9_drop_9 (by decide) (fun h9 => ?_) (fun h9 => ?_)
  · skip
    have h9 := bI_n.mp h9
    obtain ⟨g1, g2, g3, g4, g5⟩ := hE r h9.1 h9.2
    refine r_aload_n (pc := 15) (a := 0) (i := 0) 0 rfl rfl dX9_drop_15 ?_
    refine r_iconst (pc := 16) dX9_drop_16 ?_
    refine r_put (pc := 17) 1 (ji := 1) rfl ckX9 (by decide) rfl rfl (by decide) (Nat.le_of_ble_eq_true rfl) kf_X9_58 rfl rfl rfl rfl dX9_drop_17 ?_
    refine r_aload_n (pc := 20) (a := 0) (i := 0) 0 rfl rfl dX9_drop_20 ?_
    refine r_get (pc := 21) ckX9 (by decide) rfl (j := 2) (by decide) rfl kf_X9_7 dX9_drop_21 ?_
    refine r_iload_n (pc := 24) (a := 1) (i := 1) 1 rfl rfl dX9_drop_24 ?_
    refine r_iald (pc := 25) (z := I 31 r) (by decide) rfl (by omega) (by omega) (by decide) ((congrFun (up_row (by decide)) _).trans (congrFun (up_row (by decide)) _)) dX9_drop_25 ?_
    refine r_if_ge (pc := 26) 35 (by unfold rg; omega) dX9_drop_26 (by decide) (fun h26 => ?_) (fun h26 => ?_)
    · skip
      refine r_aload_n (pc := 35) (a := 0) (i := 0) 0 rfl rfl dX9_drop_35 ?_
      refine r_get (pc := 36) ckX9 (by decide) rfl (j := 2) (by decide) rfl kf_X9_7 dX9_drop_36 ?_
      refine r_iload_n (pc := 39) (a := 1) (i := 1) 1 rfl rfl dX9_drop_39 ?_
      refine r_iconst (pc := 40) dX9_drop_40 ?_
      refine r_iast (pc := 41) (by decide) (fun _ => rfl) (by omega) (by omega) (by decide) dX9_drop_41 ?_
      refine r_aload_n (pc := 42) (a := 0) (i := 0) 0 rfl rfl dX9_drop_42 ?_
      refine r_get (pc := 43) ckX9 (by decide) rfl (j := 3) (by decide) rfl kf_X9_13 dX9_drop_43 ?_
      refine r_iload_n (pc := 46) (a := 1) (i := 1) 1 rfl rfl dX9_drop_46 ?_
      refine r_iald (pc := 47) (z := I 32 r) (by decide) rfl (by omega) (by omega) (by decide) ((congrFun (up_row (by decide)) _).trans ((congrFun (up_row (by decide)) _).trans (congrFun (up_row (by decide)) _))) dX9_drop_47 ?_
      refine r_iret (pc := 48) (st := []) rfl dX9_drop_48 ?_
      exact ⟨fun a => absurd a (by omega), fun _ b => absurd b (by omega), fun _ _ => ⟨rfl, rfl⟩⟩
    · skip
      refine r_aload_n (pc := 29) (a := 0) (i := 0) 0 rfl rfl dX9_drop_29 ?_
      refine r_iconst (pc := 30) dX9_drop_30 ?_
      refine r_callVi (pc := 31) (st := []) (As := [iv 1]) okX9_finding (by decide) (by decide) rfl rfl rfl (Nat.le_of_ble_eq_true rfl) km_X9_75 (kX9_finding X) dX9_drop_31 ?_
      refine r_iret (pc := 34) (st := []) rfl dX9_drop_34 ?_
      exact ⟨fun a => absurd a (by omega), fun _ _ => ⟨rfl, rfl⟩, fun _ b => absurd b (by omega)⟩
  · skip
    have h9 := bI_0.mp h9
    refine r_ldc (pc := 12) kc_X9_74 dX9_drop_12 ?_
    refine r_iret (pc := 14) (st := []) rfl dX9_drop_14 ?_
    exact ⟨fun _ => ⟨rfl, rfl⟩, fun a => absurd a (by omega), fun a => absurd a (by omega)⟩

set_option maxRecDepth 100000 in
set_option maxHeartbeats 4000000 in
theorem kX9_drop_raw (X : XC) {I S : HD} (e31 : I 31 = S 31) (e32 : I 32 = S 32) (hE : RE S S) {r : Int} (hr : rg r) : Cl X 3 mX9_drop [rv X 30, iv r] I (fun q J => (¬ (0 ≤ r ∧ r < 8) → q = some (iv (-1000001)) ∧ J = up I 30 0 0) ∧ (0 ≤ r ∧ r < 8 → S 31 r < 0 → q = some (iv (-1000011)) ∧ J = up (up (up I 30 0 0) 30 1 0) 30 1 1) ∧ (0 ≤ r ∧ r < 8 → 0 ≤ S 31 r → q = some (iv (S 32 r)) ∧ J = up (up (up I 30 0 0) 30 1 0) 31 r (-1))) := by
  refine Cl.of (by decide) (Nat.le_of_ble_eq_true rfl) ?_
  show Rn X 3 mX9_drop _ 0 [(0, rv X 30), (1, iv r)] [] I
  unfold rg at hr
  refine r_aload_n (pc := 0) (a := 0) (i := 0) 0 rfl rfl dX9_drop_0 ?_
  refine r_iconst (pc := 1) dX9_drop_1 ?_
  refine r_put (pc := 2) 0 (ji := 0) rfl ckX9 (by decide) rfl rfl (by decide) (Nat.le_of_ble_eq_true rfl) kf_X9_54 rfl rfl rfl rfl dX9_drop_2 ?_
  refine r_iload_n (pc := 5) (a := 1) (i := 1) 1 rfl rfl dX9_drop_5 ?_
  refine r_callSi (pc := 6) (st := []) (As := [iv r]) okX9_isRow (by decide) trivial rfl (Nat.le_of_ble_eq_true rfl) km_X9_68 (kX9_isRow X (by unfold rg; omega)) dX9_drop_6 ?_
  refine r_if_ne (pc := 9) 15 rg_bI dX9_drop_9 (by decide) (fun h9 => ?_) (fun h9 => ?_)
  · skip
    have h9 := bI_n.mp h9
    obtain ⟨g1, g2, g3, g4, g5⟩ := hE r h9.1 h9.2
    refine r_aload_n (pc := 15) (a := 0) (i := 0) 0 rfl rfl dX9_drop_15 ?_
    refine r_iconst (pc := 16) dX9_drop_16 ?_
    refine r_put (pc := 17) 1 (ji := 1) rfl ckX9 (by decide) rfl rfl (by decide) (Nat.le_of_ble_eq_true rfl) kf_X9_58 rfl rfl rfl rfl dX9_drop_17 ?_
    refine r_aload_n (pc := 20) (a := 0) (i := 0) 0 rfl rfl dX9_drop_20 ?_
    refine r_get (pc := 21) ckX9 (by decide) rfl (j := 2) (by decide) rfl kf_X9_7 dX9_drop_21 ?_
    refine r_iload_n (pc := 24) (a := 1) (i := 1) 1 rfl rfl dX9_drop_24 ?_
    refine r_iald (pc := 25) (z := S 31 r) (by decide) rfl (by omega) (by omega) (by decide) ((congrFun (up_row (by decide)) _).trans ((congrFun (up_row (by decide)) _).trans (congrFun e31 r))) dX9_drop_25 ?_
    refine r_if_ge (pc := 26) 35 (by unfold rg; omega) dX9_drop_26 (by decide) (fun h26 => ?_) (fun h26 => ?_)
    · skip
      refine r_aload_n (pc := 35) (a := 0) (i := 0) 0 rfl rfl dX9_drop_35 ?_
      refine r_get (pc := 36) ckX9 (by decide) rfl (j := 2) (by decide) rfl kf_X9_7 dX9_drop_36 ?_
      refine r_iload_n (pc := 39) (a := 1) (i := 1) 1 rfl rfl dX9_drop_39 ?_
      refine r_iconst (pc := 40) dX9_drop_40 ?_
      refine r_iast (pc := 41) (by decide) (fun _ => rfl) (by omega) (by omega) (by decide) dX9_drop_41 ?_
      refine r_aload_n (pc := 42) (a := 0) (i := 0) 0 rfl rfl dX9_drop_42 ?_
      refine r_get (pc := 43) ckX9 (by decide) rfl (j := 3) (by decide) rfl kf_X9_13 dX9_drop_43 ?_
      refine r_iload_n (pc := 46) (a := 1) (i := 1) 1 rfl rfl dX9_drop_46 ?_
      refine r_iald (pc := 47) (z := S 32 r) (by decide) rfl (by omega) (by omega) (by decide) ((congrFun (up_row (by decide)) _).trans ((congrFun (up_row (by decide)) _).trans ((congrFun (up_row (by decide)) _).trans (congrFun e32 r)))) dX9_drop_47 ?_
      refine r_iret (pc := 48) (st := []) rfl dX9_drop_48 ?_
      exact ⟨fun a => absurd a (by omega), fun _ b => absurd b (by omega), fun _ _ => ⟨rfl, rfl⟩⟩
    · skip
      refine r_aload_n (pc := 29) (a := 0) (i := 0) 0 rfl rfl dX9_drop_29 ?_
      refine r_iconst (pc := 30) dX9_drop_30 ?_
      refine r_callVi (pc := 31) (st := []) (As := [iv 1]) okX9_finding (by decide) (by decide) rfl rfl rfl (Nat.le_of_ble_eq_true rfl) km_X9_75 (kX9_finding X) dX9_drop_31 ?_
      refine r_iret (pc := 34) (st := []) rfl dX9_drop_34 ?_
      exact ⟨fun a => absurd a (by omega), fun _ _ => ⟨rfl, rfl⟩, fun _ b => absurd b (by omega)⟩
  · skip
    have h9 := bI_0.mp h9
    refine r_ldc (pc := 12) kc_X9_74 dX9_drop_12 ?_
    refine r_iret (pc := 14) (st := []) rfl dX9_drop_14 ?_
    exact ⟨fun _ => ⟨rfl, rfl⟩, fun a => absurd a (by omega), fun a => absurd a (by omega)⟩
