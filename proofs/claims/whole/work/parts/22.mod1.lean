set_option maxRecDepth 100000 in
set_option maxHeartbeats 4000000 in
theorem kX9_in (X : XC) {I : HD} {v lo hi : Int} (h1 : rl v) (h2 : rl lo) (h3 : rl hi) : Cl X 0 mX9_in [jv v, jv lo, jv hi] I (Ki (bI (lo ≤ v ∧ v ≤ hi)) I) := by
  refine Cl.of (by decide) (Nat.le_of_ble_eq_true rfl) ?_
  show Rn X 0 mX9_in _ 0 [(0, jv v), (2, jv lo), (4, jv hi)] [] I
  refine r_lload_n (pc := 0) (a := 0) (i := 0) 0 rfl rfl dX9_in_0 ?_
  refine r_lload_n (pc := 1) (a := 2) (i := 2) 1 rfl rfl dX9_in_1 ?_
  refine r_lcif_lt (pc := 2) 17 (h1) (h2) dX9_in_2 dX9_in_3 (by decide) (fun h2 => ?_) (fun h2 => ?_)
  · skip
    refine r_iconst (pc := 17) dX9_in_17 ?_
    refine r_zret (pc := 18) (st := []) rfl (rfl) dX9_in_18 ?_
    exact ⟨by rw [bI_f (by omega)], rfl⟩
  · skip
    refine r_lload_n (pc := 6) (a := 0) (i := 0) 0 rfl rfl dX9_in_6 ?_
    refine r_lload (pc := 7) 2 rfl dX9_in_7 ?_
    refine r_lcif_gt (pc := 9) 17 (h1) (h3) dX9_in_9 dX9_in_10 (by decide) (fun h9 => ?_) (fun h9 => ?_)
    · skip
      refine r_iconst (pc := 17) dX9_in_17 ?_
      refine r_zret (pc := 18) (st := []) rfl (rfl) dX9_in_18 ?_
      exact ⟨by rw [bI_f (by omega)], rfl⟩
    · skip
      refine r_iconst (pc := 13) dX9_in_13 ?_
      refine r_goto (pc := 14) 18 dX9_in_14 (by decide) ?_
      refine r_zret (pc := 18) (st := []) rfl (rfl) dX9_in_18 ?_
      exact ⟨by rw [bI_t (by omega)], rfl⟩

set_option maxRecDepth 100000 in
set_option maxHeartbeats 4000000 in
theorem kX9_isDesk (X : XC) {I : HD} {O : OF} (hO : I 34 = O) (hV : Val O) {d : Int} (hd : rg d) : Cl X 1 mX9_isDesk [rv X 30, iv d] I (Ki (bI (0 ≤ d ∧ d < O 0)) I) := by
  refine Cl.of (by decide) (Nat.le_of_ble_eq_true rfl) ?_
  show Rn X 1 mX9_isDesk _ 0 [(0, rv X 30), (1, iv d)] [] I
  have q0 := hV.a
  unfold rg at hd
  refine r_iload_n (pc := 0) (a := 1) (i := 1) 1 rfl rfl dX9_isDesk_0 ?_
  refine r_i2l (pc := 1) (by unfold rg; omega) dX9_isDesk_1 ?_
  refine r_lconst (pc := 2) (z := 0) rfl dX9_isDesk_2 ?_
  refine r_aload_n (pc := 3) (a := 0) (i := 0) 0 rfl rfl dX9_isDesk_3 ?_
  refine r_get (pc := 4) ckX9 (by decide) rfl (j := 5) (by decide) rfl kf_X9_19 dX9_isDesk_4 ?_
  refine r_iconst (pc := 7) dX9_isDesk_7 ?_
  refine r_iald (pc := 8) (z := O 0) (by decide) rfl (by omega) (by omega) (by decide) (congrFun hO _) dX9_isDesk_8 ?_
  refine r_iconst (pc := 9) dX9_isDesk_9 ?_
  refine r_isub (pc := 10) dX9_isDesk_10 ?_
  refine r_i2l (pc := 11) (by unfold rg; omega) dX9_isDesk_11 ?_
  refine r_callSi (pc := 12) (st := []) (As := [jv d, jv 0, jv ((O 0) - 1)]) okX9_in (by decide) trivial rfl (Nat.le_of_ble_eq_true rfl) km_X9_64 (kX9_in X (by unfold rl; omega) (by unfold rl; omega) (by unfold rl; omega)) dX9_isDesk_12 ?_
  refine r_zret (pc := 15) (st := []) rfl (nar_bI) dX9_isDesk_15 ?_
  exact ⟨congrArg (fun q => some (iv q)) (bI_c (show (0 ≤ d ∧ d ≤ O 0 - 1) ↔ (0 ≤ d ∧ d < O 0) by omega)), rfl⟩

set_option maxRecDepth 100000 in
set_option maxHeartbeats 4000000 in
theorem kX9_isSheet (X : XC) {I : HD} {O : OF} (hO : I 34 = O) (hV : Val O) {p : Int} (hp : rg p) : Cl X 1 mX9_isSheet [rv X 30, iv p] I (Ki (bI (0 ≤ p ∧ p < O 1)) I) := by
  refine Cl.of (by decide) (Nat.le_of_ble_eq_true rfl) ?_
  show Rn X 1 mX9_isSheet _ 0 [(0, rv X 30), (1, iv p)] [] I
  have q0 := hV.a
  unfold rg at hp
  refine r_iload_n (pc := 0) (a := 1) (i := 1) 1 rfl rfl dX9_isSheet_0 ?_
  refine r_i2l (pc := 1) (by unfold rg; omega) dX9_isSheet_1 ?_
  refine r_lconst (pc := 2) (z := 0) rfl dX9_isSheet_2 ?_
  refine r_aload_n (pc := 3) (a := 0) (i := 0) 0 rfl rfl dX9_isSheet_3 ?_
  refine r_get (pc := 4) ckX9 (by decide) rfl (j := 5) (by decide) rfl kf_X9_19 dX9_isSheet_4 ?_
  refine r_iconst (pc := 7) dX9_isSheet_7 ?_
  refine r_iald (pc := 8) (z := O 1) (by decide) rfl (by omega) (by omega) (by decide) (congrFun hO _) dX9_isSheet_8 ?_
  refine r_iconst (pc := 9) dX9_isSheet_9 ?_
  refine r_isub (pc := 10) dX9_isSheet_10 ?_
  refine r_i2l (pc := 11) (by unfold rg; omega) dX9_isSheet_11 ?_
  refine r_callSi (pc := 12) (st := []) (As := [jv p, jv 0, jv ((O 1) - 1)]) okX9_in (by decide) trivial rfl (Nat.le_of_ble_eq_true rfl) km_X9_64 (kX9_in X (by unfold rl; omega) (by unfold rl; omega) (by unfold rl; omega)) dX9_isSheet_12 ?_
  refine r_zret (pc := 15) (st := []) rfl (nar_bI) dX9_isSheet_15 ?_
  exact ⟨congrArg (fun q => some (iv q)) (bI_c (show (0 ≤ p ∧ p ≤ O 1 - 1) ↔ (0 ≤ p ∧ p < O 1) by omega)), rfl⟩

set_option maxRecDepth 100000 in
set_option maxHeartbeats 4000000 in
theorem kX9_of (X : XC) {I : HD} {O : OF} (hO : I 34 = O) (hV : Val O) {p w z : Int} (hp0 : 0 ≤ p) (hp1 : p < 16) (hw : 0 ≤ w ∧ w < 4) (hz : O (63 + 4 * p + w) = z) : Cl X 0 mX9_of [rv X 30, iv p, iv w] I (Ki z I) := by
  refine Cl.of (by decide) (Nat.le_of_ble_eq_true rfl) ?_
  show Rn X 0 mX9_of _ 0 [(0, rv X 30), (1, iv p), (2, iv w)] [] I
  refine r_aload_n (pc := 0) (a := 0) (i := 0) 0 rfl rfl dX9_of_0 ?_
  refine r_get (pc := 1) ckX9 (by decide) rfl (j := 5) (by decide) rfl kf_X9_19 dX9_of_1 ?_
  refine r_bipush (pc := 4) rfl dX9_of_4 ?_
  refine r_iconst (pc := 6) dX9_of_6 ?_
  refine r_iload_n (pc := 7) (a := 1) (i := 1) 1 rfl rfl dX9_of_7 ?_
  refine r_imul (pc := 8) dX9_of_8 ?_
  refine r_iadd (pc := 9) dX9_of_9 ?_
  refine r_iload_n (pc := 10) (a := 2) (i := 2) 2 rfl rfl dX9_of_10 ?_
  refine r_iadd (pc := 11) dX9_of_11 ?_
  refine r_iald (pc := 12) (z := z) (by decide) rfl (by omega) (by omega) (by decide) ((congrFun hO _).trans hz) dX9_of_12 ?_
  refine r_iret (pc := 13) (st := []) rfl dX9_of_13 ?_
  exact ⟨rfl, rfl⟩

set_option maxRecDepth 100000 in
set_option maxHeartbeats 4000000 in
theorem kX9_manyOn (X : XC) {I : HD} {O : OF} (hO : I 34 = O) (hV : Val O) {d : Int} (h0 : 0 ≤ d) (h1 : d < O 0) : Cl X 0 mX9_manyOn [rv X 30, iv d] I (Ki (O (23 + 10 * d)) I) := by
  refine Cl.of (by decide) (Nat.le_of_ble_eq_true rfl) ?_
  show Rn X 0 mX9_manyOn _ 0 [(0, rv X 30), (1, iv d)] [] I
  have q0 := hV.a
  refine r_aload_n (pc := 0) (a := 0) (i := 0) 0 rfl rfl dX9_manyOn_0 ?_
  refine r_get (pc := 1) ckX9 (by decide) rfl (j := 5) (by decide) rfl kf_X9_19 dX9_manyOn_1 ?_
  refine r_bipush (pc := 4) rfl dX9_manyOn_4 ?_
  refine r_bipush (pc := 6) rfl dX9_manyOn_6 ?_
  refine r_iload_n (pc := 8) (a := 1) (i := 1) 1 rfl rfl dX9_manyOn_8 ?_
  refine r_imul (pc := 9) dX9_manyOn_9 ?_
  refine r_iadd (pc := 10) dX9_manyOn_10 ?_
  refine r_iald (pc := 11) (z := O (23 + (10 * d))) (by decide) rfl (by omega) (by omega) (by decide) (congrFun hO _) dX9_manyOn_11 ?_
  refine r_iret (pc := 12) (st := []) rfl dX9_manyOn_12 ?_
  exact ⟨rfl, rfl⟩

set_option maxRecDepth 100000 in
set_option maxHeartbeats 4000000 in
theorem kX9_lies (X : XC) {I : HD} {O : OF} (hO : I 34 = O) (hV : Val O) {d k : Int} (h0 : 0 ≤ d) (h1 : d < 4) (h2 : 0 ≤ k) (h3 : k < 9) : Cl X 0 mX9_lies [rv X 30, iv d, iv k] I (Ki (O (24 + 10 * d + k)) I) := by
  refine Cl.of (by decide) (Nat.le_of_ble_eq_true rfl) ?_
  show Rn X 0 mX9_lies _ 0 [(0, rv X 30), (1, iv d), (2, iv k)] [] I
  refine r_aload_n (pc := 0) (a := 0) (i := 0) 0 rfl rfl dX9_lies_0 ?_
  refine r_get (pc := 1) ckX9 (by decide) rfl (j := 5) (by decide) rfl kf_X9_19 dX9_lies_1 ?_
  refine r_bipush (pc := 4) rfl dX9_lies_4 ?_
  refine r_bipush (pc := 6) rfl dX9_lies_6 ?_
  refine r_iload_n (pc := 8) (a := 1) (i := 1) 1 rfl rfl dX9_lies_8 ?_
  refine r_imul (pc := 9) dX9_lies_9 ?_
  refine r_iadd (pc := 10) dX9_lies_10 ?_
  refine r_iconst (pc := 11) dX9_lies_11 ?_
  refine r_iadd (pc := 12) dX9_lies_12 ?_
  refine r_iload_n (pc := 13) (a := 2) (i := 2) 2 rfl rfl dX9_lies_13 ?_
  refine r_iadd (pc := 14) dX9_lies_14 ?_
  refine r_iald (pc := 15) (z := O (24 + 10 * d + k)) (by decide) rfl (by omega) (by omega) (by decide) ((congrFun hO _).trans (congrArg O (by omega))) dX9_lies_15 ?_
  refine r_iret (pc := 16) (st := []) rfl dX9_lies_16 ?_
  exact ⟨rfl, rfl⟩

set_option maxRecDepth 100000 in
set_option maxHeartbeats 4000000 in
theorem kX9_deskOf (X : XC) {I : HD} {O : OF} (hO : I 34 = O) (hV : Val O) {p : Int} (hp0 : 0 ≤ p) (hp1 : p < O 1) : Cl X 1 mX9_deskOf [rv X 30, iv p] I (Ki (dkN O p) I) := by
  refine Cl.of (by decide) (Nat.le_of_ble_eq_true rfl) ?_
  show Rn X 1 mX9_deskOf _ 0 [(0, rv X 30), (1, iv p)] [] I
  have q0 := hV.a
  refine r_iconst (pc := 0) dX9_deskOf_0 ?_
  refine r_istore_n (pc := 1) (a := 2) (i := 2) rfl [(2, iv 0), (0, rv X 30), (1, iv p)] (by decide) rfl dX9_deskOf_1 ?_
  have at2 : ∀ (n2 : Nat) (d : Int), (O 0 - d).toNat < n2 → (hd0 : 0 ≤ d) → (hd1 : d ≤ O 0) → (hno : ∀ e, 0 ≤ e → e < d → ¬ onD O e p) → Rn X 1 mX9_deskOf (Ki (dkN O p) I) 2 [(0, rv X 30), (1, iv p), (2, iv d)] [] I := by
    intro n2
    induction n2 with
    | zero => intro d hm; omega
    | succ n2 ih2 =>
      intro d hm2 hd0 hd1 hno
      refine r_iload_n (pc := 2) (a := 2) (i := 2) 2 rfl rfl dX9_deskOf_2 ?_
      refine r_aload_n (pc := 3) (a := 0) (i := 0) 0 rfl rfl dX9_deskOf_3 ?_
      refine r_get (pc := 4) ckX9 (by decide) rfl (j := 5) (by decide) rfl kf_X9_19 dX9_deskOf_4 ?_
      refine r_iconst (pc := 7) dX9_deskOf_7 ?_
      refine r_iald (pc := 8) (z := O 0) (by decide) rfl (by omega) (by omega) (by decide) (congrFun hO _) dX9_deskOf_8 ?_
      refine r_icmp_ge (pc := 9) 47 (by unfold rg; omega) (by unfold rg; omega) dX9_deskOf_9 (by decide) (fun h9 => ?_) (fun h9 => ?_)
      · skip
        refine r_ldc (pc := 47) kc_X9_90 dX9_deskOf_47 ?_
        refine r_iret (pc := 49) (st := []) rfl dX9_deskOf_49 ?_
        exact ⟨by rw [dkN_a (dk_neg fun e a b => hno e a (by omega))], rfl⟩
      · skip
        have h1 : d < O 0 := by omega
        have q1 := hV.d hd0 h1
        refine r_iconst (pc := 12) dX9_deskOf_12 ?_
        refine r_istore_n (pc := 13) (a := 3) (i := 3) rfl [(3, iv 0), (0, rv X 30), (1, iv p), (2, iv d)] (by decide) rfl dX9_deskOf_13 ?_
        have at14 : ∀ (n14 : Nat) (k : Int), (O (23 + 10 * d) - k).toNat < n14 → (hk0 : 0 ≤ k) → (hk1 : k ≤ O (23 + 10 * d)) → (hno2 : ∀ e, 0 ≤ e → e < k → ¬ O (24 + 10 * d + e) = p) → Rn X 1 mX9_deskOf (Ki (dkN O p) I) 14 [(0, rv X 30), (1, iv p), (2, iv d), (3, iv k)] [] I := by
          intro n14
          induction n14 with
          | zero => intro k hm; omega
          | succ n14 ih14 =>
            intro k hm14 hk0 hk1 hno2
            refine r_iload_n (pc := 14) (a := 3) (i := 3) 3 rfl rfl dX9_deskOf_14 ?_
            refine r_aload_n (pc := 15) (a := 0) (i := 0) 0 rfl rfl dX9_deskOf_15 ?_
            refine r_iload_n (pc := 16) (a := 2) (i := 2) 2 rfl rfl dX9_deskOf_16 ?_
            refine r_callVi (pc := 17) (st := [iv k]) (As := [iv d]) okX9_manyOn (by decide) (by decide) rfl rfl rfl (Nat.le_of_ble_eq_true rfl) km_X9_191 (kX9_manyOn X hO hV (by omega) (by omega)) dX9_deskOf_17 ?_
            refine r_icmp_ge (pc := 20) 41 (by unfold rg; omega) (by unfold rg; omega) dX9_deskOf_20 (by decide) (fun h20 => ?_) (fun h20 => ?_)
            · skip
              refine r_iinc (pc := 41) 2 [(2, iv (d + 1)), (0, rv X 30), (1, iv p), (3, iv k)] rfl (by decide) rfl dX9_deskOf_41 ?_
              refine r_goto (pc := 44) 2 dX9_deskOf_44 (by decide) ?_
              refine r_lv [1, 2, 0] [(0, rv X 30), (1, iv p), (2, iv (d + 1))] rfl ?_
              exact ih2 (d + 1) (by omega) (by omega) (by omega) (fun e a b => (Classical.em (e = d)).elim (fun q => by rw [q]; rintro ⟨j, x, y, w⟩; exact hno2 j x (by omega) w) (fun q => hno e a (by omega)))
            · skip
              have qk := hV.k hd0 h1 hk0 (by omega)
              refine r_aload_n (pc := 23) (a := 0) (i := 0) 0 rfl rfl dX9_deskOf_23 ?_
              refine r_iload_n (pc := 24) (a := 2) (i := 2) 2 rfl rfl dX9_deskOf_24 ?_
              refine r_iload_n (pc := 25) (a := 3) (i := 3) 3 rfl rfl dX9_deskOf_25 ?_
              refine r_callVi (pc := 26) (st := []) (As := [iv d, iv k]) okX9_lies (by decide) (by decide) rfl rfl rfl (Nat.le_of_ble_eq_true rfl) km_X9_194 (kX9_lies X hO hV (by omega) (by omega) (by omega) (by omega)) dX9_deskOf_26 ?_
              refine r_iload_n (pc := 29) (a := 1) (i := 1) 1 rfl rfl dX9_deskOf_29 ?_
              refine r_icmp_ne (pc := 30) 35 (by unfold rg; omega) (by unfold rg; omega) dX9_deskOf_30 (by decide) (fun h30 => ?_) (fun h30 => ?_)
              · skip
                refine r_iinc (pc := 35) 3 [(3, iv (k + 1)), (0, rv X 30), (1, iv p), (2, iv d)] rfl (by decide) rfl dX9_deskOf_35 ?_
                refine r_goto (pc := 38) 14 dX9_deskOf_38 (by decide) ?_
                refine r_lv [1, 2, 3, 0] [(0, rv X 30), (1, iv p), (2, iv d), (3, iv (k + 1))] rfl ?_
                exact ih14 (k + 1) (by omega) (by omega) (by omega) (fun e a b => (Classical.em (e = k)).elim (fun q => by rw [q]; exact h30) (fun q => hno2 e a (by omega)))
              · skip
                refine r_iload_n (pc := 33) (a := 2) (i := 2) 2 rfl rfl dX9_deskOf_33 ?_
                refine r_iret (pc := 34) (st := []) rfl dX9_deskOf_34 ?_
                exact ⟨by rw [← isD_u hV (Or.inr ⟨hd0, h1, k, hk0, by omega, h30⟩), dkN_b (by rw [isD_u hV (Or.inr ⟨hd0, h1, k, hk0, by omega, h30⟩)]; exact hd0)], rfl⟩
        refine r_lv [1, 2, 3, 0] [(0, rv X 30), (1, iv p), (2, iv d), (3, iv 0)] rfl ?_
        exact at14 _ 0 (Nat.lt_succ_self _) (by omega) (by omega) (fun e a b => absurd b (by omega))
  refine r_lv [1, 2, 0] [(0, rv X 30), (1, iv p), (2, iv 0)] rfl ?_
  exact at2 _ 0 (Nat.lt_succ_self _) (by omega) (by omega) (fun e a b => absurd b (by omega))

set_option maxRecDepth 100000 in
set_option maxHeartbeats 4000000 in
theorem kX9_placeOf (X : XC) {I : HD} {O : OF} (hO : I 34 = O) (hV : Val O) {d : Int} (h0 : 0 ≤ d) (h1 : d < O 0) {p k9 : Int} (w1 : 0 ≤ k9) (w2 : k9 < O (23 + 10 * d)) (w3 : O (24 + 10 * d + k9) = p) : Cl X 1 mX9_placeOf [rv X 30, iv d, iv p] I (Ki k9 I) := by
  refine Cl.of (by decide) (Nat.le_of_ble_eq_true rfl) ?_
  show Rn X 1 mX9_placeOf _ 0 [(0, rv X 30), (1, iv d), (2, iv p)] [] I
  have q0 := hV.a
  have q1 := hV.d h0 h1
  refine r_iconst (pc := 0) dX9_placeOf_0 ?_
  refine r_istore_n (pc := 1) (a := 3) (i := 3) rfl [(3, iv 0), (0, rv X 30), (1, iv d), (2, iv p)] (by decide) rfl dX9_placeOf_1 ?_
  have at2 : ∀ (n2 : Nat) (k : Int), (k9 - k).toNat < n2 → (hk0 : 0 ≤ k) → (hk1 : k ≤ k9) → Rn X 1 mX9_placeOf (Ki k9 I) 2 [(0, rv X 30), (1, iv d), (2, iv p), (3, iv k)] [] I := by
    intro n2
    induction n2 with
    | zero => intro k hm; omega
    | succ n2 ih2 =>
      intro k hm2 hk0 hk1
      refine r_aload_n (pc := 2) (a := 0) (i := 0) 0 rfl rfl dX9_placeOf_2 ?_
      refine r_iload_n (pc := 3) (a := 1) (i := 1) 1 rfl rfl dX9_placeOf_3 ?_
      refine r_iload_n (pc := 4) (a := 3) (i := 3) 3 rfl rfl dX9_placeOf_4 ?_
      have qk := hV.k h0 h1 hk0 (by omega)
      have qk9 := hV.k h0 h1 w1 w2
      refine r_callVi (pc := 5) (st := []) (As := [iv d, iv k]) okX9_lies (by decide) (by decide) rfl rfl rfl (Nat.le_of_ble_eq_true rfl) km_X9_194 (kX9_lies X hO hV (by omega) (by omega) (by omega) (by omega)) dX9_placeOf_5 ?_
      refine r_iload_n (pc := 8) (a := 2) (i := 2) 2 rfl rfl dX9_placeOf_8 ?_
      refine r_icmp_eq (pc := 9) 18 (by unfold rg; omega) (by unfold rg; omega) dX9_placeOf_9 (by decide) (fun h9 => ?_) (fun h9 => ?_)
      · skip
        refine r_iload_n (pc := 18) (a := 3) (i := 3) 3 rfl rfl dX9_placeOf_18 ?_
        refine r_iret (pc := 19) (st := []) rfl dX9_placeOf_19 ?_
        exact ⟨by rw [(hV.u h0 h1 hk0 (by omega) h0 h1 w1 w2 (by rw [h9, w3])).2], rfl⟩
      · skip
        refine r_iinc (pc := 12) 3 [(3, iv (k + 1)), (0, rv X 30), (1, iv d), (2, iv p)] rfl (by decide) rfl dX9_placeOf_12 ?_
        refine r_goto (pc := 15) 2 dX9_placeOf_15 (by decide) ?_
        refine r_lv [1, 2, 3, 0] [(0, rv X 30), (1, iv d), (2, iv p), (3, iv (k + 1))] rfl ?_
        exact ih2 (k + 1) (by have : k ≠ k9 := fun q => h9 (by rw [q]; exact w3); omega) (by omega) (by have : k ≠ k9 := fun q => h9 (by rw [q]; exact w3); omega)
  refine r_lv [1, 2, 3, 0] [(0, rv X 30), (1, iv d), (2, iv p), (3, iv 0)] rfl ?_
  exact at2 _ 0 (Nat.lt_succ_self _) (by omega) (by omega)

set_option maxRecDepth 100000 in
set_option maxHeartbeats 4000000 in
theorem kX9_hasRoom (X : XC) {I : HD} {O : OF} (hO : I 34 = O) (hV : Val O) {d : Int} (h0 : 0 ≤ d) (h1 : d < O 0) : Cl X 1 mX9_hasRoom [rv X 30, iv d] I (Ki (bI (O (23 + 10 * d) < O (15 + 2 * d))) I) := by
  refine Cl.of (by decide) (Nat.le_of_ble_eq_true rfl) ?_
  show Rn X 1 mX9_hasRoom _ 0 [(0, rv X 30), (1, iv d)] [] I
  have q0 := hV.a
  have q1 := hV.d h0 h1
  refine r_aload_n (pc := 0) (a := 0) (i := 0) 0 rfl rfl dX9_hasRoom_0 ?_
  refine r_iload_n (pc := 1) (a := 1) (i := 1) 1 rfl rfl dX9_hasRoom_1 ?_
  refine r_callVi (pc := 2) (st := []) (As := [iv d]) okX9_manyOn (by decide) (by decide) rfl rfl rfl (Nat.le_of_ble_eq_true rfl) km_X9_191 (kX9_manyOn X hO hV (by omega) (by omega)) dX9_hasRoom_2 ?_
  refine r_aload_n (pc := 5) (a := 0) (i := 0) 0 rfl rfl dX9_hasRoom_5 ?_
  refine r_get (pc := 6) ckX9 (by decide) rfl (j := 5) (by decide) rfl kf_X9_19 dX9_hasRoom_6 ?_
  refine r_bipush (pc := 9) rfl dX9_hasRoom_9 ?_
  refine r_iconst (pc := 11) dX9_hasRoom_11 ?_
  refine r_iload_n (pc := 12) (a := 1) (i := 1) 1 rfl rfl dX9_hasRoom_12 ?_
  refine r_imul (pc := 13) dX9_hasRoom_13 ?_
  refine r_iadd (pc := 14) dX9_hasRoom_14 ?_
  refine r_iald (pc := 15) (z := O (15 + 2 * d)) (by decide) rfl (by omega) (by omega) (by decide) ((congrFun hO _).trans (congrArg O (by omega))) dX9_hasRoom_15 ?_
  refine r_icmp_ge (pc := 16) 23 (by unfold rg; omega) (by unfold rg; omega) dX9_hasRoom_16 (by decide) (fun h16 => ?_) (fun h16 => ?_)
  · skip
    refine r_iconst (pc := 23) dX9_hasRoom_23 ?_
    refine r_zret (pc := 24) (st := []) rfl (rfl) dX9_hasRoom_24 ?_
    exact ⟨by rw [bI_f (by omega)], rfl⟩
  · skip
    refine r_iconst (pc := 19) dX9_hasRoom_19 ?_
    refine r_goto (pc := 20) 24 dX9_hasRoom_20 (by decide) ?_
    refine r_zret (pc := 24) (st := []) rfl (rfl) dX9_hasRoom_24 ?_
    exact ⟨by rw [bI_t (by omega)], rfl⟩

set_option maxRecDepth 100000 in
set_option maxHeartbeats 4000000 in
theorem kX9_isMissed (X : XC) {I : HD} {O : OF} (hO : I 34 = O) (hV : Val O) {p : Int} (hp0 : 0 ≤ p) (hp1 : p < O 1) : Cl X 2 mX9_isMissed [rv X 30, iv p] I (Ki (bI (mis O p)) I) := by
  refine Cl.of (by decide) (Nat.le_of_ble_eq_true rfl) ?_
  show Rn X 2 mX9_isMissed _ 0 [(0, rv X 30), (1, iv p)] [] I
  have q0 := hV.a
  have qp := hV.p hp0 hp1
  have ql := @dk_lt O p
  refine r_aload_n (pc := 0) (a := 0) (i := 0) 0 rfl rfl dX9_isMissed_0 ?_
  refine r_iload_n (pc := 1) (a := 1) (i := 1) 1 rfl rfl dX9_isMissed_1 ?_
  refine r_iconst (pc := 2) dX9_isMissed_2 ?_
  refine r_callVi (pc := 3) (st := []) (As := [iv p, iv 2]) okX9_of (by decide) (by decide) rfl rfl rfl (Nat.le_of_ble_eq_true rfl) km_X9_216 (kX9_of X hO hV (z := O (65 + 4 * p)) (by omega) (by omega) (by omega) (congrArg O (by omega))) dX9_isMissed_3 ?_
  refine r_bipush (pc := 6) rfl dX9_isMissed_6 ?_
  refine r_icmp_ge (pc := 8) 49 (by unfold rg; omega) (by unfold rg; omega) dX9_isMissed_8 (by decide) (fun h8 => ?_) (fun h8 => ?_)
  · skip
    refine r_iconst (pc := 49) dX9_isMissed_49 ?_
    refine r_zret (pc := 50) (st := []) rfl (rfl) dX9_isMissed_50 ?_
    exact ⟨by rw [bI_f (show ¬ mis O p by unfold mis; omega)], rfl⟩
  · skip
    refine r_aload_n (pc := 11) (a := 0) (i := 0) 0 rfl rfl dX9_isMissed_11 ?_
    refine r_iload_n (pc := 12) (a := 1) (i := 1) 1 rfl rfl dX9_isMissed_12 ?_
    refine r_iconst (pc := 13) dX9_isMissed_13 ?_
    refine r_callVi (pc := 14) (st := []) (As := [iv p, iv 3]) okX9_of (by decide) (by decide) rfl rfl rfl (Nat.le_of_ble_eq_true rfl) km_X9_216 (kX9_of X hO hV (z := O (66 + 4 * p)) (by omega) (by omega) (by omega) (congrArg O (by omega))) dX9_isMissed_14 ?_
    refine r_if_ne (pc := 17) 49 (by unfold rg; omega) dX9_isMissed_17 (by decide) (fun h17 => ?_) (fun h17 => ?_)
    · skip
      refine r_iconst (pc := 49) dX9_isMissed_49 ?_
      refine r_zret (pc := 50) (st := []) rfl (rfl) dX9_isMissed_50 ?_
      exact ⟨by rw [bI_f (show ¬ mis O p by unfold mis; omega)], rfl⟩
    · skip
      refine r_aload_n (pc := 20) (a := 0) (i := 0) 0 rfl rfl dX9_isMissed_20 ?_
      refine r_iload_n (pc := 21) (a := 1) (i := 1) 1 rfl rfl dX9_isMissed_21 ?_
      refine r_callVi (pc := 22) (st := []) (As := [iv p]) okX9_deskOf (by decide) (by decide) rfl rfl rfl (Nat.le_of_ble_eq_true rfl) km_X9_203 (kX9_deskOf X hO hV (by omega) (by omega)) dX9_isMissed_22 ?_
      refine r_ldc (pc := 25) kc_X9_90 dX9_isMissed_25 ?_
      have qN := dkN_or O p
      refine r_icmp_eq (pc := 27) 45 (by unfold rg; omega) (by unfold rg; omega) dX9_isMissed_27 (by decide) (fun h27 => ?_) (fun h27 => ?_)
      · skip
        refine r_iconst (pc := 45) dX9_isMissed_45 ?_
        refine r_goto (pc := 46) 50 dX9_isMissed_46 (by decide) ?_
        refine r_zret (pc := 50) (st := []) rfl (rfl) dX9_isMissed_50 ?_
        exact ⟨by rw [bI_t (show mis O p by unfold mis; omega)], rfl⟩
      · skip
        refine r_aload_n (pc := 30) (a := 0) (i := 0) 0 rfl rfl dX9_isMissed_30 ?_
        refine r_get (pc := 31) ckX9 (by decide) rfl (j := 5) (by decide) rfl kf_X9_19 dX9_isMissed_31 ?_
        refine r_iconst (pc := 34) dX9_isMissed_34 ?_
        refine r_iald (pc := 35) (z := O 2) (by decide) rfl (by omega) (by omega) (by decide) (congrFun hO _) dX9_isMissed_35 ?_
        refine r_aload_n (pc := 36) (a := 0) (i := 0) 0 rfl rfl dX9_isMissed_36 ?_
        refine r_iload_n (pc := 37) (a := 1) (i := 1) 1 rfl rfl dX9_isMissed_37 ?_
        refine r_iconst (pc := 38) dX9_isMissed_38 ?_
        refine r_callVi (pc := 39) (st := [iv (O 2)]) (As := [iv p, iv 2]) okX9_of (by decide) (by decide) rfl rfl rfl (Nat.le_of_ble_eq_true rfl) km_X9_216 (kX9_of X hO hV (z := O (65 + 4 * p)) (by omega) (by omega) (by omega) (congrArg O (by omega))) dX9_isMissed_39 ?_
        refine r_icmp_le (pc := 42) 49 (by unfold rg; omega) (by unfold rg; omega) dX9_isMissed_42 (by decide) (fun h42 => ?_) (fun h42 => ?_)
        · skip
          refine r_iconst (pc := 49) dX9_isMissed_49 ?_
          refine r_zret (pc := 50) (st := []) rfl (rfl) dX9_isMissed_50 ?_
          exact ⟨by rw [bI_f (show ¬ mis O p by unfold mis; omega)], rfl⟩
        · skip
          refine r_iconst (pc := 45) dX9_isMissed_45 ?_
          refine r_goto (pc := 46) 50 dX9_isMissed_46 (by decide) ?_
          refine r_zret (pc := 50) (st := []) rfl (rfl) dX9_isMissed_50 ?_
          exact ⟨by rw [bI_t (show mis O p by unfold mis; omega)], rfl⟩

set_option maxRecDepth 100000 in
set_option maxHeartbeats 4000000 in
theorem kX9_worthOf (X : XC) {I : HD} {O : OF} (hO : I 34 = O) (hV : Val O) (f : Int → Prop) : Cl X 1 mX9_worthOf [rv X 30, iv ((bset (f) 16 : Nat) : Int)] I (Ki (wsum O f (O 1).toNat) I) := by
  refine Cl.of (by decide) (Nat.le_of_ble_eq_true rfl) ?_
  show Rn X 1 mX9_worthOf _ 0 [(0, rv X 30), (1, iv ((bset (f) 16 : Nat) : Int))] [] I
  have q0 := hV.a
  refine r_iconst (pc := 0) dX9_worthOf_0 ?_
  refine r_istore_n (pc := 1) (a := 2) (i := 2) rfl [(2, iv 0), (0, rv X 30), (1, iv ((bset (f) 16 : Nat) : Int))] (by decide) rfl dX9_worthOf_1 ?_
  refine r_iconst (pc := 2) dX9_worthOf_2 ?_
  refine r_istore_n (pc := 3) (a := 3) (i := 3) rfl [(3, iv 0), (2, iv 0), (0, rv X 30), (1, iv ((bset (f) 16 : Nat) : Int))] (by decide) rfl dX9_worthOf_3 ?_
  have at4 : ∀ (n4 : Nat) (t : Int) (i : Int), (O 1 - i).toNat < n4 → (hi0 : 0 ≤ i) → (hi1 : i ≤ O 1) → (ht : t = wsum O f i.toNat) → Rn X 1 mX9_worthOf (Ki (wsum O f (O 1).toNat) I) 4 [(0, rv X 30), (1, iv ((bset (f) 16 : Nat) : Int)), (2, iv t), (3, iv i)] [] I := by
    intro n4
    induction n4 with
    | zero => intro t i hm; omega
    | succ n4 ih4 =>
      intro t i hm4 hi0 hi1 ht
      refine r_iload_n (pc := 4) (a := 3) (i := 3) 3 rfl rfl dX9_worthOf_4 ?_
      refine r_aload_n (pc := 5) (a := 0) (i := 0) 0 rfl rfl dX9_worthOf_5 ?_
      refine r_get (pc := 6) ckX9 (by decide) rfl (j := 5) (by decide) rfl kf_X9_19 dX9_worthOf_6 ?_
      refine r_iconst (pc := 9) dX9_worthOf_9 ?_
      refine r_iald (pc := 10) (z := O 1) (by decide) rfl (by omega) (by omega) (by decide) (congrFun hO _) dX9_worthOf_10 ?_
      refine r_icmp_ge (pc := 11) 42 (by unfold rg; omega) (by unfold rg; omega) dX9_worthOf_11 (by decide) (fun h11 => ?_) (fun h11 => ?_)
      · skip
        refine r_iload_n (pc := 42) (a := 2) (i := 2) 2 rfl rfl dX9_worthOf_42 ?_
        refine r_iret (pc := 43) (st := []) rfl dX9_worthOf_43 ?_
        exact ⟨by rw [ht, show i = O 1 by omega], rfl⟩
      · skip
        refine r_iload_n (pc := 14) (a := 2) (i := 2) 2 rfl rfl dX9_worthOf_14 ?_
        refine r_iload_n (pc := 15) (a := 1) (i := 1) 1 rfl rfl dX9_worthOf_15 ?_
        refine r_iload_n (pc := 16) (a := 3) (i := 3) 3 rfl rfl dX9_worthOf_16 ?_
        refine r_ishr (pc := 17) (z := ((bset f 16 >>> (i).toNat : Nat) : Int)) (bs_shr (by omega) (by omega)) dX9_worthOf_17 ?_
        refine r_iconst (pc := 18) dX9_worthOf_18 ?_
        refine r_iand (pc := 19) (z := bI (f i)) (bs_bit (by omega) (by omega)) dX9_worthOf_19 ?_
        refine r_iconst (pc := 20) dX9_worthOf_20 ?_
        have at34 : ∀ (w : Int), (hw : w = bI (f i) * O (64 + 4 * i)) → Rn X 1 mX9_worthOf (Ki (wsum O f (O 1).toNat) I) 34 [(0, rv X 30), (1, iv ((bset (f) 16 : Nat) : Int)), (2, iv t), (3, iv i)] [iv w, iv t] I := by
          intro w hw
          refine r_iadd (pc := 34) dX9_worthOf_34 ?_
          refine r_istore_n (pc := 35) (a := 2) (i := 2) rfl [(2, iv (t + w)), (0, rv X 30), (1, iv ((bset (f) 16 : Nat) : Int)), (3, iv i)] (by decide) rfl dX9_worthOf_35 ?_
          refine r_iinc (pc := 36) 3 [(3, iv (i + 1)), (2, iv (t + w)), (0, rv X 30), (1, iv ((bset (f) 16 : Nat) : Int))] rfl (by decide) rfl dX9_worthOf_36 ?_
          refine r_goto (pc := 39) 4 dX9_worthOf_39 (by decide) ?_
          refine r_lv [2, 3, 1, 0] [(0, rv X 30), (1, iv ((bset (f) 16 : Nat) : Int)), (2, iv (t + w)), (3, iv (i + 1))] rfl ?_
          exact ih4 (t + w) (i + 1) (by omega) (by omega) (by omega) (by rw [ht, wsum_s hi0, hw])
        refine r_icmp_ne (pc := 21) 33 (rg_bI) (by unfold rg; omega) dX9_worthOf_21 (by decide) (fun h21 => ?_) (fun h21 => ?_)
        · skip
          refine r_iconst (pc := 33) dX9_worthOf_33 ?_
          refine r_lv [0, 1, 2, 3] [(0, rv X 30), (1, iv ((bset (f) 16 : Nat) : Int)), (2, iv t), (3, iv i)] rfl ?_
          exact at34 0 (by rw [bI_f (fun q => h21 (bI_t q)), Int.zero_mul])
        · skip
          refine r_aload_n (pc := 24) (a := 0) (i := 0) 0 rfl rfl dX9_worthOf_24 ?_
          refine r_iload_n (pc := 25) (a := 3) (i := 3) 3 rfl rfl dX9_worthOf_25 ?_
          refine r_iconst (pc := 26) dX9_worthOf_26 ?_
          refine r_callVi (pc := 27) (st := [iv t]) (As := [iv i, iv 1]) okX9_of (by decide) (by decide) rfl rfl rfl (Nat.le_of_ble_eq_true rfl) km_X9_216 (kX9_of X hO hV (z := O (64 + 4 * i)) (by omega) (by omega) (by omega) (congrArg O (by omega))) dX9_worthOf_27 ?_
          refine r_goto (pc := 30) 34 dX9_worthOf_30 (by decide) ?_
          refine r_lv [0, 1, 2, 3] [(0, rv X 30), (1, iv ((bset (f) 16 : Nat) : Int)), (2, iv t), (3, iv i)] rfl ?_
          exact at34 (O (64 + 4 * i)) (by rw [bI_t (bI_n.mp (by omega)), Int.one_mul])
  refine r_lv [2, 3, 1, 0] [(0, rv X 30), (1, iv ((bset (f) 16 : Nat) : Int)), (2, iv 0), (3, iv 0)] rfl ?_
  exact at4 _ 0 0 (Nat.lt_succ_self _) (by omega) (by omega) (rfl)
