set_option maxRecDepth 100000 in
set_option maxHeartbeats 4000000 in
theorem kX3_setOn (X : XC) {I : HD} {O : OF} {o : Nat} (h_o : o < 28) (hR : RepC O I o) (hV : Val O) {d : Int} (h0 : 0 ≤ d) (h1 : d < O 0) : Cl X 1 mX3_setOn [rv X (oH o), iv d] I (Ki ((bset (onD O d) 16 : Nat) : Int) I) := by
  refine Cl.of (by decide) (Nat.le_of_ble_eq_true rfl) ?_
  show Rn X 1 mX3_setOn _ 0 [(0, rv X (oH o)), (1, iv d)] [] I
  have q0 := hV.a
  have q1 := hV.d h0 h1
  refine r_iconst (pc := 0) dX3_setOn_0 ?_
  refine r_istore_n (pc := 1) (a := 2) (i := 2) rfl [(2, iv 0), (0, rv X (oH o)), (1, iv d)] (by decide) rfl dX3_setOn_1 ?_
  refine r_iconst (pc := 2) dX3_setOn_2 ?_
  refine r_istore_n (pc := 3) (a := 3) (i := 3) rfl [(3, iv 0), (2, iv 0), (0, rv X (oH o)), (1, iv d)] (by decide) rfl dX3_setOn_3 ?_
  have at4 : ∀ (n4 : Nat) (s : Int) (k : Int), (O (23 + 10 * d) - k).toNat < n4 → (hk0 : 0 ≤ k) → (hk1 : k ≤ O (23 + 10 * d)) → (hs : s = ((bset (onN O d k) 16 : Nat) : Int)) → Rn X 1 mX3_setOn (Ki ((bset (onD O d) 16 : Nat) : Int) I) 4 [(0, rv X (oH o)), (1, iv d), (2, iv s), (3, iv k)] [] I := by
    intro n4
    induction n4 with
    | zero => intro s k hm; omega
    | succ n4 ih4 =>
      intro s k hm4 hk0 hk1 hs
      refine r_iload_n (pc := 4) (a := 3) (i := 3) 3 rfl rfl dX3_setOn_4 ?_
      refine r_aload_n (pc := 5) (a := 0) (i := 0) 0 rfl rfl dX3_setOn_5 ?_
      refine r_get (pc := 6) ckX3 (oH_lt (h_o)) (cellO (h_o)) (j := 3) (by decide) rfl kf_X3_21 dX3_setOn_6 ?_
      refine r_iload_n (pc := 9) (a := 1) (i := 1) 1 rfl rfl dX3_setOn_9 ?_
      refine r_iald (pc := 10) (z := O (23 + 10 * d)) (oH_lt4 (h_o)) ((cellO4 (h_o)) _) (by omega) (by omega) (by decide) (hR.hgt (by omega) (by omega)) dX3_setOn_10 ?_
      refine r_icmp_ge (pc := 11) 31 (by unfold rg; omega) (by unfold rg; omega) dX3_setOn_11 (by decide) (fun h11 => ?_) (fun h11 => ?_)
      · skip
        refine r_iload_n (pc := 31) (a := 2) (i := 2) 2 rfl rfl dX3_setOn_31 ?_
        refine r_iret (pc := 32) (st := []) rfl dX3_setOn_32 ?_
        exact ⟨by rw [hs, show k = O (23 + 10 * d) by omega]; rfl, rfl⟩
      · skip
        refine r_iload_n (pc := 14) (a := 2) (i := 2) 2 rfl rfl dX3_setOn_14 ?_
        refine r_iconst (pc := 15) dX3_setOn_15 ?_
        refine r_aload_n (pc := 16) (a := 0) (i := 0) 0 rfl rfl dX3_setOn_16 ?_
        refine r_iload_n (pc := 17) (a := 1) (i := 1) 1 rfl rfl dX3_setOn_17 ?_
        refine r_iload_n (pc := 18) (a := 3) (i := 3) 3 rfl rfl dX3_setOn_18 ?_
        refine r_callVi (pc := 19) (st := [iv 1, iv s]) (As := [iv d, iv k]) okX3_at (by decide) (oH_lt (h_o)) (cellO (h_o)) rfl rfl (Nat.le_of_ble_eq_true rfl) km_X3_70 (kX3_at X h_o hR hV (by omega) (by omega) (by omega) (by omega)) dX3_setOn_19 ?_
        have qk := hV.k h0 h1 hk0 h11
        refine r_ishl (pc := 22) (z := ((2 ^ (O (24 + 10 * d + k)).toNat : Nat) : Int)) (sh_1 (by omega) (by omega)) dX3_setOn_22 ?_
        refine r_ior (pc := 23) (z := ((bset (onN O d (k + 1)) 16 : Nat) : Int)) (by rw [hs, bs_add (by omega) (by omega)]; exact bs_c fun p _ _ => onN_s hk0) dX3_setOn_23 ?_
        refine r_istore_n (pc := 24) (a := 2) (i := 2) rfl [(2, iv ((bset (onN O d (k + 1)) 16 : Nat) : Int)), (0, rv X (oH o)), (1, iv d), (3, iv k)] (by decide) rfl dX3_setOn_24 ?_
        refine r_iinc (pc := 25) 3 [(3, iv (k + 1)), (2, iv ((bset (onN O d (k + 1)) 16 : Nat) : Int)), (0, rv X (oH o)), (1, iv d)] rfl (by decide) rfl dX3_setOn_25 ?_
        refine r_goto (pc := 28) 4 dX3_setOn_28 (by decide) ?_
        refine r_lv [2, 3, 1, 0] [(0, rv X (oH o)), (1, iv d), (2, iv ((bset (onN O d (k + 1)) 16 : Nat) : Int)), (3, iv (k + 1))] rfl ?_
        exact ih4 ((bset (onN O d (k + 1)) 16 : Nat) : Int) (k + 1) (by omega) (by omega) (by omega) (rfl)
  refine r_lv [2, 3, 1, 0] [(0, rv X (oH o)), (1, iv d), (2, iv 0), (3, iv 0)] rfl ?_
  exact at4 _ 0 0 (Nat.lt_succ_self _) (by omega) (by omega) (bs_0 (fun p _ _ => onN_0))

set_option maxRecDepth 100000 in
set_option maxHeartbeats 4000000 in
theorem kX3_deskOf (X : XC) {I : HD} {O : OF} {o : Nat} (h_o : o < 28) (hR : RepC O I o) (hV : Val O) {p : Int} (hp0 : 0 ≤ p) (hp1 : p < O 1) : Cl X 2 mX3_deskOf [rv X (oH o), iv p] I (Ki (dk O p) I) := by
  refine Cl.of (by decide) (Nat.le_of_ble_eq_true rfl) ?_
  show Rn X 2 mX3_deskOf _ 0 [(0, rv X (oH o)), (1, iv p)] [] I
  have q0 := hV.a
  refine r_iconst (pc := 0) dX3_deskOf_0 ?_
  refine r_istore_n (pc := 1) (a := 2) (i := 2) rfl [(2, iv 0), (0, rv X (oH o)), (1, iv p)] (by decide) rfl dX3_deskOf_1 ?_
  have at2 : ∀ (n2 : Nat) (d : Int), (O 0 - d).toNat < n2 → (hd0 : 0 ≤ d) → (hd1 : d ≤ O 0) → (hno : ∀ e, 0 ≤ e → e < d → ¬ onD O e p) → Rn X 2 mX3_deskOf (Ki (dk O p) I) 2 [(0, rv X (oH o)), (1, iv p), (2, iv d)] [] I := by
    intro n2
    induction n2 with
    | zero => intro d hm; omega
    | succ n2 ih2 =>
      intro d hm2 hd0 hd1 hno
      refine r_iload_n (pc := 2) (a := 2) (i := 2) 2 rfl rfl dX3_deskOf_2 ?_
      refine r_aload_n (pc := 3) (a := 0) (i := 0) 0 rfl rfl dX3_deskOf_3 ?_
      refine r_get (pc := 4) ckX3 (oH_lt (h_o)) (cellO (h_o)) (j := 8) (by decide) (show _ = some (iv (O 0)) by rw [← hR.f0]; rfl) kf_X3_36 dX3_deskOf_4 ?_
      refine r_icmp_ge (pc := 7) 30 (by unfold rg; omega) (by unfold rg; omega) dX3_deskOf_7 (by decide) (fun h7 => ?_) (fun h7 => ?_)
      · skip
        refine r_iconst (pc := 30) dX3_deskOf_30 ?_
        refine r_iret (pc := 31) (st := []) rfl dX3_deskOf_31 ?_
        exact ⟨by rw [isD_u hV (Or.inl ⟨rfl, fun e a b => hno e a (by omega)⟩)], rfl⟩
      · skip
        refine r_aload_n (pc := 10) (a := 0) (i := 0) 0 rfl rfl dX3_deskOf_10 ?_
        refine r_iload_n (pc := 11) (a := 2) (i := 2) 2 rfl rfl dX3_deskOf_11 ?_
        refine r_callVi (pc := 12) (st := []) (As := [iv d]) okX3_setOn (by decide) (oH_lt (h_o)) (cellO (h_o)) rfl rfl (Nat.le_of_ble_eq_true rfl) km_X3_74 (kX3_setOn X h_o hR hV (by omega) (by omega)) dX3_deskOf_12 ?_
        refine r_iload_n (pc := 15) (a := 1) (i := 1) 1 rfl rfl dX3_deskOf_15 ?_
        refine r_ishr (pc := 16) (z := ((bset (onD O d) 16 >>> (p).toNat : Nat) : Int)) (bs_shr (by omega) (by omega)) dX3_deskOf_16 ?_
        refine r_iconst (pc := 17) dX3_deskOf_17 ?_
        refine r_iand (pc := 18) (z := bI (onD O d p)) (bs_bit (by omega) (by omega)) dX3_deskOf_18 ?_
        refine r_if_eq (pc := 19) 24 rg_bI dX3_deskOf_19 (by decide) (fun h19 => ?_) (fun h19 => ?_)
        · skip
          have h19 := bI_0.mp h19
          refine r_iinc (pc := 24) 2 [(2, iv (d + 1)), (0, rv X (oH o)), (1, iv p)] rfl (by decide) rfl dX3_deskOf_24 ?_
          refine r_goto (pc := 27) 2 dX3_deskOf_27 (by decide) ?_
          refine r_lv [1, 2, 0] [(0, rv X (oH o)), (1, iv p), (2, iv (d + 1))] rfl ?_
          exact ih2 (d + 1) (by omega) (by omega) (by omega) (fun e a b => (Classical.em (e = d)).elim (fun q => by rw [q]; exact h19) (fun q => hno e a (by omega)))
        · skip
          have h19 := bI_n.mp h19
          refine r_iload_n (pc := 22) (a := 2) (i := 2) 2 rfl rfl dX3_deskOf_22 ?_
          refine r_iret (pc := 23) (st := []) rfl dX3_deskOf_23 ?_
          exact ⟨by rw [isD_u hV (Or.inr ⟨hd0, by omega, h19⟩)], rfl⟩
  refine r_lv [1, 2, 0] [(0, rv X (oH o)), (1, iv p), (2, iv 0)] rfl ?_
  exact at2 _ 0 (Nat.lt_succ_self _) (by omega) (by omega) (fun e a b => absurd b (by omega))

set_option maxRecDepth 100000 in
set_option maxHeartbeats 4000000 in
theorem kX3_above (X : XC) {I : HD} {O : OF} {o : Nat} (h_o : o < 28) (hR : RepC O I o) (hV : Val O) {p : Int} (hp0 : 0 ≤ p) (hp1 : p < O 1) : Cl X 3 mX3_above [rv X (oH o), iv p] I (Ki (ab O p) I) := by
  refine Cl.of (by decide) (Nat.le_of_ble_eq_true rfl) ?_
  show Rn X 3 mX3_above _ 0 [(0, rv X (oH o)), (1, iv p)] [] I
  have q0 := hV.a
  have ql := @dk_lt O p
  refine r_aload_n (pc := 0) (a := 0) (i := 0) 0 rfl rfl dX3_above_0 ?_
  refine r_iload_n (pc := 1) (a := 1) (i := 1) 1 rfl rfl dX3_above_1 ?_
  refine r_callVi (pc := 2) (st := []) (As := [iv p]) okX3_deskOf (by decide) (oH_lt (h_o)) (cellO (h_o)) rfl rfl (Nat.le_of_ble_eq_true rfl) km_X3_63 (kX3_deskOf X h_o hR hV (by omega) (by omega)) dX3_above_2 ?_
  refine r_istore_n (pc := 5) (a := 2) (i := 2) rfl [(2, iv (dk O p)), (0, rv X (oH o)), (1, iv p)] (by decide) rfl dX3_above_5 ?_
  refine r_iload_n (pc := 6) (a := 2) (i := 2) 0 rfl rfl dX3_above_6 ?_
  refine r_if_ge (pc := 7) 12 (by unfold rg; omega) dX3_above_7 (by decide) (fun h7 => ?_) (fun h7 => ?_)
  · skip
    obtain ⟨w0, k9, w1, w2, w3⟩ := dk_on h7
    have q1 := hV.d h7 w0
    refine r_iconst (pc := 12) dX3_above_12 ?_
    refine r_istore_n (pc := 13) (a := 3) (i := 3) rfl [(3, iv 0), (2, iv (dk O p)), (0, rv X (oH o)), (1, iv p)] (by decide) rfl dX3_above_13 ?_
    refine r_aload_n (pc := 14) (a := 0) (i := 0) 2 rfl rfl dX3_above_14 ?_
    refine r_get (pc := 15) ckX3 (oH_lt (h_o)) (cellO (h_o)) (j := 3) (by decide) rfl kf_X3_21 dX3_above_15 ?_
    refine r_iload_n (pc := 18) (a := 2) (i := 2) 1 rfl rfl dX3_above_18 ?_
    refine r_iald (pc := 19) (z := O (23 + 10 * (dk O p))) (oH_lt4 (h_o)) ((cellO4 (h_o)) _) (by omega) (by omega) (by decide) (hR.hgt (by omega) (by omega)) dX3_above_19 ?_
    refine r_iconst (pc := 20) dX3_above_20 ?_
    refine r_isub (pc := 21) dX3_above_21 ?_
    refine r_istore (pc := 22) [(4, iv ((O (23 + 10 * (dk O p))) - 1)), (3, iv 0), (2, iv (dk O p)), (0, rv X (oH o)), (1, iv p)] (by decide) rfl dX3_above_22 ?_
    have at24 : ∀ (n24 : Nat) (a : Int) (i : Int), (i + 1).toNat < n24 → (ha0 : 0 ≤ a) → (hi : i = O (23 + 10 * dk O p) - 1 - a) → (hk : k9 ≤ i) → Rn X 3 mX3_above (Ki (ab O p) I) 24 [(0, rv X (oH o)), (1, iv p), (2, iv (dk O p)), (3, iv a), (4, iv i)] [] I := by
      intro n24
      induction n24 with
      | zero => intro a i hm; omega
      | succ n24 ih24 =>
        intro a i hm24 ha0 hi hk
        refine r_iload (pc := 24) 4 rfl dX3_above_24 ?_
        refine r_if_lt (pc := 26) 49 (by unfold rg; omega) dX3_above_26 (by decide) (fun h26 => ?_) (fun h26 => ?_)
        · exact absurd h26 (by omega)
        · skip
          refine r_aload_n (pc := 29) (a := 0) (i := 0) 0 rfl rfl dX3_above_29 ?_
          refine r_iload_n (pc := 30) (a := 2) (i := 2) 2 rfl rfl dX3_above_30 ?_
          refine r_iload (pc := 31) 4 rfl dX3_above_31 ?_
          refine r_callVi (pc := 33) (st := []) (As := [iv (dk O p), iv i]) okX3_at (by decide) (oH_lt (h_o)) (cellO (h_o)) rfl rfl (Nat.le_of_ble_eq_true rfl) km_X3_70 (kX3_at X h_o hR hV (by omega) (by omega) (by omega) (by omega)) dX3_above_33 ?_
          have qk := hV.k h7 w0 (k := i) (by omega) (by omega)
          refine r_iload_n (pc := 36) (a := 1) (i := 1) 1 rfl rfl dX3_above_36 ?_
          refine r_icmp_eq (pc := 37) 49 (by unfold rg; omega) (by unfold rg; omega) dX3_above_37 (by decide) (fun h37 => ?_) (fun h37 => ?_)
          · skip
            refine r_iload_n (pc := 49) (a := 3) (i := 3) 3 rfl rfl dX3_above_49 ?_
            refine r_iret (pc := 50) (st := []) rfl dX3_above_50 ?_
            exact ⟨by rw [isA_u hV (Or.inr ⟨h7, ha0, by omega, by rw [← hi]; exact h37⟩)], rfl⟩
          · skip
            refine r_iinc (pc := 40) 3 [(3, iv (a + 1)), (0, rv X (oH o)), (1, iv p), (2, iv (dk O p)), (4, iv i)] rfl (by decide) rfl dX3_above_40 ?_
            refine r_iinc (pc := 43) 4 [(4, iv (i + (-1))), (3, iv (a + 1)), (0, rv X (oH o)), (1, iv p), (2, iv (dk O p))] rfl (by decide) rfl dX3_above_43 ?_
            refine r_goto (pc := 46) 24 dX3_above_46 (by decide) ?_
            refine r_lv [2, 3, 4, 1, 0] [(0, rv X (oH o)), (1, iv p), (2, iv (dk O p)), (3, iv (a + 1)), (4, iv (i + (-1)))] rfl ?_
            exact ih24 (a + 1) (i + (-1)) (by omega) (by omega) (by omega) (by have : i ≠ k9 := fun q => h37 (by rw [q]; exact w3); omega)
    refine r_lv [3, 4, 2, 1, 0] [(0, rv X (oH o)), (1, iv p), (2, iv (dk O p)), (3, iv 0), (4, iv ((O (23 + 10 * (dk O p))) - 1))] rfl ?_
    exact at24 _ 0 ((O (23 + 10 * (dk O p))) - 1) (Nat.lt_succ_self _) (by omega) (by omega) (by omega)
  · skip
    refine r_iconst (pc := 10) dX3_above_10 ?_
    refine r_iret (pc := 11) (st := []) rfl dX3_above_11 ?_
    exact ⟨by rw [isA_u hV (Or.inl ⟨h7, rfl⟩)], rfl⟩

set_option maxRecDepth 100000 in
set_option maxHeartbeats 4000000 in
theorem kX3_isGone (X : XC) {I : HD} {O : OF} {o : Nat} (h_o : o < 28) (hR : RepC O I o) (hV : Val O) {p : Int} (hp0 : 0 ≤ p) (hp1 : p < O 1) : Cl X 3 mX3_isGone [rv X (oH o), iv p] I (Ki (bI (dk O p < 0)) I) := by
  refine Cl.of (by decide) (Nat.le_of_ble_eq_true rfl) ?_
  show Rn X 3 mX3_isGone _ 0 [(0, rv X (oH o)), (1, iv p)] [] I
  have q0 := hV.a
  have ql := @dk_lt O p
  refine r_aload_n (pc := 0) (a := 0) (i := 0) 0 rfl rfl dX3_isGone_0 ?_
  refine r_iload_n (pc := 1) (a := 1) (i := 1) 1 rfl rfl dX3_isGone_1 ?_
  refine r_callVi (pc := 2) (st := []) (As := [iv p]) okX3_deskOf (by decide) (oH_lt (h_o)) (cellO (h_o)) rfl rfl (Nat.le_of_ble_eq_true rfl) km_X3_63 (kX3_deskOf X h_o hR hV (by omega) (by omega)) dX3_isGone_2 ?_
  refine r_if_ge (pc := 5) 12 (by unfold rg; omega) dX3_isGone_5 (by decide) (fun h5 => ?_) (fun h5 => ?_)
  · skip
    refine r_iconst (pc := 12) dX3_isGone_12 ?_
    refine r_zret (pc := 13) (st := []) rfl (rfl) dX3_isGone_13 ?_
    exact ⟨by rw [bI_f (by omega)], rfl⟩
  · skip
    refine r_iconst (pc := 8) dX3_isGone_8 ?_
    refine r_goto (pc := 9) 13 dX3_isGone_9 (by decide) ?_
    refine r_zret (pc := 13) (st := []) rfl (rfl) dX3_isGone_13 ?_
    exact ⟨by rw [bI_t (by omega)], rfl⟩

set_option maxRecDepth 100000 in
set_option maxHeartbeats 4000000 in
theorem kX3_isMet (X : XC) {I : HD} {O : OF} {o : Nat} (h_o : o < 28) (hR : RepC O I o) (hV : Val O) {p : Int} (hp0 : 0 ≤ p) (hp1 : p < O 1) : Cl X 0 mX3_isMet [rv X (oH o), iv p] I (Ki (bI (O (66 + 4 * p) = 1)) I) := by
  refine Cl.of (by decide) (Nat.le_of_ble_eq_true rfl) ?_
  show Rn X 0 mX3_isMet _ 0 [(0, rv X (oH o)), (1, iv p)] [] I
  have q0 := hV.a
  refine r_aload_n (pc := 0) (a := 0) (i := 0) 0 rfl rfl dX3_isMet_0 ?_
  refine r_get (pc := 1) ckX3 (oH_lt (h_o)) (cellO (h_o)) (j := 11) (by decide) (show _ = some (iv (bset (fun p => p < O 1 ∧ O (66 + 4 * p) = 1) 16 : Nat)) by rw [← hR.met]; rfl) kf_X3_46 dX3_isMet_1 ?_
  refine r_iload_n (pc := 4) (a := 1) (i := 1) 1 rfl rfl dX3_isMet_4 ?_
  refine r_ishr (pc := 5) (z := ((bset (fun p => p < O 1 ∧ O (66 + 4 * p) = 1) 16 >>> (p).toNat : Nat) : Int)) (bs_shr (by omega) (by omega)) dX3_isMet_5 ?_
  refine r_iconst (pc := 6) dX3_isMet_6 ?_
  refine r_iand (pc := 7) (z := bI (p < O 1 ∧ O (66 + 4 * p) = 1)) (bs_bit (f := (fun p => p < O 1 ∧ O (66 + 4 * p) = 1)) (by omega) (by omega)) dX3_isMet_7 ?_
  refine r_if_eq (pc := 8) 15 rg_bI dX3_isMet_8 (by decide) (fun h8 => ?_) (fun h8 => ?_)
  · skip
    have h8 := bI_0.mp h8
    refine r_iconst (pc := 15) dX3_isMet_15 ?_
    refine r_zret (pc := 16) (st := []) rfl (rfl) dX3_isMet_16 ?_
    exact ⟨by rw [bI_f (by omega)], rfl⟩
  · skip
    have h8 := bI_n.mp h8
    refine r_iconst (pc := 11) dX3_isMet_11 ?_
    refine r_goto (pc := 12) 16 dX3_isMet_12 (by decide) ?_
    refine r_zret (pc := 16) (st := []) rfl (rfl) dX3_isMet_16 ?_
    exact ⟨by rw [bI_t (by omega)], rfl⟩

set_option maxRecDepth 100000 in
set_option maxHeartbeats 4000000 in
theorem kX3_isMissed (X : XC) {I : HD} {O : OF} {o : Nat} (h_o : o < 28) (hR : RepC O I o) (hV : Val O) {p : Int} (hp0 : 0 ≤ p) (hp1 : p < O 1) : Cl X 4 mX3_isMissed [rv X (oH o), iv p] I (Ki (bI (mis O p)) I) := by
  refine Cl.of (by decide) (Nat.le_of_ble_eq_true rfl) ?_
  show Rn X 4 mX3_isMissed _ 0 [(0, rv X (oH o)), (1, iv p)] [] I
  have q0 := hV.a
  have qp := hV.p hp0 hp1
  refine r_aload_n (pc := 0) (a := 0) (i := 0) 0 rfl rfl dX3_isMissed_0 ?_
  refine r_get (pc := 1) ckX3 (oH_lt (h_o)) (cellO (h_o)) (j := 7) (by decide) rfl kf_X3_33 dX3_isMissed_1 ?_
  refine r_iload_n (pc := 4) (a := 1) (i := 1) 1 rfl rfl dX3_isMissed_4 ?_
  refine r_iald (pc := 5) (z := O (65 + 4 * p)) (oH_lt8 (h_o)) ((cellO8 (h_o)) _) (by omega) (by omega) (by decide) (hR.need (by omega) (by omega)) dX3_isMissed_5 ?_
  refine r_bipush (pc := 6) rfl dX3_isMissed_6 ?_
  refine r_icmp_ge (pc := 8) 44 (by unfold rg; omega) (by unfold rg; omega) dX3_isMissed_8 (by decide) (fun h8 => ?_) (fun h8 => ?_)
  · skip
    refine r_iconst (pc := 44) dX3_isMissed_44 ?_
    refine r_zret (pc := 45) (st := []) rfl (rfl) dX3_isMissed_45 ?_
    exact ⟨by rw [bI_f (show ¬ mis O p by unfold mis; omega)], rfl⟩
  · skip
    refine r_aload_n (pc := 11) (a := 0) (i := 0) 0 rfl rfl dX3_isMissed_11 ?_
    refine r_iload_n (pc := 12) (a := 1) (i := 1) 1 rfl rfl dX3_isMissed_12 ?_
    refine r_callVi (pc := 13) (st := []) (As := [iv p]) okX3_isMet (by decide) (oH_lt (h_o)) (cellO (h_o)) rfl rfl (Nat.le_of_ble_eq_true rfl) km_X3_77 (kX3_isMet X h_o hR hV (by omega) (by omega)) dX3_isMissed_13 ?_
    refine r_if_ne (pc := 16) 44 rg_bI dX3_isMissed_16 (by decide) (fun h16 => ?_) (fun h16 => ?_)
    · skip
      have h16 := bI_n.mp h16
      refine r_iconst (pc := 44) dX3_isMissed_44 ?_
      refine r_zret (pc := 45) (st := []) rfl (rfl) dX3_isMissed_45 ?_
      exact ⟨by rw [bI_f (show ¬ mis O p by unfold mis; omega)], rfl⟩
    · skip
      have h16 := bI_0.mp h16
      refine r_aload_n (pc := 19) (a := 0) (i := 0) 0 rfl rfl dX3_isMissed_19 ?_
      refine r_iload_n (pc := 20) (a := 1) (i := 1) 1 rfl rfl dX3_isMissed_20 ?_
      refine r_callVi (pc := 21) (st := []) (As := [iv p]) okX3_isGone (by decide) (oH_lt (h_o)) (cellO (h_o)) rfl rfl (Nat.le_of_ble_eq_true rfl) km_X3_80 (kX3_isGone X h_o hR hV (by omega) (by omega)) dX3_isMissed_21 ?_
      refine r_if_ne (pc := 24) 40 rg_bI dX3_isMissed_24 (by decide) (fun h24 => ?_) (fun h24 => ?_)
      · skip
        have h24 := bI_n.mp h24
        refine r_iconst (pc := 40) dX3_isMissed_40 ?_
        refine r_goto (pc := 41) 45 dX3_isMissed_41 (by decide) ?_
        refine r_zret (pc := 45) (st := []) rfl (rfl) dX3_isMissed_45 ?_
        exact ⟨by rw [bI_t (show mis O p by unfold mis; omega)], rfl⟩
      · skip
        have h24 := bI_0.mp h24
        refine r_aload_n (pc := 27) (a := 0) (i := 0) 0 rfl rfl dX3_isMissed_27 ?_
        refine r_get (pc := 28) ckX3 (oH_lt (h_o)) (cellO (h_o)) (j := 10) (by decide) (show _ = some (iv (O 2)) by rw [← hR.f2]; rfl) kf_X3_43 dX3_isMissed_28 ?_
        refine r_aload_n (pc := 31) (a := 0) (i := 0) 0 rfl rfl dX3_isMissed_31 ?_
        refine r_get (pc := 32) ckX3 (oH_lt (h_o)) (cellO (h_o)) (j := 7) (by decide) rfl kf_X3_33 dX3_isMissed_32 ?_
        refine r_iload_n (pc := 35) (a := 1) (i := 1) 1 rfl rfl dX3_isMissed_35 ?_
        refine r_iald (pc := 36) (z := O (65 + 4 * p)) (oH_lt8 (h_o)) ((cellO8 (h_o)) _) (by omega) (by omega) (by decide) (hR.need (by omega) (by omega)) dX3_isMissed_36 ?_
        refine r_icmp_le (pc := 37) 44 (by unfold rg; omega) (by unfold rg; omega) dX3_isMissed_37 (by decide) (fun h37 => ?_) (fun h37 => ?_)
        · skip
          refine r_iconst (pc := 44) dX3_isMissed_44 ?_
          refine r_zret (pc := 45) (st := []) rfl (rfl) dX3_isMissed_45 ?_
          exact ⟨by rw [bI_f (show ¬ mis O p by unfold mis; omega)], rfl⟩
        · skip
          refine r_iconst (pc := 40) dX3_isMissed_40 ?_
          refine r_goto (pc := 41) 45 dX3_isMissed_41 (by decide) ?_
          refine r_zret (pc := 45) (st := []) rfl (rfl) dX3_isMissed_45 ?_
          exact ⟨by rw [bI_t (show mis O p by unfold mis; omega)], rfl⟩

set_option maxRecDepth 100000 in
set_option maxHeartbeats 4000000 in
theorem kX3_missedSet (X : XC) {I : HD} {O : OF} {o : Nat} (h_o : o < 28) (hR : RepC O I o) (hV : Val O) : Cl X 5 mX3_missedSet [rv X (oH o)] I (Ki ((bset (fun x => x < O 1 ∧ mis O x) 16 : Nat) : Int) I) := by
  refine Cl.of (by decide) (Nat.le_of_ble_eq_true rfl) ?_
  show Rn X 5 mX3_missedSet _ 0 [(0, rv X (oH o))] [] I
  have q0 := hV.a
  refine r_iconst (pc := 0) dX3_missedSet_0 ?_
  refine r_istore_n (pc := 1) (a := 1) (i := 1) rfl [(1, iv 0), (0, rv X (oH o))] (by decide) rfl dX3_missedSet_1 ?_
  refine r_iconst (pc := 2) dX3_missedSet_2 ?_
  refine r_istore_n (pc := 3) (a := 2) (i := 2) rfl [(2, iv 0), (1, iv 0), (0, rv X (oH o))] (by decide) rfl dX3_missedSet_3 ?_
  have at4 : ∀ (n4 : Nat) (s : Int) (p : Int), (O 1 - p).toNat < n4 → (hp0 : 0 ≤ p) → (hp1 : p ≤ O 1) → (hs : s = ((bset (fun x => x < p ∧ mis O x) 16 : Nat) : Int)) → Rn X 5 mX3_missedSet (Ki ((bset (fun x => x < O 1 ∧ mis O x) 16 : Nat) : Int) I) 4 [(0, rv X (oH o)), (1, iv s), (2, iv p)] [] I := by
    intro n4
    induction n4 with
    | zero => intro s p hm; omega
    | succ n4 ih4 =>
      intro s p hm4 hp0 hp1 hs
      refine r_iload_n (pc := 4) (a := 2) (i := 2) 2 rfl rfl dX3_missedSet_4 ?_
      refine r_aload_n (pc := 5) (a := 0) (i := 0) 0 rfl rfl dX3_missedSet_5 ?_
      refine r_get (pc := 6) ckX3 (oH_lt (h_o)) (cellO (h_o)) (j := 9) (by decide) (show _ = some (iv (O 1)) by rw [← hR.f1]; rfl) kf_X3_40 dX3_missedSet_6 ?_
      refine r_icmp_ge (pc := 9) 32 (by unfold rg; omega) (by unfold rg; omega) dX3_missedSet_9 (by decide) (fun h9 => ?_) (fun h9 => ?_)
      · skip
        refine r_iload_n (pc := 32) (a := 1) (i := 1) 1 rfl rfl dX3_missedSet_32 ?_
        refine r_iret (pc := 33) (st := []) rfl dX3_missedSet_33 ?_
        exact ⟨by rw [hs, show p = O 1 by omega], rfl⟩
      · skip
        refine r_aload_n (pc := 12) (a := 0) (i := 0) 0 rfl rfl dX3_missedSet_12 ?_
        refine r_iload_n (pc := 13) (a := 2) (i := 2) 2 rfl rfl dX3_missedSet_13 ?_
        refine r_callVi (pc := 14) (st := []) (As := [iv p]) okX3_isMissed (by decide) (oH_lt (h_o)) (cellO (h_o)) rfl rfl (Nat.le_of_ble_eq_true rfl) km_X3_83 (kX3_isMissed X h_o hR hV (by omega) (by omega)) dX3_missedSet_14 ?_
        have at26 : ∀ (s2 : Int), (hs2 : s2 = ((bset (fun x => x < p + 1 ∧ mis O x) 16 : Nat) : Int)) → Rn X 5 mX3_missedSet (Ki ((bset (fun x => x < O 1 ∧ mis O x) 16 : Nat) : Int) I) 26 [(0, rv X (oH o)), (1, iv s2), (2, iv p)] [] I := by
          intro s2 hs2
          refine r_iinc (pc := 26) 2 [(2, iv (p + 1)), (0, rv X (oH o)), (1, iv s2)] rfl (by decide) rfl dX3_missedSet_26 ?_
          refine r_goto (pc := 29) 4 dX3_missedSet_29 (by decide) ?_
          refine r_lv [1, 2, 0] [(0, rv X (oH o)), (1, iv s2), (2, iv (p + 1))] rfl ?_
          exact ih4 s2 (p + 1) (by omega) (by omega) (by omega) (hs2)
        refine r_if_eq (pc := 17) 26 rg_bI dX3_missedSet_17 (by decide) (fun h17 => ?_) (fun h17 => ?_)
        · skip
          have h17 := bI_0.mp h17
          refine r_lv [0, 1, 2] [(0, rv X (oH o)), (1, iv s), (2, iv p)] rfl ?_
          exact at26 s (by rw [hs, bs_skip h17])
        · skip
          have h17 := bI_n.mp h17
          refine r_iload_n (pc := 20) (a := 1) (i := 1) 1 rfl rfl dX3_missedSet_20 ?_
          refine r_iconst (pc := 21) dX3_missedSet_21 ?_
          refine r_iload_n (pc := 22) (a := 2) (i := 2) 2 rfl rfl dX3_missedSet_22 ?_
          refine r_ishl (pc := 23) (z := ((2 ^ (p).toNat : Nat) : Int)) (sh_1 (by omega) (by omega)) dX3_missedSet_23 ?_
          refine r_ior (pc := 24) (z := ((bset (fun x => x < p + 1 ∧ mis O x) 16 : Nat) : Int)) (by rw [hs, bs_add (by omega) (by omega), bs_take h17]) dX3_missedSet_24 ?_
          refine r_istore_n (pc := 25) (a := 1) (i := 1) rfl [(1, iv ((bset (fun x => x < p + 1 ∧ mis O x) 16 : Nat) : Int)), (0, rv X (oH o)), (2, iv p)] (by decide) rfl dX3_missedSet_25 ?_
          refine r_lv [1, 0, 2] [(0, rv X (oH o)), (1, iv ((bset (fun x => x < p + 1 ∧ mis O x) 16 : Nat) : Int)), (2, iv p)] rfl ?_
          exact at26 ((bset (fun x => x < p + 1 ∧ mis O x) 16 : Nat) : Int) (rfl)
  refine r_lv [2, 1, 0] [(0, rv X (oH o)), (1, iv 0), (2, iv 0)] rfl ?_
  exact at4 _ 0 0 (Nat.lt_succ_self _) (by omega) (by omega) (bs_0 (fun x _ _ q => absurd q.1 (by omega)))

set_option maxRecDepth 100000 in
set_option maxHeartbeats 4000000 in
theorem kX3_goneSet (X : XC) {I : HD} {O : OF} {o : Nat} (h_o : o < 28) (hR : RepC O I o) (hV : Val O) : Cl X 2 mX3_goneSet [rv X (oH o)] I (Ki ((bset (fun x => x < O 1 ∧ dk O x < 0) 16 : Nat) : Int) I) := by
  refine Cl.of (by decide) (Nat.le_of_ble_eq_true rfl) ?_
  show Rn X 2 mX3_goneSet _ 0 [(0, rv X (oH o))] [] I
  have q0 := hV.a
  refine r_iconst (pc := 0) dX3_goneSet_0 ?_
  refine r_aload_n (pc := 1) (a := 0) (i := 0) 0 rfl rfl dX3_goneSet_1 ?_
  refine r_get (pc := 2) ckX3 (oH_lt (h_o)) (cellO (h_o)) (j := 9) (by decide) (show _ = some (iv (O 1)) by rw [← hR.f1]; rfl) kf_X3_40 dX3_goneSet_2 ?_
  refine r_ishl (pc := 5) (z := ((2 ^ (O 1).toNat : Nat) : Int)) (sh_1 (by omega) (by omega)) dX3_goneSet_5 ?_
  refine r_iconst (pc := 6) dX3_goneSet_6 ?_
  refine r_isub (pc := 7) dX3_goneSet_7 ?_
  refine r_istore_n (pc := 8) (a := 1) (i := 1) rfl [(1, iv (((2 ^ (O 1).toNat : Nat) : Int) - 1)), (0, rv X (oH o))] (by decide) rfl dX3_goneSet_8 ?_
  refine r_iconst (pc := 9) dX3_goneSet_9 ?_
  refine r_istore_n (pc := 10) (a := 2) (i := 2) rfl [(2, iv 0), (1, iv (((2 ^ (O 1).toNat : Nat) : Int) - 1)), (0, rv X (oH o))] (by decide) rfl dX3_goneSet_10 ?_
  have at11 : ∀ (n11 : Nat) (s : Int) (d : Int), (O 0 - d).toNat < n11 → (hd0 : 0 ≤ d) → (hd1 : d ≤ O 0) → (hs : s = ((bset (fun x => x < O 1 ∧ ∀ e, 0 ≤ e → e < d → ¬ onD O e x) 16 : Nat) : Int)) → Rn X 2 mX3_goneSet (Ki ((bset (fun x => x < O 1 ∧ dk O x < 0) 16 : Nat) : Int) I) 11 [(0, rv X (oH o)), (1, iv s), (2, iv d)] [] I := by
    intro n11
    induction n11 with
    | zero => intro s d hm; omega
    | succ n11 ih11 =>
      intro s d hm11 hd0 hd1 hs
      refine r_iload_n (pc := 11) (a := 2) (i := 2) 2 rfl rfl dX3_goneSet_11 ?_
      refine r_aload_n (pc := 12) (a := 0) (i := 0) 0 rfl rfl dX3_goneSet_12 ?_
      refine r_get (pc := 13) ckX3 (oH_lt (h_o)) (cellO (h_o)) (j := 8) (by decide) (show _ = some (iv (O 0)) by rw [← hR.f0]; rfl) kf_X3_36 dX3_goneSet_13 ?_
      refine r_icmp_ge (pc := 16) 35 (by unfold rg; omega) (by unfold rg; omega) dX3_goneSet_16 (by decide) (fun h16 => ?_) (fun h16 => ?_)
      · skip
        refine r_iload_n (pc := 35) (a := 1) (i := 1) 1 rfl rfl dX3_goneSet_35 ?_
        refine r_iret (pc := 36) (st := []) rfl dX3_goneSet_36 ?_
        exact ⟨by rw [hs]; exact congrArg (fun q => some (iv q)) (bs_c' fun x _ _ => ⟨fun q => ⟨q.1, dk_neg fun e a b => q.2 e a (by omega)⟩, fun q => ⟨q.1, fun e a b => dk_no q.2 e a (by omega)⟩⟩), rfl⟩
      · skip
        refine r_iload_n (pc := 19) (a := 1) (i := 1) 1 rfl rfl dX3_goneSet_19 ?_
        refine r_aload_n (pc := 20) (a := 0) (i := 0) 0 rfl rfl dX3_goneSet_20 ?_
        refine r_iload_n (pc := 21) (a := 2) (i := 2) 2 rfl rfl dX3_goneSet_21 ?_
        refine r_callVi (pc := 22) (st := [iv s]) (As := [iv d]) okX3_setOn (by decide) (oH_lt (h_o)) (cellO (h_o)) rfl rfl (Nat.le_of_ble_eq_true rfl) km_X3_74 (kX3_setOn X h_o hR hV (by omega) (by omega)) dX3_goneSet_22 ?_
        refine r_iconst (pc := 25) dX3_goneSet_25 ?_
        refine r_ixor (pc := 26) (z := -1 - ((bset (onD O d) 16 : Nat) : Int)) (iI_not _) dX3_goneSet_26 ?_
        refine r_iand (pc := 27) (z := ((bset (fun x => x < O 1 ∧ ∀ e, 0 ≤ e → e < d + 1 → ¬ onD O e x) 16 : Nat) : Int)) (by rw [hs, bs_andn]; exact bs_c fun x _ _ => ⟨fun q => ⟨q.1.1, fun e a b => (Classical.em (e = d)).elim (fun z => by rw [z]; exact q.2) (fun z => q.1.2 e a (by omega))⟩, fun q => ⟨⟨q.1, fun e a b => q.2 e a (by omega)⟩, q.2 d hd0 (by omega)⟩⟩) dX3_goneSet_27 ?_
        refine r_istore_n (pc := 28) (a := 1) (i := 1) rfl [(1, iv ((bset (fun x => x < O 1 ∧ ∀ e, 0 ≤ e → e < d + 1 → ¬ onD O e x) 16 : Nat) : Int)), (0, rv X (oH o)), (2, iv d)] (by decide) rfl dX3_goneSet_28 ?_
        refine r_iinc (pc := 29) 2 [(2, iv (d + 1)), (1, iv ((bset (fun x => x < O 1 ∧ ∀ e, 0 ≤ e → e < d + 1 → ¬ onD O e x) 16 : Nat) : Int)), (0, rv X (oH o))] rfl (by decide) rfl dX3_goneSet_29 ?_
        refine r_goto (pc := 32) 11 dX3_goneSet_32 (by decide) ?_
        refine r_lv [2, 1, 0] [(0, rv X (oH o)), (1, iv ((bset (fun x => x < O 1 ∧ ∀ e, 0 ≤ e → e < d + 1 → ¬ onD O e x) 16 : Nat) : Int)), (2, iv (d + 1))] rfl ?_
        exact ih11 ((bset (fun x => x < O 1 ∧ ∀ e, 0 ≤ e → e < d + 1 → ¬ onD O e x) 16 : Nat) : Int) (d + 1) (by omega) (by omega) (by omega) (rfl)
  refine r_lv [2, 1, 0] [(0, rv X (oH o)), (1, iv (((2 ^ (O 1).toNat : Nat) : Int) - 1)), (2, iv 0)] rfl ?_
  exact at11 _ (((2 ^ (O 1).toNat : Nat) : Int) - 1) 0 (Nat.lt_succ_self _) (by omega) (by omega) (by rw [bs_all (by omega) (by omega)]; exact bs_c' fun x _ _ => ⟨fun q => ⟨q, fun e a b => absurd b (by omega)⟩, fun q => q.1⟩)

set_option maxRecDepth 100000 in
set_option maxHeartbeats 4000000 in
theorem kX3_worthOf (X : XC) {I : HD} {O : OF} {o : Nat} (h_o : o < 28) (hR : RepC O I o) (hV : Val O) (f : Int → Prop) : Cl X 0 mX3_worthOf [rv X (oH o), iv ((bset (f) 16 : Nat) : Int)] I (Ki (wsum O f (O 1).toNat) I) := by
  refine Cl.of (by decide) (Nat.le_of_ble_eq_true rfl) ?_
  show Rn X 0 mX3_worthOf _ 0 [(0, rv X (oH o)), (1, iv ((bset (f) 16 : Nat) : Int))] [] I
  have q0 := hV.a
  refine r_iconst (pc := 0) dX3_worthOf_0 ?_
  refine r_istore_n (pc := 1) (a := 2) (i := 2) rfl [(2, iv 0), (0, rv X (oH o)), (1, iv ((bset (f) 16 : Nat) : Int))] (by decide) rfl dX3_worthOf_1 ?_
  refine r_iconst (pc := 2) dX3_worthOf_2 ?_
  refine r_istore_n (pc := 3) (a := 3) (i := 3) rfl [(3, iv 0), (2, iv 0), (0, rv X (oH o)), (1, iv ((bset (f) 16 : Nat) : Int))] (by decide) rfl dX3_worthOf_3 ?_
  have at4 : ∀ (n4 : Nat) (t : Int) (i : Int), (O 1 - i).toNat < n4 → (hi0 : 0 ≤ i) → (hi1 : i ≤ O 1) → (ht : t = wsum O f i.toNat) → Rn X 0 mX3_worthOf (Ki (wsum O f (O 1).toNat) I) 4 [(0, rv X (oH o)), (1, iv ((bset (f) 16 : Nat) : Int)), (2, iv t), (3, iv i)] [] I := by
    intro n4
    induction n4 with
    | zero => intro t i hm; omega
    | succ n4 ih4 =>
      intro t i hm4 hi0 hi1 ht
      refine r_iload_n (pc := 4) (a := 3) (i := 3) 3 rfl rfl dX3_worthOf_4 ?_
      refine r_aload_n (pc := 5) (a := 0) (i := 0) 0 rfl rfl dX3_worthOf_5 ?_
      refine r_get (pc := 6) ckX3 (oH_lt (h_o)) (cellO (h_o)) (j := 9) (by decide) (show _ = some (iv (O 1)) by rw [← hR.f1]; rfl) kf_X3_40 dX3_worthOf_6 ?_
      refine r_icmp_ge (pc := 9) 35 (by unfold rg; omega) (by unfold rg; omega) dX3_worthOf_9 (by decide) (fun h9 => ?_) (fun h9 => ?_)
      · skip
        refine r_iload_n (pc := 35) (a := 2) (i := 2) 2 rfl rfl dX3_worthOf_35 ?_
        refine r_iret (pc := 36) (st := []) rfl dX3_worthOf_36 ?_
        exact ⟨by rw [ht, show i = O 1 by omega], rfl⟩
      · skip
        refine r_iload_n (pc := 12) (a := 1) (i := 1) 1 rfl rfl dX3_worthOf_12 ?_
        refine r_iload_n (pc := 13) (a := 3) (i := 3) 3 rfl rfl dX3_worthOf_13 ?_
        refine r_ishr (pc := 14) (z := ((bset f 16 >>> (i).toNat : Nat) : Int)) (bs_shr (by omega) (by omega)) dX3_worthOf_14 ?_
        refine r_iconst (pc := 15) dX3_worthOf_15 ?_
        refine r_iand (pc := 16) (z := bI (f i)) (bs_bit (by omega) (by omega)) dX3_worthOf_16 ?_
        have at29 : ∀ (t2 : Int), (ht2 : t2 = wsum O f (i + 1).toNat) → Rn X 0 mX3_worthOf (Ki (wsum O f (O 1).toNat) I) 29 [(0, rv X (oH o)), (1, iv ((bset (f) 16 : Nat) : Int)), (2, iv t2), (3, iv i)] [] I := by
          intro t2 ht2
          refine r_iinc (pc := 29) 3 [(3, iv (i + 1)), (0, rv X (oH o)), (1, iv ((bset (f) 16 : Nat) : Int)), (2, iv t2)] rfl (by decide) rfl dX3_worthOf_29 ?_
          refine r_goto (pc := 32) 4 dX3_worthOf_32 (by decide) ?_
          refine r_lv [1, 2, 3, 0] [(0, rv X (oH o)), (1, iv ((bset (f) 16 : Nat) : Int)), (2, iv t2), (3, iv (i + 1))] rfl ?_
          exact ih4 t2 (i + 1) (by omega) (by omega) (by omega) (ht2)
        refine r_if_eq (pc := 17) 29 rg_bI dX3_worthOf_17 (by decide) (fun h17 => ?_) (fun h17 => ?_)
        · skip
          have h17 := bI_0.mp h17
          refine r_lv [0, 1, 2, 3] [(0, rv X (oH o)), (1, iv ((bset (f) 16 : Nat) : Int)), (2, iv t), (3, iv i)] rfl ?_
          exact at29 t (by rw [wsum_s hi0, bI_f h17]; omega)
        · skip
          have h17 := bI_n.mp h17
          refine r_iload_n (pc := 20) (a := 2) (i := 2) 2 rfl rfl dX3_worthOf_20 ?_
          refine r_aload_n (pc := 21) (a := 0) (i := 0) 0 rfl rfl dX3_worthOf_21 ?_
          refine r_get (pc := 22) ckX3 (oH_lt (h_o)) (cellO (h_o)) (j := 6) (by decide) rfl kf_X3_30 dX3_worthOf_22 ?_
          refine r_iload_n (pc := 25) (a := 3) (i := 3) 3 rfl rfl dX3_worthOf_25 ?_
          refine r_iald (pc := 26) (z := O (64 + 4 * i)) (oH_lt7 (h_o)) ((cellO7 (h_o)) _) (by omega) (by omega) (by decide) (hR.wrth (by omega) (by omega)) dX3_worthOf_26 ?_
          refine r_iadd (pc := 27) dX3_worthOf_27 ?_
          refine r_istore_n (pc := 28) (a := 2) (i := 2) rfl [(2, iv (t + (O (64 + 4 * i)))), (0, rv X (oH o)), (1, iv ((bset (f) 16 : Nat) : Int)), (3, iv i)] (by decide) rfl dX3_worthOf_28 ?_
          refine r_lv [1, 2, 0, 3] [(0, rv X (oH o)), (1, iv ((bset (f) 16 : Nat) : Int)), (2, iv (t + (O (64 + 4 * i)))), (3, iv i)] rfl ?_
          exact at29 (t + (O (64 + 4 * i))) (by rw [wsum_s hi0, bI_t h17]; omega)
  refine r_lv [2, 3, 1, 0] [(0, rv X (oH o)), (1, iv ((bset (f) 16 : Nat) : Int)), (2, iv 0), (3, iv 0)] rfl ?_
  exact at4 _ 0 0 (Nat.lt_succ_self _) (by omega) (by omega) (rfl)

set_option maxRecDepth 100000 in
set_option maxHeartbeats 4000000 in
theorem kX3_takenFrom (X : XC) {I : HD} {O : OF} {o : Nat} (h_o : o < 28) (hR : RepC O I o) (hV : Val O) {d : Int} (h0 : 0 ≤ d) (h1 : d < O 0) {n : Int} (hn0 : 0 ≤ n) (hn1 : n < 1000) : Cl X 1 mX3_takenFrom [rv X (oH o), iv d, iv n] I (Ki (tfv O d n.toNat) I) := by
  refine Cl.of (by decide) (Nat.le_of_ble_eq_true rfl) ?_
  show Rn X 1 mX3_takenFrom _ 0 [(0, rv X (oH o)), (1, iv d), (2, iv n)] [] I
  have q0 := hV.a
  have q1 := hV.d h0 h1
  refine r_iload_n (pc := 0) (a := 2) (i := 2) 2 rfl rfl dX3_takenFrom_0 ?_
  refine r_aload_n (pc := 1) (a := 0) (i := 0) 0 rfl rfl dX3_takenFrom_1 ?_
  refine r_get (pc := 2) ckX3 (oH_lt (h_o)) (cellO (h_o)) (j := 3) (by decide) rfl kf_X3_21 dX3_takenFrom_2 ?_
  refine r_iload_n (pc := 5) (a := 1) (i := 1) 1 rfl rfl dX3_takenFrom_5 ?_
  refine r_iald (pc := 6) (z := O (23 + 10 * d)) (oH_lt4 (h_o)) ((cellO4 (h_o)) _) (by omega) (by omega) (by decide) (hR.hgt (by omega) (by omega)) dX3_takenFrom_6 ?_
  refine r_aload_n (pc := 7) (a := 0) (i := 0) 0 rfl rfl dX3_takenFrom_7 ?_
  refine r_get (pc := 8) ckX3 (oH_lt (h_o)) (cellO (h_o)) (j := 2) (by decide) rfl kf_X3_18 dX3_takenFrom_8 ?_
  refine r_iload_n (pc := 11) (a := 1) (i := 1) 1 rfl rfl dX3_takenFrom_11 ?_
  refine r_iald (pc := 12) (z := O (16 + 2 * d)) (oH_lt3 (h_o)) ((cellO3 (h_o)) _) (by omega) (by omega) (by decide) (hR.ston (by omega) (by omega)) dX3_takenFrom_12 ?_
  refine r_isub (pc := 13) dX3_takenFrom_13 ?_
  refine r_mmin (pc := 14) (by unfold rg; omega) (by unfold rg; omega) (by decide) (Nat.le_of_ble_eq_true rfl) (kmmin_X3) dX3_takenFrom_14 ?_
  refine r_istore_n (pc := 17) (a := 3) (i := 3) rfl [(3, iv (min n ((O (23 + 10 * d)) - (O (16 + 2 * d))))), (0, rv X (oH o)), (1, iv d), (2, iv n)] (by decide) rfl dX3_takenFrom_17 ?_
  refine r_iconst (pc := 18) dX3_takenFrom_18 ?_
  refine r_istore (pc := 19) [(4, iv 0), (3, iv (min n ((O (23 + 10 * d)) - (O (16 + 2 * d))))), (0, rv X (oH o)), (1, iv d), (2, iv n)] (by decide) rfl dX3_takenFrom_19 ?_
  have at21 : ∀ (n21 : Nat) (t : Int), (min n (O (23 + 10 * d) - O (16 + 2 * d)) - t).toNat < n21 → (ht0 : 0 ≤ t) → (htm : t = 0 ∨ t ≤ min n (O (23 + 10 * d) - O (16 + 2 * d))) → (hts : ∀ u, 0 ≤ u → u < t → ¬ slat O (tp O d u)) → Rn X 1 mX3_takenFrom (Ki (tfv O d n.toNat) I) 21 [(0, rv X (oH o)), (1, iv d), (2, iv n), (3, iv (min n (O (23 + 10 * d) - O (16 + 2 * d)))), (4, iv t)] [] I := by
    intro n21
    induction n21 with
    | zero => intro t hm; omega
    | succ n21 ih21 =>
      intro t hm21 ht0 htm hts
      refine r_iload (pc := 21) 4 rfl dX3_takenFrom_21 ?_
      refine r_iload_n (pc := 23) (a := 3) (i := 3) 3 rfl rfl dX3_takenFrom_23 ?_
      have at58 : (hx : t = n ∨ O (23 + 10 * d) - O (16 + 2 * d) ≤ t ∨ slat O (tp O d t)) → Rn X 1 mX3_takenFrom (Ki (tfv O d n.toNat) I) 58 [(0, rv X (oH o)), (1, iv d), (2, iv n), (3, iv (min n (O (23 + 10 * d) - O (16 + 2 * d)))), (4, iv t)] [] I := by
        intro hx
        refine r_iload (pc := 58) 4 rfl dX3_takenFrom_58 ?_
        refine r_iret (pc := 60) (st := []) rfl dX3_takenFrom_60 ?_
        exact ⟨by rw [tfv_of hn0 ⟨ht0, by omega, by omega, hts, hx⟩], rfl⟩
      refine r_icmp_ge (pc := 24) 58 (by unfold rg; omega) (by unfold rg; omega) dX3_takenFrom_24 (by decide) (fun h24 => ?_) (fun h24 => ?_)
      · skip
        refine r_lv [0, 1, 2, 3, 4] [(0, rv X (oH o)), (1, iv d), (2, iv n), (3, iv (min n (O (23 + 10 * d) - O (16 + 2 * d)))), (4, iv t)] rfl ?_
        exact at58 (by omega)
      · skip
        refine r_aload_n (pc := 27) (a := 0) (i := 0) 0 rfl rfl dX3_takenFrom_27 ?_
        refine r_get (pc := 28) ckX3 (oH_lt (h_o)) (cellO (h_o)) (j := 5) (by decide) rfl kf_X3_27 dX3_takenFrom_28 ?_
        refine r_aload_n (pc := 31) (a := 0) (i := 0) 0 rfl rfl dX3_takenFrom_31 ?_
        refine r_iload_n (pc := 32) (a := 1) (i := 1) 1 rfl rfl dX3_takenFrom_32 ?_
        refine r_aload_n (pc := 33) (a := 0) (i := 0) 0 rfl rfl dX3_takenFrom_33 ?_
        refine r_get (pc := 34) ckX3 (oH_lt (h_o)) (cellO (h_o)) (j := 3) (by decide) rfl kf_X3_21 dX3_takenFrom_34 ?_
        refine r_iload_n (pc := 37) (a := 1) (i := 1) 1 rfl rfl dX3_takenFrom_37 ?_
        refine r_iald (pc := 38) (z := O (23 + 10 * d)) (oH_lt4 (h_o)) ((cellO4 (h_o)) _) (by omega) (by omega) (by decide) (hR.hgt (by omega) (by omega)) dX3_takenFrom_38 ?_
        refine r_iconst (pc := 39) dX3_takenFrom_39 ?_
        refine r_isub (pc := 40) dX3_takenFrom_40 ?_
        refine r_iload (pc := 41) 4 rfl dX3_takenFrom_41 ?_
        refine r_isub (pc := 43) dX3_takenFrom_43 ?_
        refine r_callVi (pc := 44) (st := [rv X (oH o + 6)]) (As := [iv d, iv (((O (23 + 10 * d)) - 1) - t)]) okX3_at (by decide) (oH_lt (h_o)) (cellO (h_o)) rfl rfl (Nat.le_of_ble_eq_true rfl) km_X3_70 (kX3_at X h_o hR hV (by omega) (by omega) (by omega) (by omega)) dX3_takenFrom_44 ?_
        have qk := hV.k h0 h1 (k := O (23 + 10 * d) - 1 - t) (by omega) (by omega)
        have qp := hV.p qk.1 qk.2
        refine r_iald (pc := 47) (z := O (63 + 4 * (O (24 + 10 * d + (((O (23 + 10 * d)) - 1) - t))))) (oH_lt6 (h_o)) ((cellO6 (h_o)) _) (by omega) (by omega) (by decide) (hR.sort (by omega) (by omega)) dX3_takenFrom_47 ?_
        refine r_iconst (pc := 48) dX3_takenFrom_48 ?_
        refine r_icmp_eq (pc := 49) 58 (by unfold rg; omega) (by unfold rg; omega) dX3_takenFrom_49 (by decide) (fun h49 => ?_) (fun h49 => ?_)
        · skip
          refine r_lv [0, 1, 2, 3, 4] [(0, rv X (oH o)), (1, iv d), (2, iv n), (3, iv (min n (O (23 + 10 * d) - O (16 + 2 * d)))), (4, iv t)] rfl ?_
          exact at58 (Or.inr (Or.inr h49))
        · skip
          refine r_iinc (pc := 52) 4 [(4, iv (t + 1)), (0, rv X (oH o)), (1, iv d), (2, iv n), (3, iv (min n (O (23 + 10 * d) - O (16 + 2 * d))))] rfl (by decide) rfl dX3_takenFrom_52 ?_
          refine r_goto (pc := 55) 21 dX3_takenFrom_55 (by decide) ?_
          refine r_lv [1, 2, 3, 4, 0] [(0, rv X (oH o)), (1, iv d), (2, iv n), (3, iv (min n (O (23 + 10 * d) - O (16 + 2 * d)))), (4, iv (t + 1))] rfl ?_
          exact ih21 (t + 1) (by omega) (by omega) (by omega) (fun e a b => (Classical.em (e = t)).elim (fun q => by rw [q]; exact h49) (fun q => hts e a (by omega)))
  refine r_lv [2, 3, 4, 1, 0] [(0, rv X (oH o)), (1, iv d), (2, iv n), (3, iv (min n ((O (23 + 10 * d)) - (O (16 + 2 * d))))), (4, iv 0)] rfl ?_
  exact at21 _ 0 (Nat.lt_succ_self _) (by omega) (by omega) (fun e a b => absurd b (by omega))

set_option maxRecDepth 100000 in
set_option maxHeartbeats 4000000 in
theorem kX3_lostFrom (X : XC) {I : HD} {O : OF} {o : Nat} (h_o : o < 28) (hR : RepC O I o) (hV : Val O) {d : Int} (h0 : 0 ≤ d) (h1 : d < O 0) {n : Int} (hn0 : 0 ≤ n) (hn1 : n < 1000) : Cl X 2 mX3_lostFrom [rv X (oH o), iv d, iv n] I (Ki (lost O d n) I) := by
  refine Cl.of (by decide) (Nat.le_of_ble_eq_true rfl) ?_
  show Rn X 2 mX3_lostFrom _ 0 [(0, rv X (oH o)), (1, iv d), (2, iv n)] [] I
  have q0 := hV.a
  have q1 := hV.d h0 h1
  have qt := tfv_le n.toNat hV h0 h1
  refine r_iconst (pc := 0) dX3_lostFrom_0 ?_
  refine r_istore_n (pc := 1) (a := 3) (i := 3) rfl [(3, iv 0), (0, rv X (oH o)), (1, iv d), (2, iv n)] (by decide) rfl dX3_lostFrom_1 ?_
  refine r_aload_n (pc := 2) (a := 0) (i := 0) 1 rfl rfl dX3_lostFrom_2 ?_
  refine r_iload_n (pc := 3) (a := 1) (i := 1) 2 rfl rfl dX3_lostFrom_3 ?_
  refine r_iload_n (pc := 4) (a := 2) (i := 2) 3 rfl rfl dX3_lostFrom_4 ?_
  refine r_callVi (pc := 5) (st := []) (As := [iv d, iv n]) okX3_takenFrom (by decide) (oH_lt (h_o)) (cellO (h_o)) rfl rfl (Nat.le_of_ble_eq_true rfl) km_X3_91 (kX3_takenFrom X h_o hR hV (by omega) (by omega) (by omega) (by omega)) dX3_lostFrom_5 ?_
  refine r_istore (pc := 8) [(4, iv (tfv O d (n).toNat)), (3, iv 0), (0, rv X (oH o)), (1, iv d), (2, iv n)] (by decide) rfl dX3_lostFrom_8 ?_
  have at10 : ∀ (n10 : Nat) (s : Int) (t : Int), t.toNat < n10 → (ht0 : 0 ≤ t) → (ht1 : t ≤ tfv O d n.toNat) → (hs : s + lsum O d t.toNat = lost O d n) → Rn X 2 mX3_lostFrom (Ki (lost O d n) I) 10 [(0, rv X (oH o)), (1, iv d), (2, iv n), (3, iv s), (4, iv t)] [] I := by
    intro n10
    induction n10 with
    | zero => intro s t hm; omega
    | succ n10 ih10 =>
      intro s t hm10 ht0 ht1 hs
      refine r_iload (pc := 10) 4 rfl dX3_lostFrom_10 ?_
      refine r_if_le (pc := 12) 43 (by unfold rg; omega) dX3_lostFrom_12 (by decide) (fun h12 => ?_) (fun h12 => ?_)
      · skip
        refine r_iload_n (pc := 43) (a := 3) (i := 3) 3 rfl rfl dX3_lostFrom_43 ?_
        refine r_iret (pc := 44) (st := []) rfl dX3_lostFrom_44 ?_
        exact ⟨by rw [← hs, show t = 0 by omega]; show some (iv s) = some (iv (s + 0)); rw [Int.add_zero], rfl⟩
      · skip
        refine r_iload_n (pc := 15) (a := 3) (i := 3) 3 rfl rfl dX3_lostFrom_15 ?_
        refine r_aload_n (pc := 16) (a := 0) (i := 0) 0 rfl rfl dX3_lostFrom_16 ?_
        refine r_get (pc := 17) ckX3 (oH_lt (h_o)) (cellO (h_o)) (j := 6) (by decide) rfl kf_X3_30 dX3_lostFrom_17 ?_
        refine r_aload_n (pc := 20) (a := 0) (i := 0) 0 rfl rfl dX3_lostFrom_20 ?_
        refine r_iload_n (pc := 21) (a := 1) (i := 1) 1 rfl rfl dX3_lostFrom_21 ?_
        refine r_aload_n (pc := 22) (a := 0) (i := 0) 0 rfl rfl dX3_lostFrom_22 ?_
        refine r_get (pc := 23) ckX3 (oH_lt (h_o)) (cellO (h_o)) (j := 3) (by decide) rfl kf_X3_21 dX3_lostFrom_23 ?_
        refine r_iload_n (pc := 26) (a := 1) (i := 1) 1 rfl rfl dX3_lostFrom_26 ?_
        refine r_iald (pc := 27) (z := O (23 + 10 * d)) (oH_lt4 (h_o)) ((cellO4 (h_o)) _) (by omega) (by omega) (by decide) (hR.hgt (by omega) (by omega)) dX3_lostFrom_27 ?_
        refine r_iload (pc := 28) 4 rfl dX3_lostFrom_28 ?_
        refine r_isub (pc := 30) dX3_lostFrom_30 ?_
        refine r_callVi (pc := 31) (st := [rv X (oH o + 7), iv s]) (As := [iv d, iv ((O (23 + 10 * d)) - t)]) okX3_at (by decide) (oH_lt (h_o)) (cellO (h_o)) rfl rfl (Nat.le_of_ble_eq_true rfl) km_X3_70 (kX3_at X h_o hR hV (by omega) (by omega) (by omega) (by omega)) dX3_lostFrom_31 ?_
        have qk := hV.k h0 h1 (k := O (23 + 10 * d) - t) (by omega) (by omega)
        refine r_iald (pc := 34) (z := O (64 + 4 * (O (24 + 10 * d + ((O (23 + 10 * d)) - t))))) (oH_lt7 (h_o)) ((cellO7 (h_o)) _) (by omega) (by omega) (by decide) (hR.wrth (by omega) (by omega)) dX3_lostFrom_34 ?_
        refine r_iadd (pc := 35) dX3_lostFrom_35 ?_
        refine r_istore_n (pc := 36) (a := 3) (i := 3) rfl [(3, iv (s + (O (64 + 4 * (O (24 + 10 * d + ((O (23 + 10 * d)) - t))))))), (0, rv X (oH o)), (1, iv d), (2, iv n), (4, iv t)] (by decide) rfl dX3_lostFrom_36 ?_
        refine r_iinc (pc := 37) 4 [(4, iv (t + (-1))), (3, iv (s + (O (64 + 4 * (O (24 + 10 * d + ((O (23 + 10 * d)) - t))))))), (0, rv X (oH o)), (1, iv d), (2, iv n)] rfl (by decide) rfl dX3_lostFrom_37 ?_
        refine r_goto (pc := 40) 10 dX3_lostFrom_40 (by decide) ?_
        refine r_lv [2, 3, 4, 1, 0] [(0, rv X (oH o)), (1, iv d), (2, iv n), (3, iv (s + (O (64 + 4 * (O (24 + 10 * d + ((O (23 + 10 * d)) - t))))))), (4, iv (t + (-1)))] rfl ?_
        exact ih10 (s + (O (64 + 4 * (O (24 + 10 * d + ((O (23 + 10 * d)) - t)))))) (t + (-1)) (by omega) (by omega) (by omega) (by have e := lsum_p (O := O) (d := d) (t := t) (by omega); rw [show t + (-1) = t - 1 by omega]; omega)
  refine r_lv [2, 3, 4, 1, 0] [(0, rv X (oH o)), (1, iv d), (2, iv n), (3, iv 0), (4, iv (tfv O d (n).toNat))] rfl ?_
  exact at10 _ 0 (tfv O d (n).toNat) (Nat.lt_succ_self _) (by omega) (by omega) (by show 0 + _ = _; rw [Int.zero_add]; rfl)

set_option maxRecDepth 100000 in
set_option maxHeartbeats 4000000 in
theorem kX3_takenByGust (X : XC) {I : HD} {O : OF} {o : Nat} (h_o : o < 28) (hR : RepC O I o) (hV : Val O) {e : Int} (he0 : 0 ≤ e) (he1 : e < 900) : Cl X 2 mX3_takenByGust [rv X (oH o), iv e] I (Ki ((bset (tbg O e) 16 : Nat) : Int) I) := by
  refine Cl.of (by decide) (Nat.le_of_ble_eq_true rfl) ?_
  show Rn X 2 mX3_takenByGust _ 0 [(0, rv X (oH o)), (1, iv e)] [] I
  have q0 := hV.a
  refine r_iconst (pc := 0) dX3_takenByGust_0 ?_
  refine r_istore_n (pc := 1) (a := 2) (i := 2) rfl [(2, iv 0), (0, rv X (oH o)), (1, iv e)] (by decide) rfl dX3_takenByGust_1 ?_
  refine r_iconst (pc := 2) dX3_takenByGust_2 ?_
  refine r_istore_n (pc := 3) (a := 3) (i := 3) rfl [(3, iv 0), (2, iv 0), (0, rv X (oH o)), (1, iv e)] (by decide) rfl dX3_takenByGust_3 ?_
  have at4 : ∀ (n4 : Nat) (s : Int) (d : Int), (O 0 - d).toNat < n4 → (hd0 : 0 ≤ d) → (hd1 : d ≤ O 0) → (hs : s = ((bset (tbn O d e) 16 : Nat) : Int)) → Rn X 2 mX3_takenByGust (Ki ((bset (tbg O e) 16 : Nat) : Int) I) 4 [(0, rv X (oH o)), (1, iv e), (2, iv s), (3, iv d)] [] I := by
    intro n4
    induction n4 with
    | zero => intro s d hm; omega
    | succ n4 ih4 =>
      intro s d hm4 hd0 hd1 hs
      refine r_iload_n (pc := 4) (a := 3) (i := 3) 3 rfl rfl dX3_takenByGust_4 ?_
      refine r_aload_n (pc := 5) (a := 0) (i := 0) 0 rfl rfl dX3_takenByGust_5 ?_
      refine r_get (pc := 6) ckX3 (oH_lt (h_o)) (cellO (h_o)) (j := 8) (by decide) (show _ = some (iv (O 0)) by rw [← hR.f0]; rfl) kf_X3_36 dX3_takenByGust_6 ?_
      refine r_icmp_ge (pc := 9) 50 (by unfold rg; omega) (by unfold rg; omega) dX3_takenByGust_9 (by decide) (fun h9 => ?_) (fun h9 => ?_)
      · skip
        refine r_iload_n (pc := 50) (a := 2) (i := 2) 2 rfl rfl dX3_takenByGust_50 ?_
        refine r_iret (pc := 51) (st := []) rfl dX3_takenByGust_51 ?_
        exact ⟨by rw [hs, show d = O 0 by omega]; rfl, rfl⟩
      · skip
        have h1 : d < O 0 := by omega
        have q1 := hV.d hd0 h1
        have qt := tfv_le (e + 1).toNat hV hd0 h1
        refine r_aload_n (pc := 12) (a := 0) (i := 0) 0 rfl rfl dX3_takenByGust_12 ?_
        refine r_iload_n (pc := 13) (a := 3) (i := 3) 3 rfl rfl dX3_takenByGust_13 ?_
        refine r_iload_n (pc := 14) (a := 1) (i := 1) 1 rfl rfl dX3_takenByGust_14 ?_
        refine r_iconst (pc := 15) dX3_takenByGust_15 ?_
        refine r_iadd (pc := 16) dX3_takenByGust_16 ?_
        refine r_callVi (pc := 17) (st := []) (As := [iv d, iv (e + 1)]) okX3_takenFrom (by decide) (oH_lt (h_o)) (cellO (h_o)) rfl rfl (Nat.le_of_ble_eq_true rfl) km_X3_91 (kX3_takenFrom X h_o hR hV (by omega) (by omega) (by omega) (by omega)) dX3_takenByGust_17 ?_
        refine r_iload_n (pc := 20) (a := 1) (i := 1) 1 rfl rfl dX3_takenByGust_20 ?_
        have at44 : ∀ (s2 : Int), (hs2 : s2 = ((bset (tbn O (d + 1) e) 16 : Nat) : Int)) → Rn X 2 mX3_takenByGust (Ki ((bset (tbg O e) 16 : Nat) : Int) I) 44 [(0, rv X (oH o)), (1, iv e), (2, iv s2), (3, iv d)] [] I := by
          intro s2 hs2
          refine r_iinc (pc := 44) 3 [(3, iv (d + 1)), (0, rv X (oH o)), (1, iv e), (2, iv s2)] rfl (by decide) rfl dX3_takenByGust_44 ?_
          refine r_goto (pc := 47) 4 dX3_takenByGust_47 (by decide) ?_
          refine r_lv [1, 2, 3, 0] [(0, rv X (oH o)), (1, iv e), (2, iv s2), (3, iv (d + 1))] rfl ?_
          exact ih4 s2 (d + 1) (by omega) (by omega) (by omega) (hs2)
        refine r_icmp_le (pc := 21) 44 (by unfold rg; omega) (by unfold rg; omega) dX3_takenByGust_21 (by decide) (fun h21 => ?_) (fun h21 => ?_)
        · skip
          refine r_lv [0, 1, 2, 3] [(0, rv X (oH o)), (1, iv e), (2, iv s), (3, iv d)] rfl ?_
          exact at44 s (by rw [hs]; exact bs_c' fun p _ _ => ⟨fun q => (tbn_s hd0).mpr (Or.inl q), fun q => ((tbn_s hd0).mp q).elim id (fun z => absurd z.1 (by omega))⟩)
        · skip
          refine r_iload_n (pc := 24) (a := 2) (i := 2) 2 rfl rfl dX3_takenByGust_24 ?_
          refine r_iconst (pc := 25) dX3_takenByGust_25 ?_
          refine r_aload_n (pc := 26) (a := 0) (i := 0) 0 rfl rfl dX3_takenByGust_26 ?_
          refine r_iload_n (pc := 27) (a := 3) (i := 3) 3 rfl rfl dX3_takenByGust_27 ?_
          refine r_aload_n (pc := 28) (a := 0) (i := 0) 0 rfl rfl dX3_takenByGust_28 ?_
          refine r_get (pc := 29) ckX3 (oH_lt (h_o)) (cellO (h_o)) (j := 3) (by decide) rfl kf_X3_21 dX3_takenByGust_29 ?_
          refine r_iload_n (pc := 32) (a := 3) (i := 3) 3 rfl rfl dX3_takenByGust_32 ?_
          refine r_iald (pc := 33) (z := O (23 + 10 * d)) (oH_lt4 (h_o)) ((cellO4 (h_o)) _) (by omega) (by omega) (by decide) (hR.hgt (by omega) (by omega)) dX3_takenByGust_33 ?_
          refine r_iconst (pc := 34) dX3_takenByGust_34 ?_
          refine r_isub (pc := 35) dX3_takenByGust_35 ?_
          refine r_iload_n (pc := 36) (a := 1) (i := 1) 1 rfl rfl dX3_takenByGust_36 ?_
          refine r_isub (pc := 37) dX3_takenByGust_37 ?_
          refine r_callVi (pc := 38) (st := [iv 1, iv s]) (As := [iv d, iv (((O (23 + 10 * d)) - 1) - e)]) okX3_at (by decide) (oH_lt (h_o)) (cellO (h_o)) rfl rfl (Nat.le_of_ble_eq_true rfl) km_X3_70 (kX3_at X h_o hR hV (by omega) (by omega) (by omega) (by omega)) dX3_takenByGust_38 ?_
          have qk := hV.k hd0 h1 (k := O (23 + 10 * d) - 1 - e) (by omega) (by omega)
          refine r_ishl (pc := 41) (z := ((2 ^ (O (24 + 10 * d + (((O (23 + 10 * d)) - 1) - e))).toNat : Nat) : Int)) (sh_1 (by omega) (by omega)) dX3_takenByGust_41 ?_
          refine r_ior (pc := 42) (z := ((bset (tbn O (d + 1) e) 16 : Nat) : Int)) (by rw [hs, bs_add (by omega) (by omega)]; exact bs_c fun p _ _ => ⟨fun q => (tbn_s hd0).mpr (q.elim Or.inl (fun z => Or.inr ⟨by omega, z⟩)), fun q => ((tbn_s hd0).mp q).elim Or.inl (fun z => Or.inr z.2)⟩) dX3_takenByGust_42 ?_
          refine r_istore_n (pc := 43) (a := 2) (i := 2) rfl [(2, iv ((bset (tbn O (d + 1) e) 16 : Nat) : Int)), (0, rv X (oH o)), (1, iv e), (3, iv d)] (by decide) rfl dX3_takenByGust_43 ?_
          refine r_lv [1, 2, 0, 3] [(0, rv X (oH o)), (1, iv e), (2, iv ((bset (tbn O (d + 1) e) 16 : Nat) : Int)), (3, iv d)] rfl ?_
          exact at44 ((bset (tbn O (d + 1) e) 16 : Nat) : Int) (rfl)
  refine r_lv [2, 3, 1, 0] [(0, rv X (oH o)), (1, iv e), (2, iv 0), (3, iv 0)] rfl ?_
  exact at4 _ 0 0 (Nat.lt_succ_self _) (by omega) (by omega) (bs_0 (fun p _ _ q => by obtain ⟨d2, a, b, _⟩ := q; omega))

set_option maxRecDepth 100000 in
set_option maxHeartbeats 4000000 in
theorem kX3_takenBy (X : XC) {I : HD} {O : OF} {o : Nat} (h_o : o < 28) (hR : RepC O I o) (hV : Val O) {n : Int} (hn0 : 0 ≤ n) (hn1 : n < 900) : Cl X 3 mX3_takenBy [rv X (oH o), iv n] I (Ki ((bset (tkn O n) 16 : Nat) : Int) I) := by
  refine Cl.of (by decide) (Nat.le_of_ble_eq_true rfl) ?_
  show Rn X 3 mX3_takenBy _ 0 [(0, rv X (oH o)), (1, iv n)] [] I
  have q0 := hV.a
  refine r_iconst (pc := 0) dX3_takenBy_0 ?_
  refine r_istore_n (pc := 1) (a := 2) (i := 2) rfl [(2, iv 0), (0, rv X (oH o)), (1, iv n)] (by decide) rfl dX3_takenBy_1 ?_
  refine r_iconst (pc := 2) dX3_takenBy_2 ?_
  refine r_istore_n (pc := 3) (a := 3) (i := 3) rfl [(3, iv 0), (2, iv 0), (0, rv X (oH o)), (1, iv n)] (by decide) rfl dX3_takenBy_3 ?_
  have at4 : ∀ (n4 : Nat) (s : Int) (e : Int), (n - e).toNat < n4 → (he0 : 0 ≤ e) → (he1 : e ≤ n) → (hs : s = ((bset (tkn O e) 16 : Nat) : Int)) → Rn X 3 mX3_takenBy (Ki ((bset (tkn O n) 16 : Nat) : Int) I) 4 [(0, rv X (oH o)), (1, iv n), (2, iv s), (3, iv e)] [] I := by
    intro n4
    induction n4 with
    | zero => intro s e hm; omega
    | succ n4 ih4 =>
      intro s e hm4 he0 he1 hs
      refine r_iload_n (pc := 4) (a := 3) (i := 3) 3 rfl rfl dX3_takenBy_4 ?_
      refine r_iload_n (pc := 5) (a := 1) (i := 1) 1 rfl rfl dX3_takenBy_5 ?_
      refine r_icmp_ge (pc := 6) 23 (by unfold rg; omega) (by unfold rg; omega) dX3_takenBy_6 (by decide) (fun h6 => ?_) (fun h6 => ?_)
      · skip
        refine r_iload_n (pc := 23) (a := 2) (i := 2) 2 rfl rfl dX3_takenBy_23 ?_
        refine r_iret (pc := 24) (st := []) rfl dX3_takenBy_24 ?_
        exact ⟨by rw [hs, show e = n by omega], rfl⟩
      · skip
        refine r_iload_n (pc := 9) (a := 2) (i := 2) 2 rfl rfl dX3_takenBy_9 ?_
        refine r_aload_n (pc := 10) (a := 0) (i := 0) 0 rfl rfl dX3_takenBy_10 ?_
        refine r_iload_n (pc := 11) (a := 3) (i := 3) 3 rfl rfl dX3_takenBy_11 ?_
        refine r_callVi (pc := 12) (st := [iv s]) (As := [iv e]) okX3_takenByGust (by decide) (oH_lt (h_o)) (cellO (h_o)) rfl rfl (Nat.le_of_ble_eq_true rfl) km_X3_94 (kX3_takenByGust X h_o hR hV (by omega) (by omega)) dX3_takenBy_12 ?_
        refine r_ior (pc := 15) (z := ((bset (tkn O (e + 1)) 16 : Nat) : Int)) (by rw [hs, bs_or]; exact bs_c fun p _ _ => (tkn_s he0).symm) dX3_takenBy_15 ?_
        refine r_istore_n (pc := 16) (a := 2) (i := 2) rfl [(2, iv ((bset (tkn O (e + 1)) 16 : Nat) : Int)), (0, rv X (oH o)), (1, iv n), (3, iv e)] (by decide) rfl dX3_takenBy_16 ?_
        refine r_iinc (pc := 17) 3 [(3, iv (e + 1)), (2, iv ((bset (tkn O (e + 1)) 16 : Nat) : Int)), (0, rv X (oH o)), (1, iv n)] rfl (by decide) rfl dX3_takenBy_17 ?_
        refine r_goto (pc := 20) 4 dX3_takenBy_20 (by decide) ?_
        refine r_lv [2, 3, 1, 0] [(0, rv X (oH o)), (1, iv n), (2, iv ((bset (tkn O (e + 1)) 16 : Nat) : Int)), (3, iv (e + 1))] rfl ?_
        exact ih4 ((bset (tkn O (e + 1)) 16 : Nat) : Int) (e + 1) (by omega) (by omega) (by omega) (rfl)
  refine r_lv [2, 3, 1, 0] [(0, rv X (oH o)), (1, iv n), (2, iv 0), (3, iv 0)] rfl ?_
  exact at4 _ 0 0 (Nat.lt_succ_self _) (by omega) (by omega) (bs_0 (fun p _ _ q => by obtain ⟨d2, a, b, _⟩ := q; omega))

set_option maxRecDepth 100000 in
set_option maxHeartbeats 4000000 in
theorem kX3_lostIfUppermost (X : XC) {I : HD} {O : OF} {o : Nat} (h_o : o < 28) (hR : RepC O I o) (hV : Val O) {p : Int} (hp0 : 0 ≤ p) (hp1 : p < O 1) {d : Int} (h0 : 0 ≤ d) (h1 : d < O 0) : Cl X 0 mX3_lostIfUppermost [rv X (oH o), iv p, iv d] I (Ki (liu O p d) I) := by
  refine Cl.of (by decide) (Nat.le_of_ble_eq_true rfl) ?_
  show Rn X 0 mX3_lostIfUppermost _ 0 [(0, rv X (oH o)), (1, iv p), (2, iv d)] [] I
  have q0 := hV.a
  have q1 := hV.d h0 h1
  have qp := hV.p hp0 hp1
  refine r_aload_n (pc := 0) (a := 0) (i := 0) 0 rfl rfl dX3_lostIfUppermost_0 ?_
  refine r_get (pc := 1) ckX3 (oH_lt (h_o)) (cellO (h_o)) (j := 3) (by decide) rfl kf_X3_21 dX3_lostIfUppermost_1 ?_
  refine r_iload_n (pc := 4) (a := 2) (i := 2) 2 rfl rfl dX3_lostIfUppermost_4 ?_
  refine r_iald (pc := 5) (z := O (23 + 10 * d)) (oH_lt4 (h_o)) ((cellO4 (h_o)) _) (by omega) (by omega) (by decide) (hR.hgt (by omega) (by omega)) dX3_lostIfUppermost_5 ?_
  refine r_aload_n (pc := 6) (a := 0) (i := 0) 0 rfl rfl dX3_lostIfUppermost_6 ?_
  refine r_get (pc := 7) ckX3 (oH_lt (h_o)) (cellO (h_o)) (j := 2) (by decide) rfl kf_X3_18 dX3_lostIfUppermost_7 ?_
  refine r_iload_n (pc := 10) (a := 2) (i := 2) 2 rfl rfl dX3_lostIfUppermost_10 ?_
  refine r_iald (pc := 11) (z := O (16 + 2 * d)) (oH_lt3 (h_o)) ((cellO3 (h_o)) _) (by omega) (by omega) (by decide) (hR.ston (by omega) (by omega)) dX3_lostIfUppermost_11 ?_
  refine r_icmp_le (pc := 12) 34 (by unfold rg; omega) (by unfold rg; omega) dX3_lostIfUppermost_12 (by decide) (fun h12 => ?_) (fun h12 => ?_)
  · skip
    refine r_iconst (pc := 34) dX3_lostIfUppermost_34 ?_
    refine r_iret (pc := 35) (st := []) rfl dX3_lostIfUppermost_35 ?_
    exact ⟨by unfold liu slat; rw [bI_f (by omega), Int.zero_mul], rfl⟩
  · skip
    refine r_aload_n (pc := 15) (a := 0) (i := 0) 0 rfl rfl dX3_lostIfUppermost_15 ?_
    refine r_get (pc := 16) ckX3 (oH_lt (h_o)) (cellO (h_o)) (j := 5) (by decide) rfl kf_X3_27 dX3_lostIfUppermost_16 ?_
    refine r_iload_n (pc := 19) (a := 1) (i := 1) 1 rfl rfl dX3_lostIfUppermost_19 ?_
    refine r_iald (pc := 20) (z := O (63 + 4 * p)) (oH_lt6 (h_o)) ((cellO6 (h_o)) _) (by omega) (by omega) (by decide) (hR.sort (by omega) (by omega)) dX3_lostIfUppermost_20 ?_
    refine r_iconst (pc := 21) dX3_lostIfUppermost_21 ?_
    refine r_icmp_eq (pc := 22) 34 (by unfold rg; omega) (by unfold rg; omega) dX3_lostIfUppermost_22 (by decide) (fun h22 => ?_) (fun h22 => ?_)
    · skip
      refine r_iconst (pc := 34) dX3_lostIfUppermost_34 ?_
      refine r_iret (pc := 35) (st := []) rfl dX3_lostIfUppermost_35 ?_
      exact ⟨by unfold liu slat; rw [bI_f (by omega), Int.zero_mul], rfl⟩
    · skip
      refine r_aload_n (pc := 25) (a := 0) (i := 0) 0 rfl rfl dX3_lostIfUppermost_25 ?_
      refine r_get (pc := 26) ckX3 (oH_lt (h_o)) (cellO (h_o)) (j := 6) (by decide) rfl kf_X3_30 dX3_lostIfUppermost_26 ?_
      refine r_iload_n (pc := 29) (a := 1) (i := 1) 1 rfl rfl dX3_lostIfUppermost_29 ?_
      refine r_iald (pc := 30) (z := O (64 + 4 * p)) (oH_lt7 (h_o)) ((cellO7 (h_o)) _) (by omega) (by omega) (by decide) (hR.wrth (by omega) (by omega)) dX3_lostIfUppermost_30 ?_
      refine r_goto (pc := 31) 35 dX3_lostIfUppermost_31 (by decide) ?_
      refine r_iret (pc := 35) (st := []) rfl dX3_lostIfUppermost_35 ?_
      exact ⟨by unfold liu slat; rw [bI_t (by omega), Int.one_mul], rfl⟩

set_option maxRecDepth 100000 in
set_option maxHeartbeats 4000000 in
theorem kX3_lostThrough (X : XC) {I : HD} {O : OF} {o : Nat} (h_o : o < 28) (hR : RepC O I o) (hV : Val O) {d : Int} (h0 : 0 ≤ d) (h1 : d < O 0) : Cl X 1 mX3_lostThrough [rv X (oH o), iv d] I (Ki (lth O d) I) := by
  refine Cl.of (by decide) (Nat.le_of_ble_eq_true rfl) ?_
  show Rn X 1 mX3_lostThrough _ 0 [(0, rv X (oH o)), (1, iv d)] [] I
  have q0 := hV.a
  have q1 := hV.d h0 h1
  refine r_aload_n (pc := 0) (a := 0) (i := 0) 0 rfl rfl dX3_lostThrough_0 ?_
  refine r_get (pc := 1) ckX3 (oH_lt (h_o)) (cellO (h_o)) (j := 3) (by decide) rfl kf_X3_21 dX3_lostThrough_1 ?_
  refine r_iload_n (pc := 4) (a := 1) (i := 1) 1 rfl rfl dX3_lostThrough_4 ?_
  refine r_iald (pc := 5) (z := O (23 + 10 * d)) (oH_lt4 (h_o)) ((cellO4 (h_o)) _) (by omega) (by omega) (by decide) (hR.hgt (by omega) (by omega)) dX3_lostThrough_5 ?_
  refine r_iconst (pc := 6) dX3_lostThrough_6 ?_
  refine r_isub (pc := 7) dX3_lostThrough_7 ?_
  refine r_istore_n (pc := 8) (a := 2) (i := 2) rfl [(2, iv ((O (23 + 10 * d)) - 3)), (0, rv X (oH o)), (1, iv d)] (by decide) rfl dX3_lostThrough_8 ?_
  refine r_iload_n (pc := 9) (a := 2) (i := 2) 0 rfl rfl dX3_lostThrough_9 ?_
  refine r_aload_n (pc := 10) (a := 0) (i := 0) 1 rfl rfl dX3_lostThrough_10 ?_
  refine r_get (pc := 11) ckX3 (oH_lt (h_o)) (cellO (h_o)) (j := 2) (by decide) rfl kf_X3_18 dX3_lostThrough_11 ?_
  refine r_iload_n (pc := 14) (a := 1) (i := 1) 2 rfl rfl dX3_lostThrough_14 ?_
  refine r_iald (pc := 15) (z := O (16 + 2 * d)) (oH_lt3 (h_o)) ((cellO3 (h_o)) _) (by omega) (by omega) (by decide) (hR.ston (by omega) (by omega)) dX3_lostThrough_15 ?_
  refine r_icmp_lt (pc := 16) 48 (by unfold rg; omega) (by unfold rg; omega) dX3_lostThrough_16 (by decide) (fun h16 => ?_) (fun h16 => ?_)
  · skip
    refine r_iconst (pc := 48) dX3_lostThrough_48 ?_
    refine r_iret (pc := 49) (st := []) rfl dX3_lostThrough_49 ?_
    exact ⟨by unfold lth slat tp; rw [show O (23 + 10 * d) - 1 - 2 = O (23 + 10 * d) - 3 by omega]; rw [bI_f (by omega), Int.zero_mul], rfl⟩
  · skip
    refine r_aload_n (pc := 19) (a := 0) (i := 0) 1 rfl rfl dX3_lostThrough_19 ?_
    refine r_get (pc := 20) ckX3 (oH_lt (h_o)) (cellO (h_o)) (j := 5) (by decide) rfl kf_X3_27 dX3_lostThrough_20 ?_
    refine r_aload_n (pc := 23) (a := 0) (i := 0) 1 rfl rfl dX3_lostThrough_23 ?_
    refine r_iload_n (pc := 24) (a := 1) (i := 1) 2 rfl rfl dX3_lostThrough_24 ?_
    refine r_iload_n (pc := 25) (a := 2) (i := 2) 0 rfl rfl dX3_lostThrough_25 ?_
    refine r_callVi (pc := 26) (st := [rv X (oH o + 6)]) (As := [iv d, iv ((O (23 + 10 * d)) - 3)]) okX3_at (by decide) (oH_lt (h_o)) (cellO (h_o)) rfl rfl (Nat.le_of_ble_eq_true rfl) km_X3_70 (kX3_at X h_o hR hV (by omega) (by omega) (by omega) (by omega)) dX3_lostThrough_26 ?_
    have qk := hV.k h0 h1 (k := O (23 + 10 * d) - 3) (by omega) (by omega)
    have qp := hV.p qk.1 qk.2
    refine r_iald (pc := 29) (z := O (63 + 4 * (O (24 + 10 * d + ((O (23 + 10 * d)) - 3))))) (oH_lt6 (h_o)) ((cellO6 (h_o)) _) (by omega) (by omega) (by decide) (hR.sort (by omega) (by omega)) dX3_lostThrough_29 ?_
    refine r_iconst (pc := 30) dX3_lostThrough_30 ?_
    refine r_icmp_eq (pc := 31) 48 (by unfold rg; omega) (by unfold rg; omega) dX3_lostThrough_31 (by decide) (fun h31 => ?_) (fun h31 => ?_)
    · skip
      refine r_iconst (pc := 48) dX3_lostThrough_48 ?_
      refine r_iret (pc := 49) (st := []) rfl dX3_lostThrough_49 ?_
      exact ⟨by unfold lth slat tp; rw [show O (23 + 10 * d) - 1 - 2 = O (23 + 10 * d) - 3 by omega]; rw [bI_f (by omega), Int.zero_mul], rfl⟩
    · skip
      refine r_aload_n (pc := 34) (a := 0) (i := 0) 1 rfl rfl dX3_lostThrough_34 ?_
      refine r_get (pc := 35) ckX3 (oH_lt (h_o)) (cellO (h_o)) (j := 6) (by decide) rfl kf_X3_30 dX3_lostThrough_35 ?_
      refine r_aload_n (pc := 38) (a := 0) (i := 0) 1 rfl rfl dX3_lostThrough_38 ?_
      refine r_iload_n (pc := 39) (a := 1) (i := 1) 2 rfl rfl dX3_lostThrough_39 ?_
      refine r_iload_n (pc := 40) (a := 2) (i := 2) 0 rfl rfl dX3_lostThrough_40 ?_
      refine r_callVi (pc := 41) (st := [rv X (oH o + 7)]) (As := [iv d, iv ((O (23 + 10 * d)) - 3)]) okX3_at (by decide) (oH_lt (h_o)) (cellO (h_o)) rfl rfl (Nat.le_of_ble_eq_true rfl) km_X3_70 (kX3_at X h_o hR hV (by omega) (by omega) (by omega) (by omega)) dX3_lostThrough_41 ?_
      refine r_iald (pc := 44) (z := O (64 + 4 * (O (24 + 10 * d + ((O (23 + 10 * d)) - 3))))) (oH_lt7 (h_o)) ((cellO7 (h_o)) _) (by omega) (by omega) (by decide) (hR.wrth (by omega) (by omega)) dX3_lostThrough_44 ?_
      refine r_goto (pc := 45) 49 dX3_lostThrough_45 (by decide) ?_
      refine r_iret (pc := 49) (st := []) rfl dX3_lostThrough_49 ?_
      exact ⟨by unfold lth slat tp; rw [show O (23 + 10 * d) - 1 - 2 = O (23 + 10 * d) - 3 by omega]; rw [bI_t (by omega), Int.one_mul], rfl⟩

set_option maxRecDepth 100000 in
set_option maxHeartbeats 4000000 in
theorem kX3_leastOn (X : XC) {I : HD} {O : OF} {o : Nat} (h_o : o < 28) (hR : RepC O I o) (hV : Val O) {d : Int} (h0 : 0 ≤ d) (h1 : d < O 0) (h2 : 0 < O (23 + 10 * d)) : Cl X 1 mX3_leastOn [rv X (oH o), iv d] I (Ki (O (24 + 10 * d + lon O d (O (23 + 10 * d) - 1).toNat)) I) := by
  refine Cl.of (by decide) (Nat.le_of_ble_eq_true rfl) ?_
  show Rn X 1 mX3_leastOn _ 0 [(0, rv X (oH o)), (1, iv d)] [] I
  have q0 := hV.a
  have q1 := hV.d h0 h1
  refine r_aload_n (pc := 0) (a := 0) (i := 0) 0 rfl rfl dX3_leastOn_0 ?_
  refine r_iload_n (pc := 1) (a := 1) (i := 1) 1 rfl rfl dX3_leastOn_1 ?_
  refine r_iconst (pc := 2) dX3_leastOn_2 ?_
  refine r_callVi (pc := 3) (st := []) (As := [iv d, iv 0]) okX3_at (by decide) (oH_lt (h_o)) (cellO (h_o)) rfl rfl (Nat.le_of_ble_eq_true rfl) km_X3_70 (kX3_at X h_o hR hV (by omega) (by omega) (by omega) (by omega)) dX3_leastOn_3 ?_
  refine r_istore_n (pc := 6) (a := 2) (i := 2) rfl [(2, iv (O (24 + 10 * d + 0))), (0, rv X (oH o)), (1, iv d)] (by decide) rfl dX3_leastOn_6 ?_
  refine r_iconst (pc := 7) dX3_leastOn_7 ?_
  refine r_istore_n (pc := 8) (a := 3) (i := 3) rfl [(3, iv 1), (2, iv (O (24 + 10 * d + 0))), (0, rv X (oH o)), (1, iv d)] (by decide) rfl dX3_leastOn_8 ?_
  have at9 : ∀ (n9 : Nat) (p : Int) (k : Int), (O (23 + 10 * d) - k).toNat < n9 → (hk0 : 1 ≤ k) → (hk1 : k ≤ O (23 + 10 * d)) → (hp : p = O (24 + 10 * d + lon O d (k - 1).toNat)) → Rn X 1 mX3_leastOn (Ki (O (24 + 10 * d + lon O d (O (23 + 10 * d) - 1).toNat)) I) 9 [(0, rv X (oH o)), (1, iv d), (2, iv p), (3, iv k)] [] I := by
    intro n9
    induction n9 with
    | zero => intro p k hm; omega
    | succ n9 ih9 =>
      intro p k hm9 hk0 hk1 hp
      refine r_iload_n (pc := 9) (a := 3) (i := 3) 3 rfl rfl dX3_leastOn_9 ?_
      refine r_aload_n (pc := 10) (a := 0) (i := 0) 0 rfl rfl dX3_leastOn_10 ?_
      refine r_get (pc := 11) ckX3 (oH_lt (h_o)) (cellO (h_o)) (j := 3) (by decide) rfl kf_X3_21 dX3_leastOn_11 ?_
      refine r_iload_n (pc := 14) (a := 1) (i := 1) 1 rfl rfl dX3_leastOn_14 ?_
      refine r_iald (pc := 15) (z := O (23 + 10 * d)) (oH_lt4 (h_o)) ((cellO4 (h_o)) _) (by omega) (by omega) (by decide) (hR.hgt (by omega) (by omega)) dX3_leastOn_15 ?_
      refine r_icmp_ge (pc := 16) 52 (by unfold rg; omega) (by unfold rg; omega) dX3_leastOn_16 (by decide) (fun h16 => ?_) (fun h16 => ?_)
      · skip
        refine r_iload_n (pc := 52) (a := 2) (i := 2) 2 rfl rfl dX3_leastOn_52 ?_
        refine r_iret (pc := 53) (st := []) rfl dX3_leastOn_53 ?_
        exact ⟨by rw [hp, show k = O (23 + 10 * d) by omega], rfl⟩
      · skip
        have ql := lon_le O d (k - 1).toNat
        have qj := hV.k h0 h1 (k := lon O d (k - 1).toNat) (by omega) (by omega)
        rw [← hp] at qj
        have qk := hV.k h0 h1 (k := k) (by omega) (by omega)
        have qp := hV.p qj.1 qj.2
        have qp2 := hV.p qk.1 qk.2
        refine r_aload_n (pc := 19) (a := 0) (i := 0) 0 rfl rfl dX3_leastOn_19 ?_
        refine r_get (pc := 20) ckX3 (oH_lt (h_o)) (cellO (h_o)) (j := 6) (by decide) rfl kf_X3_30 dX3_leastOn_20 ?_
        refine r_aload_n (pc := 23) (a := 0) (i := 0) 0 rfl rfl dX3_leastOn_23 ?_
        refine r_iload_n (pc := 24) (a := 1) (i := 1) 1 rfl rfl dX3_leastOn_24 ?_
        refine r_iload_n (pc := 25) (a := 3) (i := 3) 3 rfl rfl dX3_leastOn_25 ?_
        refine r_callVi (pc := 26) (st := [rv X (oH o + 7)]) (As := [iv d, iv k]) okX3_at (by decide) (oH_lt (h_o)) (cellO (h_o)) rfl rfl (Nat.le_of_ble_eq_true rfl) km_X3_70 (kX3_at X h_o hR hV (by omega) (by omega) (by omega) (by omega)) dX3_leastOn_26 ?_
        refine r_iald (pc := 29) (z := O (64 + 4 * (O (24 + 10 * d + k)))) (oH_lt7 (h_o)) ((cellO7 (h_o)) _) (by omega) (by omega) (by decide) (hR.wrth (by omega) (by omega)) dX3_leastOn_29 ?_
        refine r_aload_n (pc := 30) (a := 0) (i := 0) 0 rfl rfl dX3_leastOn_30 ?_
        refine r_get (pc := 31) ckX3 (oH_lt (h_o)) (cellO (h_o)) (j := 6) (by decide) rfl kf_X3_30 dX3_leastOn_31 ?_
        refine r_iload_n (pc := 34) (a := 2) (i := 2) 2 rfl rfl dX3_leastOn_34 ?_
        refine r_iald (pc := 35) (z := O (64 + 4 * p)) (oH_lt7 (h_o)) ((cellO7 (h_o)) _) (by omega) (by omega) (by decide) (hR.wrth (by omega) (by omega)) dX3_leastOn_35 ?_
        have at46 : ∀ (p2 : Int), (hp2 : p2 = O (24 + 10 * d + lon O d (k + 1 - 1).toNat)) → Rn X 1 mX3_leastOn (Ki (O (24 + 10 * d + lon O d (O (23 + 10 * d) - 1).toNat)) I) 46 [(0, rv X (oH o)), (1, iv d), (2, iv p2), (3, iv k)] [] I := by
          intro p2 hp2
          refine r_iinc (pc := 46) 3 [(3, iv (k + 1)), (0, rv X (oH o)), (1, iv d), (2, iv p2)] rfl (by decide) rfl dX3_leastOn_46 ?_
          refine r_goto (pc := 49) 9 dX3_leastOn_49 (by decide) ?_
          refine r_lv [1, 2, 3, 0] [(0, rv X (oH o)), (1, iv d), (2, iv p2), (3, iv (k + 1))] rfl ?_
          exact ih9 p2 (k + 1) (by omega) (by omega) (by omega) (hp2)
        refine r_icmp_ge (pc := 36) 46 (by unfold rg; omega) (by unfold rg; omega) dX3_leastOn_36 (by decide) (fun h36 => ?_) (fun h36 => ?_)
        · skip
          refine r_lv [0, 1, 2, 3] [(0, rv X (oH o)), (1, iv d), (2, iv p), (3, iv k)] rfl ?_
          exact at46 p (by rw [show k + 1 - 1 = k by omega, lon_s hk0, if_neg (by rw [← hp]; omega)]; exact hp)
        · skip
          refine r_aload_n (pc := 39) (a := 0) (i := 0) 0 rfl rfl dX3_leastOn_39 ?_
          refine r_iload_n (pc := 40) (a := 1) (i := 1) 1 rfl rfl dX3_leastOn_40 ?_
          refine r_iload_n (pc := 41) (a := 3) (i := 3) 3 rfl rfl dX3_leastOn_41 ?_
          refine r_callVi (pc := 42) (st := []) (As := [iv d, iv k]) okX3_at (by decide) (oH_lt (h_o)) (cellO (h_o)) rfl rfl (Nat.le_of_ble_eq_true rfl) km_X3_70 (kX3_at X h_o hR hV (by omega) (by omega) (by omega) (by omega)) dX3_leastOn_42 ?_
          refine r_istore_n (pc := 45) (a := 2) (i := 2) rfl [(2, iv (O (24 + 10 * d + k))), (0, rv X (oH o)), (1, iv d), (3, iv k)] (by decide) rfl dX3_leastOn_45 ?_
          refine r_lv [1, 2, 0, 3] [(0, rv X (oH o)), (1, iv d), (2, iv (O (24 + 10 * d + k))), (3, iv k)] rfl ?_
          exact at46 (O (24 + 10 * d + k)) (by rw [show k + 1 - 1 = k by omega, lon_s hk0, if_pos (by rw [← hp]; omega)])
  refine r_lv [2, 3, 1, 0] [(0, rv X (oH o)), (1, iv d), (2, iv (O (24 + 10 * d + 0))), (3, iv 1)] rfl ?_
  exact at9 _ (O (24 + 10 * d + 0)) 1 (Nat.lt_succ_self _) (by omega) (by omega) (rfl)
