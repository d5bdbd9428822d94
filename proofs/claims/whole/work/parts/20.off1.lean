set_option maxRecDepth 100000 in
set_option maxHeartbeats 4000000 in
theorem kX3_isThere (X : XC) {I : HD} {O : OF} {o : Nat} (h_o : o < 28) (hR : RepC O I o) (hV : Val O) : Cl X 0 mX3_isThere [rv X (oH o)] I (Ki (bI (0 < O 0)) I) := by
  refine Cl.of (by decide) (Nat.le_of_ble_eq_true rfl) ?_
  show Rn X 0 mX3_isThere _ 0 [(0, rv X (oH o))] [] I
  have q0 := hV.a
  refine r_aload_n (pc := 0) (a := 0) (i := 0) 0 rfl rfl dX3_isThere_0 ?_
  refine r_get (pc := 1) ckX3 (oH_lt (h_o)) (cellO (h_o)) (j := 8) (by decide) (show _ = some (iv (O 0)) by rw [← hR.f0]; rfl) kf_X3_36 dX3_isThere_1 ?_
  refine r_if_le (pc := 4) 11 (by unfold rg; omega) dX3_isThere_4 (by decide) (fun h4 => ?_) (fun h4 => ?_)
  · skip
    refine r_iconst (pc := 11) dX3_isThere_11 ?_
    refine r_zret (pc := 12) (st := []) rfl (rfl) dX3_isThere_12 ?_
    exact ⟨by rw [bI_f (by omega)], rfl⟩
  · skip
    refine r_iconst (pc := 7) dX3_isThere_7 ?_
    refine r_goto (pc := 8) 12 dX3_isThere_8 (by decide) ?_
    refine r_zret (pc := 12) (st := []) rfl (rfl) dX3_isThere_12 ?_
    exact ⟨by rw [bI_t (by omega)], rfl⟩

set_option maxRecDepth 100000 in
set_option maxHeartbeats 4000000 in
theorem kX3_hasDesk (X : XC) {I : HD} {O : OF} {o : Nat} (h_o : o < 28) (hR : RepC O I o) (hV : Val O) {d : Int} (hd : rg d) : Cl X 0 mX3_hasDesk [rv X (oH o), iv d] I (Ki (bI (0 ≤ d ∧ d < O 0)) I) := by
  refine Cl.of (by decide) (Nat.le_of_ble_eq_true rfl) ?_
  show Rn X 0 mX3_hasDesk _ 0 [(0, rv X (oH o)), (1, iv d)] [] I
  have q0 := hV.a
  unfold rg at hd
  refine r_iload_n (pc := 0) (a := 1) (i := 1) 1 rfl rfl dX3_hasDesk_0 ?_
  refine r_if_lt (pc := 1) 16 (by unfold rg; omega) dX3_hasDesk_1 (by decide) (fun h1 => ?_) (fun h1 => ?_)
  · skip
    refine r_iconst (pc := 16) dX3_hasDesk_16 ?_
    refine r_zret (pc := 17) (st := []) rfl (rfl) dX3_hasDesk_17 ?_
    exact ⟨by rw [bI_f (by omega)], rfl⟩
  · skip
    refine r_iload_n (pc := 4) (a := 1) (i := 1) 1 rfl rfl dX3_hasDesk_4 ?_
    refine r_aload_n (pc := 5) (a := 0) (i := 0) 0 rfl rfl dX3_hasDesk_5 ?_
    refine r_get (pc := 6) ckX3 (oH_lt (h_o)) (cellO (h_o)) (j := 8) (by decide) (show _ = some (iv (O 0)) by rw [← hR.f0]; rfl) kf_X3_36 dX3_hasDesk_6 ?_
    refine r_icmp_ge (pc := 9) 16 (by unfold rg; omega) (by unfold rg; omega) dX3_hasDesk_9 (by decide) (fun h9 => ?_) (fun h9 => ?_)
    · skip
      refine r_iconst (pc := 16) dX3_hasDesk_16 ?_
      refine r_zret (pc := 17) (st := []) rfl (rfl) dX3_hasDesk_17 ?_
      exact ⟨by rw [bI_f (by omega)], rfl⟩
    · skip
      refine r_iconst (pc := 12) dX3_hasDesk_12 ?_
      refine r_goto (pc := 13) 17 dX3_hasDesk_13 (by decide) ?_
      refine r_zret (pc := 17) (st := []) rfl (rfl) dX3_hasDesk_17 ?_
      exact ⟨by rw [bI_t (by omega)], rfl⟩

set_option maxRecDepth 100000 in
set_option maxHeartbeats 4000000 in
theorem kX3_hasSheet (X : XC) {I : HD} {O : OF} {o : Nat} (h_o : o < 28) (hR : RepC O I o) (hV : Val O) {p : Int} (hp : rg p) : Cl X 0 mX3_hasSheet [rv X (oH o), iv p] I (Ki (bI (0 ≤ p ∧ p < O 1)) I) := by
  refine Cl.of (by decide) (Nat.le_of_ble_eq_true rfl) ?_
  show Rn X 0 mX3_hasSheet _ 0 [(0, rv X (oH o)), (1, iv p)] [] I
  have q0 := hV.a
  unfold rg at hp
  refine r_iload_n (pc := 0) (a := 1) (i := 1) 1 rfl rfl dX3_hasSheet_0 ?_
  refine r_if_lt (pc := 1) 16 (by unfold rg; omega) dX3_hasSheet_1 (by decide) (fun h1 => ?_) (fun h1 => ?_)
  · skip
    refine r_iconst (pc := 16) dX3_hasSheet_16 ?_
    refine r_zret (pc := 17) (st := []) rfl (rfl) dX3_hasSheet_17 ?_
    exact ⟨by rw [bI_f (by omega)], rfl⟩
  · skip
    refine r_iload_n (pc := 4) (a := 1) (i := 1) 1 rfl rfl dX3_hasSheet_4 ?_
    refine r_aload_n (pc := 5) (a := 0) (i := 0) 0 rfl rfl dX3_hasSheet_5 ?_
    refine r_get (pc := 6) ckX3 (oH_lt (h_o)) (cellO (h_o)) (j := 9) (by decide) (show _ = some (iv (O 1)) by rw [← hR.f1]; rfl) kf_X3_40 dX3_hasSheet_6 ?_
    refine r_icmp_ge (pc := 9) 16 (by unfold rg; omega) (by unfold rg; omega) dX3_hasSheet_9 (by decide) (fun h9 => ?_) (fun h9 => ?_)
    · skip
      refine r_iconst (pc := 16) dX3_hasSheet_16 ?_
      refine r_zret (pc := 17) (st := []) rfl (rfl) dX3_hasSheet_17 ?_
      exact ⟨by rw [bI_f (by omega)], rfl⟩
    · skip
      refine r_iconst (pc := 12) dX3_hasSheet_12 ?_
      refine r_goto (pc := 13) 17 dX3_hasSheet_13 (by decide) ?_
      refine r_zret (pc := 17) (st := []) rfl (rfl) dX3_hasSheet_17 ?_
      exact ⟨by rw [bI_t (by omega)], rfl⟩

set_option maxRecDepth 100000 in
set_option maxHeartbeats 4000000 in
theorem kX3_hasRoom (X : XC) {I : HD} {O : OF} {o : Nat} (h_o : o < 28) (hR : RepC O I o) (hV : Val O) {d : Int} (h0 : 0 ≤ d) (h1 : d < O 0) : Cl X 0 mX3_hasRoom [rv X (oH o), iv d] I (Ki (bI (O (23 + 10 * d) < O (15 + 2 * d))) I) := by
  refine Cl.of (by decide) (Nat.le_of_ble_eq_true rfl) ?_
  show Rn X 0 mX3_hasRoom _ 0 [(0, rv X (oH o)), (1, iv d)] [] I
  have q0 := hV.a
  have q1 := hV.d h0 h1
  refine r_aload_n (pc := 0) (a := 0) (i := 0) 0 rfl rfl dX3_hasRoom_0 ?_
  refine r_get (pc := 1) ckX3 (oH_lt (h_o)) (cellO (h_o)) (j := 3) (by decide) rfl kf_X3_21 dX3_hasRoom_1 ?_
  refine r_iload_n (pc := 4) (a := 1) (i := 1) 1 rfl rfl dX3_hasRoom_4 ?_
  refine r_iald (pc := 5) (z := O (23 + 10 * d)) (oH_lt4 (h_o)) ((cellO4 (h_o)) _) (by omega) (by omega) (by decide) (hR.hgt (by omega) (by omega)) dX3_hasRoom_5 ?_
  refine r_aload_n (pc := 6) (a := 0) (i := 0) 0 rfl rfl dX3_hasRoom_6 ?_
  refine r_get (pc := 7) ckX3 (oH_lt (h_o)) (cellO (h_o)) (j := 1) (by decide) rfl kf_X3_15 dX3_hasRoom_7 ?_
  refine r_iload_n (pc := 10) (a := 1) (i := 1) 1 rfl rfl dX3_hasRoom_10 ?_
  refine r_iald (pc := 11) (z := O (15 + 2 * d)) (oH_lt2 (h_o)) ((cellO2 (h_o)) _) (by omega) (by omega) (by decide) (hR.room (by omega) (by omega)) dX3_hasRoom_11 ?_
  refine r_icmp_ge (pc := 12) 19 (by unfold rg; omega) (by unfold rg; omega) dX3_hasRoom_12 (by decide) (fun h12 => ?_) (fun h12 => ?_)
  · skip
    refine r_iconst (pc := 19) dX3_hasRoom_19 ?_
    refine r_zret (pc := 20) (st := []) rfl (rfl) dX3_hasRoom_20 ?_
    exact ⟨by rw [bI_f (by omega)], rfl⟩
  · skip
    refine r_iconst (pc := 15) dX3_hasRoom_15 ?_
    refine r_goto (pc := 16) 20 dX3_hasRoom_16 (by decide) ?_
    refine r_zret (pc := 20) (st := []) rfl (rfl) dX3_hasRoom_20 ?_
    exact ⟨by rw [bI_t (by omega)], rfl⟩

set_option maxRecDepth 100000 in
set_option maxHeartbeats 4000000 in
theorem kX3_at (X : XC) {I : HD} {O : OF} {o : Nat} (h_o : o < 28) (hR : RepC O I o) (hV : Val O) {d k : Int} (h0 : 0 ≤ d) (h1 : d < O 0) (h2 : 0 ≤ k) (h3 : k < O (23 + 10 * d)) : Cl X 0 mX3_at [rv X (oH o), iv d, iv k] I (Ki (O (24 + 10 * d + k)) I) := by
  refine Cl.of (by decide) (Nat.le_of_ble_eq_true rfl) ?_
  show Rn X 0 mX3_at _ 0 [(0, rv X (oH o)), (1, iv d), (2, iv k)] [] I
  have q0 := hV.a
  have q1 := hV.d h0 h1
  refine r_aload_n (pc := 0) (a := 0) (i := 0) 0 rfl rfl dX3_at_0 ?_
  refine r_get (pc := 1) ckX3 (oH_lt (h_o)) (cellO (h_o)) (j := 4) (by decide) rfl kf_X3_24 dX3_at_1 ?_
  refine r_iload_n (pc := 4) (a := 1) (i := 1) 1 rfl rfl dX3_at_4 ?_
  refine r_bipush (pc := 5) rfl dX3_at_5 ?_
  refine r_imul (pc := 7) dX3_at_7 ?_
  refine r_iload_n (pc := 8) (a := 2) (i := 2) 2 rfl rfl dX3_at_8 ?_
  refine r_iadd (pc := 9) dX3_at_9 ?_
  refine r_iald (pc := 10) (z := O (24 + 10 * d + k)) (oH_lt5 (h_o)) ((cellO5 (h_o)) _) (by omega) (by omega) (by decide) (hR.pile (by omega) (by omega) (by omega) (by omega)) dX3_at_10 ?_
  refine r_iret (pc := 11) (st := []) rfl dX3_at_11 ?_
  exact ⟨rfl, rfl⟩
