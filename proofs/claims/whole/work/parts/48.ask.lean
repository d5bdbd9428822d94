set_option maxRecDepth 100000 in
set_option maxHeartbeats 4000000 in
theorem kX9_began (X : XC) {I : HD} {b t : Int} (ht : I 30 27 = t) (t0 : 0 ≤ t) (t1 : t < 16) : Cl X 0 mX9_began [rv X 30, iv b] I (Kv (up (up I 44 t b) 30 27 (t + 1))) := by
  refine Cl.of (by decide) (Nat.le_of_ble_eq_true rfl) ?_
  show Rn X 0 mX9_began _ 0 [(0, rv X 30), (1, iv b)] [] I
  refine r_aload_n (pc := 0) (a := 0) (i := 0) 0 rfl rfl dX9_began_0 ?_
  refine r_get (pc := 1) ckX9 (by decide) rfl (j := 27) (by decide) (congrArg (fun q => some (iv q)) ht) kf_X9_283 dX9_began_1 ?_
  refine r_bipush (pc := 4) rfl dX9_began_4 ?_
  refine r_icmp_ge (pc := 6) 29 (by unfold rg; omega) (by unfold rg; omega) dX9_began_6 (by decide) (fun h6 => ?_) (fun h6 => ?_)
  · exact absurd h6 (by omega)
  · skip
    refine r_aload_n (pc := 9) (a := 0) (i := 0) 0 rfl rfl dX9_began_9 ?_
    refine r_get (pc := 10) ckX9 (by decide) rfl (j := 26) (by decide) rfl kf_X9_51 dX9_began_10 ?_
    refine r_aload_n (pc := 13) (a := 0) (i := 0) 0 rfl rfl dX9_began_13 ?_
    refine r_get (pc := 14) ckX9 (by decide) rfl (j := 27) (by decide) (congrArg (fun q => some (iv q)) ht) kf_X9_283 dX9_began_14 ?_
    refine r_iload_n (pc := 17) (a := 1) (i := 1) 1 rfl rfl dX9_began_17 ?_
    refine r_iast (pc := 18) (by decide) (fun _ => rfl) (by omega) (by omega) (by decide) dX9_began_18 ?_
    refine r_aload_n (pc := 19) (a := 0) (i := 0) 0 rfl rfl dX9_began_19 ?_
    refine r_dup (pc := 20) rfl dX9_began_20 ?_
    refine r_get (pc := 21) ckX9 (by decide) rfl (j := 27) (by decide) (congrArg (fun q => some (iv q)) (show up I 44 t b 30 27 = t from (congrFun (up_row (by decide)) _).trans ht)) kf_X9_283 dX9_began_21 ?_
    refine r_iconst (pc := 24) dX9_began_24 ?_
    refine r_iadd (pc := 25) dX9_began_25 ?_
    refine r_put (pc := 26) 27 (ji := 27) rfl ckX9 (by decide) rfl rfl (by decide) (Nat.le_of_ble_eq_true rfl) kf_X9_283 rfl rfl rfl rfl dX9_began_26 ?_
    refine r_vret (pc := 29) (st := []) rfl dX9_began_29 ?_
    exact ⟨rfl, rfl⟩

set_option maxRecDepth 100000 in
set_option maxHeartbeats 4000000 in
theorem kX1_leave (X : XC) {I : HD} {b t : Int} (ht : I 28 1 = t) (t0 : 0 ≤ t) (t1 : t < 16) : Cl X 0 mX1_leave [rv X 28, iv b] I (Kv (up (up I 29 t b) 28 1 (t + 1))) := by
  refine Cl.of (by decide) (Nat.le_of_ble_eq_true rfl) ?_
  show Rn X 0 mX1_leave _ 0 [(0, rv X 28), (1, iv b)] [] I
  refine r_aload_n (pc := 0) (a := 0) (i := 0) 0 rfl rfl dX1_leave_0 ?_
  refine r_get (pc := 1) ckX1 (by decide) rfl (j := 1) (by decide) (congrArg (fun q => some (iv q)) ht) kf_X1_13 dX1_leave_1 ?_
  refine r_bipush (pc := 4) rfl dX1_leave_4 ?_
  refine r_icmp_ge (pc := 6) 29 (by unfold rg; omega) (by unfold rg; omega) dX1_leave_6 (by decide) (fun h6 => ?_) (fun h6 => ?_)
  · exact absurd h6 (by omega)
  · skip
    refine r_aload_n (pc := 9) (a := 0) (i := 0) 0 rfl rfl dX1_leave_9 ?_
    refine r_get (pc := 10) ckX1 (by decide) rfl (j := 0) (by decide) rfl kf_X1_9 dX1_leave_10 ?_
    refine r_aload_n (pc := 13) (a := 0) (i := 0) 0 rfl rfl dX1_leave_13 ?_
    refine r_get (pc := 14) ckX1 (by decide) rfl (j := 1) (by decide) (congrArg (fun q => some (iv q)) ht) kf_X1_13 dX1_leave_14 ?_
    refine r_iload_n (pc := 17) (a := 1) (i := 1) 1 rfl rfl dX1_leave_17 ?_
    refine r_iast (pc := 18) (by decide) (fun _ => rfl) (by omega) (by omega) (by decide) dX1_leave_18 ?_
    refine r_aload_n (pc := 19) (a := 0) (i := 0) 0 rfl rfl dX1_leave_19 ?_
    refine r_dup (pc := 20) rfl dX1_leave_20 ?_
    refine r_get (pc := 21) ckX1 (by decide) rfl (j := 1) (by decide) (congrArg (fun q => some (iv q)) (show up I 29 t b 28 1 = t from (congrFun (up_row (by decide)) _).trans ht)) kf_X1_13 dX1_leave_21 ?_
    refine r_iconst (pc := 24) dX1_leave_24 ?_
    refine r_iadd (pc := 25) dX1_leave_25 ?_
    refine r_put (pc := 26) 1 (ji := 1) rfl ckX1 (by decide) rfl rfl (by decide) (Nat.le_of_ble_eq_true rfl) kf_X1_13 rfl rfl rfl rfl dX1_leave_26 ?_
    refine r_vret (pc := 29) (st := []) rfl dX1_leave_29 ?_
    exact ⟨rfl, rfl⟩

set_option maxRecDepth 100000 in
set_option maxHeartbeats 4000000 in
theorem kX1_bodyFor (X : XC) {I : HD} {O : OF} {o : Nat} (h_o : o < 28) (hR : RepC O I o) (hV : Val O) {p w : Int} (hp0 : 0 ≤ p) (hp1 : p < O 1) (hw : rg w) : Cl X 1 mX1_bodyFor [rv X (oH o), iv p, iv w] I (Ki (if w = 0 then roT 1 (O (63 + 4 * p)).toNat else roT 2 (O (63 + 4 * p)).toNat) I) := by
  refine Cl.of (by decide) (Nat.le_of_ble_eq_true rfl) ?_
  show Rn X 1 mX1_bodyFor _ 0 [(0, rv X (oH o)), (1, iv p), (2, iv w)] [] I
  have q0 := hV.a
  have qp := hV.p hp0 hp1
  unfold rg at hw
  refine r_aload_n (pc := 0) (a := 0) (i := 0) 0 rfl rfl dX1_bodyFor_0 ?_
  refine r_getN (pc := 1) ckX3 (oH_lt (h_o)) (cellO (h_o)) (j := 5) (by decide) rfl kf_X1_32 dX1_bodyFor_1 ?_
  refine r_iload_n (pc := 4) (a := 1) (i := 1) 1 rfl rfl dX1_bodyFor_4 ?_
  refine r_iald (pc := 5) (z := O (63 + 4 * p)) (oH_lt6 (h_o)) ((cellO6 (h_o)) _) (by omega) (by omega) (by decide) (hR.sort (by omega) (by omega)) dX1_bodyFor_5 ?_
  refine r_istore_n (pc := 6) (a := 3) (i := 3) rfl [(3, iv (O (63 + 4 * p))), (0, rv X (oH o)), (1, iv p), (2, iv w)] (by decide) rfl dX1_bodyFor_6 ?_
  refine r_iload_n (pc := 7) (a := 3) (i := 3) 0 rfl rfl dX1_bodyFor_7 ?_
  refine r_callSi (pc := 8) (st := []) (As := [iv (O (63 + 4 * p))]) okX1_isKind (by decide) trivial rfl (Nat.le_of_ble_eq_true rfl) km_X1_17 (kX1_isKind X (by unfold rg; omega)) dX1_bodyFor_8 ?_
  refine r_if_ne (pc := 11) 16 rg_bI dX1_bodyFor_11 (by decide) (fun h11 => ?_) (fun h11 => ?_)
  · skip
    have h11 := bI_n.mp h11
    refine r_iload_n (pc := 16) (a := 2) (i := 2) 3 rfl rfl dX1_bodyFor_16 ?_
    refine r_if_ne (pc := 17) 28 (by unfold rg; omega) dX1_bodyFor_17 (by decide) (fun h17 => ?_) (fun h17 => ?_)
    · skip
      refine r_gets (pc := 28) 2 (by decide) kg_2 dX1_bodyFor_28 ?_
      refine r_iload_n (pc := 31) (a := 3) (i := 3) 0 rfl rfl dX1_bodyFor_31 ?_
      refine r_tald (pc := 32) (z := roT 2 (O (63 + 4 * p)).toNat) 2 (by decide) (by omega) (by omega) (rfl) dX1_bodyFor_32 ?_
      refine r_iret (pc := 33) (st := []) rfl dX1_bodyFor_33 ?_
      exact ⟨congrArg (fun q => some (iv q)) (by rw [if_neg (by omega)]), rfl⟩
    · skip
      refine r_gets (pc := 20) 1 (by decide) kg_1 dX1_bodyFor_20 ?_
      refine r_iload_n (pc := 23) (a := 3) (i := 3) 0 rfl rfl dX1_bodyFor_23 ?_
      refine r_tald (pc := 24) (z := roT 1 (O (63 + 4 * p)).toNat) 1 (by decide) (by omega) (by omega) (rfl) dX1_bodyFor_24 ?_
      refine r_goto (pc := 25) 33 dX1_bodyFor_25 (by decide) ?_
      refine r_iret (pc := 33) (st := []) rfl dX1_bodyFor_33 ?_
      exact ⟨congrArg (fun q => some (iv q)) (by rw [if_pos (by omega)]), rfl⟩
  · exact absurd (bI_0.mp h11) (by omega)
