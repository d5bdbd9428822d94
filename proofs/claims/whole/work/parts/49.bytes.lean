set_option maxRecDepth 100000 in
set_option maxHeartbeats 4000000 in
theorem kX9_byteAt (X : XC) {I : HD} {L k : Int} (hL : I 30 13 = L) (L0 : 0 ≤ L) (L1 : L ≤ 500) (h0 : 0 ≤ k) (h1 : k < 100000) : Cl X 0 mX9_byteAt [rv X 30, iv k] I (Ki (if k < L then I 37 k else -1000000) I) := by
  refine Cl.of (by decide) (Nat.le_of_ble_eq_true rfl) ?_
  show Rn X 0 mX9_byteAt _ 0 [(0, rv X 30), (1, iv k)] [] I
  refine r_iload_n (pc := 0) (a := 1) (i := 1) 1 rfl rfl dX9_byteAt_0 ?_
  refine r_aload_n (pc := 1) (a := 0) (i := 0) 0 rfl rfl dX9_byteAt_1 ?_
  refine r_get (pc := 2) ckX9 (by decide) rfl (j := 13) (by decide) (show _ = some (iv L) by rw [← hL]; rfl) kf_X9_87 dX9_byteAt_2 ?_
  refine r_icmp_ge (pc := 5) 17 (by unfold rg; omega) (by unfold rg; omega) dX9_byteAt_5 (by decide) (fun h5 => ?_) (fun h5 => ?_)
  · skip
    refine r_ldc (pc := 17) kc_X9_90 dX9_byteAt_17 ?_
    refine r_iret (pc := 19) (st := []) rfl dX9_byteAt_19 ?_
    exact ⟨congrArg (fun q => some (iv q)) (by rw [if_neg (by omega)]), rfl⟩
  · skip
    refine r_aload_n (pc := 8) (a := 0) (i := 0) 0 rfl rfl dX9_byteAt_8 ?_
    refine r_get (pc := 9) ckX9 (by decide) rfl (j := 10) (by decide) rfl kf_X9_28 dX9_byteAt_9 ?_
    refine r_iload_n (pc := 12) (a := 1) (i := 1) 1 rfl rfl dX9_byteAt_12 ?_
    refine r_iald (pc := 13) (z := I 37 k) (by decide) rfl (by omega) (by omega) (by decide) (rfl) dX9_byteAt_13 ?_
    refine r_goto (pc := 14) 19 dX9_byteAt_14 (by decide) ?_
    refine r_iret (pc := 19) (st := []) rfl dX9_byteAt_19 ?_
    exact ⟨congrArg (fun q => some (iv q)) (by rw [if_pos (by omega)]), rfl⟩

set_option maxRecDepth 100000 in
set_option maxHeartbeats 4000000 in
theorem kX7_at (X : XC) {I : HD} {L k : Int} (hL : I 19 1 = L) (L0 : 0 ≤ L) (L1 : L ≤ 500) (hk : rg k) : Cl X 0 mX7_at [rv X 19, iv k] I (Ki (if 0 ≤ k ∧ k < L then I 20 k else 32) I) := by
  refine Cl.of (by decide) (Nat.le_of_ble_eq_true rfl) ?_
  show Rn X 0 mX7_at _ 0 [(0, rv X 19), (1, iv k)] [] I
  unfold rg at hk
  refine r_iload_n (pc := 0) (a := 1) (i := 1) 1 rfl rfl dX7_at_0 ?_
  refine r_if_lt (pc := 1) 21 (by unfold rg; omega) dX7_at_1 (by decide) (fun h1 => ?_) (fun h1 => ?_)
  · skip
    refine r_bipush (pc := 21) rfl dX7_at_21 ?_
    refine r_iret (pc := 23) (st := []) rfl dX7_at_23 ?_
    exact ⟨congrArg (fun q => some (iv q)) (by rw [if_neg (by omega)]), rfl⟩
  · skip
    refine r_iload_n (pc := 4) (a := 1) (i := 1) 1 rfl rfl dX7_at_4 ?_
    refine r_aload_n (pc := 5) (a := 0) (i := 0) 0 rfl rfl dX7_at_5 ?_
    refine r_get (pc := 6) ckX7 (by decide) rfl (j := 1) (by decide) (show _ = some (iv L) by rw [← hL]; rfl) kf_X7_15 dX7_at_6 ?_
    refine r_icmp_ge (pc := 9) 21 (by unfold rg; omega) (by unfold rg; omega) dX7_at_9 (by decide) (fun h9 => ?_) (fun h9 => ?_)
    · skip
      refine r_bipush (pc := 21) rfl dX7_at_21 ?_
      refine r_iret (pc := 23) (st := []) rfl dX7_at_23 ?_
      exact ⟨congrArg (fun q => some (iv q)) (by rw [if_neg (by omega)]), rfl⟩
    · skip
      refine r_aload_n (pc := 12) (a := 0) (i := 0) 0 rfl rfl dX7_at_12 ?_
      refine r_get (pc := 13) ckX7 (by decide) rfl (j := 0) (by decide) rfl kf_X7_9 dX7_at_13 ?_
      refine r_iload_n (pc := 16) (a := 1) (i := 1) 1 rfl rfl dX7_at_16 ?_
      refine r_bald (pc := 17) (z := I 20 k) (by decide) rfl (by omega) (by omega) (by decide) (rfl) dX7_at_17 ?_
      refine r_goto (pc := 18) 23 dX7_at_18 (by decide) ?_
      refine r_iret (pc := 23) (st := []) rfl dX7_at_23 ?_
      exact ⟨congrArg (fun q => some (iv q)) (by rw [if_pos (by omega)]), rfl⟩

set_option maxRecDepth 100000 in
set_option maxHeartbeats 4000000 in
theorem kX9_bad (X : XC) {I : HD} {f g k : Int} (hf : I 30 18 = f) (hr : rg f) (hg : I 30 16 = g) : Cl X 0 mX9_bad [rv X 30, iv k] I (fun r J => r = none ∧ (¬ f = 0 → J = I) ∧ (f = 0 → J = up (up I 30 18 k) 30 19 g)) := by
  refine Cl.of (by decide) (Nat.le_of_ble_eq_true rfl) ?_
  show Rn X 0 mX9_bad _ 0 [(0, rv X 30), (1, iv k)] [] I
  unfold rg at hr
  refine r_aload_n (pc := 0) (a := 0) (i := 0) 0 rfl rfl dX9_bad_0 ?_
  refine r_get (pc := 1) ckX9 (by decide) rfl (j := 18) (by decide) (congrArg (fun q => some (iv q)) hf) kf_X9_112 dX9_bad_1 ?_
  refine r_if_ne (pc := 4) 20 (by unfold rg; omega) dX9_bad_4 (by decide) (fun h4 => ?_) (fun h4 => ?_)
  · skip
    refine r_vret (pc := 20) (st := []) rfl dX9_bad_20 ?_
    exact ⟨rfl, fun _ => rfl, fun q => absurd q (by omega)⟩
  · skip
    refine r_aload_n (pc := 7) (a := 0) (i := 0) 0 rfl rfl dX9_bad_7 ?_
    refine r_iload_n (pc := 8) (a := 1) (i := 1) 1 rfl rfl dX9_bad_8 ?_
    refine r_put (pc := 9) 18 (ji := 18) rfl ckX9 (by decide) rfl rfl (by decide) (Nat.le_of_ble_eq_true rfl) kf_X9_112 rfl rfl rfl rfl dX9_bad_9 ?_
    refine r_aload_n (pc := 12) (a := 0) (i := 0) 0 rfl rfl dX9_bad_12 ?_
    refine r_aload_n (pc := 13) (a := 0) (i := 0) 0 rfl rfl dX9_bad_13 ?_
    refine r_get (pc := 14) ckX9 (by decide) rfl (j := 16) (by decide) (congrArg (fun q => some (iv q)) (show up I 30 18 k 30 16 = g from (up_i (by decide)).trans hg)) kf_X9_97 dX9_bad_14 ?_
    refine r_put (pc := 17) 19 (ji := 19) rfl ckX9 (by decide) rfl rfl (by decide) (Nat.le_of_ble_eq_true rfl) kf_X9_118 rfl rfl rfl rfl dX9_bad_17 ?_
    refine r_vret (pc := 20) (st := []) rfl dX9_bad_20 ?_
    exact ⟨rfl, fun q => absurd h4 q, fun _ => rfl⟩
