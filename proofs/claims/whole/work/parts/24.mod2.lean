set_option maxRecDepth 100000 in
set_option maxHeartbeats 4000000 in
theorem rX9_manyOn (X : XC) {I : HD} {d z : Int} (h0 : 0 ≤ d) (h1 : d < 4) (hz : I 34 (23 + 10 * d) = z) : Cl X 0 mX9_manyOn [rv X 30, iv d] I (Ki z I) := by
  refine Cl.of (by decide) (Nat.le_of_ble_eq_true rfl) ?_
  show Rn X 0 mX9_manyOn _ 0 [(0, rv X 30), (1, iv d)] [] I
  refine r_aload_n (pc := 0) (a := 0) (i := 0) 0 rfl rfl dX9_manyOn_0 ?_
  refine r_get (pc := 1) ckX9 (by decide) rfl (j := 5) (by decide) rfl kf_X9_19 dX9_manyOn_1 ?_
  refine r_bipush (pc := 4) rfl dX9_manyOn_4 ?_
  refine r_bipush (pc := 6) rfl dX9_manyOn_6 ?_
  refine r_iload_n (pc := 8) (a := 1) (i := 1) 1 rfl rfl dX9_manyOn_8 ?_
  refine r_imul (pc := 9) dX9_manyOn_9 ?_
  refine r_iadd (pc := 10) dX9_manyOn_10 ?_
  refine r_iald (pc := 11) (z := z) (by decide) rfl (by omega) (by omega) (by decide) (hz) dX9_manyOn_11 ?_
  refine r_iret (pc := 12) (st := []) rfl dX9_manyOn_12 ?_
  exact ⟨rfl, rfl⟩

set_option maxRecDepth 100000 in
set_option maxHeartbeats 4000000 in
theorem rX9_lies (X : XC) {I : HD} {d k z : Int} (h0 : 0 ≤ d) (h1 : d < 4) (h2 : 0 ≤ k) (h3 : k < 10) (hz : I 34 (24 + 10 * d + k) = z) : Cl X 0 mX9_lies [rv X 30, iv d, iv k] I (Ki z I) := by
  refine Cl.of (by decide) (Nat.le_of_ble_eq_true rfl) ?_
  show Rn X 0 mX9_lies _ 0 [(0, rv X 30), (1, iv d), (2, iv k)] [] I
  refine r_aload_n (pc := 0) (a := 0) (i := 0) 0 rfl rfl dX9_lies_0 ?_
  refine r_get (pc := 1) ckX9 (by decide) rfl (j := 5) (by decide) rfl kf_X9_19 dX9_lies_1 ?_
  refine r_bipush (pc := 4) rfl dX9_lies_4 ?_
  refine r_bipush (pc := 6) rfl dX9_lies_6 ?_
  refine r_iload_n (pc := 8) (a := 1) (i := 1) 1 rfl rfl dX9_lies_8 ?_
  refine r_imul (pc := 9) dX9_lies_9 ?_
  refine r_iadd (pc := 10) dX9_lies_10 ?_
  refine r_iconst (pc := 11) dX9_lies_11 ?_
  refine r_iadd (pc := 12) dX9_lies_12 ?_
  refine r_iload_n (pc := 13) (a := 2) (i := 2) 2 rfl rfl dX9_lies_13 ?_
  refine r_iadd (pc := 14) dX9_lies_14 ?_
  refine r_iald (pc := 15) (z := z) (by decide) rfl (by omega) (by omega) (by decide) ((congrArg (I 34) (by omega)).trans hz) dX9_lies_15 ?_
  refine r_iret (pc := 16) (st := []) rfl dX9_lies_16 ?_
  exact ⟨rfl, rfl⟩

set_option maxRecDepth 100000 in
set_option maxHeartbeats 4000000 in
theorem kX9_comes (X : XC) {I : HD} {O : OF} (hO : I 34 = O) (hV : Val O) {d : Int} (h0 : 0 ≤ d) (h1 : d < O 0) {p : Int} : Cl X 1 mX9_comes [rv X 30, iv d, iv p] I (Kv (upA I 34 (cmO O d p))) := by
  refine Cl.of (by decide) (Nat.le_of_ble_eq_true rfl) ?_
  show Rn X 1 mX9_comes _ 0 [(0, rv X 30), (1, iv d), (2, iv p)] [] I
  have q0 := hV.a
  have q1 := hV.d h0 h1
  refine r_aload_n (pc := 0) (a := 0) (i := 0) 0 rfl rfl dX9_comes_0 ?_
  refine r_get (pc := 1) ckX9 (by decide) rfl (j := 5) (by decide) rfl kf_X9_19 dX9_comes_1 ?_
  refine r_bipush (pc := 4) rfl dX9_comes_4 ?_
  refine r_bipush (pc := 6) rfl dX9_comes_6 ?_
  refine r_iload_n (pc := 8) (a := 1) (i := 1) 1 rfl rfl dX9_comes_8 ?_
  refine r_imul (pc := 9) dX9_comes_9 ?_
  refine r_iadd (pc := 10) dX9_comes_10 ?_
  refine r_dup2 (pc := 11) rfl rfl dX9_comes_11 ?_
  refine r_iald (pc := 12) (z := O (23 + 10 * d)) (by decide) rfl (by omega) (by omega) (by decide) (congrFun hO _) dX9_comes_12 ?_
  refine r_iconst (pc := 13) dX9_comes_13 ?_
  refine r_iadd (pc := 14) dX9_comes_14 ?_
  refine r_iast (pc := 15) (by decide) (fun _ => rfl) (by omega) (by omega) (by decide) dX9_comes_15 ?_
  refine r_aload_n (pc := 16) (a := 0) (i := 0) 0 rfl rfl dX9_comes_16 ?_
  refine r_get (pc := 17) ckX9 (by decide) rfl (j := 5) (by decide) rfl kf_X9_19 dX9_comes_17 ?_
  refine r_bipush (pc := 20) rfl dX9_comes_20 ?_
  refine r_bipush (pc := 22) rfl dX9_comes_22 ?_
  refine r_iload_n (pc := 24) (a := 1) (i := 1) 1 rfl rfl dX9_comes_24 ?_
  refine r_imul (pc := 25) dX9_comes_25 ?_
  refine r_iadd (pc := 26) dX9_comes_26 ?_
  refine r_aload_n (pc := 27) (a := 0) (i := 0) 0 rfl rfl dX9_comes_27 ?_
  refine r_iload_n (pc := 28) (a := 1) (i := 1) 1 rfl rfl dX9_comes_28 ?_
  refine r_callVi (pc := 29) (st := [iv (23 + (10 * d)), rv X 34]) (As := [iv d]) okX9_manyOn (by decide) (by decide) rfl rfl rfl (Nat.le_of_ble_eq_true rfl) km_X9_191 (rX9_manyOn X (z := O (23 + 10 * d) + 1) (by omega) (by omega) (by rw [up_s])) dX9_comes_29 ?_
  refine r_iadd (pc := 32) dX9_comes_32 ?_
  refine r_iload_n (pc := 33) (a := 2) (i := 2) 2 rfl rfl dX9_comes_33 ?_
  refine r_iast (pc := 34) (by decide) (fun _ => rfl) (by omega) (by omega) (by decide) dX9_comes_34 ?_
  refine r_vret (pc := 35) (st := []) rfl dX9_comes_35 ?_
  exact ⟨rfl, cmO_up hO⟩

set_option maxRecDepth 100000 in
set_option maxHeartbeats 4000000 in
theorem kX9_leaves (X : XC) {I : HD} {O : OF} (hO : I 34 = O) (hV : Val O) {d : Int} (h0 : 0 ≤ d) (h1 : d < O 0) {p k9 : Int} (w1 : 0 ≤ k9) (w2 : k9 < O (23 + 10 * d)) (w3 : O (24 + 10 * d + k9) = p) : Cl X 2 mX9_leaves [rv X 30, iv d, iv p] I (Kv (upA I 34 (lvO O d k9))) := by
  refine Cl.of (by decide) (Nat.le_of_ble_eq_true rfl) ?_
  show Rn X 2 mX9_leaves _ 0 [(0, rv X 30), (1, iv d), (2, iv p)] [] I
  have q0 := hV.a
  have q1 := hV.d h0 h1
  refine r_aload_n (pc := 0) (a := 0) (i := 0) 0 rfl rfl dX9_leaves_0 ?_
  refine r_iload_n (pc := 1) (a := 1) (i := 1) 1 rfl rfl dX9_leaves_1 ?_
  refine r_iload_n (pc := 2) (a := 2) (i := 2) 2 rfl rfl dX9_leaves_2 ?_
  refine r_callVi (pc := 3) (st := []) (As := [iv d, iv p]) okX9_placeOf (by decide) (by decide) rfl rfl rfl (Nat.le_of_ble_eq_true rfl) km_X9_197 (kX9_placeOf X hO hV h0 h1 w1 w2 w3) dX9_leaves_3 ?_
  refine r_istore_n (pc := 6) (a := 3) (i := 3) rfl [(3, iv k9), (0, rv X 30), (1, iv d), (2, iv p)] (by decide) rfl dX9_leaves_6 ?_
  refine r_I (J := upA I 34 (shF O (24 + 10 * d + k9) (24 + 10 * d + k9))) (by rw [shF_0]; exact upA_O hO) ?_
  have at7 : ∀ (n7 : Nat) (k : Int), (O (23 + 10 * d) - k).toNat < n7 → (hk0 : k9 ≤ k) → (hk1 : k ≤ O (23 + 10 * d) - 1) → Rn X 2 mX9_leaves (Kv (upA I 34 (lvO O d k9))) 7 [(0, rv X 30), (1, iv d), (2, iv p), (3, iv k)] [] (upA I 34 (shF O (24 + 10 * d + k9) (24 + 10 * d + k))) := by
    intro n7
    induction n7 with
    | zero => intro k hm; omega
    | succ n7 ih7 =>
      intro k hm7 hk0 hk1
      refine r_iload_n (pc := 7) (a := 3) (i := 3) 3 rfl rfl dX9_leaves_7 ?_
      refine r_iconst (pc := 8) dX9_leaves_8 ?_
      refine r_iadd (pc := 9) dX9_leaves_9 ?_
      refine r_aload_n (pc := 10) (a := 0) (i := 0) 0 rfl rfl dX9_leaves_10 ?_
      refine r_iload_n (pc := 11) (a := 1) (i := 1) 1 rfl rfl dX9_leaves_11 ?_
      refine r_callVi (pc := 12) (st := [iv (k + 1)]) (As := [iv d]) okX9_manyOn (by decide) (by decide) rfl rfl rfl (Nat.le_of_ble_eq_true rfl) km_X9_191 (rX9_manyOn X (z := O (23 + 10 * d)) (by omega) (by omega) (by rw [upA_s]; unfold shF; rw [if_neg (by omega)])) dX9_leaves_12 ?_
      refine r_icmp_ge (pc := 15) 48 (by unfold rg; omega) (by unfold rg; omega) dX9_leaves_15 (by decide) (fun h15 => ?_) (fun h15 => ?_)
      · skip
        refine r_aload_n (pc := 48) (a := 0) (i := 0) 0 rfl rfl dX9_leaves_48 ?_
        refine r_get (pc := 49) ckX9 (by decide) rfl (j := 5) (by decide) rfl kf_X9_19 dX9_leaves_49 ?_
        refine r_bipush (pc := 52) rfl dX9_leaves_52 ?_
        refine r_bipush (pc := 54) rfl dX9_leaves_54 ?_
        refine r_iload_n (pc := 56) (a := 1) (i := 1) 1 rfl rfl dX9_leaves_56 ?_
        refine r_imul (pc := 57) dX9_leaves_57 ?_
        refine r_iadd (pc := 58) dX9_leaves_58 ?_
        refine r_dup2 (pc := 59) rfl rfl dX9_leaves_59 ?_
        refine r_iald (pc := 60) (z := O (23 + 10 * d)) (by decide) rfl (by omega) (by omega) (by decide) (by rw [upA_s]; unfold shF; rw [if_neg (by omega)]) dX9_leaves_60 ?_
        refine r_iconst (pc := 61) dX9_leaves_61 ?_
        refine r_isub (pc := 62) dX9_leaves_62 ?_
        refine r_iast (pc := 63) (by decide) (fun _ => rfl) (by omega) (by omega) (by decide) dX9_leaves_63 ?_
        refine r_vret (pc := 64) (st := []) rfl dX9_leaves_64 ?_
        exact ⟨rfl, by rw [show k = O (23 + 10 * d) - 1 by omega]; exact lvO_up w1⟩
      · skip
        refine r_aload_n (pc := 18) (a := 0) (i := 0) 0 rfl rfl dX9_leaves_18 ?_
        refine r_get (pc := 19) ckX9 (by decide) rfl (j := 5) (by decide) rfl kf_X9_19 dX9_leaves_19 ?_
        refine r_bipush (pc := 22) rfl dX9_leaves_22 ?_
        refine r_bipush (pc := 24) rfl dX9_leaves_24 ?_
        refine r_iload_n (pc := 26) (a := 1) (i := 1) 1 rfl rfl dX9_leaves_26 ?_
        refine r_imul (pc := 27) dX9_leaves_27 ?_
        refine r_iadd (pc := 28) dX9_leaves_28 ?_
        refine r_iconst (pc := 29) dX9_leaves_29 ?_
        refine r_iadd (pc := 30) dX9_leaves_30 ?_
        refine r_iload_n (pc := 31) (a := 3) (i := 3) 3 rfl rfl dX9_leaves_31 ?_
        refine r_iadd (pc := 32) dX9_leaves_32 ?_
        refine r_aload_n (pc := 33) (a := 0) (i := 0) 0 rfl rfl dX9_leaves_33 ?_
        refine r_iload_n (pc := 34) (a := 1) (i := 1) 1 rfl rfl dX9_leaves_34 ?_
        refine r_iload_n (pc := 35) (a := 3) (i := 3) 3 rfl rfl dX9_leaves_35 ?_
        refine r_iconst (pc := 36) dX9_leaves_36 ?_
        refine r_iadd (pc := 37) dX9_leaves_37 ?_
        refine r_callVi (pc := 38) (st := [iv (((23 + (10 * d)) + 1) + k), rv X 34]) (As := [iv d, iv (k + 1)]) okX9_lies (by decide) (by decide) rfl rfl rfl (Nat.le_of_ble_eq_true rfl) km_X9_194 (rX9_lies X (z := O (24 + 10 * d + k + 1)) (by omega) (by omega) (by omega) (by omega) (by rw [upA_s]; unfold shF; rw [if_neg (by omega), show 24 + 10 * d + (k + 1) = 24 + 10 * d + k + 1 by omega])) dX9_leaves_38 ?_
        refine r_iast (pc := 41) (by decide) (fun _ => rfl) (by omega) (by omega) (by decide) dX9_leaves_41 ?_
        refine r_I (J := upA I 34 (shF O (24 + 10 * d + k9) (24 + 10 * d + (k + 1)))) (shF_s2 (by omega) (by omega) (by omega) rfl) ?_
        refine r_iinc (pc := 42) 3 [(3, iv (k + 1)), (0, rv X 30), (1, iv d), (2, iv p)] rfl (by decide) rfl dX9_leaves_42 ?_
        refine r_goto (pc := 45) 7 dX9_leaves_45 (by decide) ?_
        refine r_lv [1, 2, 3, 0] [(0, rv X 30), (1, iv d), (2, iv p), (3, iv (k + 1))] rfl ?_
        exact ih7 (k + 1) (by omega) (by omega) (by omega)
  refine r_lv [1, 2, 3, 0] [(0, rv X 30), (1, iv d), (2, iv p), (3, iv k9)] rfl ?_
  exact at7 _ k9 (Nat.lt_succ_self _) (by omega) (by omega)

set_option maxRecDepth 100000 in
set_option maxHeartbeats 4000000 in
theorem kX9_keep (X : XC) {I : HD} {O : OF} {W : Int → Int} {n : Int} (hO : I 34 = O) (hW : I 36 = W) (hn : I 30 9 = n) (n0 : 0 ≤ n) (n1 : n ≤ 24) : Cl X 0 mX9_keep [rv X 30] I (Kv (up (upA I 36 (kpW W O n)) 30 9 (kpN n))) := by
  refine Cl.of (by decide) (Nat.le_of_ble_eq_true rfl) ?_
  show Rn X 0 mX9_keep _ 0 [(0, rv X 30)] [] I
  refine r_aload_n (pc := 0) (a := 0) (i := 0) 0 rfl rfl dX9_keep_0 ?_
  refine r_get (pc := 1) ckX9 (by decide) rfl (j := 9) (by decide) (show _ = some (iv n) by rw [← hn]; rfl) kf_X9_188 dX9_keep_1 ?_
  refine r_bipush (pc := 4) rfl dX9_keep_4 ?_
  have at49 : ∀ (I1 : HD) (W1 : Int → Int) (m : Int), (hO1 : I1 34 = O) → (hW1 : I1 36 = W1) → (hm : I1 30 9 = m) → (m0 : 0 ≤ m) → (m1 : m ≤ 23) → (hK : up (upA I1 36 (blk W1 O m 127)) 30 9 (m + 1) = up (upA I 36 (kpW W O n)) 30 9 (kpN n)) → Rn X 0 mX9_keep (Kv (up (upA I 36 (kpW W O n)) 30 9 (kpN n))) 49 [(0, rv X 30)] [] I1 := by
    intro I1 W1 m hO1 hW1 hm m0 m1 hK
    refine r_iconst (pc := 49) dX9_keep_49 ?_
    refine r_istore_n (pc := 50) (a := 1) (i := 1) rfl [(1, iv 0), (0, rv X 30)] (by decide) rfl dX9_keep_50 ?_
    refine r_I (J := upA I1 36 (blk W1 O m 0)) (by rw [blk_0, ← hW1]; exact upA_z) ?_
    have at51 : ∀ (n51 : Nat) (k : Int), (127 - k).toNat < n51 → (hk0 : 0 ≤ k) → (hk1 : k ≤ 127) → Rn X 0 mX9_keep (Kv (up (upA I 36 (kpW W O n)) 30 9 (kpN n))) 51 [(0, rv X 30), (1, iv k)] [] (upA I1 36 (blk W1 O m k)) := by
      intro n51
      induction n51 with
      | zero => intro k hm; omega
      | succ n51 ih51 =>
        intro k hm51 hk0 hk1
        refine r_iload_n (pc := 51) (a := 1) (i := 1) 1 rfl rfl dX9_keep_51 ?_
        refine r_bipush (pc := 52) rfl dX9_keep_52 ?_
        refine r_icmp_ge (pc := 54) 83 (by unfold rg; omega) (by unfold rg; omega) dX9_keep_54 (by decide) (fun h54 => ?_) (fun h54 => ?_)
        · skip
          refine r_aload_n (pc := 83) (a := 0) (i := 0) 0 rfl rfl dX9_keep_83 ?_
          refine r_dup (pc := 84) rfl dX9_keep_84 ?_
          refine r_get (pc := 85) ckX9 (by decide) rfl (j := 9) (by decide) (show _ = some (iv m) by rw [← (show upA I1 36 (blk W1 O m k) 30 9 = m by rw [upA_h (by decide)]; exact hm)]; rfl) kf_X9_188 dX9_keep_85 ?_
          refine r_iconst (pc := 88) dX9_keep_88 ?_
          refine r_iadd (pc := 89) dX9_keep_89 ?_
          refine r_put (pc := 90) 9 (ji := 9) rfl ckX9 (by decide) rfl rfl (by decide) (Nat.le_of_ble_eq_true rfl) kf_X9_188 rfl rfl rfl rfl dX9_keep_90 ?_
          refine r_vret (pc := 93) (st := []) rfl dX9_keep_93 ?_
          exact ⟨rfl, by rw [show k = 127 by omega]; exact hK⟩
        · skip
          refine r_aload_n (pc := 57) (a := 0) (i := 0) 0 rfl rfl dX9_keep_57 ?_
          refine r_get (pc := 58) ckX9 (by decide) rfl (j := 8) (by decide) rfl kf_X9_25 dX9_keep_58 ?_
          refine r_bipush (pc := 61) rfl dX9_keep_61 ?_
          refine r_aload_n (pc := 63) (a := 0) (i := 0) 0 rfl rfl dX9_keep_63 ?_
          refine r_get (pc := 64) ckX9 (by decide) rfl (j := 9) (by decide) (show _ = some (iv m) by rw [← (show upA I1 36 (blk W1 O m k) 30 9 = m by rw [upA_h (by decide)]; exact hm)]; rfl) kf_X9_188 dX9_keep_64 ?_
          refine r_imul (pc := 67) dX9_keep_67 ?_
          refine r_iload_n (pc := 68) (a := 1) (i := 1) 1 rfl rfl dX9_keep_68 ?_
          refine r_iadd (pc := 69) dX9_keep_69 ?_
          refine r_aload_n (pc := 70) (a := 0) (i := 0) 0 rfl rfl dX9_keep_70 ?_
          refine r_get (pc := 71) ckX9 (by decide) rfl (j := 5) (by decide) rfl kf_X9_19 dX9_keep_71 ?_
          refine r_iload_n (pc := 74) (a := 1) (i := 1) 1 rfl rfl dX9_keep_74 ?_
          refine r_iald (pc := 75) (z := O k) (by decide) rfl (by omega) (by omega) (by decide) (by rw [upA_h (by decide)]; exact congrFun hO1 k) dX9_keep_75 ?_
          refine r_iast (pc := 76) (by decide) (fun _ => rfl) (by omega) (by omega) (by decide) dX9_keep_76 ?_
          refine r_I (J := upA I1 36 (blk W1 O m (k + 1))) (blk_s hk0 rfl) ?_
          refine r_iinc (pc := 77) 1 [(1, iv (k + 1)), (0, rv X 30)] rfl (by decide) rfl dX9_keep_77 ?_
          refine r_goto (pc := 80) 51 dX9_keep_80 (by decide) ?_
          refine r_lv [1, 0] [(0, rv X 30), (1, iv (k + 1))] rfl ?_
          exact ih51 (k + 1) (by omega) (by omega) (by omega)
    refine r_lv [1, 0] [(0, rv X 30), (1, iv 0)] rfl ?_
    exact at51 _ 0 (Nat.lt_succ_self _) (by omega) (by omega)
  refine r_icmp_ne (pc := 6) 49 (by unfold rg; omega) (by unfold rg; omega) dX9_keep_6 (by decide) (fun h6 => ?_) (fun h6 => ?_)
  · skip
    refine r_lv [0] [(0, rv X 30)] rfl ?_
    exact at49 I _ _ (hO) (hW) (hn) (n0) (by omega) (by unfold kpW kpN; rw [if_neg h6, if_neg h6])
  · skip
    refine r_iconst (pc := 9) dX9_keep_9 ?_
    refine r_istore_n (pc := 10) (a := 1) (i := 1) rfl [(1, iv 0), (0, rv X 30)] (by decide) rfl dX9_keep_10 ?_
    refine r_I (J := upA I 36 (sh127 W 0)) (by rw [sh127_0, ← hW]; exact upA_z) ?_
    have at11 : ∀ (n11 : Nat) (k : Int), (2921 - k).toNat < n11 → (hk0 : 0 ≤ k) → (hk1 : k ≤ 2921) → Rn X 0 mX9_keep (Kv (up (upA I 36 (kpW W O n)) 30 9 (kpN n))) 11 [(0, rv X 30), (1, iv k)] [] (upA I 36 (sh127 W k)) := by
      intro n11
      induction n11 with
      | zero => intro k hm; omega
      | succ n11 ih11 =>
        intro k hm11 hk0 hk1
        refine r_iload_n (pc := 11) (a := 1) (i := 1) 1 rfl rfl dX9_keep_11 ?_
        refine r_sipush (pc := 12) rfl dX9_keep_12 ?_
        refine r_icmp_ge (pc := 15) 39 (by unfold rg; omega) (by unfold rg; omega) dX9_keep_15 (by decide) (fun h15 => ?_) (fun h15 => ?_)
        · skip
          refine r_aload_n (pc := 39) (a := 0) (i := 0) 0 rfl rfl dX9_keep_39 ?_
          refine r_dup (pc := 40) rfl dX9_keep_40 ?_
          refine r_get (pc := 41) ckX9 (by decide) rfl (j := 9) (by decide) (show _ = some (iv n) by rw [← (show upA I 36 (sh127 W k) 30 9 = n by rw [upA_h (by decide)]; exact hn)]; rfl) kf_X9_188 dX9_keep_41 ?_
          refine r_iconst (pc := 44) dX9_keep_44 ?_
          refine r_isub (pc := 45) dX9_keep_45 ?_
          refine r_put (pc := 46) 9 (ji := 9) rfl ckX9 (by decide) rfl rfl (by decide) (Nat.le_of_ble_eq_true rfl) kf_X9_188 rfl rfl rfl rfl dX9_keep_46 ?_
          refine r_lv [0] [(0, rv X 30)] rfl ?_
          exact at49 (up (upA I 36 (sh127 W k)) 30 9 (n - 1)) _ _ (by rw [up_row (by decide), upA_h (by decide)]; exact hO) (by rw [up_row (by decide)]; exact upA_s) (by exact up_s) (by omega) (by omega) (kp_eq (by omega) (by omega))
        · skip
          refine r_aload_n (pc := 18) (a := 0) (i := 0) 0 rfl rfl dX9_keep_18 ?_
          refine r_get (pc := 19) ckX9 (by decide) rfl (j := 8) (by decide) rfl kf_X9_25 dX9_keep_19 ?_
          refine r_iload_n (pc := 22) (a := 1) (i := 1) 1 rfl rfl dX9_keep_22 ?_
          refine r_aload_n (pc := 23) (a := 0) (i := 0) 0 rfl rfl dX9_keep_23 ?_
          refine r_get (pc := 24) ckX9 (by decide) rfl (j := 8) (by decide) rfl kf_X9_25 dX9_keep_24 ?_
          refine r_iload_n (pc := 27) (a := 1) (i := 1) 1 rfl rfl dX9_keep_27 ?_
          refine r_bipush (pc := 28) rfl dX9_keep_28 ?_
          refine r_iadd (pc := 30) dX9_keep_30 ?_
          refine r_iald (pc := 31) (z := W (k + 127)) (by decide) rfl (by omega) (by omega) (by decide) (by rw [upA_s]; unfold sh127; rw [if_neg (by omega)]) dX9_keep_31 ?_
          refine r_iast (pc := 32) (by decide) (fun _ => rfl) (by omega) (by omega) (by decide) dX9_keep_32 ?_
          refine r_I (J := upA I 36 (sh127 W (k + 1))) (sh127_s hk0 rfl) ?_
          refine r_iinc (pc := 33) 1 [(1, iv (k + 1)), (0, rv X 30)] rfl (by decide) rfl dX9_keep_33 ?_
          refine r_goto (pc := 36) 11 dX9_keep_36 (by decide) ?_
          refine r_lv [1, 0] [(0, rv X 30), (1, iv (k + 1))] rfl ?_
          exact ih11 (k + 1) (by omega) (by omega) (by omega)
    refine r_lv [1, 0] [(0, rv X 30), (1, iv 0)] rfl ?_
    exact at11 _ 0 (Nat.lt_succ_self _) (by omega) (by omega)
