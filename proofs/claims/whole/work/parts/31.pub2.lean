set_option maxRecDepth 100000 in
set_option maxHeartbeats 4000000 in
theorem kX8_isGusts (X : XC) {I : HD} {n : Int} (h : rg n) : Cl X 0 mX8_isGusts [iv n] I (Ki (bI (0 ≤ n ∧ n ≤ 9)) I) := by
  refine Cl.of (by decide) (Nat.le_of_ble_eq_true rfl) ?_
  show Rn X 0 mX8_isGusts _ 0 [(0, iv n)] [] I
  unfold rg at h
  refine r_iload_n (pc := 0) (a := 0) (i := 0) 0 rfl rfl dX8_isGusts_0 ?_
  refine r_if_lt (pc := 1) 14 (by unfold rg; omega) dX8_isGusts_1 (by decide) (fun h1 => ?_) (fun h1 => ?_)
  · skip
    refine r_iconst (pc := 14) dX8_isGusts_14 ?_
    refine r_zret (pc := 15) (st := []) rfl (rfl) dX8_isGusts_15 ?_
    exact ⟨by rw [bI_f (by omega)], rfl⟩
  · skip
    refine r_iload_n (pc := 4) (a := 0) (i := 0) 0 rfl rfl dX8_isGusts_4 ?_
    refine r_bipush (pc := 5) rfl dX8_isGusts_5 ?_
    refine r_icmp_gt (pc := 7) 14 (by unfold rg; omega) (by unfold rg; omega) dX8_isGusts_7 (by decide) (fun h7 => ?_) (fun h7 => ?_)
    · skip
      refine r_iconst (pc := 14) dX8_isGusts_14 ?_
      refine r_zret (pc := 15) (st := []) rfl (rfl) dX8_isGusts_15 ?_
      exact ⟨by rw [bI_f (by omega)], rfl⟩
    · skip
      refine r_iconst (pc := 10) dX8_isGusts_10 ?_
      refine r_goto (pc := 11) 15 dX8_isGusts_11 (by decide) ?_
      refine r_zret (pc := 15) (st := []) rfl (rfl) dX8_isGusts_15 ?_
      exact ⟨by rw [bI_t (by omega)], rfl⟩

set_option maxRecDepth 100000 in
set_option maxHeartbeats 4000000 in
theorem kX8_isRow (X : XC) {I : HD} {r : Int} (h : rg r) : Cl X 0 mX8_isRow [iv r] I (Ki (bI (0 ≤ r ∧ r < 8)) I) := by
  refine Cl.of (by decide) (Nat.le_of_ble_eq_true rfl) ?_
  show Rn X 0 mX8_isRow _ 0 [(0, iv r)] [] I
  unfold rg at h
  refine r_iload_n (pc := 0) (a := 0) (i := 0) 0 rfl rfl dX8_isRow_0 ?_
  refine r_if_lt (pc := 1) 14 (by unfold rg; omega) dX8_isRow_1 (by decide) (fun h1 => ?_) (fun h1 => ?_)
  · skip
    refine r_iconst (pc := 14) dX8_isRow_14 ?_
    refine r_zret (pc := 15) (st := []) rfl (rfl) dX8_isRow_15 ?_
    exact ⟨by rw [bI_f (by omega)], rfl⟩
  · skip
    refine r_iload_n (pc := 4) (a := 0) (i := 0) 0 rfl rfl dX8_isRow_4 ?_
    refine r_bipush (pc := 5) rfl dX8_isRow_5 ?_
    refine r_icmp_ge (pc := 7) 14 (by unfold rg; omega) (by unfold rg; omega) dX8_isRow_7 (by decide) (fun h7 => ?_) (fun h7 => ?_)
    · skip
      refine r_iconst (pc := 14) dX8_isRow_14 ?_
      refine r_zret (pc := 15) (st := []) rfl (rfl) dX8_isRow_15 ?_
      exact ⟨by rw [bI_f (by omega)], rfl⟩
    · skip
      refine r_iconst (pc := 10) dX8_isRow_10 ?_
      refine r_goto (pc := 11) 15 dX8_isRow_11 (by decide) ?_
      refine r_zret (pc := 15) (st := []) rfl (rfl) dX8_isRow_15 ?_
      exact ⟨by rw [bI_t (by omega)], rfl⟩

set_option maxRecDepth 100000 in
set_option maxHeartbeats 4000000 in
theorem kX8_isImage (X : XC) {I : HD} {j : Int} (h : rg j) : Cl X 0 mX8_isImage [iv j] I (Ki (bI (0 ≤ j ∧ j < 2)) I) := by
  refine Cl.of (by decide) (Nat.le_of_ble_eq_true rfl) ?_
  show Rn X 0 mX8_isImage _ 0 [(0, iv j)] [] I
  unfold rg at h
  refine r_iload_n (pc := 0) (a := 0) (i := 0) 0 rfl rfl dX8_isImage_0 ?_
  refine r_if_lt (pc := 1) 13 (by unfold rg; omega) dX8_isImage_1 (by decide) (fun h1 => ?_) (fun h1 => ?_)
  · skip
    refine r_iconst (pc := 13) dX8_isImage_13 ?_
    refine r_zret (pc := 14) (st := []) rfl (rfl) dX8_isImage_14 ?_
    exact ⟨by rw [bI_f (by omega)], rfl⟩
  · skip
    refine r_iload_n (pc := 4) (a := 0) (i := 0) 0 rfl rfl dX8_isImage_4 ?_
    refine r_iconst (pc := 5) dX8_isImage_5 ?_
    refine r_icmp_ge (pc := 6) 13 (by unfold rg; omega) (by unfold rg; omega) dX8_isImage_6 (by decide) (fun h6 => ?_) (fun h6 => ?_)
    · skip
      refine r_iconst (pc := 13) dX8_isImage_13 ?_
      refine r_zret (pc := 14) (st := []) rfl (rfl) dX8_isImage_14 ?_
      exact ⟨by rw [bI_f (by omega)], rfl⟩
    · skip
      refine r_iconst (pc := 9) dX8_isImage_9 ?_
      refine r_goto (pc := 10) 14 dX8_isImage_10 (by decide) ?_
      refine r_zret (pc := 14) (st := []) rfl (rfl) dX8_isImage_14 ?_
      exact ⟨by rw [bI_t (by omega)], rfl⟩

set_option maxRecDepth 100000 in
set_option maxHeartbeats 4000000 in
theorem kX8_taken (X : XC) {I : HD} {O : OF} (hR : RepC O I 0) (hV : Val O) {n w : Int} (hn : rg n) (hw : rg w) : Cl X 6 mX8_taken [rv X 0, iv n, iv w] I (Ki (zTak O n w) I) := by
  refine Cl.of (by decide) (Nat.le_of_ble_eq_true rfl) ?_
  show Rn X 6 mX8_taken _ 0 [(0, rv X 0), (1, iv n), (2, iv w)] [] I
  unfold rg at hn hw
  have q0 := hV.a
  refine r_aload_n (pc := 0) (a := 0) (i := 0) 0 rfl rfl dX8_taken_0 ?_
  refine r_get (pc := 1) ckX8 (by decide) rfl (j := 2) (by decide) rfl kf_X8_25 dX8_taken_1 ?_
  refine r_callVi (pc := 4) (st := []) (As := []) okX3_isThere (by decide) (oH_lt (show 0 < 28 by decide)) (cellO (show 0 < 28 by decide)) rfl rfl (Nat.le_of_ble_eq_true rfl) km_X8_197 (kX3_isThere X (by decide) hR hV ) dX8_taken_4 ?_
  refine r_if_ne (pc := 7) 13 rg_bI dX8_taken_7 (by decide) (fun h7 => ?_) (fun h7 => ?_)
  · skip
    have h7 := bI_n.mp h7
    refine r_iload_n (pc := 13) (a := 1) (i := 1) 1 rfl rfl dX8_taken_13 ?_
    refine r_callSi (pc := 14) (st := []) (As := [iv n]) okX8_isGusts (by decide) trivial rfl (Nat.le_of_ble_eq_true rfl) km_X8_242 (kX8_isGusts X (by unfold rg; omega)) dX8_taken_14 ?_
    refine r_if_eq (pc := 17) 29 rg_bI dX8_taken_17 (by decide) (fun h17 => ?_) (fun h17 => ?_)
    · skip
      have h17 := bI_0.mp h17
      refine r_ldc (pc := 29) kc_X8_73 dX8_taken_29 ?_
      refine r_iret (pc := 31) (st := []) rfl dX8_taken_31 ?_
      exact ⟨congrArg (fun q => some (iv q)) (by unfold zTak; rw [if_pos (by omega), if_neg (by omega)]), rfl⟩
    · skip
      have h17 := bI_n.mp h17
      refine r_iload_n (pc := 20) (a := 2) (i := 2) 2 rfl rfl dX8_taken_20 ?_
      refine r_if_lt (pc := 21) 29 (by unfold rg; omega) dX8_taken_21 (by decide) (fun h21 => ?_) (fun h21 => ?_)
      · skip
        refine r_ldc (pc := 29) kc_X8_73 dX8_taken_29 ?_
        refine r_iret (pc := 31) (st := []) rfl dX8_taken_31 ?_
        exact ⟨congrArg (fun q => some (iv q)) (by unfold zTak; rw [if_pos (by omega), if_neg (by omega)]), rfl⟩
      · skip
        refine r_iload_n (pc := 24) (a := 2) (i := 2) 2 rfl rfl dX8_taken_24 ?_
        refine r_iconst (pc := 25) dX8_taken_25 ?_
        refine r_icmp_le (pc := 26) 32 (by unfold rg; omega) (by unfold rg; omega) dX8_taken_26 (by decide) (fun h26 => ?_) (fun h26 => ?_)
        · skip
          refine r_aload_n (pc := 32) (a := 0) (i := 0) 0 rfl rfl dX8_taken_32 ?_
          refine r_get (pc := 33) ckX8 (by decide) rfl (j := 2) (by decide) rfl kf_X8_25 dX8_taken_33 ?_
          refine r_iload_n (pc := 36) (a := 1) (i := 1) 1 rfl rfl dX8_taken_36 ?_
          refine r_callVi (pc := 37) (st := []) (As := [iv n]) okX3_takenBy (by decide) (oH_lt (show 0 < 28 by decide)) (cellO (show 0 < 28 by decide)) rfl rfl (Nat.le_of_ble_eq_true rfl) km_X8_245 (kX3_takenBy X (by decide) hR hV (by omega) (by omega)) dX8_taken_37 ?_
          refine r_istore_n (pc := 40) (a := 3) (i := 3) rfl [(3, iv ((bset (tkn O n) 16 : Nat) : Int)), (0, rv X 0), (1, iv n), (2, iv w)] (by decide) rfl dX8_taken_40 ?_
          refine r_iload_n (pc := 41) (a := 2) (i := 2) 3 rfl rfl dX8_taken_41 ?_
          refine r_if_ne (pc := 42) 49 (by unfold rg; omega) dX8_taken_42 (by decide) (fun h42 => ?_) (fun h42 => ?_)
          · skip
            refine r_aload_n (pc := 49) (a := 0) (i := 0) 1 rfl rfl dX8_taken_49 ?_
            refine r_get (pc := 50) ckX8 (by decide) rfl (j := 2) (by decide) rfl kf_X8_25 dX8_taken_50 ?_
            refine r_iload_n (pc := 53) (a := 3) (i := 3) 0 rfl rfl dX8_taken_53 ?_
            refine r_callVi (pc := 54) (st := []) (As := [iv ((bset (tkn O n) 16 : Nat) : Int)]) okX3_worthOf (by decide) (oH_lt (show 0 < 28 by decide)) (cellO (show 0 < 28 by decide)) rfl rfl (Nat.le_of_ble_eq_true rfl) km_X8_248 (kX3_worthOf X (by decide) hR hV (tkn O n)) dX8_taken_54 ?_
            refine r_iret (pc := 57) (st := []) rfl dX8_taken_57 ?_
            exact ⟨congrArg (fun q => some (iv q)) (by unfold zTak; rw [if_pos (by omega), if_pos (by omega), if_neg (by omega)]), rfl⟩
          · skip
            refine r_iload_n (pc := 45) (a := 3) (i := 3) 0 rfl rfl dX8_taken_45 ?_
            refine r_goto (pc := 46) 57 dX8_taken_46 (by decide) ?_
            refine r_iret (pc := 57) (st := []) rfl dX8_taken_57 ?_
            exact ⟨congrArg (fun q => some (iv q)) (by unfold zTak; rw [if_pos (by omega), if_pos (by omega), if_pos (by omega)]), rfl⟩
        · skip
          refine r_ldc (pc := 29) kc_X8_73 dX8_taken_29 ?_
          refine r_iret (pc := 31) (st := []) rfl dX8_taken_31 ?_
          exact ⟨congrArg (fun q => some (iv q)) (by unfold zTak; rw [if_pos (by omega), if_neg (by omega)]), rfl⟩
  · skip
    have h7 := bI_0.mp h7
    refine r_ldc (pc := 10) kc_X8_160 dX8_taken_10 ?_
    refine r_iret (pc := 12) (st := []) rfl dX8_taken_12 ?_
    exact ⟨congrArg (fun q => some (iv q)) (by unfold zTak; rw [if_neg (by omega)]), rfl⟩

set_option maxRecDepth 100000 in
set_option maxHeartbeats 4000000 in
theorem kX9_taken (X : XC) {I : HD} {O : OF} (hO : I 34 = O) (hT : I 30 7 = bI (0 < O 0)) (hV : Val O) {n w : Int} (hn : rg n) (hw : rg w) : Cl X 6 mX9_taken [rv X 30, iv n, iv w] I (fun r J => r = some (iv (zTak O n w)) ∧ ∃ f, J = upA (up I 30 0 0) 38 f) := by
  refine Cl.of (by decide) (Nat.le_of_ble_eq_true rfl) ?_
  show Rn X 6 mX9_taken _ 0 [(0, rv X 30), (1, iv n), (2, iv w)] [] I
  have hO2 : (up I 30 0 0) 34 = O := (up_row (by decide)).trans hO
  have hT2 : (up I 30 0 0) 30 7 = bI (0 < O 0) := (up_i (by decide)).trans hT
  unfold rg at hn hw
  have q0 := hV.a
  refine r_aload_n (pc := 0) (a := 0) (i := 0) 0 rfl rfl dX9_taken_0 ?_
  refine r_iconst (pc := 1) dX9_taken_1 ?_
  refine r_put (pc := 2) 0 (ji := 0) rfl ckX9 (by decide) rfl rfl (by decide) (Nat.le_of_ble_eq_true rfl) kf_X9_54 rfl rfl rfl rfl dX9_taken_2 ?_
  refine r_aload_n (pc := 5) (a := 0) (i := 0) 0 rfl rfl dX9_taken_5 ?_
  refine r_get (pc := 6) ckX9 (by decide) rfl (j := 7) (by decide) (show _ = some (iv (bI (0 < O 0))) by rw [← hT2]; rfl) kf_X9_184 dX9_taken_6 ?_
  refine r_if_ne (pc := 9) 15 rg_bI dX9_taken_9 (by decide) (fun h9 => ?_) (fun h9 => ?_)
  · skip
    have h9 := bI_n.mp h9
    refine r_iload_n (pc := 15) (a := 1) (i := 1) 1 rfl rfl dX9_taken_15 ?_
    refine r_i2l (pc := 16) (by unfold rg; omega) dX9_taken_16 ?_
    refine r_lconst (pc := 17) (z := 0) rfl dX9_taken_17 ?_
    refine r_ldc2 (pc := 18) kc_X9_247 dX9_taken_18 ?_
    refine r_callSi (pc := 21) (st := []) (As := [jv n, jv 0, jv 9]) okX9_in (by decide) trivial rfl (Nat.le_of_ble_eq_true rfl) km_X9_64 (kX9_in X (by unfold rl; omega) (by unfold rl; omega) (by unfold rl; omega)) dX9_taken_21 ?_
    refine r_if_eq (pc := 24) 37 rg_bI dX9_taken_24 (by decide) (fun h24 => ?_) (fun h24 => ?_)
    · skip
      have h24 := bI_0.mp h24
      refine r_ldc (pc := 37) kc_X9_74 dX9_taken_37 ?_
      refine r_iret (pc := 39) (st := []) rfl dX9_taken_39 ?_
      exact ⟨congrArg (fun q => some (iv q)) (by unfold zTak; rw [if_pos (by omega), if_neg (by omega)]), ⟨_, upA_z⟩⟩
    · skip
      have h24 := bI_n.mp h24
      refine r_iload_n (pc := 27) (a := 2) (i := 2) 2 rfl rfl dX9_taken_27 ?_
      refine r_i2l (pc := 28) (by unfold rg; omega) dX9_taken_28 ?_
      refine r_lconst (pc := 29) (z := 0) rfl dX9_taken_29 ?_
      refine r_lconst (pc := 30) (z := 1) rfl dX9_taken_30 ?_
      refine r_callSi (pc := 31) (st := []) (As := [jv w, jv 0, jv 1]) okX9_in (by decide) trivial rfl (Nat.le_of_ble_eq_true rfl) km_X9_64 (kX9_in X (by unfold rl; omega) (by unfold rl; omega) (by unfold rl; omega)) dX9_taken_31 ?_
      refine r_if_ne (pc := 34) 40 rg_bI dX9_taken_34 (by decide) (fun h34 => ?_) (fun h34 => ?_)
      · skip
        have h34 := bI_n.mp h34
        refine r_iload_n (pc := 40) (a := 2) (i := 2) 2 rfl rfl dX9_taken_40 ?_
        refine r_if_ne (pc := 41) 52 (by unfold rg; omega) dX9_taken_41 (by decide) (fun h41 => ?_) (fun h41 => ?_)
        · skip
          refine r_aload_n (pc := 52) (a := 0) (i := 0) 0 rfl rfl dX9_taken_52 ?_
          refine r_aload_n (pc := 53) (a := 0) (i := 0) 0 rfl rfl dX9_taken_53 ?_
          refine r_iload_n (pc := 54) (a := 1) (i := 1) 1 rfl rfl dX9_taken_54 ?_
          refine r_callV (pc := 55) (st := [rv X 30]) (As := [iv n]) okX9_takenBy (by decide) (by decide) rfl rfl rfl (Nat.le_of_ble_eq_true rfl) km_X9_249 (kX9_takenBy X hO2 hV (by omega) (by omega)) dX9_taken_55 ?_
          rintro _ _ ⟨rfl, f, rfl⟩
          refine r_callVi (pc := 58) (st := []) (As := [iv ((bset (tkn O n) 16 : Nat) : Int)]) okX9_worthOf (by decide) (by decide) rfl rfl rfl (Nat.le_of_ble_eq_true rfl) km_X9_252 (kX9_worthOf X ((upA_h (by decide)).trans hO2) hV (tkn O n)) dX9_taken_58 ?_
          refine r_iret (pc := 61) (st := []) rfl dX9_taken_61 ?_
          exact ⟨congrArg (fun q => some (iv q)) (by unfold zTak; rw [if_pos (by omega), if_pos (by omega), if_neg (by omega)]), ⟨f, rfl⟩⟩
        · skip
          refine r_aload_n (pc := 44) (a := 0) (i := 0) 0 rfl rfl dX9_taken_44 ?_
          refine r_iload_n (pc := 45) (a := 1) (i := 1) 1 rfl rfl dX9_taken_45 ?_
          refine r_callV (pc := 46) (st := []) (As := [iv n]) okX9_takenBy (by decide) (by decide) rfl rfl rfl (Nat.le_of_ble_eq_true rfl) km_X9_249 (kX9_takenBy X hO2 hV (by omega) (by omega)) dX9_taken_46 ?_
          rintro _ _ ⟨rfl, f, rfl⟩
          refine r_goto (pc := 49) 61 dX9_taken_49 (by decide) ?_
          refine r_iret (pc := 61) (st := []) rfl dX9_taken_61 ?_
          exact ⟨congrArg (fun q => some (iv q)) (by unfold zTak; rw [if_pos (by omega), if_pos (by omega), if_pos (by omega)]), ⟨f, rfl⟩⟩
      · skip
        have h34 := bI_0.mp h34
        refine r_ldc (pc := 37) kc_X9_74 dX9_taken_37 ?_
        refine r_iret (pc := 39) (st := []) rfl dX9_taken_39 ?_
        exact ⟨congrArg (fun q => some (iv q)) (by unfold zTak; rw [if_pos (by omega), if_neg (by omega)]), ⟨_, upA_z⟩⟩
  · skip
    have h9 := bI_0.mp h9
    refine r_ldc (pc := 12) kc_X9_206 dX9_taken_12 ?_
    refine r_iret (pc := 14) (st := []) rfl dX9_taken_14 ?_
    exact ⟨congrArg (fun q => some (iv q)) (by unfold zTak; rw [if_neg (by omega)]), ⟨_, upA_z⟩⟩

set_option maxRecDepth 100000 in
set_option maxHeartbeats 4000000 in
theorem kX9_lostOn (X : XC) {I : HD} {O : OF} (hO : I 34 = O) (hV : Val O) {d : Int} (h0 : 0 ≤ d) (h1 : d < O 0) {p : Int} (hp0 : 0 ≤ p) (hp1 : p < O 1) : Cl X 1 mX9_lostOn [rv X 30, iv d, iv p] I (Ki (liu O p d) I) := by
  refine Cl.of (by decide) (Nat.le_of_ble_eq_true rfl) ?_
  show Rn X 1 mX9_lostOn _ 0 [(0, rv X 30), (1, iv d), (2, iv p)] [] I
  have q0 := hV.a
  have q1 := hV.d h0 h1
  have qp := hV.p hp0 hp1
  refine r_aload_n (pc := 0) (a := 0) (i := 0) 0 rfl rfl dX9_lostOn_0 ?_
  refine r_iload_n (pc := 1) (a := 1) (i := 1) 1 rfl rfl dX9_lostOn_1 ?_
  refine r_callVi (pc := 2) (st := []) (As := [iv d]) okX9_manyOn (by decide) (by decide) rfl rfl rfl (Nat.le_of_ble_eq_true rfl) km_X9_191 (kX9_manyOn X hO hV (by omega) (by omega)) dX9_lostOn_2 ?_
  refine r_aload_n (pc := 5) (a := 0) (i := 0) 0 rfl rfl dX9_lostOn_5 ?_
  refine r_get (pc := 6) ckX9 (by decide) rfl (j := 5) (by decide) rfl kf_X9_19 dX9_lostOn_6 ?_
  refine r_bipush (pc := 9) rfl dX9_lostOn_9 ?_
  refine r_iconst (pc := 11) dX9_lostOn_11 ?_
  refine r_iload_n (pc := 12) (a := 1) (i := 1) 1 rfl rfl dX9_lostOn_12 ?_
  refine r_imul (pc := 13) dX9_lostOn_13 ?_
  refine r_iadd (pc := 14) dX9_lostOn_14 ?_
  refine r_iconst (pc := 15) dX9_lostOn_15 ?_
  refine r_iadd (pc := 16) dX9_lostOn_16 ?_
  refine r_iald (pc := 17) (z := O (16 + 2 * d)) (by decide) rfl (by omega) (by omega) (by decide) ((congrFun hO _).trans (congrArg O (by omega))) dX9_lostOn_17 ?_
  refine r_icmp_le (pc := 18) 40 (by unfold rg; omega) (by unfold rg; omega) dX9_lostOn_18 (by decide) (fun h18 => ?_) (fun h18 => ?_)
  · skip
    refine r_iconst (pc := 40) dX9_lostOn_40 ?_
    refine r_iret (pc := 41) (st := []) rfl dX9_lostOn_41 ?_
    exact ⟨by unfold liu slat; rw [bI_f (by omega), Int.zero_mul], rfl⟩
  · skip
    refine r_aload_n (pc := 21) (a := 0) (i := 0) 0 rfl rfl dX9_lostOn_21 ?_
    refine r_iload_n (pc := 22) (a := 2) (i := 2) 2 rfl rfl dX9_lostOn_22 ?_
    refine r_iconst (pc := 23) dX9_lostOn_23 ?_
    refine r_callVi (pc := 24) (st := []) (As := [iv p, iv 0]) okX9_of (by decide) (by decide) rfl rfl rfl (Nat.le_of_ble_eq_true rfl) km_X9_216 (kX9_of X hO hV (z := O (63 + 4 * p)) (by omega) (by omega) (by omega) (congrArg O (by omega))) dX9_lostOn_24 ?_
    refine r_iconst (pc := 27) dX9_lostOn_27 ?_
    refine r_icmp_eq (pc := 28) 40 (by unfold rg; omega) (by unfold rg; omega) dX9_lostOn_28 (by decide) (fun h28 => ?_) (fun h28 => ?_)
    · skip
      refine r_iconst (pc := 40) dX9_lostOn_40 ?_
      refine r_iret (pc := 41) (st := []) rfl dX9_lostOn_41 ?_
      exact ⟨by unfold liu slat; rw [bI_f (by omega), Int.zero_mul], rfl⟩
    · skip
      refine r_aload_n (pc := 31) (a := 0) (i := 0) 0 rfl rfl dX9_lostOn_31 ?_
      refine r_iload_n (pc := 32) (a := 2) (i := 2) 2 rfl rfl dX9_lostOn_32 ?_
      refine r_iconst (pc := 33) dX9_lostOn_33 ?_
      refine r_callVi (pc := 34) (st := []) (As := [iv p, iv 1]) okX9_of (by decide) (by decide) rfl rfl rfl (Nat.le_of_ble_eq_true rfl) km_X9_216 (kX9_of X hO hV (z := O (64 + 4 * p)) (by omega) (by omega) (by omega) (congrArg O (by omega))) dX9_lostOn_34 ?_
      refine r_goto (pc := 37) 41 dX9_lostOn_37 (by decide) ?_
      refine r_iret (pc := 41) (st := []) rfl dX9_lostOn_41 ?_
      exact ⟨by unfold liu slat; rw [bI_t (by omega), Int.one_mul], rfl⟩

set_option maxRecDepth 100000 in
set_option maxHeartbeats 4000000 in
theorem kX9_leastOn (X : XC) {I : HD} {O : OF} (hO : I 34 = O) (hV : Val O) {d : Int} (h0 : 0 ≤ d) (h1 : d < O 0) (h2 : 0 < O (23 + 10 * d)) : Cl X 1 mX9_leastOn [rv X 30, iv d] I (Ki (O (24 + 10 * d + lon O d (O (23 + 10 * d) - 1).toNat)) I) := by
  refine Cl.of (by decide) (Nat.le_of_ble_eq_true rfl) ?_
  show Rn X 1 mX9_leastOn _ 0 [(0, rv X 30), (1, iv d)] [] I
  have q0 := hV.a
  have q1 := hV.d h0 h1
  refine r_iconst (pc := 0) dX9_leastOn_0 ?_
  refine r_istore_n (pc := 1) (a := 2) (i := 2) rfl [(2, iv 0), (0, rv X 30), (1, iv d)] (by decide) rfl dX9_leastOn_1 ?_
  refine r_iconst (pc := 2) dX9_leastOn_2 ?_
  refine r_istore_n (pc := 3) (a := 3) (i := 3) rfl [(3, iv 1), (2, iv 0), (0, rv X 30), (1, iv d)] (by decide) rfl dX9_leastOn_3 ?_
  have at4 : ∀ (n4 : Nat) (q : Int) (k : Int), (O (23 + 10 * d) - k).toNat < n4 → (hk0 : 1 ≤ k) → (hk1 : k ≤ O (23 + 10 * d)) → (hq : q = lon O d (k - 1).toNat) → Rn X 1 mX9_leastOn (Ki (O (24 + 10 * d + lon O d (O (23 + 10 * d) - 1).toNat)) I) 4 [(0, rv X 30), (1, iv d), (2, iv q), (3, iv k)] [] I := by
    intro n4
    induction n4 with
    | zero => intro q k hm; omega
    | succ n4 ih4 =>
      intro q k hm4 hk0 hk1 hq
      refine r_iload_n (pc := 4) (a := 3) (i := 3) 3 rfl rfl dX9_leastOn_4 ?_
      refine r_aload_n (pc := 5) (a := 0) (i := 0) 0 rfl rfl dX9_leastOn_5 ?_
      refine r_iload_n (pc := 6) (a := 1) (i := 1) 1 rfl rfl dX9_leastOn_6 ?_
      refine r_callVi (pc := 7) (st := [iv k]) (As := [iv d]) okX9_manyOn (by decide) (by decide) rfl rfl rfl (Nat.le_of_ble_eq_true rfl) km_X9_191 (kX9_manyOn X hO hV (by omega) (by omega)) dX9_leastOn_7 ?_
      refine r_icmp_ge (pc := 10) 50 (by unfold rg; omega) (by unfold rg; omega) dX9_leastOn_10 (by decide) (fun h10 => ?_) (fun h10 => ?_)
      · skip
        have ql := lon_le O d (k - 1).toNat
        refine r_aload_n (pc := 50) (a := 0) (i := 0) 0 rfl rfl dX9_leastOn_50 ?_
        refine r_iload_n (pc := 51) (a := 1) (i := 1) 1 rfl rfl dX9_leastOn_51 ?_
        refine r_iload_n (pc := 52) (a := 2) (i := 2) 2 rfl rfl dX9_leastOn_52 ?_
        refine r_callVi (pc := 53) (st := []) (As := [iv d, iv q]) okX9_lies (by decide) (by decide) rfl rfl rfl (Nat.le_of_ble_eq_true rfl) km_X9_194 (kX9_lies X hO hV (by omega) (by omega) (by omega) (by omega)) dX9_leastOn_53 ?_
        refine r_iret (pc := 56) (st := []) rfl dX9_leastOn_56 ?_
        exact ⟨by rw [hq, show k = O (23 + 10 * d) by omega], rfl⟩
      · skip
        have ql := lon_le O d (k - 1).toNat
        have qj := hV.k h0 h1 (k := q) (by omega) (by omega)
        have qk := hV.k h0 h1 (k := k) (by omega) (by omega)
        have qp := hV.p qj.1 qj.2
        have qp2 := hV.p qk.1 qk.2
        refine r_aload_n (pc := 13) (a := 0) (i := 0) 0 rfl rfl dX9_leastOn_13 ?_
        refine r_aload_n (pc := 14) (a := 0) (i := 0) 0 rfl rfl dX9_leastOn_14 ?_
        refine r_iload_n (pc := 15) (a := 1) (i := 1) 1 rfl rfl dX9_leastOn_15 ?_
        refine r_iload_n (pc := 16) (a := 3) (i := 3) 3 rfl rfl dX9_leastOn_16 ?_
        refine r_callVi (pc := 17) (st := [rv X 30]) (As := [iv d, iv k]) okX9_lies (by decide) (by decide) rfl rfl rfl (Nat.le_of_ble_eq_true rfl) km_X9_194 (kX9_lies X hO hV (by omega) (by omega) (by omega) (by omega)) dX9_leastOn_17 ?_
        refine r_iconst (pc := 20) dX9_leastOn_20 ?_
        refine r_callVi (pc := 21) (st := []) (As := [iv (O (24 + 10 * d + k)), iv 1]) okX9_of (by decide) (by decide) rfl rfl rfl (Nat.le_of_ble_eq_true rfl) km_X9_216 (kX9_of X hO hV (z := O (64 + 4 * (O (24 + 10 * d + k)))) (by omega) (by omega) (by omega) (congrArg O (by omega))) dX9_leastOn_21 ?_
        refine r_aload_n (pc := 24) (a := 0) (i := 0) 0 rfl rfl dX9_leastOn_24 ?_
        refine r_aload_n (pc := 25) (a := 0) (i := 0) 0 rfl rfl dX9_leastOn_25 ?_
        refine r_iload_n (pc := 26) (a := 1) (i := 1) 1 rfl rfl dX9_leastOn_26 ?_
        refine r_iload_n (pc := 27) (a := 2) (i := 2) 2 rfl rfl dX9_leastOn_27 ?_
        refine r_callVi (pc := 28) (st := [rv X 30, iv (O (64 + 4 * (O (24 + 10 * d + k))))]) (As := [iv d, iv q]) okX9_lies (by decide) (by decide) rfl rfl rfl (Nat.le_of_ble_eq_true rfl) km_X9_194 (kX9_lies X hO hV (by omega) (by omega) (by omega) (by omega)) dX9_leastOn_28 ?_
        refine r_iconst (pc := 31) dX9_leastOn_31 ?_
        refine r_callVi (pc := 32) (st := [iv (O (64 + 4 * (O (24 + 10 * d + k))))]) (As := [iv (O (24 + 10 * d + q)), iv 1]) okX9_of (by decide) (by decide) rfl rfl rfl (Nat.le_of_ble_eq_true rfl) km_X9_216 (kX9_of X hO hV (z := O (64 + 4 * (O (24 + 10 * d + q)))) (by omega) (by omega) (by omega) (congrArg O (by omega))) dX9_leastOn_32 ?_
        refine r_icmp_ge (pc := 35) 42 (by unfold rg; omega) (by unfold rg; omega) dX9_leastOn_35 (by decide) (fun h35 => ?_) (fun h35 => ?_)
        · skip
          refine r_iload_n (pc := 42) (a := 2) (i := 2) 2 rfl rfl dX9_leastOn_42 ?_
          refine r_istore_n (pc := 43) (a := 2) (i := 2) rfl [(2, iv q), (0, rv X 30), (1, iv d), (3, iv k)] (by decide) rfl dX9_leastOn_43 ?_
          refine r_iinc (pc := 44) 3 [(3, iv (k + 1)), (2, iv q), (0, rv X 30), (1, iv d)] rfl (by decide) rfl dX9_leastOn_44 ?_
          refine r_goto (pc := 47) 4 dX9_leastOn_47 (by decide) ?_
          refine r_lv [2, 3, 1, 0] [(0, rv X 30), (1, iv d), (2, iv q), (3, iv (k + 1))] rfl ?_
          exact ih4 q (k + 1) (by omega) (by omega) (by omega) (by rw [show k + 1 - 1 = k by omega, lon_s hk0]; first | (rw [if_pos (by rw [← hq]; omega)]) | (rw [if_neg (by rw [← hq]; omega)]; exact hq))
        · skip
          refine r_iload_n (pc := 38) (a := 3) (i := 3) 3 rfl rfl dX9_leastOn_38 ?_
          refine r_goto (pc := 39) 43 dX9_leastOn_39 (by decide) ?_
          refine r_istore_n (pc := 43) (a := 2) (i := 2) rfl [(2, iv k), (0, rv X 30), (1, iv d), (3, iv k)] (by decide) rfl dX9_leastOn_43 ?_
          refine r_iinc (pc := 44) 3 [(3, iv (k + 1)), (2, iv k), (0, rv X 30), (1, iv d)] rfl (by decide) rfl dX9_leastOn_44 ?_
          refine r_goto (pc := 47) 4 dX9_leastOn_47 (by decide) ?_
          refine r_lv [2, 3, 1, 0] [(0, rv X 30), (1, iv d), (2, iv k), (3, iv (k + 1))] rfl ?_
          exact ih4 k (k + 1) (by omega) (by omega) (by omega) (by rw [show k + 1 - 1 = k by omega, lon_s hk0]; first | (rw [if_pos (by rw [← hq]; omega)]) | (rw [if_neg (by rw [← hq]; omega)]; exact hq))
  refine r_lv [2, 3, 1, 0] [(0, rv X 30), (1, iv d), (2, iv 0), (3, iv 1)] rfl ?_
  exact at4 _ 0 1 (Nat.lt_succ_self _) (by omega) (by omega) (rfl)

set_option maxRecDepth 100000 in
set_option maxHeartbeats 4000000 in
theorem kX8_lend (X : XC) {I : HD} {O : OF} (hR : RepC O I 0) (hV : Val O) {a b : Int} (ha : rg a) (hb : rg b) : Cl X 6 mX8_lend [rv X 0, iv a, iv b] I (Ki (zLend O a b) I) := by
  refine Cl.of (by decide) (Nat.le_of_ble_eq_true rfl) ?_
  show Rn X 6 mX8_lend _ 0 [(0, rv X 0), (1, iv a), (2, iv b)] [] I
  unfold rg at ha hb
  have q0 := hV.a
  refine r_aload_n (pc := 0) (a := 0) (i := 0) 0 rfl rfl dX8_lend_0 ?_
  refine r_get (pc := 1) ckX8 (by decide) rfl (j := 2) (by decide) rfl kf_X8_25 dX8_lend_1 ?_
  refine r_iload_n (pc := 4) (a := 1) (i := 1) 1 rfl rfl dX8_lend_4 ?_
  refine r_callVi (pc := 5) (st := []) (As := [iv a]) okX3_hasDesk (by decide) (oH_lt (show 0 < 28 by decide)) (cellO (show 0 < 28 by decide)) rfl rfl (Nat.le_of_ble_eq_true rfl) km_X8_183 (kX3_hasDesk X (by decide) hR hV (by unfold rg; omega)) dX8_lend_5 ?_
  refine r_if_eq (pc := 8) 27 rg_bI dX8_lend_8 (by decide) (fun h8 => ?_) (fun h8 => ?_)
  · skip
    have h8 := bI_0.mp h8
    refine r_ldc (pc := 27) kc_X8_73 dX8_lend_27 ?_
    refine r_iret (pc := 29) (st := []) rfl dX8_lend_29 ?_
    exact ⟨congrArg (fun q => some (iv q)) (by unfold zLend; rw [if_neg (by omega)]), rfl⟩
  · skip
    have h8 := bI_n.mp h8
    refine r_aload_n (pc := 11) (a := 0) (i := 0) 0 rfl rfl dX8_lend_11 ?_
    refine r_get (pc := 12) ckX8 (by decide) rfl (j := 2) (by decide) rfl kf_X8_25 dX8_lend_12 ?_
    refine r_iload_n (pc := 15) (a := 2) (i := 2) 2 rfl rfl dX8_lend_15 ?_
    refine r_callVi (pc := 16) (st := []) (As := [iv b]) okX3_hasDesk (by decide) (oH_lt (show 0 < 28 by decide)) (cellO (show 0 < 28 by decide)) rfl rfl (Nat.le_of_ble_eq_true rfl) km_X8_183 (kX3_hasDesk X (by decide) hR hV (by unfold rg; omega)) dX8_lend_16 ?_
    refine r_if_eq (pc := 19) 27 rg_bI dX8_lend_19 (by decide) (fun h19 => ?_) (fun h19 => ?_)
    · skip
      have h19 := bI_0.mp h19
      refine r_ldc (pc := 27) kc_X8_73 dX8_lend_27 ?_
      refine r_iret (pc := 29) (st := []) rfl dX8_lend_29 ?_
      exact ⟨congrArg (fun q => some (iv q)) (by unfold zLend; rw [if_neg (by omega)]), rfl⟩
    · skip
      have h19 := bI_n.mp h19
      refine r_iload_n (pc := 22) (a := 1) (i := 1) 1 rfl rfl dX8_lend_22 ?_
      refine r_iload_n (pc := 23) (a := 2) (i := 2) 2 rfl rfl dX8_lend_23 ?_
      refine r_icmp_ne (pc := 24) 30 (by unfold rg; omega) (by unfold rg; omega) dX8_lend_24 (by decide) (fun h24 => ?_) (fun h24 => ?_)
      · skip
        have qa := hV.d h8.1 h8.2
        have qb := hV.d h19.1 h19.2
        refine r_aload_n (pc := 30) (a := 0) (i := 0) 0 rfl rfl dX8_lend_30 ?_
        refine r_get (pc := 31) ckX8 (by decide) rfl (j := 2) (by decide) rfl kf_X8_25 dX8_lend_31 ?_
        refine r_getN (pc := 34) ckX3 (oH_lt (show 0 < 28 by decide)) (cellO (show 0 < 28 by decide)) (j := 3) (by decide) rfl kf_X8_187 dX8_lend_34 ?_
        refine r_iload_n (pc := 37) (a := 1) (i := 1) 1 rfl rfl dX8_lend_37 ?_
        refine r_iald (pc := 38) (z := O (23 + 10 * a)) (oH_lt4 (show 0 < 28 by decide)) ((cellO4 (show 0 < 28 by decide)) _) (by omega) (by omega) (by decide) (hR.hgt (by omega) (by omega)) dX8_lend_38 ?_
        refine r_if_eq (pc := 39) 54 (by unfold rg; omega) dX8_lend_39 (by decide) (fun h39 => ?_) (fun h39 => ?_)
        · skip
          refine r_ldc (pc := 54) kc_X8_226 dX8_lend_54 ?_
          refine r_iret (pc := 56) (st := []) rfl dX8_lend_56 ?_
          exact ⟨congrArg (fun q => some (iv q)) (by unfold zLend; rw [if_pos (by omega), if_pos (by omega)]), rfl⟩
        · skip
          refine r_aload_n (pc := 42) (a := 0) (i := 0) 0 rfl rfl dX8_lend_42 ?_
          refine r_get (pc := 43) ckX8 (by decide) rfl (j := 2) (by decide) rfl kf_X8_25 dX8_lend_43 ?_
          refine r_getN (pc := 46) ckX3 (oH_lt (show 0 < 28 by decide)) (cellO (show 0 < 28 by decide)) (j := 3) (by decide) rfl kf_X8_187 dX8_lend_46 ?_
          refine r_iload_n (pc := 49) (a := 2) (i := 2) 2 rfl rfl dX8_lend_49 ?_
          refine r_iald (pc := 50) (z := O (23 + 10 * b)) (oH_lt4 (show 0 < 28 by decide)) ((cellO4 (show 0 < 28 by decide)) _) (by omega) (by omega) (by decide) (hR.hgt (by omega) (by omega)) dX8_lend_50 ?_
          refine r_if_ne (pc := 51) 57 (by unfold rg; omega) dX8_lend_51 (by decide) (fun h51 => ?_) (fun h51 => ?_)
          · skip
            have qma := lon_le O a (O (23 + 10 * a) - 1).toNat
            have qmb := lon_le O b (O (23 + 10 * b) - 1).toNat
            have qka := hV.k (d := a) (k := lon O a (O (23 + 10 * a) - 1).toNat) (by omega) (by omega) (by omega) (by omega)
            have qkb := hV.k (d := b) (k := lon O b (O (23 + 10 * b) - 1).toNat) (by omega) (by omega) (by omega) (by omega)
            refine r_aload_n (pc := 57) (a := 0) (i := 0) 0 rfl rfl dX8_lend_57 ?_
            refine r_get (pc := 58) ckX8 (by decide) rfl (j := 2) (by decide) rfl kf_X8_25 dX8_lend_58 ?_
            refine r_iload_n (pc := 61) (a := 1) (i := 1) 1 rfl rfl dX8_lend_61 ?_
            refine r_iconst (pc := 62) dX8_lend_62 ?_
            refine r_callVi (pc := 63) (st := []) (As := [iv a, iv 1]) okX3_lostFrom (by decide) (oH_lt (show 0 < 28 by decide)) (cellO (show 0 < 28 by decide)) rfl rfl (Nat.le_of_ble_eq_true rfl) km_X8_276 (kX3_lostFrom X (by decide) hR hV (by omega) (by omega) (by omega) (by omega)) dX8_lend_63 ?_
            refine r_aload_n (pc := 66) (a := 0) (i := 0) 0 rfl rfl dX8_lend_66 ?_
            refine r_get (pc := 67) ckX8 (by decide) rfl (j := 2) (by decide) rfl kf_X8_25 dX8_lend_67 ?_
            refine r_iload_n (pc := 70) (a := 2) (i := 2) 2 rfl rfl dX8_lend_70 ?_
            refine r_iconst (pc := 71) dX8_lend_71 ?_
            refine r_callVi (pc := 72) (st := [iv (lost O a 1)]) (As := [iv b, iv 1]) okX3_lostFrom (by decide) (oH_lt (show 0 < 28 by decide)) (cellO (show 0 < 28 by decide)) rfl rfl (Nat.le_of_ble_eq_true rfl) km_X8_276 (kX3_lostFrom X (by decide) hR hV (by omega) (by omega) (by omega) (by omega)) dX8_lend_72 ?_
            refine r_iadd (pc := 75) dX8_lend_75 ?_
            refine r_istore_n (pc := 76) (a := 3) (i := 3) rfl [(3, iv ((lost O a 1) + (lost O b 1))), (0, rv X 0), (1, iv a), (2, iv b)] (by decide) rfl dX8_lend_76 ?_
            refine r_aload_n (pc := 77) (a := 0) (i := 0) 1 rfl rfl dX8_lend_77 ?_
            refine r_get (pc := 78) ckX8 (by decide) rfl (j := 2) (by decide) rfl kf_X8_25 dX8_lend_78 ?_
            refine r_aload_n (pc := 81) (a := 0) (i := 0) 1 rfl rfl dX8_lend_81 ?_
            refine r_get (pc := 82) ckX8 (by decide) rfl (j := 2) (by decide) rfl kf_X8_25 dX8_lend_82 ?_
            refine r_iload_n (pc := 85) (a := 2) (i := 2) 3 rfl rfl dX8_lend_85 ?_
            refine r_callVi (pc := 86) (st := [rv X (oH 0)]) (As := [iv b]) okX3_leastOn (by decide) (oH_lt (show 0 < 28 by decide)) (cellO (show 0 < 28 by decide)) rfl rfl (Nat.le_of_ble_eq_true rfl) km_X8_279 (kX3_leastOn X (by decide) hR hV (by omega) (by omega) (by omega)) dX8_lend_86 ?_
            refine r_iload_n (pc := 89) (a := 1) (i := 1) 2 rfl rfl dX8_lend_89 ?_
            refine r_callVi (pc := 90) (st := []) (As := [iv (O (24 + 10 * b + lon O b (O (23 + 10 * b) - 1).toNat)), iv a]) okX3_lostIfUppermost (by decide) (oH_lt (show 0 < 28 by decide)) (cellO (show 0 < 28 by decide)) rfl rfl (Nat.le_of_ble_eq_true rfl) km_X8_282 (kX3_lostIfUppermost X (by decide) hR hV (by omega) (by omega) (by omega) (by omega)) dX8_lend_90 ?_
            refine r_aload_n (pc := 93) (a := 0) (i := 0) 1 rfl rfl dX8_lend_93 ?_
            refine r_get (pc := 94) ckX8 (by decide) rfl (j := 2) (by decide) rfl kf_X8_25 dX8_lend_94 ?_
            refine r_aload_n (pc := 97) (a := 0) (i := 0) 1 rfl rfl dX8_lend_97 ?_
            refine r_get (pc := 98) ckX8 (by decide) rfl (j := 2) (by decide) rfl kf_X8_25 dX8_lend_98 ?_
            refine r_iload_n (pc := 101) (a := 1) (i := 1) 2 rfl rfl dX8_lend_101 ?_
            refine r_callVi (pc := 102) (st := [rv X (oH 0), iv (liu O (O (24 + 10 * b + lon O b (O (23 + 10 * b) - 1).toNat)) a)]) (As := [iv a]) okX3_leastOn (by decide) (oH_lt (show 0 < 28 by decide)) (cellO (show 0 < 28 by decide)) rfl rfl (Nat.le_of_ble_eq_true rfl) km_X8_279 (kX3_leastOn X (by decide) hR hV (by omega) (by omega) (by omega)) dX8_lend_102 ?_
            refine r_iload_n (pc := 105) (a := 2) (i := 2) 3 rfl rfl dX8_lend_105 ?_
            refine r_callVi (pc := 106) (st := [iv (liu O (O (24 + 10 * b + lon O b (O (23 + 10 * b) - 1).toNat)) a)]) (As := [iv (O (24 + 10 * a + lon O a (O (23 + 10 * a) - 1).toNat)), iv b]) okX3_lostIfUppermost (by decide) (oH_lt (show 0 < 28 by decide)) (cellO (show 0 < 28 by decide)) rfl rfl (Nat.le_of_ble_eq_true rfl) km_X8_282 (kX3_lostIfUppermost X (by decide) hR hV (by omega) (by omega) (by omega) (by omega)) dX8_lend_106 ?_
            refine r_iadd (pc := 109) dX8_lend_109 ?_
            refine r_istore (pc := 110) [(4, iv ((liu O (O (24 + 10 * b + lon O b (O (23 + 10 * b) - 1).toNat)) a) + (liu O (O (24 + 10 * a + lon O a (O (23 + 10 * a) - 1).toNat)) b))), (3, iv ((lost O a 1) + (lost O b 1))), (0, rv X 0), (1, iv a), (2, iv b)] (by decide) rfl dX8_lend_110 ?_
            refine r_iload_n (pc := 112) (a := 3) (i := 3) 1 rfl rfl dX8_lend_112 ?_
            refine r_iload (pc := 113) 0 rfl dX8_lend_113 ?_
            refine r_isub (pc := 115) dX8_lend_115 ?_
            refine r_iret (pc := 116) (st := []) rfl dX8_lend_116 ?_
            exact ⟨congrArg (fun q => some (iv q)) (by unfold zLend; rw [if_pos (by omega), if_neg (by omega)]), rfl⟩
          · skip
            refine r_ldc (pc := 54) kc_X8_226 dX8_lend_54 ?_
            refine r_iret (pc := 56) (st := []) rfl dX8_lend_56 ?_
            exact ⟨congrArg (fun q => some (iv q)) (by unfold zLend; rw [if_pos (by omega), if_pos (by omega)]), rfl⟩
      · skip
        refine r_ldc (pc := 27) kc_X8_73 dX8_lend_27 ?_
        refine r_iret (pc := 29) (st := []) rfl dX8_lend_29 ?_
        exact ⟨congrArg (fun q => some (iv q)) (by unfold zLend; rw [if_neg (by omega)]), rfl⟩

set_option maxRecDepth 100000 in
set_option maxHeartbeats 4000000 in
theorem kX9_lend (X : XC) {I : HD} {O : OF} (hO : I 34 = O) (hV : Val O) {a b : Int} (ha : rg a) (hb : rg b) : Cl X 6 mX9_lend [rv X 30, iv a, iv b] I (Ki (zLend O a b) (up I 30 0 0)) := by
  refine Cl.of (by decide) (Nat.le_of_ble_eq_true rfl) ?_
  show Rn X 6 mX9_lend _ 0 [(0, rv X 30), (1, iv a), (2, iv b)] [] I
  have hO2 : (up I 30 0 0) 34 = O := (up_row (by decide)).trans hO
  unfold rg at ha hb
  have q0 := hV.a
  refine r_aload_n (pc := 0) (a := 0) (i := 0) 0 rfl rfl dX9_lend_0 ?_
  refine r_iconst (pc := 1) dX9_lend_1 ?_
  refine r_put (pc := 2) 0 (ji := 0) rfl ckX9 (by decide) rfl rfl (by decide) (Nat.le_of_ble_eq_true rfl) kf_X9_54 rfl rfl rfl rfl dX9_lend_2 ?_
  refine r_aload_n (pc := 5) (a := 0) (i := 0) 0 rfl rfl dX9_lend_5 ?_
  refine r_iload_n (pc := 6) (a := 1) (i := 1) 1 rfl rfl dX9_lend_6 ?_
  refine r_callVi (pc := 7) (st := []) (As := [iv a]) okX9_isDesk (by decide) (by decide) rfl rfl rfl (Nat.le_of_ble_eq_true rfl) km_X9_219 (kX9_isDesk X hO2 hV (by unfold rg; omega)) dX9_lend_7 ?_
  refine r_if_eq (pc := 10) 26 rg_bI dX9_lend_10 (by decide) (fun h10 => ?_) (fun h10 => ?_)
  · skip
    have h10 := bI_0.mp h10
    refine r_ldc (pc := 26) kc_X9_74 dX9_lend_26 ?_
    refine r_iret (pc := 28) (st := []) rfl dX9_lend_28 ?_
    exact ⟨congrArg (fun q => some (iv q)) (by unfold zLend; rw [if_neg (by omega)]), rfl⟩
  · skip
    have h10 := bI_n.mp h10
    refine r_aload_n (pc := 13) (a := 0) (i := 0) 0 rfl rfl dX9_lend_13 ?_
    refine r_iload_n (pc := 14) (a := 2) (i := 2) 2 rfl rfl dX9_lend_14 ?_
    refine r_callVi (pc := 15) (st := []) (As := [iv b]) okX9_isDesk (by decide) (by decide) rfl rfl rfl (Nat.le_of_ble_eq_true rfl) km_X9_219 (kX9_isDesk X hO2 hV (by unfold rg; omega)) dX9_lend_15 ?_
    refine r_if_eq (pc := 18) 26 rg_bI dX9_lend_18 (by decide) (fun h18 => ?_) (fun h18 => ?_)
    · skip
      have h18 := bI_0.mp h18
      refine r_ldc (pc := 26) kc_X9_74 dX9_lend_26 ?_
      refine r_iret (pc := 28) (st := []) rfl dX9_lend_28 ?_
      exact ⟨congrArg (fun q => some (iv q)) (by unfold zLend; rw [if_neg (by omega)]), rfl⟩
    · skip
      have h18 := bI_n.mp h18
      refine r_iload_n (pc := 21) (a := 1) (i := 1) 1 rfl rfl dX9_lend_21 ?_
      refine r_iload_n (pc := 22) (a := 2) (i := 2) 2 rfl rfl dX9_lend_22 ?_
      refine r_icmp_ne (pc := 23) 29 (by unfold rg; omega) (by unfold rg; omega) dX9_lend_23 (by decide) (fun h23 => ?_) (fun h23 => ?_)
      · skip
        have qa := hV.d h10.1 h10.2
        have qb := hV.d h18.1 h18.2
        refine r_aload_n (pc := 29) (a := 0) (i := 0) 0 rfl rfl dX9_lend_29 ?_
        refine r_iload_n (pc := 30) (a := 1) (i := 1) 1 rfl rfl dX9_lend_30 ?_
        refine r_callVi (pc := 31) (st := []) (As := [iv a]) okX9_manyOn (by decide) (by decide) rfl rfl rfl (Nat.le_of_ble_eq_true rfl) km_X9_191 (kX9_manyOn X hO2 hV (by omega) (by omega)) dX9_lend_31 ?_
        refine r_if_eq (pc := 34) 45 (by unfold rg; omega) dX9_lend_34 (by decide) (fun h34 => ?_) (fun h34 => ?_)
        · skip
          refine r_ldc (pc := 45) kc_X9_90 dX9_lend_45 ?_
          refine r_iret (pc := 47) (st := []) rfl dX9_lend_47 ?_
          exact ⟨congrArg (fun q => some (iv q)) (by unfold zLend; rw [if_pos (by omega), if_pos (by omega)]), rfl⟩
        · skip
          refine r_aload_n (pc := 37) (a := 0) (i := 0) 0 rfl rfl dX9_lend_37 ?_
          refine r_iload_n (pc := 38) (a := 2) (i := 2) 2 rfl rfl dX9_lend_38 ?_
          refine r_callVi (pc := 39) (st := []) (As := [iv b]) okX9_manyOn (by decide) (by decide) rfl rfl rfl (Nat.le_of_ble_eq_true rfl) km_X9_191 (kX9_manyOn X hO2 hV (by omega) (by omega)) dX9_lend_39 ?_
          refine r_if_ne (pc := 42) 48 (by unfold rg; omega) dX9_lend_42 (by decide) (fun h42 => ?_) (fun h42 => ?_)
          · skip
            have qma := lon_le O a (O (23 + 10 * a) - 1).toNat
            have qmb := lon_le O b (O (23 + 10 * b) - 1).toNat
            have qka := hV.k (d := a) (k := lon O a (O (23 + 10 * a) - 1).toNat) (by omega) (by omega) (by omega) (by omega)
            have qkb := hV.k (d := b) (k := lon O b (O (23 + 10 * b) - 1).toNat) (by omega) (by omega) (by omega) (by omega)
            have ta := hV.k (d := a) (k := O (23 + 10 * a) - 1) (by omega) (by omega) (by omega) (by omega)
            have tb := hV.k (d := b) (k := O (23 + 10 * b) - 1) (by omega) (by omega) (by omega) (by omega)
            refine r_aload_n (pc := 48) (a := 0) (i := 0) 0 rfl rfl dX9_lend_48 ?_
            refine r_iload_n (pc := 49) (a := 1) (i := 1) 1 rfl rfl dX9_lend_49 ?_
            refine r_aload_n (pc := 50) (a := 0) (i := 0) 0 rfl rfl dX9_lend_50 ?_
            refine r_iload_n (pc := 51) (a := 1) (i := 1) 1 rfl rfl dX9_lend_51 ?_
            refine r_aload_n (pc := 52) (a := 0) (i := 0) 0 rfl rfl dX9_lend_52 ?_
            refine r_iload_n (pc := 53) (a := 1) (i := 1) 1 rfl rfl dX9_lend_53 ?_
            refine r_callVi (pc := 54) (st := [iv a, rv X 30, iv a, rv X 30]) (As := [iv a]) okX9_manyOn (by decide) (by decide) rfl rfl rfl (Nat.le_of_ble_eq_true rfl) km_X9_191 (kX9_manyOn X hO2 hV (by omega) (by omega)) dX9_lend_54 ?_
            refine r_iconst (pc := 57) dX9_lend_57 ?_
            refine r_isub (pc := 58) dX9_lend_58 ?_
            refine r_callVi (pc := 59) (st := [iv a, rv X 30]) (As := [iv a, iv ((O (23 + 10 * a)) - 1)]) okX9_lies (by decide) (by decide) rfl rfl rfl (Nat.le_of_ble_eq_true rfl) km_X9_194 (kX9_lies X hO2 hV (by omega) (by omega) (by omega) (by omega)) dX9_lend_59 ?_
            refine r_callVi (pc := 62) (st := []) (As := [iv a, iv (O (24 + 10 * a + ((O (23 + 10 * a)) - 1)))]) okX9_lostOn (by decide) (by decide) rfl rfl rfl (Nat.le_of_ble_eq_true rfl) km_X9_271 (kX9_lostOn X hO2 hV (by omega) (by omega) (by omega) (by omega)) dX9_lend_62 ?_
            refine r_aload_n (pc := 65) (a := 0) (i := 0) 0 rfl rfl dX9_lend_65 ?_
            refine r_iload_n (pc := 66) (a := 2) (i := 2) 2 rfl rfl dX9_lend_66 ?_
            refine r_aload_n (pc := 67) (a := 0) (i := 0) 0 rfl rfl dX9_lend_67 ?_
            refine r_iload_n (pc := 68) (a := 2) (i := 2) 2 rfl rfl dX9_lend_68 ?_
            refine r_aload_n (pc := 69) (a := 0) (i := 0) 0 rfl rfl dX9_lend_69 ?_
            refine r_iload_n (pc := 70) (a := 2) (i := 2) 2 rfl rfl dX9_lend_70 ?_
            refine r_callVi (pc := 71) (st := [iv b, rv X 30, iv b, rv X 30, iv (liu O (O (24 + 10 * a + ((O (23 + 10 * a)) - 1))) a)]) (As := [iv b]) okX9_manyOn (by decide) (by decide) rfl rfl rfl (Nat.le_of_ble_eq_true rfl) km_X9_191 (kX9_manyOn X hO2 hV (by omega) (by omega)) dX9_lend_71 ?_
            refine r_iconst (pc := 74) dX9_lend_74 ?_
            refine r_isub (pc := 75) dX9_lend_75 ?_
            refine r_callVi (pc := 76) (st := [iv b, rv X 30, iv (liu O (O (24 + 10 * a + ((O (23 + 10 * a)) - 1))) a)]) (As := [iv b, iv ((O (23 + 10 * b)) - 1)]) okX9_lies (by decide) (by decide) rfl rfl rfl (Nat.le_of_ble_eq_true rfl) km_X9_194 (kX9_lies X hO2 hV (by omega) (by omega) (by omega) (by omega)) dX9_lend_76 ?_
            refine r_callVi (pc := 79) (st := [iv (liu O (O (24 + 10 * a + ((O (23 + 10 * a)) - 1))) a)]) (As := [iv b, iv (O (24 + 10 * b + ((O (23 + 10 * b)) - 1)))]) okX9_lostOn (by decide) (by decide) rfl rfl rfl (Nat.le_of_ble_eq_true rfl) km_X9_271 (kX9_lostOn X hO2 hV (by omega) (by omega) (by omega) (by omega)) dX9_lend_79 ?_
            refine r_iadd (pc := 82) dX9_lend_82 ?_
            refine r_istore_n (pc := 83) (a := 3) (i := 3) rfl [(3, iv ((liu O (O (24 + 10 * a + ((O (23 + 10 * a)) - 1))) a) + (liu O (O (24 + 10 * b + ((O (23 + 10 * b)) - 1))) b))), (0, rv X 30), (1, iv a), (2, iv b)] (by decide) rfl dX9_lend_83 ?_
            refine r_iload_n (pc := 84) (a := 3) (i := 3) 0 rfl rfl dX9_lend_84 ?_
            refine r_aload_n (pc := 85) (a := 0) (i := 0) 1 rfl rfl dX9_lend_85 ?_
            refine r_iload_n (pc := 86) (a := 1) (i := 1) 2 rfl rfl dX9_lend_86 ?_
            refine r_aload_n (pc := 87) (a := 0) (i := 0) 1 rfl rfl dX9_lend_87 ?_
            refine r_iload_n (pc := 88) (a := 2) (i := 2) 3 rfl rfl dX9_lend_88 ?_
            refine r_callVi (pc := 89) (st := [iv a, rv X 30, iv ((liu O (O (24 + 10 * a + ((O (23 + 10 * a)) - 1))) a) + (liu O (O (24 + 10 * b + ((O (23 + 10 * b)) - 1))) b))]) (As := [iv b]) okX9_leastOn (by decide) (by decide) rfl rfl rfl (Nat.le_of_ble_eq_true rfl) km_X9_274 (kX9_leastOn X hO2 hV (by omega) (by omega) (by omega)) dX9_lend_89 ?_
            refine r_callVi (pc := 92) (st := [iv ((liu O (O (24 + 10 * a + ((O (23 + 10 * a)) - 1))) a) + (liu O (O (24 + 10 * b + ((O (23 + 10 * b)) - 1))) b))]) (As := [iv a, iv (O (24 + 10 * b + lon O b (O (23 + 10 * b) - 1).toNat))]) okX9_lostOn (by decide) (by decide) rfl rfl rfl (Nat.le_of_ble_eq_true rfl) km_X9_271 (kX9_lostOn X hO2 hV (by omega) (by omega) (by omega) (by omega)) dX9_lend_92 ?_
            refine r_isub (pc := 95) dX9_lend_95 ?_
            refine r_aload_n (pc := 96) (a := 0) (i := 0) 1 rfl rfl dX9_lend_96 ?_
            refine r_iload_n (pc := 97) (a := 2) (i := 2) 3 rfl rfl dX9_lend_97 ?_
            refine r_aload_n (pc := 98) (a := 0) (i := 0) 1 rfl rfl dX9_lend_98 ?_
            refine r_iload_n (pc := 99) (a := 1) (i := 1) 2 rfl rfl dX9_lend_99 ?_
            refine r_callVi (pc := 100) (st := [iv b, rv X 30, iv (((liu O (O (24 + 10 * a + ((O (23 + 10 * a)) - 1))) a) + (liu O (O (24 + 10 * b + ((O (23 + 10 * b)) - 1))) b)) - (liu O (O (24 + 10 * b + lon O b (O (23 + 10 * b) - 1).toNat)) a))]) (As := [iv a]) okX9_leastOn (by decide) (by decide) rfl rfl rfl (Nat.le_of_ble_eq_true rfl) km_X9_274 (kX9_leastOn X hO2 hV (by omega) (by omega) (by omega)) dX9_lend_100 ?_
            refine r_callVi (pc := 103) (st := [iv (((liu O (O (24 + 10 * a + ((O (23 + 10 * a)) - 1))) a) + (liu O (O (24 + 10 * b + ((O (23 + 10 * b)) - 1))) b)) - (liu O (O (24 + 10 * b + lon O b (O (23 + 10 * b) - 1).toNat)) a))]) (As := [iv b, iv (O (24 + 10 * a + lon O a (O (23 + 10 * a) - 1).toNat))]) okX9_lostOn (by decide) (by decide) rfl rfl rfl (Nat.le_of_ble_eq_true rfl) km_X9_271 (kX9_lostOn X hO2 hV (by omega) (by omega) (by omega) (by omega)) dX9_lend_103 ?_
            refine r_isub (pc := 106) dX9_lend_106 ?_
            refine r_iret (pc := 107) (st := []) rfl dX9_lend_107 ?_
            exact ⟨congrArg (fun q => some (iv q)) (by unfold zLend; rw [if_pos (by omega), if_neg (by omega), w_1 hV (by omega) (by omega), w_1 hV (by omega) (by omega)]; omega), rfl⟩
          · skip
            refine r_ldc (pc := 45) kc_X9_90 dX9_lend_45 ?_
            refine r_iret (pc := 47) (st := []) rfl dX9_lend_47 ?_
            exact ⟨congrArg (fun q => some (iv q)) (by unfold zLend; rw [if_pos (by omega), if_pos (by omega)]), rfl⟩
      · skip
        refine r_ldc (pc := 26) kc_X9_74 dX9_lend_26 ?_
        refine r_iret (pc := 28) (st := []) rfl dX9_lend_28 ?_
        exact ⟨congrArg (fun q => some (iv q)) (by unfold zLend; rw [if_neg (by omega)]), rfl⟩

set_option maxRecDepth 100000 in
set_option maxHeartbeats 4000000 in
theorem kX8_cover (X : XC) {I : HD} {O : OF} (hR : RepC O I 0) (hV : Val O) {d n : Int} (hd : rg d) (hn : rg n) : Cl X 6 mX8_cover [rv X 0, iv d, iv n] I (Ki (zCov O d n) I) := by
  refine Cl.of (by decide) (Nat.le_of_ble_eq_true rfl) ?_
  show Rn X 6 mX8_cover _ 0 [(0, rv X 0), (1, iv d), (2, iv n)] [] I
  unfold rg at hd hn
  have q0 := hV.a
  refine r_aload_n (pc := 0) (a := 0) (i := 0) 0 rfl rfl dX8_cover_0 ?_
  refine r_get (pc := 1) ckX8 (by decide) rfl (j := 2) (by decide) rfl kf_X8_25 dX8_cover_1 ?_
  refine r_iload_n (pc := 4) (a := 1) (i := 1) 1 rfl rfl dX8_cover_4 ?_
  refine r_callVi (pc := 5) (st := []) (As := [iv d]) okX3_hasDesk (by decide) (oH_lt (show 0 < 28 by decide)) (cellO (show 0 < 28 by decide)) rfl rfl (Nat.le_of_ble_eq_true rfl) km_X8_183 (kX3_hasDesk X (by decide) hR hV (by unfold rg; omega)) dX8_cover_5 ?_
  refine r_if_eq (pc := 8) 18 rg_bI dX8_cover_8 (by decide) (fun h8 => ?_) (fun h8 => ?_)
  · skip
    have h8 := bI_0.mp h8
    refine r_ldc (pc := 18) kc_X8_73 dX8_cover_18 ?_
    refine r_iret (pc := 20) (st := []) rfl dX8_cover_20 ?_
    exact ⟨congrArg (fun q => some (iv q)) (by unfold zCov; rw [if_neg (by omega)]), rfl⟩
  · skip
    have h8 := bI_n.mp h8
    refine r_iload_n (pc := 11) (a := 2) (i := 2) 2 rfl rfl dX8_cover_11 ?_
    refine r_callSi (pc := 12) (st := []) (As := [iv n]) okX8_isGusts (by decide) trivial rfl (Nat.le_of_ble_eq_true rfl) km_X8_242 (kX8_isGusts X (by unfold rg; omega)) dX8_cover_12 ?_
    refine r_if_ne (pc := 15) 21 rg_bI dX8_cover_15 (by decide) (fun h15 => ?_) (fun h15 => ?_)
    · skip
      have h15 := bI_n.mp h15
      have q1 := hV.d h8.1 h8.2
      obtain ⟨h0, h1⟩ := h8
      refine r_aload_n (pc := 21) (a := 0) (i := 0) 0 rfl rfl dX8_cover_21 ?_
      refine r_get (pc := 22) ckX8 (by decide) rfl (j := 2) (by decide) rfl kf_X8_25 dX8_cover_22 ?_
      refine r_getN (pc := 25) ckX3 (oH_lt (show 0 < 28 by decide)) (cellO (show 0 < 28 by decide)) (j := 1) (by decide) rfl kf_X8_236 dX8_cover_25 ?_
      refine r_iload_n (pc := 28) (a := 1) (i := 1) 1 rfl rfl dX8_cover_28 ?_
      refine r_iald (pc := 29) (z := O (15 + 2 * d)) (oH_lt2 (show 0 < 28 by decide)) ((cellO2 (show 0 < 28 by decide)) _) (by omega) (by omega) (by decide) (hR.room (by omega) (by omega)) dX8_cover_29 ?_
      refine r_aload_n (pc := 30) (a := 0) (i := 0) 0 rfl rfl dX8_cover_30 ?_
      refine r_get (pc := 31) ckX8 (by decide) rfl (j := 2) (by decide) rfl kf_X8_25 dX8_cover_31 ?_
      refine r_getN (pc := 34) ckX3 (oH_lt (show 0 < 28 by decide)) (cellO (show 0 < 28 by decide)) (j := 3) (by decide) rfl kf_X8_187 dX8_cover_34 ?_
      refine r_iload_n (pc := 37) (a := 1) (i := 1) 1 rfl rfl dX8_cover_37 ?_
      refine r_iald (pc := 38) (z := O (23 + 10 * d)) (oH_lt4 (show 0 < 28 by decide)) ((cellO4 (show 0 < 28 by decide)) _) (by omega) (by omega) (by decide) (hR.hgt (by omega) (by omega)) dX8_cover_38 ?_
      refine r_isub (pc := 39) dX8_cover_39 ?_
      refine r_istore_n (pc := 40) (a := 3) (i := 3) rfl [(3, iv ((O (15 + 2 * d)) - (O (23 + 10 * d)))), (0, rv X 0), (1, iv d), (2, iv n)] (by decide) rfl dX8_cover_40 ?_
      refine r_iconst (pc := 41) dX8_cover_41 ?_
      refine r_istore (pc := 42) [(4, iv 0), (3, iv ((O (15 + 2 * d)) - (O (23 + 10 * d)))), (0, rv X 0), (1, iv d), (2, iv n)] (by decide) rfl dX8_cover_42 ?_
      have at44 : ∀ (n44 : Nat) (k : Int), (O (15 + 2 * d) - O (23 + 10 * d) + 1 - k).toNat < n44 → (hk0 : 0 ≤ k) → (hk1 : k ≤ O (15 + 2 * d) - O (23 + 10 * d) + 1) → (hc : cvr O d n (O (15 + 2 * d) - O (23 + 10 * d) + 1 - k).toNat k = cvr O d n (O (15 + 2 * d) - O (23 + 10 * d) + 1 - 0).toNat 0) → Rn X 6 mX8_cover (Ki (zCov O d n) I) 44 [(0, rv X 0), (1, iv d), (2, iv n), (3, iv (O (15 + 2 * d) - O (23 + 10 * d))), (4, iv k)] [] I := by
        intro n44
        induction n44 with
        | zero => intro k hm; omega
        | succ n44 ih44 =>
          intro k hm44 hk0 hk1 hc
          refine r_iload (pc := 44) 4 rfl dX8_cover_44 ?_
          refine r_iload_n (pc := 46) (a := 3) (i := 3) 3 rfl rfl dX8_cover_46 ?_
          refine r_icmp_gt (pc := 47) 78 (by unfold rg; omega) (by unfold rg; omega) dX8_cover_47 (by decide) (fun h47 => ?_) (fun h47 => ?_)
          · skip
            refine r_ldc (pc := 78) kc_X8_226 dX8_cover_78 ?_
            refine r_iret (pc := 80) (st := []) rfl dX8_cover_80 ?_
            exact ⟨congrArg (fun q => some (iv q)) (by unfold zCov; rw [if_pos (by omega), ← hc, cvr_c (by omega)]), rfl⟩
          · skip
            refine r_aload_n (pc := 50) (a := 0) (i := 0) 0 rfl rfl dX8_cover_50 ?_
            refine r_get (pc := 51) ckX8 (by decide) rfl (j := 2) (by decide) rfl kf_X8_25 dX8_cover_51 ?_
            refine r_iload_n (pc := 54) (a := 1) (i := 1) 1 rfl rfl dX8_cover_54 ?_
            refine r_iconst (pc := 55) dX8_cover_55 ?_
            refine r_iload_n (pc := 56) (a := 2) (i := 2) 2 rfl rfl dX8_cover_56 ?_
            refine r_iload (pc := 57) 4 rfl dX8_cover_57 ?_
            refine r_isub (pc := 59) dX8_cover_59 ?_
            refine r_mmax (pc := 60) (by unfold rg; omega) (by unfold rg; omega) (by decide) (Nat.le_of_ble_eq_true rfl) (kmmax_X8) dX8_cover_60 ?_
            refine r_callVi (pc := 63) (st := []) (As := [iv d, iv (max 0 (n - k))]) okX3_lostFrom (by decide) (oH_lt (show 0 < 28 by decide)) (cellO (show 0 < 28 by decide)) rfl rfl (Nat.le_of_ble_eq_true rfl) km_X8_276 (kX3_lostFrom X (by decide) hR hV (by omega) (by omega) (by omega) (by omega)) dX8_cover_63 ?_
            have ql := lost_le (n := max 0 (n - k)) hV h0 h1
            refine r_if_ne (pc := 66) 72 (by unfold rg; omega) dX8_cover_66 (by decide) (fun h66 => ?_) (fun h66 => ?_)
            · skip
              refine r_iinc (pc := 72) 4 [(4, iv (k + 1)), (0, rv X 0), (1, iv d), (2, iv n), (3, iv (O (15 + 2 * d) - O (23 + 10 * d)))] rfl (by decide) rfl dX8_cover_72 ?_
              refine r_goto (pc := 75) 44 dX8_cover_75 (by decide) ?_
              refine r_lv [1, 2, 3, 4, 0] [(0, rv X 0), (1, iv d), (2, iv n), (3, iv (O (15 + 2 * d) - O (23 + 10 * d))), (4, iv (k + 1))] rfl ?_
              exact ih44 (k + 1) (by omega) (by omega) (by omega) ((cvr_b (by omega) (by assumption)).symm.trans hc)
            · skip
              refine r_iload (pc := 69) 4 rfl dX8_cover_69 ?_
              refine r_iret (pc := 71) (st := []) rfl dX8_cover_71 ?_
              exact ⟨congrArg (fun q => some (iv q)) (by unfold zCov; rw [if_pos (by omega), ← hc, cvr_a (by omega) (by assumption)]), rfl⟩
      refine r_lv [2, 3, 4, 1, 0] [(0, rv X 0), (1, iv d), (2, iv n), (3, iv ((O (15 + 2 * d)) - (O (23 + 10 * d)))), (4, iv 0)] rfl ?_
      exact at44 _ 0 (Nat.lt_succ_self _) (by omega) (by omega) (rfl)
    · skip
      have h15 := bI_0.mp h15
      refine r_ldc (pc := 18) kc_X8_73 dX8_cover_18 ?_
      refine r_iret (pc := 20) (st := []) rfl dX8_cover_20 ?_
      exact ⟨congrArg (fun q => some (iv q)) (by unfold zCov; rw [if_neg (by omega)]), rfl⟩

set_option maxRecDepth 100000 in
set_option maxHeartbeats 4000000 in
theorem kX9_isCovered (X : XC) {I : HD} {O : OF} (hO : I 34 = O) (hV : Val O) {d : Int} (h0 : 0 ≤ d) (h1 : d < O 0) {b n : Int} (hb0 : 0 ≤ b) (hb1 : b < 100) (hn0 : 0 ≤ n) (hn1 : n < 100) : Cl X 1 mX9_isCovered [rv X 30, iv d, iv b, iv n] I (Ki (bI (lost O d (max 0 (n - b)) = 0)) I) := by
  refine Cl.of (by decide) (Nat.le_of_ble_eq_true rfl) ?_
  show Rn X 1 mX9_isCovered _ 0 [(0, rv X 30), (1, iv d), (2, iv b), (3, iv n)] [] I
  have q0 := hV.a
  have q1 := hV.d h0 h1
  refine r_aload_n (pc := 0) (a := 0) (i := 0) 0 rfl rfl dX9_isCovered_0 ?_
  refine r_iload_n (pc := 1) (a := 1) (i := 1) 1 rfl rfl dX9_isCovered_1 ?_
  refine r_callVi (pc := 2) (st := []) (As := [iv d]) okX9_manyOn (by decide) (by decide) rfl rfl rfl (Nat.le_of_ble_eq_true rfl) km_X9_191 (kX9_manyOn X hO hV (by omega) (by omega)) dX9_isCovered_2 ?_
  refine r_iload_n (pc := 5) (a := 2) (i := 2) 2 rfl rfl dX9_isCovered_5 ?_
  refine r_iadd (pc := 6) dX9_isCovered_6 ?_
  refine r_istore (pc := 7) [(4, iv ((O (23 + 10 * d)) + b)), (0, rv X 30), (1, iv d), (2, iv b), (3, iv n)] (by decide) rfl dX9_isCovered_7 ?_
  refine r_iconst (pc := 9) dX9_isCovered_9 ?_
  refine r_istore (pc := 10) [(5, iv 0), (4, iv ((O (23 + 10 * d)) + b)), (0, rv X 30), (1, iv d), (2, iv b), (3, iv n)] (by decide) rfl dX9_isCovered_10 ?_
  have at12 : ∀ (n12 : Nat) (k : Int) (q : Int), (n - k).toNat < n12 → (hk0 : 0 ≤ k) → (hk1 : k ≤ n) → (hq : q = O (23 + 10 * d) + b - k) → (hz : ∀ t, 0 ≤ t → t < k - b → ¬ slat O (tp O d t) ∧ O (64 + 4 * tp O d t) = 0) → Rn X 1 mX9_isCovered (Ki (bI (lost O d (max 0 (n - b)) = 0)) I) 12 [(0, rv X 30), (1, iv d), (2, iv b), (3, iv n), (4, iv q), (5, iv k)] [] I := by
    intro n12
    induction n12 with
    | zero => intro k q hm; omega
    | succ n12 ih12 =>
      intro k q hm12 hk0 hk1 hq hz
      refine r_iload (pc := 12) 5 rfl dX9_isCovered_12 ?_
      refine r_iload_n (pc := 14) (a := 3) (i := 3) 3 rfl rfl dX9_isCovered_14 ?_
      refine r_icmp_ge (pc := 15) 91 (by unfold rg; omega) (by unfold rg; omega) dX9_isCovered_15 (by decide) (fun h15 => ?_) (fun h15 => ?_)
      · skip
        refine r_iconst (pc := 91) dX9_isCovered_91 ?_
        refine r_zret (pc := 92) (st := []) rfl (rfl) dX9_isCovered_92 ?_
        exact ⟨by rw [bI_t (cov_0 fun t x y => (hz t x (by have := tfv_le (max 0 (n - b)).toNat hV h0 h1; have w := (tfv_Tf O d (max 0 (n - b)).toNat).2.2.1; omega)).2)], rfl⟩
      · skip
        refine r_iload (pc := 18) 4 rfl dX9_isCovered_18 ?_
        refine r_aload_n (pc := 20) (a := 0) (i := 0) 0 rfl rfl dX9_isCovered_20 ?_
        refine r_get (pc := 21) ckX9 (by decide) rfl (j := 5) (by decide) rfl kf_X9_19 dX9_isCovered_21 ?_
        refine r_bipush (pc := 24) rfl dX9_isCovered_24 ?_
        refine r_iconst (pc := 26) dX9_isCovered_26 ?_
        refine r_iload_n (pc := 27) (a := 1) (i := 1) 1 rfl rfl dX9_isCovered_27 ?_
        refine r_imul (pc := 28) dX9_isCovered_28 ?_
        refine r_iadd (pc := 29) dX9_isCovered_29 ?_
        refine r_iconst (pc := 30) dX9_isCovered_30 ?_
        refine r_iadd (pc := 31) dX9_isCovered_31 ?_
        refine r_iald (pc := 32) (z := O (16 + 2 * d)) (by decide) rfl (by omega) (by omega) (by decide) ((congrFun hO _).trans (congrArg O (by omega))) dX9_isCovered_32 ?_
        refine r_icmp_le (pc := 33) 91 (by unfold rg; omega) (by unfold rg; omega) dX9_isCovered_33 (by decide) (fun h33 => ?_) (fun h33 => ?_)
        · skip
          refine r_iconst (pc := 91) dX9_isCovered_91 ?_
          refine r_zret (pc := 92) (st := []) rfl (rfl) dX9_isCovered_92 ?_
          exact ⟨by rw [bI_t (cov_0 fun t x y => (hz t x (by have := tfv_le (max 0 (n - b)).toNat hV h0 h1; have w := (tfv_Tf O d (max 0 (n - b)).toNat).2.2.1; omega)).2)], rfl⟩
        · skip
          refine r_iload (pc := 36) 4 rfl dX9_isCovered_36 ?_
          refine r_aload_n (pc := 38) (a := 0) (i := 0) 0 rfl rfl dX9_isCovered_38 ?_
          refine r_iload_n (pc := 39) (a := 1) (i := 1) 1 rfl rfl dX9_isCovered_39 ?_
          refine r_callVi (pc := 40) (st := [iv q]) (As := [iv d]) okX9_manyOn (by decide) (by decide) rfl rfl rfl (Nat.le_of_ble_eq_true rfl) km_X9_191 (kX9_manyOn X hO hV (by omega) (by omega)) dX9_isCovered_40 ?_
          have at82 : (hz2 : ∀ t, 0 ≤ t → t < k + 1 - b → ¬ slat O (tp O d t) ∧ O (64 + 4 * tp O d t) = 0) → Rn X 1 mX9_isCovered (Ki (bI (lost O d (max 0 (n - b)) = 0)) I) 82 [(0, rv X 30), (1, iv d), (2, iv b), (3, iv n), (4, iv q), (5, iv k)] [] I := by
            intro hz2
            refine r_iinc (pc := 82) 4 [(4, iv (q + (-1))), (0, rv X 30), (1, iv d), (2, iv b), (3, iv n), (5, iv k)] rfl (by decide) rfl dX9_isCovered_82 ?_
            refine r_iinc (pc := 85) 5 [(5, iv (k + 1)), (4, iv (q + (-1))), (0, rv X 30), (1, iv d), (2, iv b), (3, iv n)] rfl (by decide) rfl dX9_isCovered_85 ?_
            refine r_goto (pc := 88) 12 dX9_isCovered_88 (by decide) ?_
            refine r_lv [2, 3, 4, 5, 1, 0] [(0, rv X 30), (1, iv d), (2, iv b), (3, iv n), (4, iv (q + (-1))), (5, iv (k + 1))] rfl ?_
            exact ih12 (k + 1) (q + (-1)) (by omega) (by omega) (by omega) (by omega) (hz2)
          refine r_icmp_gt (pc := 43) 82 (by unfold rg; omega) (by unfold rg; omega) dX9_isCovered_43 (by decide) (fun h43 => ?_) (fun h43 => ?_)
          · skip
            refine r_lv [0, 1, 2, 3, 4, 5] [(0, rv X 30), (1, iv d), (2, iv b), (3, iv n), (4, iv q), (5, iv k)] rfl ?_
            exact at82 (fun t x y => hz t x (by omega))
          · skip
            have qk := hV.k (k := q - 1) h0 h1 (by omega) (by omega)
            have qp := hV.p qk.1 qk.2
            have et : tp O d (k - b) = O (24 + 10 * d + (q - 1)) := congrArg O (by omega)
            refine r_aload_n (pc := 46) (a := 0) (i := 0) 0 rfl rfl dX9_isCovered_46 ?_
            refine r_iload_n (pc := 47) (a := 1) (i := 1) 1 rfl rfl dX9_isCovered_47 ?_
            refine r_iload (pc := 48) 4 rfl dX9_isCovered_48 ?_
            refine r_iconst (pc := 50) dX9_isCovered_50 ?_
            refine r_isub (pc := 51) dX9_isCovered_51 ?_
            refine r_callVi (pc := 52) (st := []) (As := [iv d, iv (q - 1)]) okX9_lies (by decide) (by decide) rfl rfl rfl (Nat.le_of_ble_eq_true rfl) km_X9_194 (kX9_lies X hO hV (by omega) (by omega) (by omega) (by omega)) dX9_isCovered_52 ?_
            refine r_istore (pc := 55) [(6, iv (O (24 + 10 * d + (q - 1)))), (0, rv X 30), (1, iv d), (2, iv b), (3, iv n), (4, iv q), (5, iv k)] (by decide) rfl dX9_isCovered_55 ?_
            refine r_aload_n (pc := 57) (a := 0) (i := 0) 1 rfl rfl dX9_isCovered_57 ?_
            refine r_iload (pc := 58) 0 rfl dX9_isCovered_58 ?_
            refine r_iconst (pc := 60) dX9_isCovered_60 ?_
            refine r_callVi (pc := 61) (st := []) (As := [iv (O (24 + 10 * d + (q - 1))), iv 0]) okX9_of (by decide) (by decide) rfl rfl rfl (Nat.le_of_ble_eq_true rfl) km_X9_216 (kX9_of X hO hV (z := O (63 + 4 * (O (24 + 10 * d + (q - 1))))) (by omega) (by omega) (by omega) (congrArg O (by omega))) dX9_isCovered_61 ?_
            refine r_iconst (pc := 64) dX9_isCovered_64 ?_
            refine r_icmp_ne (pc := 65) 70 (by unfold rg; omega) (by unfold rg; omega) dX9_isCovered_65 (by decide) (fun h65 => ?_) (fun h65 => ?_)
            · skip
              refine r_aload_n (pc := 70) (a := 0) (i := 0) 1 rfl rfl dX9_isCovered_70 ?_
              refine r_iload (pc := 71) 0 rfl dX9_isCovered_71 ?_
              refine r_iconst (pc := 73) dX9_isCovered_73 ?_
              refine r_callVi (pc := 74) (st := []) (As := [iv (O (24 + 10 * d + (q - 1))), iv 1]) okX9_of (by decide) (by decide) rfl rfl rfl (Nat.le_of_ble_eq_true rfl) km_X9_216 (kX9_of X hO hV (z := O (64 + 4 * (O (24 + 10 * d + (q - 1))))) (by omega) (by omega) (by omega) (congrArg O (by omega))) dX9_isCovered_74 ?_
              refine r_if_le (pc := 77) 82 (by unfold rg; omega) dX9_isCovered_77 (by decide) (fun h77 => ?_) (fun h77 => ?_)
              · skip
                refine r_lv [1, 2, 3, 4, 5, 6] [(0, rv X 30), (1, iv d), (2, iv b), (3, iv n), (4, iv q), (5, iv k)] rfl ?_
                exact at82 (fun t x y => (Classical.em (t = k - b)).elim (fun e => by rw [e, et]; exact ⟨h65, by omega⟩) (fun e => hz t x (by omega)))
              · skip
                refine r_iconst (pc := 80) dX9_isCovered_80 ?_
                refine r_zret (pc := 81) (st := []) rfl (rfl) dX9_isCovered_81 ?_
                exact ⟨by rw [bI_f (cov_p hV h0 h1 (t := k - b) (by omega) (by omega) (by omega) (fun u x y => (Classical.em (u = k - b)).elim (fun e => by rw [e, et]; exact h65) (fun e => (hz u x (by omega)).1)) (by rw [et]; exact h77))], rfl⟩
            · skip
              refine r_iconst (pc := 68) dX9_isCovered_68 ?_
              refine r_zret (pc := 69) (st := []) rfl (rfl) dX9_isCovered_69 ?_
              exact ⟨by rw [bI_t (cov_0 fun t x y => (hz t x (by have := cov_s (O := O) (d := d) (r := max 0 (n - b)) (t := k - b) (by omega) (by rw [et]; exact h65); omega)).2)], rfl⟩
  refine r_lv [2, 3, 4, 5, 1, 0] [(0, rv X 30), (1, iv d), (2, iv b), (3, iv n), (4, iv ((O (23 + 10 * d)) + b)), (5, iv 0)] rfl ?_
  exact at12 _ 0 ((O (23 + 10 * d)) + b) (Nat.lt_succ_self _) (by omega) (by omega) (by omega) (fun t x y => absurd y (by omega))

set_option maxRecDepth 100000 in
set_option maxHeartbeats 4000000 in
theorem kX9_cover (X : XC) {I : HD} {O : OF} (hO : I 34 = O) (hV : Val O) {d n : Int} (hd : rg d) (hn : rg n) : Cl X 6 mX9_cover [rv X 30, iv d, iv n] I (Ki (zCov O d n) (up I 30 0 0)) := by
  refine Cl.of (by decide) (Nat.le_of_ble_eq_true rfl) ?_
  show Rn X 6 mX9_cover _ 0 [(0, rv X 30), (1, iv d), (2, iv n)] [] I
  have hO2 : (up I 30 0 0) 34 = O := (up_row (by decide)).trans hO
  unfold rg at hd hn
  have q0 := hV.a
  refine r_aload_n (pc := 0) (a := 0) (i := 0) 0 rfl rfl dX9_cover_0 ?_
  refine r_iconst (pc := 1) dX9_cover_1 ?_
  refine r_put (pc := 2) 0 (ji := 0) rfl ckX9 (by decide) rfl rfl (by decide) (Nat.le_of_ble_eq_true rfl) kf_X9_54 rfl rfl rfl rfl dX9_cover_2 ?_
  refine r_aload_n (pc := 5) (a := 0) (i := 0) 0 rfl rfl dX9_cover_5 ?_
  refine r_iload_n (pc := 6) (a := 1) (i := 1) 1 rfl rfl dX9_cover_6 ?_
  refine r_callVi (pc := 7) (st := []) (As := [iv d]) okX9_isDesk (by decide) (by decide) rfl rfl rfl (Nat.le_of_ble_eq_true rfl) km_X9_219 (kX9_isDesk X hO2 hV (by unfold rg; omega)) dX9_cover_7 ?_
  refine r_if_eq (pc := 10) 25 rg_bI dX9_cover_10 (by decide) (fun h10 => ?_) (fun h10 => ?_)
  · skip
    have h10 := bI_0.mp h10
    refine r_ldc (pc := 25) kc_X9_74 dX9_cover_25 ?_
    refine r_iret (pc := 27) (st := []) rfl dX9_cover_27 ?_
    exact ⟨congrArg (fun q => some (iv q)) (by unfold zCov; rw [if_neg (by omega)]), rfl⟩
  · skip
    have h10 := bI_n.mp h10
    refine r_iload_n (pc := 13) (a := 2) (i := 2) 2 rfl rfl dX9_cover_13 ?_
    refine r_i2l (pc := 14) (by unfold rg; omega) dX9_cover_14 ?_
    refine r_lconst (pc := 15) (z := 0) rfl dX9_cover_15 ?_
    refine r_ldc2 (pc := 16) kc_X9_247 dX9_cover_16 ?_
    refine r_callSi (pc := 19) (st := []) (As := [jv n, jv 0, jv 9]) okX9_in (by decide) trivial rfl (Nat.le_of_ble_eq_true rfl) km_X9_64 (kX9_in X (by unfold rl; omega) (by unfold rl; omega) (by unfold rl; omega)) dX9_cover_19 ?_
    refine r_if_ne (pc := 22) 28 rg_bI dX9_cover_22 (by decide) (fun h22 => ?_) (fun h22 => ?_)
    · skip
      have h22 := bI_n.mp h22
      have q1 := hV.d h10.1 h10.2
      obtain ⟨h0, h1⟩ := h10
      refine r_iconst (pc := 28) dX9_cover_28 ?_
      refine r_istore_n (pc := 29) (a := 3) (i := 3) rfl [(3, iv 0), (0, rv X 30), (1, iv d), (2, iv n)] (by decide) rfl dX9_cover_29 ?_
      have at30 : ∀ (n30 : Nat) (k : Int), (O (15 + 2 * d) - O (23 + 10 * d) + 1 - k).toNat < n30 → (hk0 : 0 ≤ k) → (hk1 : k ≤ O (15 + 2 * d) - O (23 + 10 * d) + 1) → (hc : cvr O d n (O (15 + 2 * d) - O (23 + 10 * d) + 1 - k).toNat k = cvr O d n (O (15 + 2 * d) - O (23 + 10 * d) + 1 - 0).toNat 0) → Rn X 6 mX9_cover (Ki (zCov O d n) (up I 30 0 0)) 30 [(0, rv X 30), (1, iv d), (2, iv n), (3, iv k)] [] (up I 30 0 0) := by
        intro n30
        induction n30 with
        | zero => intro k hm; omega
        | succ n30 ih30 =>
          intro k hm30 hk0 hk1 hc
          refine r_iload_n (pc := 30) (a := 3) (i := 3) 3 rfl rfl dX9_cover_30 ?_
          refine r_aload_n (pc := 31) (a := 0) (i := 0) 0 rfl rfl dX9_cover_31 ?_
          refine r_get (pc := 32) ckX9 (by decide) rfl (j := 5) (by decide) rfl kf_X9_19 dX9_cover_32 ?_
          refine r_bipush (pc := 35) rfl dX9_cover_35 ?_
          refine r_iconst (pc := 37) dX9_cover_37 ?_
          refine r_iload_n (pc := 38) (a := 1) (i := 1) 1 rfl rfl dX9_cover_38 ?_
          refine r_imul (pc := 39) dX9_cover_39 ?_
          refine r_iadd (pc := 40) dX9_cover_40 ?_
          refine r_iald (pc := 41) (z := O (15 + 2 * d)) (by decide) rfl (by omega) (by omega) (by decide) (congrFun hO2 _) dX9_cover_41 ?_
          refine r_aload_n (pc := 42) (a := 0) (i := 0) 0 rfl rfl dX9_cover_42 ?_
          refine r_iload_n (pc := 43) (a := 1) (i := 1) 1 rfl rfl dX9_cover_43 ?_
          refine r_callVi (pc := 44) (st := [iv (O (15 + 2 * d)), iv k]) (As := [iv d]) okX9_manyOn (by decide) (by decide) rfl rfl rfl (Nat.le_of_ble_eq_true rfl) km_X9_191 (kX9_manyOn X hO2 hV (by omega) (by omega)) dX9_cover_44 ?_
          refine r_isub (pc := 47) dX9_cover_47 ?_
          refine r_icmp_gt (pc := 48) 69 (by unfold rg; omega) (by unfold rg; omega) dX9_cover_48 (by decide) (fun h48 => ?_) (fun h48 => ?_)
          · skip
            refine r_ldc (pc := 69) kc_X9_90 dX9_cover_69 ?_
            refine r_iret (pc := 71) (st := []) rfl dX9_cover_71 ?_
            exact ⟨congrArg (fun q => some (iv q)) (by unfold zCov; rw [if_pos (by omega), ← hc, cvr_c (by omega)]), rfl⟩
          · skip
            refine r_aload_n (pc := 51) (a := 0) (i := 0) 0 rfl rfl dX9_cover_51 ?_
            refine r_iload_n (pc := 52) (a := 1) (i := 1) 1 rfl rfl dX9_cover_52 ?_
            refine r_iload_n (pc := 53) (a := 3) (i := 3) 3 rfl rfl dX9_cover_53 ?_
            refine r_iload_n (pc := 54) (a := 2) (i := 2) 2 rfl rfl dX9_cover_54 ?_
            refine r_callVi (pc := 55) (st := []) (As := [iv d, iv k, iv n]) okX9_isCovered (by decide) (by decide) rfl rfl rfl (Nat.le_of_ble_eq_true rfl) km_X9_267 (kX9_isCovered X hO2 hV (by omega) (by omega) (by omega) (by omega) (by omega) (by omega)) dX9_cover_55 ?_
            refine r_if_eq (pc := 58) 63 rg_bI dX9_cover_58 (by decide) (fun h58 => ?_) (fun h58 => ?_)
            · skip
              have h58 := bI_0.mp h58
              refine r_iinc (pc := 63) 3 [(3, iv (k + 1)), (0, rv X 30), (1, iv d), (2, iv n)] rfl (by decide) rfl dX9_cover_63 ?_
              refine r_goto (pc := 66) 30 dX9_cover_66 (by decide) ?_
              refine r_lv [1, 2, 3, 0] [(0, rv X 30), (1, iv d), (2, iv n), (3, iv (k + 1))] rfl ?_
              exact ih30 (k + 1) (by omega) (by omega) (by omega) ((cvr_b (by omega) (by assumption)).symm.trans hc)
            · skip
              have h58 := bI_n.mp h58
              refine r_iload_n (pc := 61) (a := 3) (i := 3) 3 rfl rfl dX9_cover_61 ?_
              refine r_iret (pc := 62) (st := []) rfl dX9_cover_62 ?_
              exact ⟨congrArg (fun q => some (iv q)) (by unfold zCov; rw [if_pos (by omega), ← hc, cvr_a (by omega) (by assumption)]), rfl⟩
      refine r_lv [1, 2, 3, 0] [(0, rv X 30), (1, iv d), (2, iv n), (3, iv 0)] rfl ?_
      exact at30 _ 0 (Nat.lt_succ_self _) (by omega) (by omega) (rfl)
    · skip
      have h22 := bI_0.mp h22
      refine r_ldc (pc := 25) kc_X9_74 dX9_cover_25 ?_
      refine r_iret (pc := 27) (st := []) rfl dX9_cover_27 ?_
      exact ⟨congrArg (fun q => some (iv q)) (by unfold zCov; rw [if_neg (by omega)]), rfl⟩

set_option maxRecDepth 100000 in
set_option maxHeartbeats 4000000 in
theorem kX9_window (X : XC) {I : HD} {O : OF} (hO : I 34 = O) (hT : I 30 7 = bI (0 < O 0)) (hV : Val O) : Cl X 6 mX9_window [rv X 30] I (Ki (zWin O) (up I 30 0 0)) := by
  refine Cl.of (by decide) (Nat.le_of_ble_eq_true rfl) ?_
  show Rn X 6 mX9_window _ 0 [(0, rv X 30)] [] I
  have hO2 : (up I 30 0 0) 34 = O := (up_row (by decide)).trans hO
  have hT2 : (up I 30 0 0) 30 7 = bI (0 < O 0) := (up_i (by decide)).trans hT
  have q0 := hV.a
  refine r_aload_n (pc := 0) (a := 0) (i := 0) 0 rfl rfl dX9_window_0 ?_
  refine r_iconst (pc := 1) dX9_window_1 ?_
  refine r_put (pc := 2) 0 (ji := 0) rfl ckX9 (by decide) rfl rfl (by decide) (Nat.le_of_ble_eq_true rfl) kf_X9_54 rfl rfl rfl rfl dX9_window_2 ?_
  refine r_aload_n (pc := 5) (a := 0) (i := 0) 0 rfl rfl dX9_window_5 ?_
  refine r_get (pc := 6) ckX9 (by decide) rfl (j := 7) (by decide) (show _ = some (iv (bI (0 < O 0))) by rw [← hT2]; rfl) kf_X9_184 dX9_window_6 ?_
  refine r_if_ne (pc := 9) 15 rg_bI dX9_window_9 (by decide) (fun h9 => ?_) (fun h9 => ?_)
  · skip
    have h9 := bI_n.mp h9
    refine r_iconst (pc := 15) dX9_window_15 ?_
    refine r_istore_n (pc := 16) (a := 1) (i := 1) rfl [(1, iv 0), (0, rv X 30)] (by decide) rfl dX9_window_16 ?_
    refine r_iconst (pc := 17) dX9_window_17 ?_
    refine r_istore_n (pc := 18) (a := 2) (i := 2) rfl [(2, iv 0), (1, iv 0), (0, rv X 30)] (by decide) rfl dX9_window_18 ?_
    have at19 : ∀ (n19 : Nat) (t : Int) (d : Int), (O 0 - d).toNat < n19 → (hd0 : 0 ≤ d) → (hd1 : d ≤ O 0) → (ht : t = wnd O d.toNat) → Rn X 6 mX9_window (Ki (zWin O) (up I 30 0 0)) 19 [(0, rv X 30), (1, iv t), (2, iv d)] [] (up I 30 0 0) := by
      intro n19
      induction n19 with
      | zero => intro t d hm; omega
      | succ n19 ih19 =>
        intro t d hm19 hd0 hd1 ht
        refine r_iload_n (pc := 19) (a := 2) (i := 2) 2 rfl rfl dX9_window_19 ?_
        refine r_aload_n (pc := 20) (a := 0) (i := 0) 0 rfl rfl dX9_window_20 ?_
        refine r_get (pc := 21) ckX9 (by decide) rfl (j := 5) (by decide) rfl kf_X9_19 dX9_window_21 ?_
        refine r_iconst (pc := 24) dX9_window_24 ?_
        refine r_iald (pc := 25) (z := O 0) (by decide) rfl (by omega) (by omega) (by decide) (congrFun hO2 _) dX9_window_25 ?_
        refine r_icmp_ge (pc := 26) 105 (by unfold rg; omega) (by unfold rg; omega) dX9_window_26 (by decide) (fun h26 => ?_) (fun h26 => ?_)
        · skip
          refine r_iload_n (pc := 105) (a := 1) (i := 1) 1 rfl rfl dX9_window_105 ?_
          refine r_iret (pc := 106) (st := []) rfl dX9_window_106 ?_
          exact ⟨congrArg (fun q => some (iv q)) (by unfold zWin; rw [if_pos (by omega), ht, show d = O 0 by omega]), rfl⟩
        · skip
          have h1 : d < O 0 := by omega
          have q1 := hV.d hd0 h1
          refine r_aload_n (pc := 29) (a := 0) (i := 0) 0 rfl rfl dX9_window_29 ?_
          refine r_iload_n (pc := 30) (a := 2) (i := 2) 2 rfl rfl dX9_window_30 ?_
          refine r_callVi (pc := 31) (st := []) (As := [iv d]) okX9_manyOn (by decide) (by decide) rfl rfl rfl (Nat.le_of_ble_eq_true rfl) km_X9_191 (kX9_manyOn X hO2 hV (by omega) (by omega)) dX9_window_31 ?_
          refine r_istore_n (pc := 34) (a := 3) (i := 3) rfl [(3, iv (O (23 + 10 * d))), (0, rv X 30), (1, iv t), (2, iv d)] (by decide) rfl dX9_window_34 ?_
          refine r_iload_n (pc := 35) (a := 1) (i := 1) 2 rfl rfl dX9_window_35 ?_
          refine r_iload_n (pc := 36) (a := 3) (i := 3) 0 rfl rfl dX9_window_36 ?_
          have at57 : ∀ (w : Int), (hw : w = lost O d 1) → Rn X 6 mX9_window (Ki (zWin O) (up I 30 0 0)) 57 [(0, rv X 30), (1, iv t), (2, iv d), (3, iv (O (23 + 10 * d)))] [iv w, iv t] (up I 30 0 0) := by
            intro w hw
            refine r_iadd (pc := 57) dX9_window_57 ?_
            refine r_istore_n (pc := 58) (a := 1) (i := 1) rfl [(1, iv (t + w)), (0, rv X 30), (2, iv d), (3, iv (O (23 + 10 * d)))] (by decide) rfl dX9_window_58 ?_
            have at99 : ∀ (x : Int), (hx : x = wnd O (d + 1).toNat) → Rn X 6 mX9_window (Ki (zWin O) (up I 30 0 0)) 99 [(0, rv X 30), (1, iv x), (2, iv d)] [] (up I 30 0 0) := by
              intro x hx
              refine r_iinc (pc := 99) 2 [(2, iv (d + 1)), (0, rv X 30), (1, iv x)] rfl (by decide) rfl dX9_window_99 ?_
              refine r_goto (pc := 102) 19 dX9_window_102 (by decide) ?_
              refine r_lv [1, 2, 0] [(0, rv X 30), (1, iv x), (2, iv (d + 1))] rfl ?_
              exact ih19 x (d + 1) (by omega) (by omega) (by omega) (hx)
            refine r_iload_n (pc := 59) (a := 3) (i := 3) 3 rfl rfl dX9_window_59 ?_
            refine r_iconst (pc := 60) dX9_window_60 ?_
            refine r_icmp_le (pc := 61) 99 (by unfold rg; omega) (by unfold rg; omega) dX9_window_61 (by decide) (fun h61 => ?_) (fun h61 => ?_)
            · skip
              refine r_lv [1, 0, 2] [(0, rv X 30), (1, iv (t + w)), (2, iv d)] rfl ?_
              exact at99 (t + w) (by rw [wnd_s hd0, w_3n (by omega)]; omega)
            · skip
              refine r_iload_n (pc := 64) (a := 3) (i := 3) 3 rfl rfl dX9_window_64 ?_
              refine r_aload_n (pc := 65) (a := 0) (i := 0) 1 rfl rfl dX9_window_65 ?_
              refine r_get (pc := 66) ckX9 (by decide) rfl (j := 5) (by decide) rfl kf_X9_19 dX9_window_66 ?_
              refine r_bipush (pc := 69) rfl dX9_window_69 ?_
              refine r_iconst (pc := 71) dX9_window_71 ?_
              refine r_iload_n (pc := 72) (a := 2) (i := 2) 2 rfl rfl dX9_window_72 ?_
              refine r_imul (pc := 73) dX9_window_73 ?_
              refine r_iadd (pc := 74) dX9_window_74 ?_
              refine r_iconst (pc := 75) dX9_window_75 ?_
              refine r_iadd (pc := 76) dX9_window_76 ?_
              refine r_iald (pc := 77) (z := O (16 + 2 * d)) (by decide) rfl (by omega) (by omega) (by decide) ((congrFun hO2 _).trans (congrArg O (by omega))) dX9_window_77 ?_
              refine r_iconst (pc := 78) dX9_window_78 ?_
              refine r_iadd (pc := 79) dX9_window_79 ?_
              refine r_icmp_le (pc := 80) 99 (by unfold rg; omega) (by unfold rg; omega) dX9_window_80 (by decide) (fun h80 => ?_) (fun h80 => ?_)
              · skip
                refine r_lv [1, 0, 2] [(0, rv X 30), (1, iv (t + w)), (2, iv d)] rfl ?_
                exact at99 (t + w) (by rw [wnd_s hd0, w_3n (by omega)]; omega)
              · skip
                have qk := hV.k (k := O (23 + 10 * d) - 3) hd0 h1 (by omega) (by omega)
                refine r_iload_n (pc := 83) (a := 1) (i := 1) 0 rfl rfl dX9_window_83 ?_
                refine r_aload_n (pc := 84) (a := 0) (i := 0) 1 rfl rfl dX9_window_84 ?_
                refine r_iload_n (pc := 85) (a := 2) (i := 2) 2 rfl rfl dX9_window_85 ?_
                refine r_aload_n (pc := 86) (a := 0) (i := 0) 1 rfl rfl dX9_window_86 ?_
                refine r_iload_n (pc := 87) (a := 2) (i := 2) 2 rfl rfl dX9_window_87 ?_
                refine r_iload_n (pc := 88) (a := 3) (i := 3) 3 rfl rfl dX9_window_88 ?_
                refine r_iconst (pc := 89) dX9_window_89 ?_
                refine r_isub (pc := 90) dX9_window_90 ?_
                refine r_callVi (pc := 91) (st := [iv d, rv X 30, iv (t + w)]) (As := [iv d, iv ((O (23 + 10 * d)) - 3)]) okX9_lies (by decide) (by decide) rfl rfl rfl (Nat.le_of_ble_eq_true rfl) km_X9_194 (kX9_lies X hO2 hV (by omega) (by omega) (by omega) (by omega)) dX9_window_91 ?_
                refine r_callVi (pc := 94) (st := [iv (t + w)]) (As := [iv d, iv (O (24 + 10 * d + ((O (23 + 10 * d)) - 3)))]) okX9_lostOn (by decide) (by decide) rfl rfl rfl (Nat.le_of_ble_eq_true rfl) km_X9_271 (kX9_lostOn X hO2 hV (by omega) (by omega) (by omega) (by omega)) dX9_window_94 ?_
                refine r_iadd (pc := 97) dX9_window_97 ?_
                refine r_istore_n (pc := 98) (a := 1) (i := 1) rfl [(1, iv ((t + w) + (liu O (O (24 + 10 * d + ((O (23 + 10 * d)) - 3))) d))), (0, rv X 30), (2, iv d), (3, iv (O (23 + 10 * d)))] (by decide) rfl dX9_window_98 ?_
                refine r_lv [1, 0, 2] [(0, rv X 30), (1, iv ((t + w) + (liu O (O (24 + 10 * d + ((O (23 + 10 * d)) - 3))) d))), (2, iv d)] rfl ?_
                exact at99 ((t + w) + (liu O (O (24 + 10 * d + ((O (23 + 10 * d)) - 3))) d)) (by rw [wnd_s hd0, w_3 hV hd0 h1 (by omega)]; omega)
          refine r_if_le (pc := 37) 56 (by unfold rg; omega) dX9_window_37 (by decide) (fun h37 => ?_) (fun h37 => ?_)
          · skip
            refine r_iconst (pc := 56) dX9_window_56 ?_
            refine r_lv [1, 2, 3, 0] [(0, rv X 30), (1, iv t), (2, iv d), (3, iv (O (23 + 10 * d)))] rfl ?_
            exact at57 0 (w_0 hV hd0 h1 h37)
          · skip
            have qk := hV.k (k := O (23 + 10 * d) - 1) hd0 h1 (by omega) (by omega)
            refine r_aload_n (pc := 40) (a := 0) (i := 0) 1 rfl rfl dX9_window_40 ?_
            refine r_iload_n (pc := 41) (a := 2) (i := 2) 3 rfl rfl dX9_window_41 ?_
            refine r_aload_n (pc := 42) (a := 0) (i := 0) 1 rfl rfl dX9_window_42 ?_
            refine r_iload_n (pc := 43) (a := 2) (i := 2) 3 rfl rfl dX9_window_43 ?_
            refine r_iload_n (pc := 44) (a := 3) (i := 3) 0 rfl rfl dX9_window_44 ?_
            refine r_iconst (pc := 45) dX9_window_45 ?_
            refine r_isub (pc := 46) dX9_window_46 ?_
            refine r_callVi (pc := 47) (st := [iv d, rv X 30, iv t]) (As := [iv d, iv ((O (23 + 10 * d)) - 1)]) okX9_lies (by decide) (by decide) rfl rfl rfl (Nat.le_of_ble_eq_true rfl) km_X9_194 (kX9_lies X hO2 hV (by omega) (by omega) (by omega) (by omega)) dX9_window_47 ?_
            refine r_callVi (pc := 50) (st := [iv t]) (As := [iv d, iv (O (24 + 10 * d + ((O (23 + 10 * d)) - 1)))]) okX9_lostOn (by decide) (by decide) rfl rfl rfl (Nat.le_of_ble_eq_true rfl) km_X9_271 (kX9_lostOn X hO2 hV (by omega) (by omega) (by omega) (by omega)) dX9_window_50 ?_
            refine r_goto (pc := 53) 57 dX9_window_53 (by decide) ?_
            refine r_lv [1, 2, 3, 0] [(0, rv X 30), (1, iv t), (2, iv d), (3, iv (O (23 + 10 * d)))] rfl ?_
            exact at57 (liu O (O (24 + 10 * d + ((O (23 + 10 * d)) - 1))) d) (w_1 hV hd0 h1)
    refine r_lv [2, 1, 0] [(0, rv X 30), (1, iv 0), (2, iv 0)] rfl ?_
    exact at19 _ 0 0 (Nat.lt_succ_self _) (by omega) (by omega) (rfl)
  · skip
    have h9 := bI_0.mp h9
    refine r_ldc (pc := 12) kc_X9_206 dX9_window_12 ?_
    refine r_iret (pc := 14) (st := []) rfl dX9_window_14 ?_
    exact ⟨congrArg (fun q => some (iv q)) (by unfold zWin; rw [if_neg (by omega)]), rfl⟩
