set_option maxRecDepth 100000 in
set_option maxHeartbeats 4000000 in
theorem kJ0_coder (X : XC) {I : HD} {i : Nat} (hi : i < 8) : Cl X 0 mJ0_coder_7d493 [.ref (X.2.2.2.2 (10 + i))] I (Ki 0 I) := by
  refine Cl.of (by decide) (Nat.le_of_ble_eq_true rfl) ?_
  show Rn X 0 mJ0_coder_7d493 _ 0 [(0, .ref (X.2.2.2.2 (10 + i)))] [] I
  refine r_scs (pc := 0) kf_J0_38 dJ0_coder_7d493_0 ?_
  refine r_if_eq (pc := 3) 13 (by unfold rg; omega) dJ0_coder_7d493_3 (by decide) (fun h3 => ?_) (fun h3 => ?_)
  · exact absurd h3 (by decide)
  · skip
    refine r_aload_n (pc := 6) (a := 0) (i := 0) 0 rfl rfl dJ0_coder_7d493_6 ?_
    refine r_scod (pc := 7) (i := i) hi kf_J0_15 dJ0_coder_7d493_7 ?_
    refine r_goto (pc := 10) 14 dJ0_coder_7d493_10 (by decide) ?_
    refine r_zret (pc := 14) (st := []) rfl (by decide) dJ0_coder_7d493_14 ?_
    exact ⟨rfl, rfl⟩

set_option maxRecDepth 100000 in
set_option maxHeartbeats 4000000 in
theorem kJ0_latin (X : XC) {I : HD} {i : Nat} (hi : i < 8) : Cl X 0 mJ0_isLatin1_aae02 [.ref (X.2.2.2.2 (10 + i))] I (Ki 1 I) := by
  refine Cl.of (by decide) (Nat.le_of_ble_eq_true rfl) ?_
  show Rn X 0 mJ0_isLatin1_aae02 _ 0 [(0, .ref (X.2.2.2.2 (10 + i)))] [] I
  refine r_scs (pc := 0) kf_J0_38 dJ0_isLatin1_aae02_0 ?_
  refine r_if_eq (pc := 3) 17 (by unfold rg; omega) dJ0_isLatin1_aae02_3 (by decide) (fun h3 => ?_) (fun h3 => ?_)
  · exact absurd h3 (by decide)
  · skip
    refine r_aload_n (pc := 6) (a := 0) (i := 0) 0 rfl rfl dJ0_isLatin1_aae02_6 ?_
    refine r_scod (pc := 7) (i := i) hi kf_J0_15 dJ0_isLatin1_aae02_7 ?_
    refine r_if_ne (pc := 10) 17 (by unfold rg; omega) dJ0_isLatin1_aae02_10 (by decide) (fun h10 => ?_) (fun h10 => ?_)
    · exact absurd h10 (by decide)
    · skip
      refine r_iconst (pc := 13) dJ0_isLatin1_aae02_13 ?_
      refine r_goto (pc := 14) 18 dJ0_isLatin1_aae02_14 (by decide) ?_
      refine r_zret (pc := 18) (st := []) rfl (rfl) dJ0_isLatin1_aae02_18 ?_
      exact ⟨rfl, rfl⟩

set_option maxRecDepth 100000 in
set_option maxHeartbeats 4000000 in
theorem kJ0_length (X : XC) {I : HD} {i : Nat} (hi : i < 8) : Cl X 1 mJ0_length_8abf5 [.ref (X.2.2.2.2 (10 + i))] I (Ki (sLn i) I) := by
  refine Cl.of (by decide) (Nat.le_of_ble_eq_true rfl) ?_
  show Rn X 1 mJ0_length_8abf5 _ 0 [(0, .ref (X.2.2.2.2 (10 + i)))] [] I
  have hl := sLn_r i hi
  refine r_aload_n (pc := 0) (a := 0) (i := 0) 0 rfl rfl dJ0_length_8abf5_0 ?_
  refine r_sval (pc := 1) (i := i) hi kf_J0_9 dJ0_length_8abf5_1 ?_
  refine r_slen (pc := 4) (i := i) hi dJ0_length_8abf5_4 ?_
  refine r_aload_n (pc := 5) (a := 0) (i := 0) 0 rfl rfl dJ0_length_8abf5_5 ?_
  refine r_callVS (pc := 6) (st := [iv (sLn i)]) (As := []) (i := i) (D2 := 0) okJ0_coder_7d493 (by decide) hi rfl rfl (Nat.le_of_ble_eq_true rfl) km_J0_335 (kJ0_coder X hi) dJ0_length_8abf5_6 ?_
  refine r_ishr (pc := 9) (z := sLn i) (shr_0 (by omega)) dJ0_length_8abf5_9 ?_
  refine r_iret (pc := 10) (st := []) rfl dJ0_length_8abf5_10 ?_
  exact ⟨rfl, rfl⟩

set_option maxRecDepth 100000 in
set_option maxHeartbeats 4000000 in
theorem kJ3_check0 (X : XC) {I : HD} {k n : Int} (k0 : 0 ≤ k) (kn : k < n) (hn : n < 1000) : Cl X 0 mJ3_checkIndex_8e157 [iv k, iv n, .null] I (Ki k I) := by
  refine Cl.of (by decide) (Nat.le_of_ble_eq_true rfl) ?_
  show Rn X 0 mJ3_checkIndex_8e157 _ 0 [(0, iv k), (1, iv n), (2, .null)] [] I
  refine r_iload_n (pc := 0) (a := 0) (i := 0) 0 rfl rfl dJ3_checkIndex_8e157_0 ?_
  refine r_if_lt (pc := 1) 9 (by unfold rg; omega) dJ3_checkIndex_8e157_1 (by decide) (fun h1 => ?_) (fun h1 => ?_)
  · exact absurd h1 (by omega)
  · skip
    refine r_iload_n (pc := 4) (a := 0) (i := 0) 0 rfl rfl dJ3_checkIndex_8e157_4 ?_
    refine r_iload_n (pc := 5) (a := 1) (i := 1) 1 rfl rfl dJ3_checkIndex_8e157_5 ?_
    refine r_icmp_lt (pc := 6) 16 (by unfold rg; omega) (by unfold rg; omega) dJ3_checkIndex_8e157_6 (by decide) (fun h6 => ?_) (fun h6 => ?_)
    · skip
      refine r_iload_n (pc := 16) (a := 0) (i := 0) 0 rfl rfl dJ3_checkIndex_8e157_16 ?_
      refine r_iret (pc := 17) (st := []) rfl dJ3_checkIndex_8e157_17 ?_
      exact ⟨rfl, rfl⟩
    · exact absurd h6 (by omega)

set_option maxRecDepth 100000 in
set_option maxHeartbeats 4000000 in
theorem kJ3_check (X : XC) {I : HD} {k n : Int} (t : Nat) (k0 : 0 ≤ k) (kn : k < n) (hn : n < 1000) : Cl X 0 mJ3_checkIndex_8e157 [iv k, iv n, .ref t] I (Ki k I) := by
  refine Cl.of (by decide) (Nat.le_of_ble_eq_true rfl) ?_
  show Rn X 0 mJ3_checkIndex_8e157 _ 0 [(0, iv k), (1, iv n), (2, .ref t)] [] I
  refine r_iload_n (pc := 0) (a := 0) (i := 0) 0 rfl rfl dJ3_checkIndex_8e157_0 ?_
  refine r_if_lt (pc := 1) 9 (by unfold rg; omega) dJ3_checkIndex_8e157_1 (by decide) (fun h1 => ?_) (fun h1 => ?_)
  · exact absurd h1 (by omega)
  · skip
    refine r_iload_n (pc := 4) (a := 0) (i := 0) 0 rfl rfl dJ3_checkIndex_8e157_4 ?_
    refine r_iload_n (pc := 5) (a := 1) (i := 1) 1 rfl rfl dJ3_checkIndex_8e157_5 ?_
    refine r_icmp_lt (pc := 6) 16 (by unfold rg; omega) (by unfold rg; omega) dJ3_checkIndex_8e157_6 (by decide) (fun h6 => ?_) (fun h6 => ?_)
    · skip
      refine r_iload_n (pc := 16) (a := 0) (i := 0) 0 rfl rfl dJ3_checkIndex_8e157_16 ?_
      refine r_iret (pc := 17) (st := []) rfl dJ3_checkIndex_8e157_17 ?_
      exact ⟨rfl, rfl⟩
    · exact absurd h6 (by omega)

set_option maxRecDepth 100000 in
set_option maxHeartbeats 4000000 in
theorem kJ0_check (X : XC) {I : HD} {k n : Int} (k0 : 0 ≤ k) (kn : k < n) (hn : n < 1000) : Cl X 1 mJ0_checkIndex_df160 [iv k, iv n] I (Kv I) := by
  refine Cl.of (by decide) (Nat.le_of_ble_eq_true rfl) ?_
  show Rn X 1 mJ0_checkIndex_df160 _ 0 [(0, iv k), (1, iv n)] [] I
  refine r_iload_n (pc := 0) (a := 0) (i := 0) 0 rfl rfl dJ0_checkIndex_df160_0 ?_
  refine r_iload_n (pc := 1) (a := 1) (i := 1) 1 rfl rfl dJ0_checkIndex_df160_1 ?_
  have hend : Rn X 1 mJ0_checkIndex_df160 (Kv I) 8 [(0, iv k), (1, iv n)] [iv k] I := by
    refine r_pop (pc := 8) rfl dJ0_checkIndex_df160_8 ?_
    refine r_vret (pc := 9) (st := []) rfl dJ0_checkIndex_df160_9 ?_
    exact ⟨rfl, rfl⟩
  refine r_sio (pc := 2) kf_J0_1053 dJ0_checkIndex_df160_2 ?_ (fun t => ?_)
  · exact r_callSi (pc := 5) (st := []) (As := [iv k, iv n, .null]) (D2 := 0) okJ3_checkIndex_8e157 (by decide) trivial rfl (Nat.le_of_ble_eq_true rfl) km_J0_1059 (kJ3_check0 X k0 kn hn) dJ0_checkIndex_df160_5 hend
  · exact r_callSi (pc := 5) (st := []) (As := [iv k, iv n, .ref t]) (D2 := 0) okJ3_checkIndex_8e157 (by decide) trivial rfl (Nat.le_of_ble_eq_true rfl) km_J0_1059 (kJ3_check X t k0 kn hn) dJ0_checkIndex_df160_5 hend

set_option maxRecDepth 100000 in
set_option maxHeartbeats 4000000 in
theorem kJ1_charAt (X : XC) {I : HD} {i : Nat} {j : Int} (hi : i < 8) (j0 : 0 ≤ j) (jl : j < sLn i) : Cl X 2 mJ1_charAt_3b067 [.ref (X.2.2.2.2 (20 + i)), iv j] I (Ki (stZ i j) I) := by
  refine Cl.of (by decide) (Nat.le_of_ble_eq_true rfl) ?_
  show Rn X 2 mJ1_charAt_3b067 _ 0 [(0, .ref (X.2.2.2.2 (20 + i))), (1, iv j)] [] I
  have hl := sLn_r i hi
  have hc := chr_a (st_z hi j0 jl)
  refine r_iload_n (pc := 0) (a := 1) (i := 1) 1 rfl rfl dJ1_charAt_3b067_0 ?_
  refine r_aload_n (pc := 1) (a := 0) (i := 0) 0 rfl rfl dJ1_charAt_3b067_1 ?_
  refine r_slen (pc := 2) (i := i) hi dJ1_charAt_3b067_2 ?_
  refine r_callSv (pc := 3) (st := []) (As := [iv j, iv (sLn i)]) (D2 := 1) okJ0_checkIndex_df160 (by decide) trivial rfl (Nat.le_of_ble_eq_true rfl) km_J1_9 (kJ0_check X j0 jl (by omega)) dJ1_charAt_3b067_3 ?_
  refine r_aload_n (pc := 6) (a := 0) (i := 0) 0 rfl rfl dJ1_charAt_3b067_6 ?_
  refine r_iload_n (pc := 7) (a := 1) (i := 1) 1 rfl rfl dJ1_charAt_3b067_7 ?_
  refine r_sbld (pc := 8) (i := i) hi (by omega) (by omega) dJ1_charAt_3b067_8 ?_
  refine r_sipush (pc := 9) rfl dJ1_charAt_3b067_9 ?_
  refine r_iand (pc := 12) (z := stZ i j) (hc.1) dJ1_charAt_3b067_12 ?_
  refine r_i2c (pc := 13) (z := stZ i j) (hc.2.1) dJ1_charAt_3b067_13 ?_
  refine r_zret (pc := 14) (st := []) rfl (hc.2.2) dJ1_charAt_3b067_14 ?_
  exact ⟨rfl, rfl⟩

set_option maxRecDepth 100000 in
set_option maxHeartbeats 4000000 in
theorem kJ0_charAt (X : XC) {I : HD} {i : Nat} {j : Int} (hi : i < 8) (j0 : 0 ≤ j) (jl : j < sLn i) : Cl X 3 mJ0_charAt_5068e [.ref (X.2.2.2.2 (10 + i)), iv j] I (Ki (stZ i j) I) := by
  refine Cl.of (by decide) (Nat.le_of_ble_eq_true rfl) ?_
  show Rn X 3 mJ0_charAt_5068e _ 0 [(0, .ref (X.2.2.2.2 (10 + i))), (1, iv j)] [] I
  have hc := chr_a (st_z hi j0 jl)
  refine r_aload_n (pc := 0) (a := 0) (i := 0) 0 rfl rfl dJ0_charAt_5068e_0 ?_
  refine r_callVS (pc := 1) (st := []) (As := []) (i := i) (D2 := 0) okJ0_isLatin1_aae02 (by decide) hi rfl rfl (Nat.le_of_ble_eq_true rfl) km_J0_492 (kJ0_latin X hi) dJ0_charAt_5068e_1 ?_
  refine r_if_eq (pc := 4) 16 (by unfold rg; omega) dJ0_charAt_5068e_4 (by decide) (fun h4 => ?_) (fun h4 => ?_)
  · exact absurd h4 (by decide)
  · skip
    refine r_aload_n (pc := 7) (a := 0) (i := 0) 0 rfl rfl dJ0_charAt_5068e_7 ?_
    refine r_sval (pc := 8) (i := i) hi kf_J0_9 dJ0_charAt_5068e_8 ?_
    refine r_iload_n (pc := 11) (a := 1) (i := 1) 1 rfl rfl dJ0_charAt_5068e_11 ?_
    refine r_callSi (pc := 12) (st := []) (As := [.ref (X.2.2.2.2 (20 + i)), iv j]) (D2 := 2) okJ1_charAt_3b067 (by decide) trivial rfl (Nat.le_of_ble_eq_true rfl) km_J0_495 (kJ1_charAt X hi j0 jl) dJ0_charAt_5068e_12 ?_
    refine r_zret (pc := 15) (st := []) rfl (hc.2.2) dJ0_charAt_5068e_15 ?_
    exact ⟨rfl, rfl⟩
