noncomputable def zCnt (S : HD) (w : Int) : Int := if w = 0 then stn (S 31) 8 else if w = 1 then S 34 0 else if w = 2 then S 34 1 else if w = 3 then S 34 2 else if w = 4 then S 30 9 else if w = 5 then cnt (fun x => x < S 34 1 ∧ dk (S 34) x < 0) 16 else if w = 6 then S 30 11 else -1000001
set_option maxRecDepth 100000 in
set_option maxHeartbeats 4000000 in
theorem kJ6_bitCount (X : XC) {I : HD} {n : Nat} (h0 : n < 65536) : Cl X 0 mJ6_bitCount_0f7a4 [iv ((n : Nat) : Int)] I (Ki ((bN n : Nat) : Int) I) := by
  refine Cl.of (by decide) (Nat.le_of_ble_eq_true rfl) ?_
  show Rn X 0 mJ6_bitCount_0f7a4 _ 0 [(0, iv ((n : Nat) : Int))] [] I
  have e1 := bA_le (n := n)
  have e2 : bA n ≤ n := Nat.sub_le _ _
  have e3 : bB (bA n) ≤ 858993459 + 858993459 := Nat.add_le_add la_le la_le
  have e3b : bB (bA n) ≤ bA n + bA n := Nat.add_le_add Nat.and_le_left (Nat.le_trans Nat.and_le_left sr_le)
  have e4 : bC (bB (bA n)) ≤ 252645135 := la_le
  have e5 := sr_le (n := bA n) (k := 2)
  have e6 := sr_le (n := bB (bA n)) (k := 4)
  have e7 := sr_le (n := bC (bB (bA n))) (k := 8)
  have e8 : bD (bC (bB (bA n))) ≤ 252645135 + 252645135 := Nat.add_le_add e4 (Nat.le_trans e7 e4)
  have e9 := sr_le (n := bD (bC (bB (bA n)))) (k := 16)
  have e10 : bE (bD (bC (bB (bA n)))) ≤ 505290270 + 505290270 := Nat.add_le_add e8 (Nat.le_trans e9 e8)
  have e11 := sr_le (n := n) (k := 1)
  refine r_iload_n (pc := 0) (a := 0) (i := 0) 0 rfl rfl dJ6_bitCount_0f7a4_0 ?_
  refine r_iload_n (pc := 1) (a := 0) (i := 0) 0 rfl rfl dJ6_bitCount_0f7a4_1 ?_
  refine r_iconst (pc := 2) dJ6_bitCount_0f7a4_2 ?_
  refine r_iushr (pc := 3) (z := ((Nat.shiftRight (n) 1 : Nat) : Int)) (ush_n (n := n) (k := 1) (by omega) (by decide)) dJ6_bitCount_0f7a4_3 ?_
  refine r_ldcw (pc := 4) kc_J6_265 dJ6_bitCount_0f7a4_4 ?_
  refine r_iand (pc := 7) (z := ((Nat.land (Nat.shiftRight n 1) 1431655765 : Nat) : Int)) (iI_and (a := Nat.shiftRight n 1) (b := 1431655765) (by omega) (by decide)) dJ6_bitCount_0f7a4_7 ?_
  refine r_isub (pc := 8) dJ6_bitCount_0f7a4_8 ?_
  refine r_istore_n (pc := 9) (a := 0) (i := 0) rfl [(0, iv (((n : Nat) : Int) - ((Nat.land (Nat.shiftRight n 1) 1431655765 : Nat) : Int)))] (by decide) rfl dJ6_bitCount_0f7a4_9 ?_
  refine r_lve (lv2 := [(0, iv ((bA n : Nat) : Int))]) (by rw [show (n : Int) - ((Nat.land (Nat.shiftRight n 1) 1431655765 : Nat) : Int) = ((bA n : Nat) : Int) from (Int.ofNat_sub e1).symm]) ?_
  refine r_iload_n (pc := 10) (a := 0) (i := 0) 0 rfl rfl dJ6_bitCount_0f7a4_10 ?_
  refine r_ldcw (pc := 11) kc_J6_266 dJ6_bitCount_0f7a4_11 ?_
  refine r_iand (pc := 14) (z := ((Nat.land (bA n) 858993459 : Nat) : Int)) (iI_and (a := bA n) (b := 858993459) (by omega) (by decide)) dJ6_bitCount_0f7a4_14 ?_
  refine r_iload_n (pc := 15) (a := 0) (i := 0) 0 rfl rfl dJ6_bitCount_0f7a4_15 ?_
  refine r_iconst (pc := 16) dJ6_bitCount_0f7a4_16 ?_
  refine r_iushr (pc := 17) (z := ((Nat.shiftRight (bA n) 2 : Nat) : Int)) (ush_n (n := bA n) (k := 2) (by omega) (by decide)) dJ6_bitCount_0f7a4_17 ?_
  refine r_ldcw (pc := 18) kc_J6_266 dJ6_bitCount_0f7a4_18 ?_
  refine r_iand (pc := 21) (z := ((Nat.land (Nat.shiftRight (bA n) 2) 858993459 : Nat) : Int)) (iI_and (a := Nat.shiftRight (bA n) 2) (b := 858993459) (by omega) (by decide)) dJ6_bitCount_0f7a4_21 ?_
  refine r_iadd (pc := 22) dJ6_bitCount_0f7a4_22 ?_
  refine r_istore_n (pc := 23) (a := 0) (i := 0) rfl [(0, iv (((Nat.land (bA n) 858993459 : Nat) : Int) + ((Nat.land (Nat.shiftRight (bA n) 2) 858993459 : Nat) : Int)))] (by decide) rfl dJ6_bitCount_0f7a4_23 ?_
  refine r_lve (lv2 := [(0, iv ((bB (bA n) : Nat) : Int))]) (rfl) ?_
  refine r_iload_n (pc := 24) (a := 0) (i := 0) 0 rfl rfl dJ6_bitCount_0f7a4_24 ?_
  refine r_iload_n (pc := 25) (a := 0) (i := 0) 0 rfl rfl dJ6_bitCount_0f7a4_25 ?_
  refine r_iconst (pc := 26) dJ6_bitCount_0f7a4_26 ?_
  refine r_iushr (pc := 27) (z := ((Nat.shiftRight (bB (bA n)) 4 : Nat) : Int)) (ush_n (n := bB (bA n)) (k := 4) (by omega) (by decide)) dJ6_bitCount_0f7a4_27 ?_
  refine r_iadd (pc := 28) dJ6_bitCount_0f7a4_28 ?_
  refine r_ldcw (pc := 29) kc_J6_267 dJ6_bitCount_0f7a4_29 ?_
  refine r_iand (pc := 32) (z := ((bC (bB (bA n)) : Nat) : Int)) (iI_and (a := bB (bA n) + Nat.shiftRight (bB (bA n)) 4) (b := 252645135) (by omega) (by decide)) dJ6_bitCount_0f7a4_32 ?_
  refine r_istore_n (pc := 33) (a := 0) (i := 0) rfl [(0, iv ((bC (bB (bA n)) : Nat) : Int))] (by decide) rfl dJ6_bitCount_0f7a4_33 ?_
  refine r_iload_n (pc := 34) (a := 0) (i := 0) 0 rfl rfl dJ6_bitCount_0f7a4_34 ?_
  refine r_iload_n (pc := 35) (a := 0) (i := 0) 0 rfl rfl dJ6_bitCount_0f7a4_35 ?_
  refine r_bipush (pc := 36) rfl dJ6_bitCount_0f7a4_36 ?_
  refine r_iushr (pc := 38) (z := ((Nat.shiftRight (bC (bB (bA n))) 8 : Nat) : Int)) (ush_n (n := bC (bB (bA n))) (k := 8) (by omega) (by decide)) dJ6_bitCount_0f7a4_38 ?_
  refine r_iadd (pc := 39) dJ6_bitCount_0f7a4_39 ?_
  refine r_istore_n (pc := 40) (a := 0) (i := 0) rfl [(0, iv (((bC (bB (bA n)) : Nat) : Int) + ((Nat.shiftRight (bC (bB (bA n))) 8 : Nat) : Int)))] (by decide) rfl dJ6_bitCount_0f7a4_40 ?_
  refine r_lve (lv2 := [(0, iv ((bD (bC (bB (bA n))) : Nat) : Int))]) (rfl) ?_
  refine r_iload_n (pc := 41) (a := 0) (i := 0) 0 rfl rfl dJ6_bitCount_0f7a4_41 ?_
  refine r_iload_n (pc := 42) (a := 0) (i := 0) 0 rfl rfl dJ6_bitCount_0f7a4_42 ?_
  refine r_bipush (pc := 43) rfl dJ6_bitCount_0f7a4_43 ?_
  refine r_iushr (pc := 45) (z := ((Nat.shiftRight (bD (bC (bB (bA n)))) 16 : Nat) : Int)) (ush_n (n := bD (bC (bB (bA n)))) (k := 16) (by omega) (by decide)) dJ6_bitCount_0f7a4_45 ?_
  refine r_iadd (pc := 46) dJ6_bitCount_0f7a4_46 ?_
  refine r_istore_n (pc := 47) (a := 0) (i := 0) rfl [(0, iv (((bD (bC (bB (bA n))) : Nat) : Int) + ((Nat.shiftRight (bD (bC (bB (bA n)))) 16 : Nat) : Int)))] (by decide) rfl dJ6_bitCount_0f7a4_47 ?_
  refine r_lve (lv2 := [(0, iv ((bE (bD (bC (bB (bA n)))) : Nat) : Int))]) (rfl) ?_
  refine r_iload_n (pc := 48) (a := 0) (i := 0) 0 rfl rfl dJ6_bitCount_0f7a4_48 ?_
  refine r_bipush (pc := 49) rfl dJ6_bitCount_0f7a4_49 ?_
  refine r_iand (pc := 51) (z := ((bN n : Nat) : Int)) (iI_and (a := bE (bD (bC (bB (bA n))))) (b := 63) (by omega) (by decide)) dJ6_bitCount_0f7a4_51 ?_
  refine r_iret (pc := 52) (st := []) rfl dJ6_bitCount_0f7a4_52 ?_
  exact ⟨rfl, rfl⟩

set_option maxRecDepth 100000 in
set_option maxHeartbeats 4000000 in
theorem kX8_count (X : XC) {I : HD} {w : Int} (hI : RC I I) (hw : rg w) : Cl X 4 mX8_count [rv X 0, iv w] I (Ki (zCnt I w) I) := by
  refine Cl.of (by decide) (Nat.le_of_ble_eq_true rfl) ?_
  show Rn X 4 mX8_count _ 0 [(0, rv X 0), (1, iv w)] [] I
  unfold rg at hw
  unfold zCnt
  have hR := hI.1.2.1
  have hV := hI.1.1
  refine r_iload_n (pc := 0) (a := 1) (i := 1) 1 rfl rfl dX8_count_0 ?_
  rcases (by omega : (w < 0 ∨ 6 < w) ∨ w = 0 ∨ w = 1 ∨ w = 2 ∨ w = 3 ∨ w = 4 ∨ w = 5 ∨ w = 6) with hs | hs | hs | hs | hs | hs | hs | hs
  · skip
    refine r_tsOut (pc := 1) 103 (by unfold rg; omega) hs dX8_count_1 (by decide) ?_
    refine r_ldc (pc := 103) kc_X8_73 dX8_count_103 ?_
    refine r_iret (pc := 105) (st := []) rfl dX8_count_105 ?_
    exact ⟨congrArg (fun q => some (iv q)) (by rw [if_neg (by omega)]; rw [if_neg (by omega)]; rw [if_neg (by omega)]; rw [if_neg (by omega)]; rw [if_neg (by omega)]; rw [if_neg (by omega)]; rw [if_neg (by omega)]), rfl⟩
  · skip
    refine r_tsIn (pc := 1) (c := 0) 44 hs (by unfold rg; omega) (by omega) (by omega) (off := 43) rfl dX8_count_1 (by decide) ?_
    refine r_aload_n (pc := 44) (a := 0) (i := 0) 0 rfl rfl dX8_count_44 ?_
    refine r_callVi (pc := 45) (st := []) (As := []) okX8_standingRows (by decide) (by decide) rfl rfl rfl (Nat.le_of_ble_eq_true rfl) km_X8_319 (kX8_standingRows X hI.2.2.2.1) dX8_count_45 ?_
    refine r_iret (pc := 48) (st := []) rfl dX8_count_48 ?_
    exact ⟨congrArg (fun q => some (iv q)) (by rw [if_pos (by omega)]), rfl⟩
  · skip
    refine r_tsIn (pc := 1) (c := 1) 49 hs (by unfold rg; omega) (by omega) (by omega) (off := 48) rfl dX8_count_1 (by decide) ?_
    refine r_aload_n (pc := 49) (a := 0) (i := 0) 0 rfl rfl dX8_count_49 ?_
    refine r_get (pc := 50) ckX8 (by decide) rfl (j := 2) (by decide) rfl kf_X8_25 dX8_count_50 ?_
    refine r_getN (pc := 53) ckX3 (oH_lt (show 0 < 28 by decide)) (cellO (show 0 < 28 by decide)) (j := 8) (by decide) (congrArg (fun q => some (iv q)) hR.f0) kf_X8_151 dX8_count_53 ?_
    refine r_iret (pc := 56) (st := []) rfl dX8_count_56 ?_
    exact ⟨congrArg (fun q => some (iv q)) (by rw [if_neg (by omega)]; rw [if_pos (by omega)]), rfl⟩
  · skip
    refine r_tsIn (pc := 1) (c := 2) 57 hs (by unfold rg; omega) (by omega) (by omega) (off := 56) rfl dX8_count_1 (by decide) ?_
    refine r_aload_n (pc := 57) (a := 0) (i := 0) 0 rfl rfl dX8_count_57 ?_
    refine r_get (pc := 58) ckX8 (by decide) rfl (j := 2) (by decide) rfl kf_X8_25 dX8_count_58 ?_
    refine r_getN (pc := 61) ckX3 (oH_lt (show 0 < 28 by decide)) (cellO (show 0 < 28 by decide)) (j := 9) (by decide) (congrArg (fun q => some (iv q)) hR.f1) kf_X8_190 dX8_count_61 ?_
    refine r_iret (pc := 64) (st := []) rfl dX8_count_64 ?_
    exact ⟨congrArg (fun q => some (iv q)) (by rw [if_neg (by omega)]; rw [if_neg (by omega)]; rw [if_pos (by omega)]), rfl⟩
  · skip
    refine r_tsIn (pc := 1) (c := 3) 65 hs (by unfold rg; omega) (by omega) (by omega) (off := 64) rfl dX8_count_1 (by decide) ?_
    refine r_aload_n (pc := 65) (a := 0) (i := 0) 0 rfl rfl dX8_count_65 ?_
    refine r_get (pc := 66) ckX8 (by decide) rfl (j := 2) (by decide) rfl kf_X8_25 dX8_count_66 ?_
    refine r_getN (pc := 69) ckX3 (oH_lt (show 0 < 28 by decide)) (cellO (show 0 < 28 by decide)) (j := 10) (by decide) (congrArg (fun q => some (iv q)) hR.f2) kf_X8_174 dX8_count_69 ?_
    refine r_iret (pc := 72) (st := []) rfl dX8_count_72 ?_
    exact ⟨congrArg (fun q => some (iv q)) (by rw [if_neg (by omega)]; rw [if_neg (by omega)]; rw [if_neg (by omega)]; rw [if_pos (by omega)]), rfl⟩
  · skip
    refine r_tsIn (pc := 1) (c := 4) 73 hs (by unfold rg; omega) (by omega) (by omega) (off := 72) rfl dX8_count_1 (by decide) ?_
    refine r_aload_n (pc := 73) (a := 0) (i := 0) 0 rfl rfl dX8_count_73 ?_
    refine r_get (pc := 74) ckX8 (by decide) rfl (j := 3) (by decide) rfl kf_X8_32 dX8_count_74 ?_
    refine r_getN (pc := 77) ckX0 (by decide) rfl (j := 2) (by decide) (congrArg (fun q => some (iv q)) hI.2.1.2.2.1) kf_X8_214 dX8_count_77 ?_
    refine r_iret (pc := 80) (st := []) rfl dX8_count_80 ?_
    exact ⟨congrArg (fun q => some (iv q)) (by rw [if_neg (by omega)]; rw [if_neg (by omega)]; rw [if_neg (by omega)]; rw [if_neg (by omega)]; rw [if_pos (by omega)]), rfl⟩
  · skip
    refine r_tsIn (pc := 1) (c := 5) 81 hs (by unfold rg; omega) (by omega) (by omega) (off := 80) rfl dX8_count_1 (by decide) ?_
    refine r_aload_n (pc := 81) (a := 0) (i := 0) 0 rfl rfl dX8_count_81 ?_
    refine r_get (pc := 82) ckX8 (by decide) rfl (j := 2) (by decide) rfl kf_X8_25 dX8_count_82 ?_
    refine r_callVi (pc := 85) (st := []) (As := []) okX3_goneSet (by decide) (oH_lt (show 0 < 28 by decide)) (cellO (show 0 < 28 by decide)) rfl rfl (Nat.le_of_ble_eq_true rfl) km_X8_295 (kX3_goneSet X (by decide) hR hV) dX8_count_85 ?_
    refine r_callSi (pc := 88) (st := []) (As := [iv ((bset (fun x => x < (I 34) 1 ∧ dk (I 34) x < 0) 16 : Nat) : Int)]) (D2 := 0) okJ6_bitCount_0f7a4 (by decide) trivial rfl (Nat.le_of_ble_eq_true rfl) km_X8_322 ((by have := kJ6_bitCount X (I := I) (n := bset (fun x => x < (I 34) 1 ∧ dk (I 34) x < 0) 16) (by have := bset_lt (fun x => x < (I 34) 1 ∧ dk (I 34) x < 0) 16; omega); rw [bN_cnt] at this; exact this)) dX8_count_88 ?_
    refine r_iret (pc := 91) (st := []) rfl dX8_count_91 ?_
    exact ⟨congrArg (fun q => some (iv q)) (by rw [if_neg (by omega)]; rw [if_neg (by omega)]; rw [if_neg (by omega)]; rw [if_neg (by omega)]; rw [if_neg (by omega)]; rw [if_pos (by omega)]), rfl⟩
  · skip
    refine r_tsIn (pc := 1) (c := 6) 92 hs (by unfold rg; omega) (by omega) (by omega) (off := 91) rfl dX8_count_1 (by decide) ?_
    refine r_aload_n (pc := 92) (a := 0) (i := 0) 0 rfl rfl dX8_count_92 ?_
    refine r_get (pc := 93) ckX8 (by decide) rfl (j := 1) (by decide) rfl kf_X8_18 dX8_count_93 ?_
    refine r_getN (pc := 96) ckX4 (by decide) rfl (j := 0) (by decide) rfl kf_X8_116 dX8_count_96 ?_
    refine r_getN (pc := 99) ckX7 (by decide) rfl (j := 1) (by decide) (congrArg (fun q => some (iv q)) hI.2.2.2.2.1.1) kf_X8_130 dX8_count_99 ?_
    refine r_iret (pc := 102) (st := []) rfl dX8_count_102 ?_
    exact ⟨congrArg (fun q => some (iv q)) (by rw [if_neg (by omega)]; rw [if_neg (by omega)]; rw [if_neg (by omega)]; rw [if_neg (by omega)]; rw [if_neg (by omega)]; rw [if_neg (by omega)]; rw [if_pos (by omega)]), rfl⟩

set_option maxRecDepth 100000 in
set_option maxHeartbeats 4000000 in
theorem kX9_count (X : XC) {I : HD} {O : OF} {F : Int → Int} {n4 n6 w : Int} (hO : I 34 = O) (hV : Val O) (hF : I 31 = F) (hFr : ∀ r, 0 ≤ r → r < 8 → rg (F r)) (h4 : I 30 9 = n4) (h6 : I 30 11 = n6) (hw : rg w) : Cl X 4 mX9_count [rv X 30, iv w] I (Ki (if w = 0 then stn F 8 else if w = 1 then O 0 else if w = 2 then O 1 else if w = 3 then O 2 else if w = 4 then n4 else if w = 5 then cnt (fun x => x < O 1 ∧ dk O x < 0) (O 1).toNat else if w = 6 then n6 else -1000001) (up I 30 0 0)) := by
  refine Cl.of (by decide) (Nat.le_of_ble_eq_true rfl) ?_
  show Rn X 4 mX9_count _ 0 [(0, rv X 30), (1, iv w)] [] I
  have hO2 : (up I 30 0 0) 34 = O := (up_row (by decide)).trans hO
  unfold rg at hw
  have q0 := hV.a
  refine r_aload_n (pc := 0) (a := 0) (i := 0) 0 rfl rfl dX9_count_0 ?_
  refine r_iconst (pc := 1) dX9_count_1 ?_
  refine r_put (pc := 2) 0 (ji := 0) rfl ckX9 (by decide) rfl rfl (by decide) (Nat.le_of_ble_eq_true rfl) kf_X9_54 rfl rfl rfl rfl dX9_count_2 ?_
  refine r_iconst (pc := 5) dX9_count_5 ?_
  refine r_istore_n (pc := 6) (a := 2) (i := 2) rfl [(2, iv 0), (0, rv X 30), (1, iv w)] (by decide) rfl dX9_count_6 ?_
  refine r_iload_n (pc := 7) (a := 1) (i := 1) 2 rfl rfl dX9_count_7 ?_
  rcases (by omega : (w < 0 ∨ 6 < w) ∨ w = 0 ∨ w = 1 ∨ w = 2 ∨ w = 3 ∨ w = 4 ∨ w = 5 ∨ w = 6) with hs | hs | hs | hs | hs | hs | hs | hs
  · skip
    refine r_tsOut (pc := 8) 142 (by unfold rg; omega) hs dX9_count_8 (by decide) ?_
    refine r_ldc (pc := 142) kc_X9_74 dX9_count_142 ?_
    refine r_iret (pc := 144) (st := []) rfl dX9_count_144 ?_
    exact ⟨congrArg (fun q => some (iv q)) (by rw [if_neg (by omega)]; rw [if_neg (by omega)]; rw [if_neg (by omega)]; rw [if_neg (by omega)]; rw [if_neg (by omega)]; rw [if_neg (by omega)]; rw [if_neg (by omega)]), rfl⟩
  · skip
    refine r_tsIn (pc := 8) (c := 0) 52 hs (by unfold rg; omega) (by omega) (by omega) (off := 44) rfl dX9_count_8 (by decide) ?_
    refine r_iconst (pc := 52) dX9_count_52 ?_
    refine r_istore_n (pc := 53) (a := 3) (i := 3) rfl [(3, iv 0), (2, iv 0), (0, rv X 30), (1, iv w)] (by decide) rfl dX9_count_53 ?_
    have at54 : ∀ (n54 : Nat) (n : Int) (r : Int), (8 - r).toNat < n54 → (hr0 : 0 ≤ r) → (hr1 : r ≤ 8) → (hn : n = stn F r.toNat) → (hw0 : w = 0) → Rn X 4 mX9_count (Ki (if w = 0 then stn F 8 else if w = 1 then O 0 else if w = 2 then O 1 else if w = 3 then O 2 else if w = 4 then n4 else if w = 5 then cnt (fun x => x < O 1 ∧ dk O x < 0) (O 1).toNat else if w = 6 then n6 else -1000001) (up I 30 0 0)) 54 [(0, rv X 30), (1, iv w), (2, iv n), (3, iv r)] [] (up I 30 0 0) := by
      intro n54
      induction n54 with
      | zero => intro n r hm; omega
      | succ n54 ih54 =>
        intro n r hm54 hr0 hr1 hn hw0
        refine r_iload_n (pc := 54) (a := 3) (i := 3) 3 rfl rfl dX9_count_54 ?_
        refine r_bipush (pc := 55) rfl dX9_count_55 ?_
        refine r_icmp_ge (pc := 57) 83 (by unfold rg; omega) (by unfold rg; omega) dX9_count_57 (by decide) (fun h57 => ?_) (fun h57 => ?_)
        · skip
          refine r_iload_n (pc := 83) (a := 2) (i := 2) 2 rfl rfl dX9_count_83 ?_
          refine r_iret (pc := 84) (st := []) rfl dX9_count_84 ?_
          exact ⟨congrArg (fun q => some (iv q)) (by rw [if_pos (by omega), hn, show r = 8 by omega]; rfl), rfl⟩
        · skip
          have at75 : ∀ (z : Int), (hz : bI (0 ≤ F r) = z) → Rn X 4 mX9_count (Ki (if w = 0 then stn F 8 else if w = 1 then O 0 else if w = 2 then O 1 else if w = 3 then O 2 else if w = 4 then n4 else if w = 5 then cnt (fun x => x < O 1 ∧ dk O x < 0) (O 1).toNat else if w = 6 then n6 else -1000001) (up I 30 0 0)) 75 [(0, rv X 30), (1, iv w), (2, iv n), (3, iv r)] [iv z, iv n] (up I 30 0 0) := by
            intro z hz
            refine r_iadd (pc := 75) dX9_count_75 ?_
            refine r_istore_n (pc := 76) (a := 2) (i := 2) rfl [(2, iv (n + z)), (0, rv X 30), (1, iv w), (3, iv r)] (by decide) rfl dX9_count_76 ?_
            refine r_iinc (pc := 77) 3 [(3, iv (r + 1)), (2, iv (n + z)), (0, rv X 30), (1, iv w)] rfl (by decide) rfl dX9_count_77 ?_
            refine r_goto (pc := 80) 54 dX9_count_80 (by decide) ?_
            refine r_lv [2, 3, 1, 0] [(0, rv X 30), (1, iv w), (2, iv (n + z)), (3, iv (r + 1))] rfl ?_
            exact ih54 (n + z) (r + 1) (by omega) (by omega) (by omega) (by rw [stn_s hr0, ← hn, hz]) (by omega)
          have hFk := hFr r hr0 (by omega)
          unfold rg at hFk
          refine r_iload_n (pc := 60) (a := 2) (i := 2) 2 rfl rfl dX9_count_60 ?_
          refine r_aload_n (pc := 61) (a := 0) (i := 0) 0 rfl rfl dX9_count_61 ?_
          refine r_get (pc := 62) ckX9 (by decide) rfl (j := 2) (by decide) rfl kf_X9_7 dX9_count_62 ?_
          refine r_iload_n (pc := 65) (a := 3) (i := 3) 3 rfl rfl dX9_count_65 ?_
          refine r_iald (pc := 66) (z := F r) (by decide) rfl (by omega) (by omega) (by decide) ((congrFun (up_row (by decide)) _).trans (congrFun hF _)) dX9_count_66 ?_
          refine r_if_lt (pc := 67) 74 (by unfold rg; omega) dX9_count_67 (by decide) (fun h67 => ?_) (fun h67 => ?_)
          · skip
            refine r_iconst (pc := 74) dX9_count_74 ?_
            refine r_lv [0, 1, 2, 3] [(0, rv X 30), (1, iv w), (2, iv n), (3, iv r)] rfl ?_
            exact at75 0 (bI_f (by omega))
          · skip
            refine r_iconst (pc := 70) dX9_count_70 ?_
            refine r_goto (pc := 71) 75 dX9_count_71 (by decide) ?_
            refine r_lv [0, 1, 2, 3] [(0, rv X 30), (1, iv w), (2, iv n), (3, iv r)] rfl ?_
            exact at75 1 (bI_t (by omega))
    refine r_lv [2, 3, 1, 0] [(0, rv X 30), (1, iv w), (2, iv 0), (3, iv 0)] rfl ?_
    exact at54 _ 0 0 (Nat.lt_succ_self _) (by omega) (by omega) (rfl) (by omega)
  · skip
    refine r_tsIn (pc := 8) (c := 1) 85 hs (by unfold rg; omega) (by omega) (by omega) (off := 77) rfl dX9_count_8 (by decide) ?_
    refine r_aload_n (pc := 85) (a := 0) (i := 0) 1 rfl rfl dX9_count_85 ?_
    refine r_get (pc := 86) ckX9 (by decide) rfl (j := 5) (by decide) rfl kf_X9_19 dX9_count_86 ?_
    refine r_iload_n (pc := 89) (a := 1) (i := 1) 2 rfl rfl dX9_count_89 ?_
    refine r_iconst (pc := 90) dX9_count_90 ?_
    refine r_isub (pc := 91) dX9_count_91 ?_
    refine r_iald (pc := 92) (z := O (w - 1)) (by decide) rfl (by omega) (by omega) (by decide) (congrFun hO2 _) dX9_count_92 ?_
    refine r_iret (pc := 93) (st := []) rfl dX9_count_93 ?_
    exact ⟨congrArg (fun q => some (iv q)) (by first | (rw [if_neg (by omega), if_pos (by omega)]; exact congrArg O (by omega)) | (rw [if_neg (by omega), if_neg (by omega), if_pos (by omega)]; exact congrArg O (by omega)) | (rw [if_neg (by omega), if_neg (by omega), if_neg (by omega), if_pos (by omega)]; exact congrArg O (by omega))), rfl⟩
  · skip
    refine r_tsIn (pc := 8) (c := 2) 85 hs (by unfold rg; omega) (by omega) (by omega) (off := 77) rfl dX9_count_8 (by decide) ?_
    refine r_aload_n (pc := 85) (a := 0) (i := 0) 1 rfl rfl dX9_count_85 ?_
    refine r_get (pc := 86) ckX9 (by decide) rfl (j := 5) (by decide) rfl kf_X9_19 dX9_count_86 ?_
    refine r_iload_n (pc := 89) (a := 1) (i := 1) 2 rfl rfl dX9_count_89 ?_
    refine r_iconst (pc := 90) dX9_count_90 ?_
    refine r_isub (pc := 91) dX9_count_91 ?_
    refine r_iald (pc := 92) (z := O (w - 1)) (by decide) rfl (by omega) (by omega) (by decide) (congrFun hO2 _) dX9_count_92 ?_
    refine r_iret (pc := 93) (st := []) rfl dX9_count_93 ?_
    exact ⟨congrArg (fun q => some (iv q)) (by first | (rw [if_neg (by omega), if_pos (by omega)]; exact congrArg O (by omega)) | (rw [if_neg (by omega), if_neg (by omega), if_pos (by omega)]; exact congrArg O (by omega)) | (rw [if_neg (by omega), if_neg (by omega), if_neg (by omega), if_pos (by omega)]; exact congrArg O (by omega))), rfl⟩
  · skip
    refine r_tsIn (pc := 8) (c := 3) 85 hs (by unfold rg; omega) (by omega) (by omega) (off := 77) rfl dX9_count_8 (by decide) ?_
    refine r_aload_n (pc := 85) (a := 0) (i := 0) 1 rfl rfl dX9_count_85 ?_
    refine r_get (pc := 86) ckX9 (by decide) rfl (j := 5) (by decide) rfl kf_X9_19 dX9_count_86 ?_
    refine r_iload_n (pc := 89) (a := 1) (i := 1) 2 rfl rfl dX9_count_89 ?_
    refine r_iconst (pc := 90) dX9_count_90 ?_
    refine r_isub (pc := 91) dX9_count_91 ?_
    refine r_iald (pc := 92) (z := O (w - 1)) (by decide) rfl (by omega) (by omega) (by decide) (congrFun hO2 _) dX9_count_92 ?_
    refine r_iret (pc := 93) (st := []) rfl dX9_count_93 ?_
    exact ⟨congrArg (fun q => some (iv q)) (by first | (rw [if_neg (by omega), if_pos (by omega)]; exact congrArg O (by omega)) | (rw [if_neg (by omega), if_neg (by omega), if_pos (by omega)]; exact congrArg O (by omega)) | (rw [if_neg (by omega), if_neg (by omega), if_neg (by omega), if_pos (by omega)]; exact congrArg O (by omega))), rfl⟩
  · skip
    refine r_tsIn (pc := 8) (c := 4) 94 hs (by unfold rg; omega) (by omega) (by omega) (off := 86) rfl dX9_count_8 (by decide) ?_
    refine r_aload_n (pc := 94) (a := 0) (i := 0) 1 rfl rfl dX9_count_94 ?_
    refine r_get (pc := 95) ckX9 (by decide) rfl (j := 9) (by decide) (congrArg (fun q => some (iv q)) ((up_i (by decide)).trans h4)) kf_X9_188 dX9_count_95 ?_
    refine r_iret (pc := 98) (st := []) rfl dX9_count_98 ?_
    exact ⟨congrArg (fun q => some (iv q)) (by rw [if_neg (by omega)]; rw [if_neg (by omega)]; rw [if_neg (by omega)]; rw [if_neg (by omega)]; rw [if_pos (by omega)]), rfl⟩
  · skip
    refine r_tsIn (pc := 8) (c := 5) 99 hs (by unfold rg; omega) (by omega) (by omega) (off := 91) rfl dX9_count_8 (by decide) ?_
    refine r_iconst (pc := 99) dX9_count_99 ?_
    refine r_istore_n (pc := 100) (a := 3) (i := 3) rfl [(3, iv 0), (2, iv 0), (0, rv X 30), (1, iv w)] (by decide) rfl dX9_count_100 ?_
    have at101 : ∀ (n101 : Nat) (n : Int) (p : Int), (O 1 - p).toNat < n101 → (hp0 : 0 ≤ p) → (hp1 : p ≤ O 1) → (hn : n = cnt (fun x => x < O 1 ∧ dk O x < 0) p.toNat) → (hw0 : w = 5) → Rn X 4 mX9_count (Ki (if w = 0 then stn F 8 else if w = 1 then O 0 else if w = 2 then O 1 else if w = 3 then O 2 else if w = 4 then n4 else if w = 5 then cnt (fun x => x < O 1 ∧ dk O x < 0) (O 1).toNat else if w = 6 then n6 else -1000001) (up I 30 0 0)) 101 [(0, rv X 30), (1, iv w), (2, iv n), (3, iv p)] [] (up I 30 0 0) := by
      intro n101
      induction n101 with
      | zero => intro n p hm; omega
      | succ n101 ih101 =>
        intro n p hm101 hp0 hp1 hn hw0
        refine r_iload_n (pc := 101) (a := 3) (i := 3) 3 rfl rfl dX9_count_101 ?_
        refine r_aload_n (pc := 102) (a := 0) (i := 0) 0 rfl rfl dX9_count_102 ?_
        refine r_get (pc := 103) ckX9 (by decide) rfl (j := 5) (by decide) rfl kf_X9_19 dX9_count_103 ?_
        refine r_iconst (pc := 106) dX9_count_106 ?_
        refine r_iald (pc := 107) (z := O 1) (by decide) rfl (by omega) (by omega) (by decide) (congrFun hO2 _) dX9_count_107 ?_
        refine r_icmp_ge (pc := 108) 135 (by unfold rg; omega) (by unfold rg; omega) dX9_count_108 (by decide) (fun h108 => ?_) (fun h108 => ?_)
        · skip
          refine r_iload_n (pc := 135) (a := 2) (i := 2) 2 rfl rfl dX9_count_135 ?_
          refine r_iret (pc := 136) (st := []) rfl dX9_count_136 ?_
          exact ⟨congrArg (fun q => some (iv q)) (by rw [if_neg (by omega), if_neg (by omega), if_neg (by omega), if_neg (by omega), if_neg (by omega), if_pos (by omega), hn, show p = O 1 by omega]), rfl⟩
        · skip
          have at127 : ∀ (z : Int), (hz : bI (p < O 1 ∧ dk O p < 0) = z) → Rn X 4 mX9_count (Ki (if w = 0 then stn F 8 else if w = 1 then O 0 else if w = 2 then O 1 else if w = 3 then O 2 else if w = 4 then n4 else if w = 5 then cnt (fun x => x < O 1 ∧ dk O x < 0) (O 1).toNat else if w = 6 then n6 else -1000001) (up I 30 0 0)) 127 [(0, rv X 30), (1, iv w), (2, iv n), (3, iv p)] [iv z, iv n] (up I 30 0 0) := by
            intro z hz
            refine r_iadd (pc := 127) dX9_count_127 ?_
            refine r_istore_n (pc := 128) (a := 2) (i := 2) rfl [(2, iv (n + z)), (0, rv X 30), (1, iv w), (3, iv p)] (by decide) rfl dX9_count_128 ?_
            refine r_iinc (pc := 129) 3 [(3, iv (p + 1)), (2, iv (n + z)), (0, rv X 30), (1, iv w)] rfl (by decide) rfl dX9_count_129 ?_
            refine r_goto (pc := 132) 101 dX9_count_132 (by decide) ?_
            refine r_lv [2, 3, 1, 0] [(0, rv X 30), (1, iv w), (2, iv (n + z)), (3, iv (p + 1))] rfl ?_
            exact ih101 (n + z) (p + 1) (by omega) (by omega) (by omega) (by rw [cnt_s hp0, ← hn, hz]) (by omega)
          have qN := dkN_or O p
          have ql := @dk_lt O p
          refine r_iload_n (pc := 111) (a := 2) (i := 2) 2 rfl rfl dX9_count_111 ?_
          refine r_aload_n (pc := 112) (a := 0) (i := 0) 0 rfl rfl dX9_count_112 ?_
          refine r_iload_n (pc := 113) (a := 3) (i := 3) 3 rfl rfl dX9_count_113 ?_
          refine r_callVi (pc := 114) (st := [iv n]) (As := [iv p]) okX9_deskOf (by decide) (by decide) rfl rfl rfl (Nat.le_of_ble_eq_true rfl) km_X9_203 (kX9_deskOf X hO2 hV (by omega) (by omega)) dX9_count_114 ?_
          refine r_ldc (pc := 117) kc_X9_90 dX9_count_117 ?_
          refine r_icmp_ne (pc := 119) 126 (by unfold rg; omega) (by unfold rg; omega) dX9_count_119 (by decide) (fun h119 => ?_) (fun h119 => ?_)
          · skip
            refine r_iconst (pc := 126) dX9_count_126 ?_
            refine r_lv [0, 1, 2, 3] [(0, rv X 30), (1, iv w), (2, iv n), (3, iv p)] rfl ?_
            exact at127 0 (bI_f (by omega))
          · skip
            refine r_iconst (pc := 122) dX9_count_122 ?_
            refine r_goto (pc := 123) 127 dX9_count_123 (by decide) ?_
            refine r_lv [0, 1, 2, 3] [(0, rv X 30), (1, iv w), (2, iv n), (3, iv p)] rfl ?_
            exact at127 1 (bI_t (by omega))
    refine r_lv [2, 3, 1, 0] [(0, rv X 30), (1, iv w), (2, iv 0), (3, iv 0)] rfl ?_
    exact at101 _ 0 0 (Nat.lt_succ_self _) (by omega) (by omega) (rfl) (by omega)
  · skip
    refine r_tsIn (pc := 8) (c := 6) 137 hs (by unfold rg; omega) (by omega) (by omega) (off := 129) rfl dX9_count_8 (by decide) ?_
    refine r_aload_n (pc := 137) (a := 0) (i := 0) 1 rfl rfl dX9_count_137 ?_
    refine r_get (pc := 138) ckX9 (by decide) rfl (j := 11) (by decide) (congrArg (fun q => some (iv q)) ((up_i (by decide)).trans h6)) kf_X9_81 dX9_count_138 ?_
    refine r_iret (pc := 141) (st := []) rfl dX9_count_141 ?_
    exact ⟨congrArg (fun q => some (iv q)) (by rw [if_neg (by omega)]; rw [if_neg (by omega)]; rw [if_neg (by omega)]; rw [if_neg (by omega)]; rw [if_neg (by omega)]; rw [if_neg (by omega)]; rw [if_pos (by omega)]), rfl⟩
theorem pr_count {X : XC} {w : Int} (hw : rg w) : Pair X mX8_count mX9_count [iv w] := by
  refine Pair.rd (D := 4) (D2 := 4) (by decide) (by decide) fun I hI => ⟨zCnt I w, kX8_count X hI hw, ?_⟩
  have hV := hI.1.1
  have v := hV.a
  have h := kX9_count X (I := I) rfl hV rfl (fun r a b => by
    obtain ⟨g1, g2, g3, _⟩ := hI.2.2.2.1 r a b
    unfold rg; omega) rfl rfl hw
  have e : cnt (fun x => x < I 34 1 ∧ dk (I 34) x < 0) (I 34 1).toNat = cnt (fun x => x < I 34 1 ∧ dk (I 34) x < 0) 16 := by
    have := cnt_ext (f := fun x => x < I 34 1 ∧ dk (I 34) x < 0) (n := (I 34 1).toNat) (fun p a q => by have := q.1; omega) (16 - (I 34 1).toNat)
    rw [show (I 34 1).toNat + (16 - (I 34 1).toNat) = 16 by omega] at this
    exact this.symm
  rw [e] at h
  exact h
