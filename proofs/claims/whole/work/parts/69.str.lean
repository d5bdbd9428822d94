/-! ===== texts: rows, the JDK's own methods ===== -/
abbrev mJ0_coder_7d493 : MR := (yJ0_coder_7d493, cJ0_coder_7d493, 1, (some .byte))
theorem okJ0_coder_7d493 : okV mJ0_coder_7d493 0 := ⟨⟨lw_gd (List.mem_of_getElem? (i := 437) (by decide +kernel)) (by decide +kernel), lw_gd (List.mem_of_getElem? (i := 73) (by decide +kernel)) (by decide +kernel), ⟨by decide +kernel, by decide +kernel, by decide +kernel⟩, by decide⟩, lw_gd (List.mem_of_getElem? (i := 435) (by decide +kernel)) (by decide +kernel), lw_gd (List.mem_of_getElem? (i := 436) (by decide +kernel)) (by decide +kernel)⟩
abbrev mJ0_length_8abf5 : MR := (yJ0_length_8abf5, cJ0_length_8abf5, 1, (some .int))
theorem okJ0_length_8abf5 : okV mJ0_length_8abf5 0 := ⟨⟨lw_gd (List.mem_of_getElem? (i := 433) (by decide +kernel)) (by decide +kernel), lw_gd (List.mem_of_getElem? (i := 73) (by decide +kernel)) (by decide +kernel), ⟨by decide +kernel, by decide +kernel, by decide +kernel⟩, by decide⟩, lw_gd (List.mem_of_getElem? (i := 431) (by decide +kernel)) (by decide +kernel), lw_gd (List.mem_of_getElem? (i := 432) (by decide +kernel)) (by decide +kernel)⟩
abbrev mJ0_isLatin1_aae02 : MR := (yJ0_isLatin1_aae02, cJ0_isLatin1_aae02, 1, (some .boolean))
theorem okJ0_isLatin1_aae02 : okV mJ0_isLatin1_aae02 0 := ⟨⟨lw_gd (List.mem_of_getElem? (i := 447) (by decide +kernel)) (by decide +kernel), lw_gd (List.mem_of_getElem? (i := 73) (by decide +kernel)) (by decide +kernel), ⟨by decide +kernel, by decide +kernel, by decide +kernel⟩, by decide⟩, lw_gd (List.mem_of_getElem? (i := 445) (by decide +kernel)) (by decide +kernel), lw_gd (List.mem_of_getElem? (i := 446) (by decide +kernel)) (by decide +kernel)⟩
abbrev mJ0_checkIndex_df160 : MR := (yJ0_checkIndex_df160, cJ0_checkIndex_df160, 2, none)
theorem okJ0_checkIndex_df160 : okS mJ0_checkIndex_df160 2 := ⟨⟨lw_gd (List.mem_of_getElem? (i := 453) (by decide +kernel)) (by decide +kernel), lw_gd (List.mem_of_getElem? (i := 73) (by decide +kernel)) (by decide +kernel), ⟨by decide +kernel, by decide +kernel, by decide +kernel⟩, by decide⟩, lw_gd (List.mem_of_getElem? (i := 452) (by decide +kernel)) (by decide +kernel)⟩
abbrev mJ1_charAt_3b067 : MR := (yJ1_charAt_3b067, cJ1_charAt_3b067, 2, (some .char))
theorem okJ1_charAt_3b067 : okS mJ1_charAt_3b067 2 := ⟨⟨lw_gd (List.mem_of_getElem? (i := 450) (by decide +kernel)) (by decide +kernel), lw_gd (List.mem_of_getElem? (i := 74) (by decide +kernel)) (by decide +kernel), ⟨by decide +kernel, by decide +kernel, by decide +kernel⟩, by decide⟩, lw_gd (List.mem_of_getElem? (i := 449) (by decide +kernel)) (by decide +kernel)⟩
abbrev mJ0_charAt_5068e : MR := (yJ0_charAt_5068e, cJ0_charAt_5068e, 2, (some .char))
theorem okJ0_charAt_5068e : okV mJ0_charAt_5068e 1 := ⟨⟨lw_gd (List.mem_of_getElem? (i := 443) (by decide +kernel)) (by decide +kernel), lw_gd (List.mem_of_getElem? (i := 73) (by decide +kernel)) (by decide +kernel), ⟨by decide +kernel, by decide +kernel, by decide +kernel⟩, by decide⟩, lw_gd (List.mem_of_getElem? (i := 441) (by decide +kernel)) (by decide +kernel), lw_gd (List.mem_of_getElem? (i := 442) (by decide +kernel)) (by decide +kernel)⟩
abbrev mJ3_checkIndex_8e157 : MR := (yJ3_checkIndex_8e157, cJ3_checkIndex_8e157, 3, (some .int))
theorem okJ3_checkIndex_8e157 : okS mJ3_checkIndex_8e157 3 := ⟨⟨lw_gd (List.mem_of_getElem? (i := 458) (by decide +kernel)) (by decide +kernel), lw_gd (List.mem_of_getElem? (i := 75) (by decide +kernel)) (by decide +kernel), ⟨by decide +kernel, by decide +kernel, by decide +kernel⟩, by decide⟩, lw_gd (List.mem_of_getElem? (i := 457) (by decide +kernel)) (by decide +kernel)⟩
theorem km_J0_335 : Cond.methodLink RJ0 335 yJ0_coder_7d493 ∈ lw_good := lw_gd (List.mem_of_getElem? (i := 434) (by decide +kernel)) (by decide +kernel)
theorem km_J0_492 : Cond.methodLink RJ0 492 yJ0_isLatin1_aae02 ∈ lw_good := lw_gd (List.mem_of_getElem? (i := 444) (by decide +kernel)) (by decide +kernel)
theorem km_J0_495 : Cond.methodLink RJ0 495 yJ1_charAt_3b067 ∈ lw_good := lw_gd (List.mem_of_getElem? (i := 448) (by decide +kernel)) (by decide +kernel)
theorem km_J1_9 : Cond.methodLink RJ1 9 yJ0_checkIndex_df160 ∈ lw_good := lw_gd (List.mem_of_getElem? (i := 451) (by decide +kernel)) (by decide +kernel)
theorem km_J0_1059 : Cond.methodLink RJ0 1059 yJ3_checkIndex_8e157 ∈ lw_good := lw_gd (List.mem_of_getElem? (i := 456) (by decide +kernel)) (by decide +kernel)
theorem km_X4_121 : Cond.methodLink RX4 121 yJ0_length_8abf5 ∈ lw_good := lw_gd (List.mem_of_getElem? (i := 430) (by decide +kernel)) (by decide +kernel)
theorem km_X4_130 : Cond.methodLink RX4 130 yJ0_charAt_5068e ∈ lw_good := lw_gd (List.mem_of_getElem? (i := 440) (by decide +kernel)) (by decide +kernel)
theorem kf_J0_9 : Cond.fieldLink RJ0 9 "java/lang/String" "value" "[B" ∈ lw_good := lw_gd (List.mem_of_getElem? (i := 1264) (by decide +kernel)) (by decide +kernel)
theorem kf_J0_15 : Cond.fieldLink RJ0 15 "java/lang/String" "coder" "B" ∈ lw_good := lw_gd (List.mem_of_getElem? (i := 1265) (by decide +kernel)) (by decide +kernel)
theorem kf_J0_38 : Cond.fieldLink RJ0 38 "java/lang/String" "COMPACT_STRINGS" "Z" ∈ lw_good := lw_gd (List.mem_of_getElem? (i := 438) (by decide +kernel)) (by decide +kernel)
theorem kf_J0_1053 : Cond.fieldLink RJ0 1053 "jdk/internal/util/Preconditions" "SIOOBE_FORMATTER" "Ljava/util/function/BiFunction;" ∈ lw_good := lw_gd (List.mem_of_getElem? (i := 454) (by decide +kernel)) (by decide +kernel)
theorem r_ldcS {X : XC} {D : Nat} {M : MR} {K : KP} {pc : Nat} {lv : List (Nat × Value)} {st : List Value} {I : HD} (i : Nat) (hi : i < 8) {idx : Nat} (hk : stK i = idx) (hM : M.1.cls = RX4) (hd : decode M.2.1 pc = .ok (.ldc idx, 2)) (k : Rn X D M K (pc + 2) lv (.ref (X.2.2.2.2 (10 + i)) :: st) I) : Rn X D M K pc lv st I := by
  intro p e s m args below meth c H locs ls hx hb hml hr hlk hown hts hC hP hS hl
  have h := hC.2.2.2.2.2.2.2 i hi
  rw [hk] at h
  exact va_ldcS hx hb (own := RX4) (by rw [← hM]; exact hown) h hd (k p e s m args below meth c H locs ls hx hb hml hr hlk hown hts hC hP hS hl)
theorem r_sval {X : XC} {D : Nat} {M : MR} {K : KP} {pc : Nat} {lv : List (Nat × Value)} {st : List Value} {I : HD} {i idx : Nat} (hi : i < 8) (hk : Cond.fieldLink M.1.cls idx "java/lang/String" "value" "[B" ∈ lw_good) (hd : decode M.2.1 pc = .ok (.getfield idx, 3)) (k : Rn X D M K (pc + 3) lv (.ref (X.2.2.2.2 (20 + i)) :: st) I) : Rn X D M K pc lv (.ref (X.2.2.2.2 (10 + i)) :: st) I := by
  intro p e s m args below meth c H locs ls hx hb hml hr hlk hown hts hC hP hS hl
  exact vk_getf hx hb (hC.2.2.2.2.2.2.1.1 i hi).2.2.1 hS hown (hts _ (List.mem_cons_of_mem _ hk)) (fun _ h9 => h9) hd (k p e s m args below meth c H locs ls hx hb hml hr hlk hown hts hC hP hS hl)
theorem r_scod {X : XC} {D : Nat} {M : MR} {K : KP} {pc : Nat} {lv : List (Nat × Value)} {st : List Value} {I : HD} {i idx : Nat} (hi : i < 8) (hk : Cond.fieldLink M.1.cls idx "java/lang/String" "coder" "B" ∈ lw_good) (hd : decode M.2.1 pc = .ok (.getfield idx, 3)) (k : Rn X D M K (pc + 3) lv (iv 0 :: st) I) : Rn X D M K pc lv (.ref (X.2.2.2.2 (10 + i)) :: st) I := by
  intro p e s m args below meth c H locs ls hx hb hml hr hlk hown hts hC hP hS hl
  exact vk_getf hx hb (hC.2.2.2.2.2.2.1.1 i hi).2.1 hS hown (hts _ (List.mem_cons_of_mem _ hk)) (fun _ h9 => h9) hd (k p e s m args below meth c H locs ls hx hb hml hr hlk hown hts hC hP hS hl)
theorem r_scs {X : XC} {D : Nat} {M : MR} {K : KP} {pc : Nat} {lv : List (Nat × Value)} {st : List Value} {I : HD} {idx : Nat} (hk : Cond.fieldLink M.1.cls idx "java/lang/String" "COMPACT_STRINGS" "Z" ∈ lw_good) (hd : decode M.2.1 pc = .ok (.getstatic idx, 3)) (k : Rn X D M K (pc + 3) lv (iv 1 :: st) I) : Rn X D M K pc lv st I := by
  intro p e s m args below meth c H locs ls hx hb hml hr hlk hown hts hC hP hS hl
  exact va_gets hx hb hC.2.2.2.2.1 hS hown (hts _ (List.mem_cons_of_mem _ hk)) (fun _ h9 => h9) hd (k p e s m args below meth c H locs ls hx hb hml hr hlk hown hts hC hP hS hl)
theorem r_sio {X : XC} {D : Nat} {M : MR} {K : KP} {pc : Nat} {lv : List (Nat × Value)} {st : List Value} {I : HD} {idx : Nat} (hk : Cond.fieldLink M.1.cls idx "jdk/internal/util/Preconditions" "SIOOBE_FORMATTER" "Ljava/util/function/BiFunction;" ∈ lw_good) (hd : decode M.2.1 pc = .ok (.getstatic idx, 3)) (k0 : Rn X D M K (pc + 3) lv (.null :: st) I) (k : ∀ t : Nat, Rn X D M K (pc + 3) lv (.ref t :: st) I) : Rn X D M K pc lv st I := by
  intro p e s m args below meth c H locs ls hx hb hml hr hlk hown hts hC hP hS hl
  rcases hC.2.2.2.2.2.1 with hZ | ⟨t, hZ⟩
  · exact va_gets hx hb hZ hS hown (hts _ (List.mem_cons_of_mem _ hk)) (fun _ h9 => h9) hd (k0 p e s m args below meth c H locs ls hx hb hml hr hlk hown hts hC hP hS hl)
  · exact va_gets hx hb hZ hS hown (hts _ (List.mem_cons_of_mem _ hk)) (fun _ h9 => h9) hd (k t p e s m args below meth c H locs ls hx hb hml hr hlk hown hts hC hP hS hl)
def stZ (i : Nat) (j : Int) : Int := ((stB.getD i []).getD j.toNat 0).toInt
abbrev sLn (i : Nat) : Int := ((stL.getD i 0 : Nat) : Int)
theorem r_slen {X : XC} {D : Nat} {M : MR} {K : KP} {pc : Nat} {lv : List (Nat × Value)} {st : List Value} {I : HD} {i : Nat} (hi : i < 8) (hd : decode M.2.1 pc = .ok (.arraylength, 1)) (k : Rn X D M K (pc + 1) lv (iv (sLn i) :: st) I) : Rn X D M K pc lv (.ref (X.2.2.2.2 (20 + i)) :: st) I := by
  intro p e s m args below meth c H locs ls hx hb hml hr hlk hown hts hC hP hS hl
  exact va_tlen hx hb (hC.2.2.2.2.2.2.1.1 i hi).2.2.2 hS (v := iI (sLn i)) (iI_n _).symm hd (k p e s m args below meth c H locs ls hx hb hml hr hlk hown hts hC hP hS hl)
theorem r_sbld {X : XC} {D : Nat} {M : MR} {K : KP} {pc : Nat} {lv : List (Nat × Value)} {st : List Value} {I : HD} {i : Nat} {j : Int} (hi : i < 8) (h0 : 0 ≤ j) (h1 : j < sLn i) (hd : decode M.2.1 pc = .ok (.baload, 1)) (k : Rn X D M K (pc + 1) lv (iv (stZ i j) :: st) I) : Rn X D M K pc lv (iv j :: .ref (X.2.2.2.2 (20 + i)) :: st) I := by
  intro p e s m args below meth c H locs ls hx hb hml hr hlk hown hts hC hP hS hl
  have hb7 : ∀ i : Nat, i < 8 → stL.getD i 0 < 8 := by decide
  have hl6 := hb7 i hi
  have hl7 : sLn i < 8 := Int.ofNat_lt.mpr hl6
  exact va_tb hx hb (hC.2.2.2.2.2.2.1.1 i hi).2.2.2 hS (v := iv (stZ i j)) (rg_in h0 h1 (by omega)) (by
    rw [rg_cl (by unfold rg; omega) h0]
    show Value.int _ = Value.int (iI (stZ i j))
    rw [show iI (stZ i j) = (stB.getD i []).getD j.toNat 0 from iI_to _]) hd (k p e s m args below meth c H locs ls hx hb hml hr hlk hown hts hC hP hS hl)
theorem r_i2c {X : XC} {D : Nat} {M : MR} {K : KP} {pc : Nat} {lv : List (Nat × Value)} {st : List Value} {I : HD} {a z : Int} (hz : ((iI a).toUInt32 % 65536).toInt32 = iI z) (hd : decode M.2.1 pc = .ok (.i2c, 1)) (k : Rn X D M K (pc + 1) lv (iv z :: st) I) : Rn X D M K pc lv (iv a :: st) I := by
  intro p e s m args below meth c H locs ls hx hb hml hr hlk hown hts hC hP hS hl
  exact lv_i2c hx hb hd hz (k p e s m args below meth c H locs ls hx hb hml hr hlk hown hts hC hP hS hl)
theorem r_callVS {X : XC} {D : Nat} {M : MR} {K : KP} {pc : Nat} {lv : List (Nat × Value)} {st : List Value} {I : HD} {D2 : Nat} {M2 : MR} {z : Int} {J : HD} {n idx i : Nat} {As : List Value} (ok : okV M2 n) (hD : D2 < D) (hi : i < 8) (hcl : M2.1.cls = "java/lang/String") (hn : As.length = n) (hst : (st.map fun v => v.category).sum ≤ 8) (hk : Cond.methodLink M.1.cls idx M2.1 ∈ lw_good) (hM : Cl X D2 M2 (.ref (X.2.2.2.2 (10 + i)) :: As) I (Ki z J)) (hd : decode M.2.1 pc = .ok (.invokevirtual idx, 3)) (k : Rn X D M K (pc + 3) lv (iv z :: st) J) : Rn X D M K pc lv (As.reverse ++ .ref (X.2.2.2.2 (10 + i)) :: st) I := by
  intro p e s m args below meth c H locs ls hx hb hml hr hlk hown hts hC hP hS hl
  refine r_back9 (va_runV (As := As) (rest := st) ⟨hx, hb, hml, hown, hts⟩ hM ⟨cb_of (X := X) ok.1 hD hts hk, hts _ (List.mem_cons_of_mem _ ok.2.1), hts _ (List.mem_cons_of_mem _ ok.2.2)⟩ ⟨Cl.blind, by rw [hcl]; exact vk_recv (adK := fun i => X.2.2.2.2 (10 + i)) (i := i) hC.2.2.2.2.2.2.1 hi hS, fun U hU hW => ⟨rfl, by rw [hU]; exact hP, hC.next hS hU hW⟩⟩ rfl hn hl.1 rfl (lv_room hst) hd ⟨Nat.le_refl _, Nat.le_refl _⟩) hS (fun r I2 H1 locs1 h1 hP1 hS1 => ?_)
  obtain ⟨rfl, rfl⟩ := h1
  exact k p e s m args below meth c H1 locs1 ls hx hb hml hr hlk hown hts hC hP1 hS1 hl
theorem st_r : ∀ i : Nat, i < 8 → ∀ j : Nat, j < stL.getD i 0 → 97 ≤ stZ i j ∧ stZ i j ≤ 122 := by decide
theorem st_z {i : Nat} {j : Int} (hi : i < 8) (h0 : 0 ≤ j) (h1 : j < sLn i) : 97 ≤ stZ i j ∧ stZ i j ≤ 122 := by
  obtain ⟨n, rfl⟩ : ∃ n : Nat, j = n := ⟨j.toNat, by omega⟩
  exact st_r i hi n (by have : ((n : Nat) : Int) < ((stL.getD i 0 : Nat) : Int) := h1; omega)
theorem chr_a {z : Int} (h : 97 ≤ z ∧ z ≤ 122) : iI z &&& iI 255 = iI z ∧ ((iI z).toUInt32 % 65536).toInt32 = iI z ∧ narrow .char (iv z) = iv z := by
  have key : ∀ k : Nat, k < 128 → iI (k : Int) &&& iI 255 = iI (k : Int) ∧ ((iI (k : Int)).toUInt32 % 65536).toInt32 = iI (k : Int) ∧ narrow .char (iv (k : Int)) = iv (k : Int) := by decide +kernel
  obtain ⟨n, rfl⟩ : ∃ n : Nat, z = n := ⟨z.toNat, by omega⟩
  exact key n (by omega)
theorem sLn_r : ∀ i : Nat, i < 8 → 4 ≤ sLn i ∧ sLn i ≤ 7 := by decide
theorem shr_0 {n : Int} (h : 0 ≤ n ∧ n ≤ 7) : iI n >>> (iI 0 &&& 31) = iI n := by
  have key : ∀ k : Nat, k < 8 → iI (k : Int) >>> (iI 0 &&& 31) = iI (k : Int) := by decide +kernel
  obtain ⟨m, rfl⟩ : ∃ m : Nat, n = m := ⟨n.toNat, by omega⟩
  exact key m (by omega)

