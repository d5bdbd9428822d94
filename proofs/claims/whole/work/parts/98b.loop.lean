/-! ===== 98b: the law's loop, its head ===== -/
theorem and31 (x : Int32) : ∃ k : Nat, k < 32 ∧ (x &&& 31).toInt = (k : Int) := by
  have h : x.toBitVec.toNat &&& 31 ≤ 31 := Nat.and_le_right
  have e : (x &&& 31).toBitVec.toNat = x.toBitVec.toNat &&& 31 := by
    rw [Int32.toBitVec_and, BitVec.toNat_and]; rfl
  refine ⟨x.toBitVec.toNat &&& 31, by omega, ?_⟩
  show (x &&& 31).toBitVec.toInt = _
  rw [BitVec.toInt_eq_toNat_of_lt (by rw [e]; omega), e]
set_option maxRecDepth 20000 in
set_option maxHeartbeats 1000000 in
theorem law_loop {X : XC} {p : Program} {e : Env} {s : State} {m : MethodId} {below : List Frame} {meth : Method} {c : Code} {b L : Nat} {xs : Nat → Int32} (C : LC X p s m c b L xs) (hr : meth.sig.returnType = ret) (hlocks : meth.locks = false) (hbs : ∀ q, AA X q → s.heap.size ≤ q) :
    ∀ (n i : Nat) (I : HD), i ≤ 400 → L + 1 ≤ i + n → RC I I → Lw X p e s m below meth c b 18 (LV X b i) [] I := by
  have hx := C.1
  have hb := C.2.1
  have hL : L ≤ 384 := C.2.2.2.2.2.2.2.2.2
  intro n
  have hout : ∀ (i : Nat) (I : HD), Lw X p e s m below meth c b 1074 (LV X b i) [] I := by
    intro i I H locs ls hP hS hl
    refine lv_iconst (v := 1) hx hb dL_law_1074 (by decide) ?_
    refine va_forget (fun q hq => hbs _ (hS.2.2 q hq)) ?_
    exact lw_ret hx hb hr hlocks dL_law_1075
  induction n with
  | zero =>
    intro i I hi h2 hR H locs ls hP hS hl
    have hX := C.2.2.2.2.2.1
    refine lv_iload_n hx hb dL_law_18 rfl (lv_at hl 0 rfl) ?_
    refine lv_aload_n hx hb dL_law_19 rfl (lv_at hl 3 rfl) ?_
    refine va_slen hx hb hX C.2.2.2.2.2.2.1 C.2.2.2.2.2.2.2.1 hS dL_law_20 ?_
    refine lv_bipush (v := 6) hx hb dL_law_21 rfl ?_
    refine lv_isub hx hb dL_law_23 ?_
    rw [show Int32.ofNat L - 6 = iI ((L : Int) - 6) from (Int32.ofInt_sub (L : Int) 6).symm]
    have e9 := rg_lt (a := (L : Int) - 6) (b := (i : Int)) (rg_sm (by omega) (by omega)) (rg_sm (by omega) (by omega))
    refine lv_icmp_gt (tgt := 1074) hx hb dL_law_24 rfl (fun q => hout i I H locs ls hP hS hl) (fun q => absurd (e9.mpr (by omega)) q)
  | succ n ih =>
    intro i I hi h2 hR H locs ls hP hS hl
    have hX := C.2.2.2.2.2.1
    refine lv_iload_n hx hb dL_law_18 rfl (lv_at hl 0 rfl) ?_
    refine lv_aload_n hx hb dL_law_19 rfl (lv_at hl 3 rfl) ?_
    refine va_slen hx hb hX C.2.2.2.2.2.2.1 C.2.2.2.2.2.2.2.1 hS dL_law_20 ?_
    refine lv_bipush (v := 6) hx hb dL_law_21 rfl ?_
    refine lv_isub hx hb dL_law_23 ?_
    rw [show Int32.ofNat L - 6 = iI ((L : Int) - 6) from (Int32.ofInt_sub (L : Int) 6).symm]
    have e9 := rg_lt (a := (L : Int) - 6) (b := (i : Int)) (rg_sm (by omega) (by omega)) (rg_sm (by omega) (by omega))
    refine lv_icmp_gt (tgt := 1074) hx hb dL_law_24 rfl (fun q => hout i I H locs ls hP hS hl) (fun q => ?_)
    have hlt : i + 6 ≤ L := by
      have : ¬ ((L : Int) - 6 < i) := fun z => q (e9.mpr z)
      omega
    have hk : ∀ J, RC J J → Lw X p e s m below meth c b 1068 (LV X b i) [] J := by
      intro J hJ H locs ls hP hS hl
      refine lv_iinc (v := iI ((i : Int) + 6)) (lv' := [(3, iv ((i : Int) + 6)), (2, rv X 30), (1, rv X 0), (0, .ref b)]) hx hb dL_law_1068 hl (k := 0) rfl (Int32.ofInt_add (i : Int) 6).symm (by decide) rfl (fun ls hl => ?_)
      refine lv_goto (tgt := 18) hx hb dL_law_1071 (by decide) ?_
      exact ih (i + 6) J (by omega) (by omega) hJ H locs ls hP hS hl
    refine lv_aload_n hx hb dL_law_27 rfl (lv_at hl 3 rfl) ?_
    refine lv_iload_n hx hb dL_law_28 rfl (lv_at hl 0 rfl) ?_
    refine va_sld hx hb hX C.2.2.2.2.2.2.1 C.2.2.2.2.2.2.2.1 hS (rg_in (n := L) (by omega) (by omega) (by omega)) dL_law_29 ?_
    refine lv_bipush (v := 31) hx hb dL_law_30 rfl ?_
    refine lv_iand hx hb dL_law_32 ?_
    obtain ⟨k, hk32, hke⟩ := and31 (xs (iI (i : Int)).toNatClampNeg)
    rcases (show k = 0 ∨ k = 1 ∨ k = 2 ∨ k = 3 ∨ k = 4 ∨ k = 5 ∨ k = 6 ∨ k = 7 ∨ k = 8 ∨ k = 9 ∨ k = 10 ∨ k = 11 ∨ k = 12 ∨ k = 13 ∨ k = 14 ∨ k = 15 ∨ k = 16 ∨ k = 17 ∨ k = 18 ∨ k = 19 ∨ k = 20 ∨ k = 21 ∨ k = 22 ∨ k = 23 ∨ k = 24 ∨ k = 25 ∨ k = 26 ∨ k = 27 ∨ k = 28 ∨ k = 29 ∨ 30 ≤ k by omega) with rfl | rfl | rfl | rfl | rfl | rfl | rfl | rfl | rfl | rfl | rfl | rfl | rfl | rfl | rfl | rfl | rfl | rfl | rfl | rfl | rfl | rfl | rfl | rfl | rfl | rfl | rfl | rfl | rfl | rfl | q
    · exact lv_tableIn (off := 135) (tgt := 168) hx hb dL_law_33 (by rw [hke]; decide) (by rw [hke]; decide) (by rw [hke]; rfl) (by decide) (ca0 C hlt hR hk H locs ls hP hS hl)
    · exact lv_tableIn (off := 178) (tgt := 211) hx hb dL_law_33 (by rw [hke]; decide) (by rw [hke]; decide) (by rw [hke]; rfl) (by decide) (ca1 C hlt hR hk H locs ls hP hS hl)
    · exact lv_tableIn (off := 221) (tgt := 254) hx hb dL_law_33 (by rw [hke]; decide) (by rw [hke]; decide) (by rw [hke]; rfl) (by decide) (ca2 C hlt hR hk H locs ls hP hS hl)
    · exact lv_tableIn (off := 284) (tgt := 317) hx hb dL_law_33 (by rw [hke]; decide) (by rw [hke]; decide) (by rw [hke]; rfl) (by decide) (ca3 C hlt hR hk H locs ls hP hS hl)
    · exact lv_tableIn (off := 307) (tgt := 340) hx hb dL_law_33 (by rw [hke]; decide) (by rw [hke]; decide) (by rw [hke]; rfl) (by decide) (ca4 C hlt hR hk H locs ls hP hS hl)
    · exact lv_tableIn (off := 370) (tgt := 403) hx hb dL_law_33 (by rw [hke]; decide) (by rw [hke]; decide) (by rw [hke]; rfl) (by decide) (ca5 C hlt hR hk H locs ls hP hS hl)
    · exact lv_tableIn (off := 383) (tgt := 416) hx hb dL_law_33 (by rw [hke]; decide) (by rw [hke]; decide) (by rw [hke]; rfl) (by decide) (ca6 C hlt hR hk H locs ls hP hS hl)
    · exact lv_tableIn (off := 396) (tgt := 429) hx hb dL_law_33 (by rw [hke]; decide) (by rw [hke]; decide) (by rw [hke]; rfl) (by decide) (ca7 C hlt hR hk H locs ls hP hS hl)
    · exact lv_tableIn (off := 419) (tgt := 452) hx hb dL_law_33 (by rw [hke]; decide) (by rw [hke]; decide) (by rw [hke]; rfl) (by decide) (ca8 C hlt hR hk H locs ls hP hS hl)
    · exact lv_tableIn (off := 452) (tgt := 485) hx hb dL_law_33 (by rw [hke]; decide) (by rw [hke]; decide) (by rw [hke]; rfl) (by decide) (ca9 C hlt hR hk H locs ls hP hS hl)
    · exact lv_tableIn (off := 475) (tgt := 508) hx hb dL_law_33 (by rw [hke]; decide) (by rw [hke]; decide) (by rw [hke]; rfl) (by decide) (ca10 C hlt hR hk H locs ls hP hS hl)
    · exact lv_tableIn (off := 498) (tgt := 531) hx hb dL_law_33 (by rw [hke]; decide) (by rw [hke]; decide) (by rw [hke]; rfl) (by decide) (ca11 C hlt hR hk H locs ls hP hS hl)
    · exact lv_tableIn (off := 511) (tgt := 544) hx hb dL_law_33 (by rw [hke]; decide) (by rw [hke]; decide) (by rw [hke]; rfl) (by decide) (ca12 C hlt hR hk H locs ls hP hS hl)
    · exact lv_tableIn (off := 544) (tgt := 577) hx hb dL_law_33 (by rw [hke]; decide) (by rw [hke]; decide) (by rw [hke]; rfl) (by decide) (ca13 C hlt hR hk H locs ls hP hS hl)
    · exact lv_tableIn (off := 577) (tgt := 610) hx hb dL_law_33 (by rw [hke]; decide) (by rw [hke]; decide) (by rw [hke]; rfl) (by decide) (ca14 C hlt hR hk H locs ls hP hS hl)
    · exact lv_tableIn (off := 610) (tgt := 643) hx hb dL_law_33 (by rw [hke]; decide) (by rw [hke]; decide) (by rw [hke]; rfl) (by decide) (ca15 C hlt hR hk H locs ls hP hS hl)
    · exact lv_tableIn (off := 643) (tgt := 676) hx hb dL_law_33 (by rw [hke]; decide) (by rw [hke]; decide) (by rw [hke]; rfl) (by decide) (ca16 C hlt hR hk H locs ls hP hS hl)
    · exact lv_tableIn (off := 686) (tgt := 719) hx hb dL_law_33 (by rw [hke]; decide) (by rw [hke]; decide) (by rw [hke]; rfl) (by decide) (ca17 C hlt hR hk H locs ls hP hS hl)
    · exact lv_tableIn (off := 719) (tgt := 752) hx hb dL_law_33 (by rw [hke]; decide) (by rw [hke]; decide) (by rw [hke]; rfl) (by decide) (ca18 C hlt hR hk H locs ls hP hS hl)
    · exact lv_tableIn (off := 752) (tgt := 785) hx hb dL_law_33 (by rw [hke]; decide) (by rw [hke]; decide) (by rw [hke]; rfl) (by decide) (ca19 C hlt hR hk H locs ls hP hS hl)
    · exact lv_tableIn (off := 805) (tgt := 838) hx hb dL_law_33 (by rw [hke]; decide) (by rw [hke]; decide) (by rw [hke]; rfl) (by decide) (ca20 C hlt hR hk H locs ls hP hS hl)
    · exact lv_tableIn (off := 818) (tgt := 851) hx hb dL_law_33 (by rw [hke]; decide) (by rw [hke]; decide) (by rw [hke]; rfl) (by decide) (ca21 C hlt hR hk H locs ls hP hS hl)
    · exact lv_tableIn (off := 841) (tgt := 874) hx hb dL_law_33 (by rw [hke]; decide) (by rw [hke]; decide) (by rw [hke]; rfl) (by decide) (ca22 C hlt hR hk H locs ls hP hS hl)
    · exact lv_tableIn (off := 864) (tgt := 897) hx hb dL_law_33 (by rw [hke]; decide) (by rw [hke]; decide) (by rw [hke]; rfl) (by decide) (ca23 C hlt hR hk H locs ls hP hS hl)
    · exact lv_tableIn (off := 887) (tgt := 920) hx hb dL_law_33 (by rw [hke]; decide) (by rw [hke]; decide) (by rw [hke]; rfl) (by decide) (ca24 C hlt hR hk H locs ls hP hS hl)
    · exact lv_tableIn (off := 910) (tgt := 943) hx hb dL_law_33 (by rw [hke]; decide) (by rw [hke]; decide) (by rw [hke]; rfl) (by decide) (ca25 C hlt hR hk H locs ls hP hS hl)
    · exact lv_tableIn (off := 943) (tgt := 976) hx hb dL_law_33 (by rw [hke]; decide) (by rw [hke]; decide) (by rw [hke]; rfl) (by decide) (ca26 C hlt hR hk H locs ls hP hS hl)
    · exact lv_tableIn (off := 976) (tgt := 1009) hx hb dL_law_33 (by rw [hke]; decide) (by rw [hke]; decide) (by rw [hke]; rfl) (by decide) (ca27 C hlt hR hk H locs ls hP hS hl)
    · exact lv_tableIn (off := 999) (tgt := 1032) hx hb dL_law_33 (by rw [hke]; decide) (by rw [hke]; decide) (by rw [hke]; rfl) (by decide) (ca28 C hlt hR hk H locs ls hP hS hl)
    · exact lv_tableIn (off := 1022) (tgt := 1055) hx hb dL_law_33 (by rw [hke]; decide) (by rw [hke]; decide) (by rw [hke]; rfl) (by decide) (ca29 C hlt hR hk H locs ls hP hS hl)
    · exact lv_tableOut (tgt := 1068) hx hb dL_law_33 (by rw [hke]; omega) (by decide) (hk I hR H locs ls hP hS hl)
