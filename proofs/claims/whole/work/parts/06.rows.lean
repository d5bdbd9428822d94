/-! ===== rows: an instruction each ===== -/
def rl (z : Int) : Prop := -9223372036854775808 ≤ z ∧ z < 9223372036854775808
theorem rl_of {z : Int} (h : rl z) : (iL z).toInt = z := by
  rw [Int64.toInt_ofInt]
  unfold rl at h
  have e : (Int64.size : Int) = 18446744073709551616 := rfl
  rw [Int.bmod_eq_of_le] <;> omega
theorem rl_rg {z : Int} (h : rg z) : rl z := by unfold rg at h; unfold rl; omega
theorem rl_eq {a b : Int} (ha : rl a) (hb : rl b) : iL a = iL b ↔ a = b := by
  rw [← Int64.toInt_inj, rl_of ha, rl_of hb]
theorem rl_lt {a b : Int} (ha : rl a) (hb : rl b) : iL a < iL b ↔ a < b := by
  rw [Int64.lt_iff_toInt_lt, rl_of ha, rl_of hb]
theorem r_iconst {X : XC} {D : Nat} {M : MR} {K : KP} {pc : Nat} {lv : List (Nat × Value)} {st : List Value} {I : HD} {z : Int} (hd : decode M.2.1 pc = .ok (.iconst z, 1)) (k : Rn X D M K (pc + 1) lv (iv z :: st) I) : Rn X D M K pc lv (st) I := by
  intro p e s m args below meth c H locs ls hx hb hml hr hlk hown hts hC hP hS hl
  refine lv_iconst hx hb hd rfl ?_
  exact k p e s m args below meth c H locs ls hx hb hml hr hlk hown hts hC hP hS hl
theorem r_bipush {X : XC} {D : Nat} {M : MR} {K : KP} {pc : Nat} {lv : List (Nat × Value)} {st : List Value} {I : HD} {z : Int} (hz : (Int8.ofInt z).toInt32 = iI z) (hd : decode M.2.1 pc = .ok (.bipush z, 2)) (k : Rn X D M K (pc + 2) lv (iv z :: st) I) : Rn X D M K pc lv (st) I := by
  intro p e s m args below meth c H locs ls hx hb hml hr hlk hown hts hC hP hS hl
  refine lv_bipush hx hb hd hz ?_
  exact k p e s m args below meth c H locs ls hx hb hml hr hlk hown hts hC hP hS hl
theorem r_sipush {X : XC} {D : Nat} {M : MR} {K : KP} {pc : Nat} {lv : List (Nat × Value)} {st : List Value} {I : HD} {z : Int} (hz : (Int16.ofInt z).toInt32 = iI z) (hd : decode M.2.1 pc = .ok (.sipush z, 3)) (k : Rn X D M K (pc + 3) lv (iv z :: st) I) : Rn X D M K pc lv (st) I := by
  intro p e s m args below meth c H locs ls hx hb hml hr hlk hown hts hC hP hS hl
  refine lv_sipush hx hb hd hz ?_
  exact k p e s m args below meth c H locs ls hx hb hml hr hlk hown hts hC hP hS hl
theorem r_lconst {X : XC} {D : Nat} {M : MR} {K : KP} {pc : Nat} {lv : List (Nat × Value)} {st : List Value} {I : HD} {n : Fin 2} {z : Int} (hz : Int64.ofNat (n : Nat) = iL z) (hd : decode M.2.1 pc = .ok (.lconst n, 1)) (k : Rn X D M K (pc + 1) lv (jv z :: st) I) : Rn X D M K pc lv (st) I := by
  intro p e s m args below meth c H locs ls hx hb hml hr hlk hown hts hC hP hS hl
  refine lv_lconst hx hb hd hz ?_
  exact k p e s m args below meth c H locs ls hx hb hml hr hlk hown hts hC hP hS hl
theorem r_ldc {X : XC} {D : Nat} {M : MR} {K : KP} {pc : Nat} {lv : List (Nat × Value)} {st : List Value} {I : HD} {i : Nat} {z : Int} (hk : Cond.constant M.1.cls i (iI z) ∈ lw_good) (hd : decode M.2.1 pc = .ok (.ldc i, 2)) (k : Rn X D M K (pc + 2) lv (iv z :: st) I) : Rn X D M K pc lv (st) I := by
  intro p e s m args below meth c H locs ls hx hb hml hr hlk hown hts hC hP hS hl
  refine lv_ldc hx hb hown (hts _ (List.mem_cons_of_mem _ hk)) hd ?_
  exact k p e s m args below meth c H locs ls hx hb hml hr hlk hown hts hC hP hS hl
theorem r_ldcw {X : XC} {D : Nat} {M : MR} {K : KP} {pc : Nat} {lv : List (Nat × Value)} {st : List Value} {I : HD} {i : Nat} {z : Int} (hk : Cond.constant M.1.cls i (iI z) ∈ lw_good) (hd : decode M.2.1 pc = .ok (.ldc_w i, 3)) (k : Rn X D M K (pc + 3) lv (iv z :: st) I) : Rn X D M K pc lv (st) I := by
  intro p e s m args below meth c H locs ls hx hb hml hr hlk hown hts hC hP hS hl
  refine lv_ldcw hx hb hown (hts _ (List.mem_cons_of_mem _ hk)) hd ?_
  exact k p e s m args below meth c H locs ls hx hb hml hr hlk hown hts hC hP hS hl
theorem r_ldc2 {X : XC} {D : Nat} {M : MR} {K : KP} {pc : Nat} {lv : List (Nat × Value)} {st : List Value} {I : HD} {i : Nat} {z : Int} (hk : Cond.constantLong M.1.cls i (iL z) ∈ lw_good) (hd : decode M.2.1 pc = .ok (.ldc2_w i, 3)) (k : Rn X D M K (pc + 3) lv (jv z :: st) I) : Rn X D M K pc lv (st) I := by
  intro p e s m args below meth c H locs ls hx hb hml hr hlk hown hts hC hP hS hl
  refine lv_ldc2 hx hb hown (hts _ (List.mem_cons_of_mem _ hk)) hd ?_
  exact k p e s m args below meth c H locs ls hx hb hml hr hlk hown hts hC hP hS hl
theorem r_iload_n {X : XC} {D : Nat} {M : MR} {K : KP} {pc : Nat} {lv : List (Nat × Value)} {st : List Value} {I : HD} {a : Fin 4} {i : Nat} {z : Int} (q : Nat) (hi : (a : Nat) = i) (hq : lv[q]? = some (i, iv z)) (hd : decode M.2.1 pc = .ok (.iload_n a, 1)) (k : Rn X D M K (pc + 1) lv (iv z :: st) I) : Rn X D M K pc lv (st) I := by
  intro p e s m args below meth c H locs ls hx hb hml hr hlk hown hts hC hP hS hl
  refine lv_iload_n hx hb hd hi (lv_at hl q hq) ?_
  exact k p e s m args below meth c H locs ls hx hb hml hr hlk hown hts hC hP hS hl
theorem r_iload {X : XC} {D : Nat} {M : MR} {K : KP} {pc : Nat} {lv : List (Nat × Value)} {st : List Value} {I : HD} {i : Nat} {z : Int} (q : Nat) (hq : lv[q]? = some (i, iv z)) (hd : decode M.2.1 pc = .ok (.iload i, 2)) (k : Rn X D M K (pc + 2) lv (iv z :: st) I) : Rn X D M K pc lv (st) I := by
  intro p e s m args below meth c H locs ls hx hb hml hr hlk hown hts hC hP hS hl
  refine lv_iload hx hb hd (lv_at hl q hq) ?_
  exact k p e s m args below meth c H locs ls hx hb hml hr hlk hown hts hC hP hS hl
theorem r_lload_n {X : XC} {D : Nat} {M : MR} {K : KP} {pc : Nat} {lv : List (Nat × Value)} {st : List Value} {I : HD} {a : Fin 4} {i : Nat} {z : Int} (q : Nat) (hi : (a : Nat) = i) (hq : lv[q]? = some (i, jv z)) (hd : decode M.2.1 pc = .ok (.lload_n a, 1)) (k : Rn X D M K (pc + 1) lv (jv z :: st) I) : Rn X D M K pc lv (st) I := by
  intro p e s m args below meth c H locs ls hx hb hml hr hlk hown hts hC hP hS hl
  refine lv_lload_n hx hb hd hi (lv_at hl q hq) ?_
  exact k p e s m args below meth c H locs ls hx hb hml hr hlk hown hts hC hP hS hl
theorem r_lload {X : XC} {D : Nat} {M : MR} {K : KP} {pc : Nat} {lv : List (Nat × Value)} {st : List Value} {I : HD} {i : Nat} {z : Int} (q : Nat) (hq : lv[q]? = some (i, jv z)) (hd : decode M.2.1 pc = .ok (.lload i, 2)) (k : Rn X D M K (pc + 2) lv (jv z :: st) I) : Rn X D M K pc lv (st) I := by
  intro p e s m args below meth c H locs ls hx hb hml hr hlk hown hts hC hP hS hl
  refine lv_lload hx hb hd (lv_at hl q hq) ?_
  exact k p e s m args below meth c H locs ls hx hb hml hr hlk hown hts hC hP hS hl
theorem r_aload_n {X : XC} {D : Nat} {M : MR} {K : KP} {pc : Nat} {lv : List (Nat × Value)} {st : List Value} {I : HD} {a : Fin 4} {i : Nat} {x : Nat} (q : Nat) (hi : (a : Nat) = i) (hq : lv[q]? = some (i, .ref x)) (hd : decode M.2.1 pc = .ok (.aload_n a, 1)) (k : Rn X D M K (pc + 1) lv (.ref x :: st) I) : Rn X D M K pc lv (st) I := by
  intro p e s m args below meth c H locs ls hx hb hml hr hlk hown hts hC hP hS hl
  refine lv_aload_n hx hb hd hi (lv_at hl q hq) ?_
  exact k p e s m args below meth c H locs ls hx hb hml hr hlk hown hts hC hP hS hl
theorem r_aload {X : XC} {D : Nat} {M : MR} {K : KP} {pc : Nat} {lv : List (Nat × Value)} {st : List Value} {I : HD} {i : Nat} {x : Nat} (q : Nat) (hq : lv[q]? = some (i, .ref x)) (hd : decode M.2.1 pc = .ok (.aload i, 2)) (k : Rn X D M K (pc + 2) lv (.ref x :: st) I) : Rn X D M K pc lv (st) I := by
  intro p e s m args below meth c H locs ls hx hb hml hr hlk hown hts hC hP hS hl
  refine lv_aload hx hb hd (lv_at hl q hq) ?_
  exact k p e s m args below meth c H locs ls hx hb hml hr hlk hown hts hC hP hS hl
theorem r_istore_n {X : XC} {D : Nat} {M : MR} {K : KP} {pc : Nat} {lv : List (Nat × Value)} {st : List Value} {I : HD} {z : Int} {a : Fin 4} {i : Nat} (ha : (a : Nat) = i) (lv2 : List (Nat × Value)) (hi : i < M.2.2.1) (hl2 : (i, iv z) :: lv.filter (fun q => !(q.1 == i) && !(q.1 + 1 == i && q.2.category == 2)) = lv2) (hd : decode M.2.1 pc = .ok (.istore_n a, 1)) (k : Rn X D M K (pc + 1) lv2 st I) : Rn X D M K pc lv (iv z :: st) I := by
  intro p e s m args below meth c H locs ls hx hb hml hr hlk hown hts hC hP hS hl
  refine lv_istore_n hx hb hd ha hl hi hl2 (fun ls2 h2 => ?_)
  exact k p e s m args below meth c H locs ls2 hx hb hml hr hlk hown hts hC hP hS h2
theorem r_istore {X : XC} {D : Nat} {M : MR} {K : KP} {pc : Nat} {lv : List (Nat × Value)} {st : List Value} {I : HD} {z : Int} {i : Nat} (lv2 : List (Nat × Value)) (hi : i < M.2.2.1) (hl2 : (i, iv z) :: lv.filter (fun q => !(q.1 == i) && !(q.1 + 1 == i && q.2.category == 2)) = lv2) (hd : decode M.2.1 pc = .ok (.istore i, 2)) (k : Rn X D M K (pc + 2) lv2 st I) : Rn X D M K pc lv (iv z :: st) I := by
  intro p e s m args below meth c H locs ls hx hb hml hr hlk hown hts hC hP hS hl
  refine lv_istore hx hb hd hl hi hl2 (fun ls2 h2 => ?_)
  exact k p e s m args below meth c H locs ls2 hx hb hml hr hlk hown hts hC hP hS h2
theorem r_lstore_n {X : XC} {D : Nat} {M : MR} {K : KP} {pc : Nat} {lv : List (Nat × Value)} {st : List Value} {I : HD} {z : Int} {a : Fin 4} {i : Nat} (ha : (a : Nat) = i) (lv2 : List (Nat × Value)) (hi : i + 1 < M.2.2.1) (hl2 : (i, jv z) :: lv.filter (fun q => !(q.1 == i) && (!(q.1 == i + 1) && !(q.1 + 1 == i && q.2.category == 2))) = lv2) (hd : decode M.2.1 pc = .ok (.lstore_n a, 1)) (k : Rn X D M K (pc + 1) lv2 st I) : Rn X D M K pc lv (jv z :: st) I := by
  intro p e s m args below meth c H locs ls hx hb hml hr hlk hown hts hC hP hS hl
  refine lv_lstore_n hx hb hd ha hl hi hl2 (fun ls2 h2 => ?_)
  exact k p e s m args below meth c H locs ls2 hx hb hml hr hlk hown hts hC hP hS h2
theorem r_lstore {X : XC} {D : Nat} {M : MR} {K : KP} {pc : Nat} {lv : List (Nat × Value)} {st : List Value} {I : HD} {z : Int} {i : Nat} (lv2 : List (Nat × Value)) (hi : i + 1 < M.2.2.1) (hl2 : (i, jv z) :: lv.filter (fun q => !(q.1 == i) && (!(q.1 == i + 1) && !(q.1 + 1 == i && q.2.category == 2))) = lv2) (hd : decode M.2.1 pc = .ok (.lstore i, 2)) (k : Rn X D M K (pc + 2) lv2 st I) : Rn X D M K pc lv (jv z :: st) I := by
  intro p e s m args below meth c H locs ls hx hb hml hr hlk hown hts hC hP hS hl
  refine lv_lstore hx hb hd hl hi hl2 (fun ls2 h2 => ?_)
  exact k p e s m args below meth c H locs ls2 hx hb hml hr hlk hown hts hC hP hS h2
theorem r_astore_n {X : XC} {D : Nat} {M : MR} {K : KP} {pc : Nat} {lv : List (Nat × Value)} {st : List Value} {I : HD} {x : Nat} {a : Fin 4} {i : Nat} (ha : (a : Nat) = i) (lv2 : List (Nat × Value)) (hi : i < M.2.2.1) (hl2 : (i, .ref x) :: lv.filter (fun q => !(q.1 == i) && !(q.1 + 1 == i && q.2.category == 2)) = lv2) (hd : decode M.2.1 pc = .ok (.astore_n a, 1)) (k : Rn X D M K (pc + 1) lv2 st I) : Rn X D M K pc lv (.ref x :: st) I := by
  intro p e s m args below meth c H locs ls hx hb hml hr hlk hown hts hC hP hS hl
  refine lv_astore_n hx hb hd ha hl hi hl2 (fun ls2 h2 => ?_)
  exact k p e s m args below meth c H locs ls2 hx hb hml hr hlk hown hts hC hP hS h2
theorem r_astore {X : XC} {D : Nat} {M : MR} {K : KP} {pc : Nat} {lv : List (Nat × Value)} {st : List Value} {I : HD} {x : Nat} {i : Nat} (lv2 : List (Nat × Value)) (hi : i < M.2.2.1) (hl2 : (i, .ref x) :: lv.filter (fun q => !(q.1 == i) && !(q.1 + 1 == i && q.2.category == 2)) = lv2) (hd : decode M.2.1 pc = .ok (.astore i, 2)) (k : Rn X D M K (pc + 2) lv2 st I) : Rn X D M K pc lv (.ref x :: st) I := by
  intro p e s m args below meth c H locs ls hx hb hml hr hlk hown hts hC hP hS hl
  refine lv_astore hx hb hd hl hi hl2 (fun ls2 h2 => ?_)
  exact k p e s m args below meth c H locs ls2 hx hb hml hr hlk hown hts hC hP hS h2
theorem r_iinc {X : XC} {D : Nat} {M : MR} {K : KP} {pc : Nat} {lv : List (Nat × Value)} {st : List Value} {I : HD} {z n : Int} {i : Nat} (q : Nat) (lv2 : List (Nat × Value)) (hq : lv[q]? = some (i, iv z)) (hi : i < M.2.2.1) (hl2 : (i, iv (z + n)) :: lv.filter (fun q => !(q.1 == i) && !(q.1 + 1 == i && q.2.category == 2)) = lv2) (hd : decode M.2.1 pc = .ok (.iinc i n, 3)) (k : Rn X D M K (pc + 3) lv2 st I) : Rn X D M K pc lv st I := by
  intro p e s m args below meth c H locs ls hx hb hml hr hlk hown hts hC hP hS hl
  refine lv_iinc (v := iI (z + n)) hx hb hd hl hq (Int32.ofInt_add z n).symm hi hl2 (fun ls2 h2 => ?_)
  exact k p e s m args below meth c H locs ls2 hx hb hml hr hlk hown hts hC hP hS h2
theorem r_iadd {X : XC} {D : Nat} {M : MR} {K : KP} {pc : Nat} {lv : List (Nat × Value)} {st : List Value} {I : HD} {a b : Int} (hd : decode M.2.1 pc = .ok (.iadd, 1)) (k : Rn X D M K (pc + 1) lv (iv (a + b) :: st) I) : Rn X D M K pc lv (iv b :: iv a :: st) I := by
  intro p e s m args below meth c H locs ls hx hb hml hr hlk hown hts hC hP hS hl
  refine lv_iadd hx hb hd ?_
  rw [show iI a + iI b = iI (a + b) from (Int32.ofInt_add a b).symm]
  exact k p e s m args below meth c H locs ls hx hb hml hr hlk hown hts hC hP hS hl
theorem r_isub {X : XC} {D : Nat} {M : MR} {K : KP} {pc : Nat} {lv : List (Nat × Value)} {st : List Value} {I : HD} {a b : Int} (hd : decode M.2.1 pc = .ok (.isub, 1)) (k : Rn X D M K (pc + 1) lv (iv (a - b) :: st) I) : Rn X D M K pc lv (iv b :: iv a :: st) I := by
  intro p e s m args below meth c H locs ls hx hb hml hr hlk hown hts hC hP hS hl
  refine lv_isub hx hb hd ?_
  rw [show iI a - iI b = iI (a - b) from (Int32.ofInt_sub a b).symm]
  exact k p e s m args below meth c H locs ls hx hb hml hr hlk hown hts hC hP hS hl
theorem r_imul {X : XC} {D : Nat} {M : MR} {K : KP} {pc : Nat} {lv : List (Nat × Value)} {st : List Value} {I : HD} {a b : Int} (hd : decode M.2.1 pc = .ok (.imul, 1)) (k : Rn X D M K (pc + 1) lv (iv (a * b) :: st) I) : Rn X D M K pc lv (iv b :: iv a :: st) I := by
  intro p e s m args below meth c H locs ls hx hb hml hr hlk hown hts hC hP hS hl
  refine lv_imul hx hb hd ?_
  rw [show iI a * iI b = iI (a * b) from (Int32.ofInt_mul a b).symm]
  exact k p e s m args below meth c H locs ls hx hb hml hr hlk hown hts hC hP hS hl
theorem r_iand {X : XC} {D : Nat} {M : MR} {K : KP} {pc : Nat} {lv : List (Nat × Value)} {st : List Value} {I : HD} {a b z : Int} (hz : iI a &&& iI b = iI z) (hd : decode M.2.1 pc = .ok (.iand, 1)) (k : Rn X D M K (pc + 1) lv (iv z :: st) I) : Rn X D M K pc lv (iv b :: iv a :: st) I := by
  intro p e s m args below meth c H locs ls hx hb hml hr hlk hown hts hC hP hS hl
  refine lv_iand hx hb hd ?_
  rw [hz]
  exact k p e s m args below meth c H locs ls hx hb hml hr hlk hown hts hC hP hS hl
theorem r_ior {X : XC} {D : Nat} {M : MR} {K : KP} {pc : Nat} {lv : List (Nat × Value)} {st : List Value} {I : HD} {a b z : Int} (hz : iI a ||| iI b = iI z) (hd : decode M.2.1 pc = .ok (.ior, 1)) (k : Rn X D M K (pc + 1) lv (iv z :: st) I) : Rn X D M K pc lv (iv b :: iv a :: st) I := by
  intro p e s m args below meth c H locs ls hx hb hml hr hlk hown hts hC hP hS hl
  refine lv_ior hx hb hd ?_
  rw [hz]
  exact k p e s m args below meth c H locs ls hx hb hml hr hlk hown hts hC hP hS hl
theorem r_ixor {X : XC} {D : Nat} {M : MR} {K : KP} {pc : Nat} {lv : List (Nat × Value)} {st : List Value} {I : HD} {a b z : Int} (hz : iI a ^^^ iI b = iI z) (hd : decode M.2.1 pc = .ok (.ixor, 1)) (k : Rn X D M K (pc + 1) lv (iv z :: st) I) : Rn X D M K pc lv (iv b :: iv a :: st) I := by
  intro p e s m args below meth c H locs ls hx hb hml hr hlk hown hts hC hP hS hl
  refine lv_ixor hx hb hd ?_
  rw [hz]
  exact k p e s m args below meth c H locs ls hx hb hml hr hlk hown hts hC hP hS hl
theorem r_ishl {X : XC} {D : Nat} {M : MR} {K : KP} {pc : Nat} {lv : List (Nat × Value)} {st : List Value} {I : HD} {a b z : Int} (hz : iI a <<< (iI b &&& 31) = iI z) (hd : decode M.2.1 pc = .ok (.ishl, 1)) (k : Rn X D M K (pc + 1) lv (iv z :: st) I) : Rn X D M K pc lv (iv b :: iv a :: st) I := by
  intro p e s m args below meth c H locs ls hx hb hml hr hlk hown hts hC hP hS hl
  refine lv_ishl hx hb hd ?_
  rw [hz]
  exact k p e s m args below meth c H locs ls hx hb hml hr hlk hown hts hC hP hS hl
theorem r_ishr {X : XC} {D : Nat} {M : MR} {K : KP} {pc : Nat} {lv : List (Nat × Value)} {st : List Value} {I : HD} {a b z : Int} (hz : iI a >>> (iI b &&& 31) = iI z) (hd : decode M.2.1 pc = .ok (.ishr, 1)) (k : Rn X D M K (pc + 1) lv (iv z :: st) I) : Rn X D M K pc lv (iv b :: iv a :: st) I := by
  intro p e s m args below meth c H locs ls hx hb hml hr hlk hown hts hC hP hS hl
  refine lv_ishr hx hb hd ?_
  rw [hz]
  exact k p e s m args below meth c H locs ls hx hb hml hr hlk hown hts hC hP hS hl
theorem r_irem {X : XC} {D : Nat} {M : MR} {K : KP} {pc : Nat} {lv : List (Nat × Value)} {st : List Value} {I : HD} {a b z : Int} (hne : ¬ iI b = 0) (hz : iI a - iI a / iI b * iI b = iI z) (hd : decode M.2.1 pc = .ok (.irem, 1)) (k : Rn X D M K (pc + 1) lv (iv z :: st) I) : Rn X D M K pc lv (iv b :: iv a :: st) I := by
  intro p e s m args below meth c H locs ls hx hb hml hr hlk hown hts hC hP hS hl
  refine lv_irem hx hb hd hne ?_
  rw [hz]
  exact k p e s m args below meth c H locs ls hx hb hml hr hlk hown hts hC hP hS hl
theorem r_ineg {X : XC} {D : Nat} {M : MR} {K : KP} {pc : Nat} {lv : List (Nat × Value)} {st : List Value} {I : HD} {a : Int} (hd : decode M.2.1 pc = .ok (.ineg, 1)) (k : Rn X D M K (pc + 1) lv (iv (-a) :: st) I) : Rn X D M K pc lv (iv a :: st) I := by
  intro p e s m args below meth c H locs ls hx hb hml hr hlk hown hts hC hP hS hl
  refine lv_ineg hx hb hd ?_
  rw [show -iI a = iI (-a) from (Int32.ofInt_neg a).symm]
  exact k p e s m args below meth c H locs ls hx hb hml hr hlk hown hts hC hP hS hl
theorem r_ladd {X : XC} {D : Nat} {M : MR} {K : KP} {pc : Nat} {lv : List (Nat × Value)} {st : List Value} {I : HD} {a b : Int} (hd : decode M.2.1 pc = .ok (.ladd, 1)) (k : Rn X D M K (pc + 1) lv (jv (a + b) :: st) I) : Rn X D M K pc lv (jv b :: jv a :: st) I := by
  intro p e s m args below meth c H locs ls hx hb hml hr hlk hown hts hC hP hS hl
  refine lv_ladd hx hb hd ?_
  rw [show iL a + iL b = iL (a + b) from (Int64.ofInt_add a b).symm]
  exact k p e s m args below meth c H locs ls hx hb hml hr hlk hown hts hC hP hS hl
theorem r_lsub {X : XC} {D : Nat} {M : MR} {K : KP} {pc : Nat} {lv : List (Nat × Value)} {st : List Value} {I : HD} {a b : Int} (hd : decode M.2.1 pc = .ok (.lsub, 1)) (k : Rn X D M K (pc + 1) lv (jv (a - b) :: st) I) : Rn X D M K pc lv (jv b :: jv a :: st) I := by
  intro p e s m args below meth c H locs ls hx hb hml hr hlk hown hts hC hP hS hl
  refine lv_lsub hx hb hd ?_
  rw [show iL a - iL b = iL (a - b) from (Int64.ofInt_sub a b).symm]
  exact k p e s m args below meth c H locs ls hx hb hml hr hlk hown hts hC hP hS hl
theorem r_lmul {X : XC} {D : Nat} {M : MR} {K : KP} {pc : Nat} {lv : List (Nat × Value)} {st : List Value} {I : HD} {a b : Int} (hd : decode M.2.1 pc = .ok (.lmul, 1)) (k : Rn X D M K (pc + 1) lv (jv (a * b) :: st) I) : Rn X D M K pc lv (jv b :: jv a :: st) I := by
  intro p e s m args below meth c H locs ls hx hb hml hr hlk hown hts hC hP hS hl
  refine lv_lmul hx hb hd ?_
  rw [show iL a * iL b = iL (a * b) from (Int64.ofInt_mul a b).symm]
  exact k p e s m args below meth c H locs ls hx hb hml hr hlk hown hts hC hP hS hl
theorem r_ldiv {X : XC} {D : Nat} {M : MR} {K : KP} {pc : Nat} {lv : List (Nat × Value)} {st : List Value} {I : HD} {a b z : Int} (hne : ¬ iL b = 0) (hz : iL a / iL b = iL z) (hd : decode M.2.1 pc = .ok (.ldiv, 1)) (k : Rn X D M K (pc + 1) lv (jv z :: st) I) : Rn X D M K pc lv (jv b :: jv a :: st) I := by
  intro p e s m args below meth c H locs ls hx hb hml hr hlk hown hts hC hP hS hl
  refine lv_ldiv hx hb hd hne ?_
  rw [hz]
  exact k p e s m args below meth c H locs ls hx hb hml hr hlk hown hts hC hP hS hl
theorem r_lrem {X : XC} {D : Nat} {M : MR} {K : KP} {pc : Nat} {lv : List (Nat × Value)} {st : List Value} {I : HD} {a b z : Int} (hne : ¬ iL b = 0) (hz : iL a - iL a / iL b * iL b = iL z) (hd : decode M.2.1 pc = .ok (.lrem, 1)) (k : Rn X D M K (pc + 1) lv (jv z :: st) I) : Rn X D M K pc lv (jv b :: jv a :: st) I := by
  intro p e s m args below meth c H locs ls hx hb hml hr hlk hown hts hC hP hS hl
  refine lv_lrem hx hb hd hne ?_
  rw [hz]
  exact k p e s m args below meth c H locs ls hx hb hml hr hlk hown hts hC hP hS hl
theorem r_land {X : XC} {D : Nat} {M : MR} {K : KP} {pc : Nat} {lv : List (Nat × Value)} {st : List Value} {I : HD} {a b z : Int} (hz : iL a &&& iL b = iL z) (hd : decode M.2.1 pc = .ok (.land, 1)) (k : Rn X D M K (pc + 1) lv (jv z :: st) I) : Rn X D M K pc lv (jv b :: jv a :: st) I := by
  intro p e s m args below meth c H locs ls hx hb hml hr hlk hown hts hC hP hS hl
  refine lv_land hx hb hd ?_
  rw [hz]
  exact k p e s m args below meth c H locs ls hx hb hml hr hlk hown hts hC hP hS hl
theorem r_lor {X : XC} {D : Nat} {M : MR} {K : KP} {pc : Nat} {lv : List (Nat × Value)} {st : List Value} {I : HD} {a b z : Int} (hz : iL a ||| iL b = iL z) (hd : decode M.2.1 pc = .ok (.lor, 1)) (k : Rn X D M K (pc + 1) lv (jv z :: st) I) : Rn X D M K pc lv (jv b :: jv a :: st) I := by
  intro p e s m args below meth c H locs ls hx hb hml hr hlk hown hts hC hP hS hl
  refine lv_lor hx hb hd ?_
  rw [hz]
  exact k p e s m args below meth c H locs ls hx hb hml hr hlk hown hts hC hP hS hl
theorem r_lshr {X : XC} {D : Nat} {M : MR} {K : KP} {pc : Nat} {lv : List (Nat × Value)} {st : List Value} {I : HD} {a b z : Int} (hz : iL a >>> ((iI b).toInt64 &&& 63) = iL z) (hd : decode M.2.1 pc = .ok (.lshr, 1)) (k : Rn X D M K (pc + 1) lv (jv z :: st) I) : Rn X D M K pc lv (iv b :: jv a :: st) I := by
  intro p e s m args below meth c H locs ls hx hb hml hr hlk hown hts hC hP hS hl
  refine lv_lshr hx hb hd hz ?_
  exact k p e s m args below meth c H locs ls hx hb hml hr hlk hown hts hC hP hS hl
theorem r_lshl {X : XC} {D : Nat} {M : MR} {K : KP} {pc : Nat} {lv : List (Nat × Value)} {st : List Value} {I : HD} {a b z : Int} (hz : iL a <<< ((iI b).toInt64 &&& 63) = iL z) (hd : decode M.2.1 pc = .ok (.lshl, 1)) (k : Rn X D M K (pc + 1) lv (jv z :: st) I) : Rn X D M K pc lv (iv b :: jv a :: st) I := by
  intro p e s m args below meth c H locs ls hx hb hml hr hlk hown hts hC hP hS hl
  refine lv_lshl hx hb hd hz ?_
  exact k p e s m args below meth c H locs ls hx hb hml hr hlk hown hts hC hP hS hl
theorem r_i2l {X : XC} {D : Nat} {M : MR} {K : KP} {pc : Nat} {lv : List (Nat × Value)} {st : List Value} {I : HD} {a : Int} (ha : rg a) (hd : decode M.2.1 pc = .ok (.i2l, 1)) (k : Rn X D M K (pc + 1) lv (jv a :: st) I) : Rn X D M K pc lv (iv a :: st) I := by
  intro p e s m args below meth c H locs ls hx hb hml hr hlk hown hts hC hP hS hl
  refine lv_i2l (v := iL a) hx hb hd (by rw [← Int64.toInt_inj, Int32.toInt_toInt64, rg_of ha, rl_of (rl_rg ha)]) ?_
  exact k p e s m args below meth c H locs ls hx hb hml hr hlk hown hts hC hP hS hl
theorem r_l2i {X : XC} {D : Nat} {M : MR} {K : KP} {pc : Nat} {lv : List (Nat × Value)} {st : List Value} {I : HD} {a : Int} (hd : decode M.2.1 pc = .ok (.l2i, 1)) (k : Rn X D M K (pc + 1) lv (iv a :: st) I) : Rn X D M K pc lv (jv a :: st) I := by
  intro p e s m args below meth c H locs ls hx hb hml hr hlk hown hts hC hP hS hl
  refine lv_l2i (v := iI a) hx hb hd Int64.toInt32_ofInt ?_
  exact k p e s m args below meth c H locs ls hx hb hml hr hlk hown hts hC hP hS hl
theorem r_i2b {X : XC} {D : Nat} {M : MR} {K : KP} {pc : Nat} {lv : List (Nat × Value)} {st : List Value} {I : HD} {a z : Int} (hz : (iI a).toInt8.toInt32 = iI z) (hd : decode M.2.1 pc = .ok (.i2b, 1)) (k : Rn X D M K (pc + 1) lv (iv z :: st) I) : Rn X D M K pc lv (iv a :: st) I := by
  intro p e s m args below meth c H locs ls hx hb hml hr hlk hown hts hC hP hS hl
  refine lv_i2b hx hb hd hz ?_
  exact k p e s m args below meth c H locs ls hx hb hml hr hlk hown hts hC hP hS hl
theorem r_i2s {X : XC} {D : Nat} {M : MR} {K : KP} {pc : Nat} {lv : List (Nat × Value)} {st : List Value} {I : HD} {a z : Int} (hz : (iI a).toInt16.toInt32 = iI z) (hd : decode M.2.1 pc = .ok (.i2s, 1)) (k : Rn X D M K (pc + 1) lv (iv z :: st) I) : Rn X D M K pc lv (iv a :: st) I := by
  intro p e s m args below meth c H locs ls hx hb hml hr hlk hown hts hC hP hS hl
  refine lv_i2s hx hb hd hz ?_
  exact k p e s m args below meth c H locs ls hx hb hml hr hlk hown hts hC hP hS hl
theorem r_dup {X : XC} {D : Nat} {M : MR} {K : KP} {pc : Nat} {lv : List (Nat × Value)} {st : List Value} {I : HD} {v : Value} (hv : v.category = 1) (hd : decode M.2.1 pc = .ok (.dup, 1)) (k : Rn X D M K (pc + 1) lv (v :: v :: st) I) : Rn X D M K pc lv (v :: st) I := by
  intro p e s m args below meth c H locs ls hx hb hml hr hlk hown hts hC hP hS hl
  refine lv_dup hx hb hd hv ?_
  exact k p e s m args below meth c H locs ls hx hb hml hr hlk hown hts hC hP hS hl
theorem r_pop {X : XC} {D : Nat} {M : MR} {K : KP} {pc : Nat} {lv : List (Nat × Value)} {st : List Value} {I : HD} {v : Value} (hv : v.category = 1) (hd : decode M.2.1 pc = .ok (.pop, 1)) (k : Rn X D M K (pc + 1) lv (st) I) : Rn X D M K pc lv (v :: st) I := by
  intro p e s m args below meth c H locs ls hx hb hml hr hlk hown hts hC hP hS hl
  refine lv_pop hx hb hd hv ?_
  exact k p e s m args below meth c H locs ls hx hb hml hr hlk hown hts hC hP hS hl
theorem r_dup2 {X : XC} {D : Nat} {M : MR} {K : KP} {pc : Nat} {lv : List (Nat × Value)} {st : List Value} {I : HD} {v w : Value} (hv : v.category = 1) (hw : w.category = 1) (hd : decode M.2.1 pc = .ok (.dup2, 1)) (k : Rn X D M K (pc + 1) lv (v :: w :: v :: w :: st) I) : Rn X D M K pc lv (v :: w :: st) I := by
  intro p e s m args below meth c H locs ls hx hb hml hr hlk hown hts hC hP hS hl
  refine lv_dup2_11 hx hb hd hv hw ?_
  exact k p e s m args below meth c H locs ls hx hb hml hr hlk hown hts hC hP hS hl
theorem r_lcmp {X : XC} {D : Nat} {M : MR} {K : KP} {pc : Nat} {lv : List (Nat × Value)} {st : List Value} {I : HD} {a b : Int} (hd : decode M.2.1 pc = .ok (.lcmp, 1)) (k : Rn X D M K (pc + 1) lv (.int (lg_cmp (iL a) (iL b)) :: st) I) : Rn X D M K pc lv (jv b :: jv a :: st) I := by
  intro p e s m args below meth c H locs ls hx hb hml hr hlk hown hts hC hP hS hl
  refine W.lcmp hx hb hd ?_
  exact k p e s m args below meth c H locs ls hx hb hml hr hlk hown hts hC hP hS hl
theorem r_icmp_eq {X : XC} {D : Nat} {M : MR} {K : KP} {pc : Nat} {lv : List (Nat × Value)} {st : List Value} {I : HD} {a b off : Int} (tgt : Nat) (ha : rg a) (hb0 : rg b) (hd : decode M.2.1 pc = .ok (.if_icmp .eq off, 3)) (ht : (pc : Int) + off = (tgt : Int)) (kt : a = b → Rn X D M K tgt lv st I) (kf : ¬ a = b → Rn X D M K (pc + 3) lv st I) : Rn X D M K pc lv (iv b :: iv a :: st) I := by
  intro p e s m args below meth c H locs ls hx hb hml hr hlk hown hts hC hP hS hl
  have e9 := rg_eq ha hb0
  exact lv_icmp_eq hx hb hd ht (fun h => kt (e9.mp h) p e s m args below meth c H locs ls hx hb hml hr hlk hown hts hC hP hS hl) (fun h => kf (fun q => h (e9.mpr q)) p e s m args below meth c H locs ls hx hb hml hr hlk hown hts hC hP hS hl)
theorem r_icmp_ne {X : XC} {D : Nat} {M : MR} {K : KP} {pc : Nat} {lv : List (Nat × Value)} {st : List Value} {I : HD} {a b off : Int} (tgt : Nat) (ha : rg a) (hb0 : rg b) (hd : decode M.2.1 pc = .ok (.if_icmp .ne off, 3)) (ht : (pc : Int) + off = (tgt : Int)) (kt : ¬ a = b → Rn X D M K tgt lv st I) (kf : a = b → Rn X D M K (pc + 3) lv st I) : Rn X D M K pc lv (iv b :: iv a :: st) I := by
  intro p e s m args below meth c H locs ls hx hb hml hr hlk hown hts hC hP hS hl
  have e9 := rg_eq ha hb0
  exact lv_icmp_ne hx hb hd ht (fun h => kt (fun q => h (e9.mpr q)) p e s m args below meth c H locs ls hx hb hml hr hlk hown hts hC hP hS hl) (fun h => kf (e9.mp h) p e s m args below meth c H locs ls hx hb hml hr hlk hown hts hC hP hS hl)
theorem r_icmp_lt {X : XC} {D : Nat} {M : MR} {K : KP} {pc : Nat} {lv : List (Nat × Value)} {st : List Value} {I : HD} {a b off : Int} (tgt : Nat) (ha : rg a) (hb0 : rg b) (hd : decode M.2.1 pc = .ok (.if_icmp .lt off, 3)) (ht : (pc : Int) + off = (tgt : Int)) (kt : a < b → Rn X D M K tgt lv st I) (kf : b ≤ a → Rn X D M K (pc + 3) lv st I) : Rn X D M K pc lv (iv b :: iv a :: st) I := by
  intro p e s m args below meth c H locs ls hx hb hml hr hlk hown hts hC hP hS hl
  have e9 := rg_lt ha hb0
  exact lv_icmp_lt hx hb hd ht (fun h => kt (e9.mp h) p e s m args below meth c H locs ls hx hb hml hr hlk hown hts hC hP hS hl) (fun h => kf (by have q : ¬ (a < b) := fun z => h (e9.mpr z); omega) p e s m args below meth c H locs ls hx hb hml hr hlk hown hts hC hP hS hl)
theorem r_icmp_ge {X : XC} {D : Nat} {M : MR} {K : KP} {pc : Nat} {lv : List (Nat × Value)} {st : List Value} {I : HD} {a b off : Int} (tgt : Nat) (ha : rg a) (hb0 : rg b) (hd : decode M.2.1 pc = .ok (.if_icmp .ge off, 3)) (ht : (pc : Int) + off = (tgt : Int)) (kt : b ≤ a → Rn X D M K tgt lv st I) (kf : a < b → Rn X D M K (pc + 3) lv st I) : Rn X D M K pc lv (iv b :: iv a :: st) I := by
  intro p e s m args below meth c H locs ls hx hb hml hr hlk hown hts hC hP hS hl
  have e9 := rg_le hb0 ha
  exact lv_icmp_ge hx hb hd ht (fun h => kt (e9.mp h) p e s m args below meth c H locs ls hx hb hml hr hlk hown hts hC hP hS hl) (fun h => kf (by have q : ¬ (b ≤ a) := fun z => h (e9.mpr z); omega) p e s m args below meth c H locs ls hx hb hml hr hlk hown hts hC hP hS hl)
theorem r_icmp_gt {X : XC} {D : Nat} {M : MR} {K : KP} {pc : Nat} {lv : List (Nat × Value)} {st : List Value} {I : HD} {a b off : Int} (tgt : Nat) (ha : rg a) (hb0 : rg b) (hd : decode M.2.1 pc = .ok (.if_icmp .gt off, 3)) (ht : (pc : Int) + off = (tgt : Int)) (kt : b < a → Rn X D M K tgt lv st I) (kf : a ≤ b → Rn X D M K (pc + 3) lv st I) : Rn X D M K pc lv (iv b :: iv a :: st) I := by
  intro p e s m args below meth c H locs ls hx hb hml hr hlk hown hts hC hP hS hl
  have e9 := rg_lt hb0 ha
  exact lv_icmp_gt hx hb hd ht (fun h => kt (e9.mp h) p e s m args below meth c H locs ls hx hb hml hr hlk hown hts hC hP hS hl) (fun h => kf (by have q : ¬ (b < a) := fun z => h (e9.mpr z); omega) p e s m args below meth c H locs ls hx hb hml hr hlk hown hts hC hP hS hl)
theorem r_icmp_le {X : XC} {D : Nat} {M : MR} {K : KP} {pc : Nat} {lv : List (Nat × Value)} {st : List Value} {I : HD} {a b off : Int} (tgt : Nat) (ha : rg a) (hb0 : rg b) (hd : decode M.2.1 pc = .ok (.if_icmp .le off, 3)) (ht : (pc : Int) + off = (tgt : Int)) (kt : a ≤ b → Rn X D M K tgt lv st I) (kf : b < a → Rn X D M K (pc + 3) lv st I) : Rn X D M K pc lv (iv b :: iv a :: st) I := by
  intro p e s m args below meth c H locs ls hx hb hml hr hlk hown hts hC hP hS hl
  have e9 := rg_le ha hb0
  exact lv_icmp_le hx hb hd ht (fun h => kt (e9.mp h) p e s m args below meth c H locs ls hx hb hml hr hlk hown hts hC hP hS hl) (fun h => kf (by have q : ¬ (a ≤ b) := fun z => h (e9.mpr z); omega) p e s m args below meth c H locs ls hx hb hml hr hlk hown hts hC hP hS hl)
theorem r_if_eq {X : XC} {D : Nat} {M : MR} {K : KP} {pc : Nat} {lv : List (Nat × Value)} {st : List Value} {I : HD} {a off : Int} (tgt : Nat) (ha : rg a) (hd : decode M.2.1 pc = .ok (.ifCond .eq off, 3)) (ht : (pc : Int) + off = (tgt : Int)) (kt : a = 0 → Rn X D M K tgt lv st I) (kf : ¬ a = 0 → Rn X D M K (pc + 3) lv st I) : Rn X D M K pc lv (iv a :: st) I := by
  intro p e s m args below meth c H locs ls hx hb hml hr hlk hown hts hC hP hS hl
  have e9 := rg_eq ha rg_0
  exact lv_if_eq hx hb hd ht (fun h => kt (e9.mp h) p e s m args below meth c H locs ls hx hb hml hr hlk hown hts hC hP hS hl) (fun h => kf (fun q => h (e9.mpr q)) p e s m args below meth c H locs ls hx hb hml hr hlk hown hts hC hP hS hl)
theorem r_if_ne {X : XC} {D : Nat} {M : MR} {K : KP} {pc : Nat} {lv : List (Nat × Value)} {st : List Value} {I : HD} {a off : Int} (tgt : Nat) (ha : rg a) (hd : decode M.2.1 pc = .ok (.ifCond .ne off, 3)) (ht : (pc : Int) + off = (tgt : Int)) (kt : ¬ a = 0 → Rn X D M K tgt lv st I) (kf : a = 0 → Rn X D M K (pc + 3) lv st I) : Rn X D M K pc lv (iv a :: st) I := by
  intro p e s m args below meth c H locs ls hx hb hml hr hlk hown hts hC hP hS hl
  have e9 := rg_eq ha rg_0
  exact lv_if_ne hx hb hd ht (fun h => kt (fun q => h (e9.mpr q)) p e s m args below meth c H locs ls hx hb hml hr hlk hown hts hC hP hS hl) (fun h => kf (e9.mp h) p e s m args below meth c H locs ls hx hb hml hr hlk hown hts hC hP hS hl)
theorem r_if_lt {X : XC} {D : Nat} {M : MR} {K : KP} {pc : Nat} {lv : List (Nat × Value)} {st : List Value} {I : HD} {a off : Int} (tgt : Nat) (ha : rg a) (hd : decode M.2.1 pc = .ok (.ifCond .lt off, 3)) (ht : (pc : Int) + off = (tgt : Int)) (kt : a < 0 → Rn X D M K tgt lv st I) (kf : 0 ≤ a → Rn X D M K (pc + 3) lv st I) : Rn X D M K pc lv (iv a :: st) I := by
  intro p e s m args below meth c H locs ls hx hb hml hr hlk hown hts hC hP hS hl
  have e9 := rg_lt ha rg_0
  exact lv_if_lt hx hb hd ht (fun h => kt (e9.mp h) p e s m args below meth c H locs ls hx hb hml hr hlk hown hts hC hP hS hl) (fun h => kf (by have q : ¬ (a < 0) := fun z => h (e9.mpr z); omega) p e s m args below meth c H locs ls hx hb hml hr hlk hown hts hC hP hS hl)
theorem r_if_ge {X : XC} {D : Nat} {M : MR} {K : KP} {pc : Nat} {lv : List (Nat × Value)} {st : List Value} {I : HD} {a off : Int} (tgt : Nat) (ha : rg a) (hd : decode M.2.1 pc = .ok (.ifCond .ge off, 3)) (ht : (pc : Int) + off = (tgt : Int)) (kt : 0 ≤ a → Rn X D M K tgt lv st I) (kf : a < 0 → Rn X D M K (pc + 3) lv st I) : Rn X D M K pc lv (iv a :: st) I := by
  intro p e s m args below meth c H locs ls hx hb hml hr hlk hown hts hC hP hS hl
  have e9 := rg_le rg_0 ha
  exact lv_if_ge hx hb hd ht (fun h => kt (e9.mp h) p e s m args below meth c H locs ls hx hb hml hr hlk hown hts hC hP hS hl) (fun h => kf (by have q : ¬ (0 ≤ a) := fun z => h (e9.mpr z); omega) p e s m args below meth c H locs ls hx hb hml hr hlk hown hts hC hP hS hl)
theorem r_if_gt {X : XC} {D : Nat} {M : MR} {K : KP} {pc : Nat} {lv : List (Nat × Value)} {st : List Value} {I : HD} {a off : Int} (tgt : Nat) (ha : rg a) (hd : decode M.2.1 pc = .ok (.ifCond .gt off, 3)) (ht : (pc : Int) + off = (tgt : Int)) (kt : 0 < a → Rn X D M K tgt lv st I) (kf : a ≤ 0 → Rn X D M K (pc + 3) lv st I) : Rn X D M K pc lv (iv a :: st) I := by
  intro p e s m args below meth c H locs ls hx hb hml hr hlk hown hts hC hP hS hl
  have e9 := rg_lt rg_0 ha
  exact lv_if_gt hx hb hd ht (fun h => kt (e9.mp h) p e s m args below meth c H locs ls hx hb hml hr hlk hown hts hC hP hS hl) (fun h => kf (by have q : ¬ (0 < a) := fun z => h (e9.mpr z); omega) p e s m args below meth c H locs ls hx hb hml hr hlk hown hts hC hP hS hl)
theorem r_if_le {X : XC} {D : Nat} {M : MR} {K : KP} {pc : Nat} {lv : List (Nat × Value)} {st : List Value} {I : HD} {a off : Int} (tgt : Nat) (ha : rg a) (hd : decode M.2.1 pc = .ok (.ifCond .le off, 3)) (ht : (pc : Int) + off = (tgt : Int)) (kt : a ≤ 0 → Rn X D M K tgt lv st I) (kf : 0 < a → Rn X D M K (pc + 3) lv st I) : Rn X D M K pc lv (iv a :: st) I := by
  intro p e s m args below meth c H locs ls hx hb hml hr hlk hown hts hC hP hS hl
  have e9 := rg_le ha rg_0
  exact lv_if_le hx hb hd ht (fun h => kt (e9.mp h) p e s m args below meth c H locs ls hx hb hml hr hlk hown hts hC hP hS hl) (fun h => kf (by have q : ¬ (a ≤ 0) := fun z => h (e9.mpr z); omega) p e s m args below meth c H locs ls hx hb hml hr hlk hown hts hC hP hS hl)
theorem r_goto {X : XC} {D : Nat} {M : MR} {K : KP} {pc : Nat} {lv : List (Nat × Value)} {st : List Value} {I : HD} {off : Int} (tgt : Nat) (hd : decode M.2.1 pc = .ok (.goto off, 3)) (ht : (pc : Int) + off = (tgt : Int)) (k : Rn X D M K tgt lv st I) : Rn X D M K pc lv st I := by
  intro p e s m args below meth c H locs ls hx hb hml hr hlk hown hts hC hP hS hl
  exact lv_goto hx hb hd ht (k p e s m args below meth c H locs ls hx hb hml hr hlk hown hts hC hP hS hl)
theorem r_lv {X : XC} {D : Nat} {M : MR} {K : KP} {pc : Nat} {lv : List (Nat × Value)} {st : List Value} {I : HD} (ks : List Nat) (lv2 : List (Nat × Value)) (h2 : lv_pick lv ks = lv2) (k : Rn X D M K pc lv2 st I) : Rn X D M K pc lv st I := by
  intro p e s m args below meth c H locs ls hx hb hml hr hlk hown hts hC hP hS hl
  exact k p e s m args below meth c H locs ls hx hb hml hr hlk hown hts hC hP hS (lv_sub hl ks h2)
