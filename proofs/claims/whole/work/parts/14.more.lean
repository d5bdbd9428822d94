/-! ===== more rows: lcmp with its branch; a whole row of numbers replaced ===== -/
def upA (I : HD) (h : Nat) (f : Int → Int) : HD := fun a => if a = h then f else I a
theorem upA_s {I : HD} {h : Nat} {f : Int → Int} : upA I h f h = f := by simp [upA]
theorem upA_h {I : HD} {h a : Nat} {f : Int → Int} (n : a ≠ h) : upA I h f a = I a := by simp [upA, n]
theorem upA_u {I : HD} {h : Nat} {f : Int → Int} {i z : Int} : up (upA I h f) h i z = upA I h (fun b => if b = i then z else f b) := by
  funext a b
  unfold up upA
  by_cases q : a = h
  · subst q
    by_cases r : b = i
    · simp [r]
    · simp [r]
  · simp [q]
theorem upA_i {I : HD} {h : Nat} {i z : Int} : up I h i z = upA I h (fun b => if b = i then z else I h b) := by
  funext a b
  unfold up upA
  by_cases q : a = h
  · subst q
    by_cases r : b = i
    · simp [r]
    · simp [r]
  · simp [q]
theorem upA_A {I : HD} {h : Nat} {f g : Int → Int} : upA (upA I h f) h g = upA I h g := by
  funext a
  unfold upA
  by_cases q : a = h
  · simp [q]
  · simp [q]
theorem upA_id {I : HD} {h : Nat} : upA I h (I h) = I := by
  funext a
  unfold upA
  by_cases q : a = h
  · simp [q]
  · simp [q]
theorem up_row {I : HD} {h a : Nat} {i z : Int} (n : a ≠ h) : up I h i z a = I a := by
  funext b
  exact up_h n
theorem lgc {a b : Int} (ha : rl a) (hb : rl b) : lg_cmp (iL a) (iL b) = iI (if a < b then -1 else if a = b then 0 else 1) := by
  have e1 := rl_lt hb ha
  have e2 := rl_eq ha hb
  show (if iL b < iL a then (1 : Int32) else if iL a = iL b then 0 else -1) = _
  by_cases h : a < b
  · rw [if_neg (fun z => by have := e1.mp z; omega), if_neg (fun z => by have := e2.mp z; omega), if_pos h]; rfl
  · by_cases q : a = b
    · rw [if_neg (fun z => by have := e1.mp z; omega), if_pos (e2.mpr q), if_neg h, if_pos q]; rfl
    · rw [if_pos (e1.mpr (by omega)), if_neg h, if_neg q]; rfl
theorem r_lcif_eq {X : XC} {D : Nat} {M : MR} {K : KP} {pc : Nat} {lv : List (Nat × Value)} {st : List Value} {I : HD} {a b off : Int} (tgt : Nat) (ha : rl a) (hb0 : rl b) (hd : decode M.2.1 pc = .ok (.lcmp, 1)) (hd2 : decode M.2.1 (pc + 1) = .ok (.ifCond .eq off, 3)) (ht : ((pc + 1 : Nat) : Int) + off = (tgt : Int)) (kt : a = b → Rn X D M K tgt lv st I) (kf : ¬ a = b → Rn X D M K (pc + 4) lv st I) : Rn X D M K pc lv (jv b :: jv a :: st) I := by
  refine r_lcmp hd ?_
  rw [lgc ha hb0]
  refine r_if_eq tgt (by unfold rg; split <;> (try split) <;> omega) hd2 ht (fun h => kt ?_) (fun h => kf ?_)
  · revert h; split <;> (try split) <;> intro h <;> omega
  · revert h; split <;> (try split) <;> intro h <;> omega
theorem r_lcif_ne {X : XC} {D : Nat} {M : MR} {K : KP} {pc : Nat} {lv : List (Nat × Value)} {st : List Value} {I : HD} {a b off : Int} (tgt : Nat) (ha : rl a) (hb0 : rl b) (hd : decode M.2.1 pc = .ok (.lcmp, 1)) (hd2 : decode M.2.1 (pc + 1) = .ok (.ifCond .ne off, 3)) (ht : ((pc + 1 : Nat) : Int) + off = (tgt : Int)) (kt : ¬ a = b → Rn X D M K tgt lv st I) (kf : a = b → Rn X D M K (pc + 4) lv st I) : Rn X D M K pc lv (jv b :: jv a :: st) I := by
  refine r_lcmp hd ?_
  rw [lgc ha hb0]
  refine r_if_ne tgt (by unfold rg; split <;> (try split) <;> omega) hd2 ht (fun h => kt ?_) (fun h => kf ?_)
  · revert h; split <;> (try split) <;> intro h <;> omega
  · revert h; split <;> (try split) <;> intro h <;> omega
theorem r_lcif_lt {X : XC} {D : Nat} {M : MR} {K : KP} {pc : Nat} {lv : List (Nat × Value)} {st : List Value} {I : HD} {a b off : Int} (tgt : Nat) (ha : rl a) (hb0 : rl b) (hd : decode M.2.1 pc = .ok (.lcmp, 1)) (hd2 : decode M.2.1 (pc + 1) = .ok (.ifCond .lt off, 3)) (ht : ((pc + 1 : Nat) : Int) + off = (tgt : Int)) (kt : a < b → Rn X D M K tgt lv st I) (kf : b ≤ a → Rn X D M K (pc + 4) lv st I) : Rn X D M K pc lv (jv b :: jv a :: st) I := by
  refine r_lcmp hd ?_
  rw [lgc ha hb0]
  refine r_if_lt tgt (by unfold rg; split <;> (try split) <;> omega) hd2 ht (fun h => kt ?_) (fun h => kf ?_)
  · revert h; split <;> (try split) <;> intro h <;> omega
  · revert h; split <;> (try split) <;> intro h <;> omega
theorem r_lcif_ge {X : XC} {D : Nat} {M : MR} {K : KP} {pc : Nat} {lv : List (Nat × Value)} {st : List Value} {I : HD} {a b off : Int} (tgt : Nat) (ha : rl a) (hb0 : rl b) (hd : decode M.2.1 pc = .ok (.lcmp, 1)) (hd2 : decode M.2.1 (pc + 1) = .ok (.ifCond .ge off, 3)) (ht : ((pc + 1 : Nat) : Int) + off = (tgt : Int)) (kt : b ≤ a → Rn X D M K tgt lv st I) (kf : a < b → Rn X D M K (pc + 4) lv st I) : Rn X D M K pc lv (jv b :: jv a :: st) I := by
  refine r_lcmp hd ?_
  rw [lgc ha hb0]
  refine r_if_ge tgt (by unfold rg; split <;> (try split) <;> omega) hd2 ht (fun h => kt ?_) (fun h => kf ?_)
  · revert h; split <;> (try split) <;> intro h <;> omega
  · revert h; split <;> (try split) <;> intro h <;> omega
theorem r_lcif_gt {X : XC} {D : Nat} {M : MR} {K : KP} {pc : Nat} {lv : List (Nat × Value)} {st : List Value} {I : HD} {a b off : Int} (tgt : Nat) (ha : rl a) (hb0 : rl b) (hd : decode M.2.1 pc = .ok (.lcmp, 1)) (hd2 : decode M.2.1 (pc + 1) = .ok (.ifCond .gt off, 3)) (ht : ((pc + 1 : Nat) : Int) + off = (tgt : Int)) (kt : b < a → Rn X D M K tgt lv st I) (kf : a ≤ b → Rn X D M K (pc + 4) lv st I) : Rn X D M K pc lv (jv b :: jv a :: st) I := by
  refine r_lcmp hd ?_
  rw [lgc ha hb0]
  refine r_if_gt tgt (by unfold rg; split <;> (try split) <;> omega) hd2 ht (fun h => kt ?_) (fun h => kf ?_)
  · revert h; split <;> (try split) <;> intro h <;> omega
  · revert h; split <;> (try split) <;> intro h <;> omega
theorem r_lcif_le {X : XC} {D : Nat} {M : MR} {K : KP} {pc : Nat} {lv : List (Nat × Value)} {st : List Value} {I : HD} {a b off : Int} (tgt : Nat) (ha : rl a) (hb0 : rl b) (hd : decode M.2.1 pc = .ok (.lcmp, 1)) (hd2 : decode M.2.1 (pc + 1) = .ok (.ifCond .le off, 3)) (ht : ((pc + 1 : Nat) : Int) + off = (tgt : Int)) (kt : a ≤ b → Rn X D M K tgt lv st I) (kf : b < a → Rn X D M K (pc + 4) lv st I) : Rn X D M K pc lv (jv b :: jv a :: st) I := by
  refine r_lcmp hd ?_
  rw [lgc ha hb0]
  refine r_if_le tgt (by unfold rg; split <;> (try split) <;> omega) hd2 ht (fun h => kt ?_) (fun h => kf ?_)
  · revert h; split <;> (try split) <;> intro h <;> omega
  · revert h; split <;> (try split) <;> intro h <;> omega
