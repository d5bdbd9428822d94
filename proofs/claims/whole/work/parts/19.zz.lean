/-! ===== undone; images; missed ===== -/
def cp127 (F O : Int → Int) (m : Int) : Int → Int := fun k => if 0 ≤ k ∧ k < m then F k else O k
theorem cp127_0 {F O : Int → Int} : cp127 F O 0 = O := by
  funext k
  unfold cp127
  rw [if_neg (by omega)]
theorem cp127_s {I : HD} {h : Nat} {F O : Int → Int} {k z : Int} (hk : 0 ≤ k) (hz : z = F k) : up (upA I h (cp127 F O k)) h k z = upA I h (cp127 F O (k + 1)) := by
  rw [upA_u]
  congr 1
  funext i
  subst hz
  unfold cp127
  by_cases e : i = k
  · rw [if_pos e, if_pos (by omega), e]
  · rw [if_neg e]
    by_cases q : 0 ≤ i ∧ i < k
    · rw [if_pos q, if_pos (by omega)]
    · rw [if_neg q, if_neg (by omega)]
theorem cp127_k {F O : Int → Int} {k : Int} (h0 : 0 ≤ k) (h1 : k < 127) : cp127 F O 127 k = F k := if_pos ⟨h0, h1⟩
theorem upA_e {I : HD} {h : Nat} {f : Int → Int} (e : I h = f) : I = upA I h f := by subst e; exact upA_z
def narL (l v : Int) : Int := if l = 0 then ((iI v).toInt8.toInt32).toInt else if l = 1 then ((iI v).toInt16.toInt32).toInt else v
theorem narL_rg {l v : Int} (h : rg v) : rg (narL l v) := by
  unfold narL
  by_cases a : l = 0
  · rw [if_pos a]; exact rg_to _
  · rw [if_neg a]
    by_cases b : l = 1
    · rw [if_pos b]; exact rg_to _
    · rw [if_neg b]; exact h
def zro (W : Int → Int) (a m : Int) : Int → Int := fun i => if a ≤ i ∧ i < a + m then 0 else W i
theorem zro_0 {W : Int → Int} {a : Int} : zro W a 0 = W := by
  funext i
  unfold zro
  rw [if_neg (by omega)]
theorem zro_s {I : HD} {h : Nat} {W : Int → Int} {a k j : Int} (hk : 0 ≤ k) (hj : j = a + k) : up (upA I h (zro W a k)) h j 0 = upA I h (zro W a (k + 1)) := by
  rw [upA_u]
  congr 1
  funext i
  subst hj
  unfold zro
  by_cases e : i = a + k
  · rw [if_pos e, if_pos (by omega)]
  · rw [if_neg e]
    by_cases q : a ≤ i ∧ i < a + k
    · rw [if_pos q, if_pos (by omega)]
    · rw [if_neg q, if_neg (by omega)]
/-! ===== the class's tables ===== -/
theorem r_gets {X : XC} {D : Nat} {M : MR} {K : KP} {pc : Nat} {lv : List (Nat × Value)} {st : List Value} {I : HD} {idx : Nat} (i : Nat) (hi : i < 3) (hk : Cond.fieldLink M.1.cls idx RX1 (roN i) "[I" ∈ lw_good) (hd : decode M.2.1 pc = .ok (.getstatic idx, 3)) (k : Rn X D M K (pc + 3) lv (.ref (X.2.2.2.2 i) :: st) I) : Rn X D M K pc lv st I := by
  intro p e s m args below meth c H locs ls hx hb hml hr hlk hown hts hC hP hS hl
  exact va_gets hx hb (hC.2.2.2.1 i hi).1 hS hown (hts _ (List.mem_cons_of_mem _ hk)) (fun _ h9 => h9) hd (k p e s m args below meth c H locs ls hx hb hml hr hlk hown hts hC hP hS hl)
theorem r_tald {X : XC} {D : Nat} {M : MR} {K : KP} {pc : Nat} {lv : List (Nat × Value)} {st : List Value} {I : HD} {j z : Int} (i : Nat) (hi : i < 3) (h0 : 0 ≤ j) (h1 : j < 6) (hz : roT i j.toNat = z) (hd : decode M.2.1 pc = .ok (.iaload, 1)) (k : Rn X D M K (pc + 1) lv (iv z :: st) I) : Rn X D M K pc lv (iv j :: .ref (X.2.2.2.2 i) :: st) I := by
  intro p e s m args below meth c H locs ls hx hb hml hr hlk hown hts hC hP hS hl
  exact va_ti hx hb (hC.2.2.2.1 i hi).2 hS (rg_in h0 h1 (by decide)) (by rw [rg_cl (by unfold rg; omega) h0, hz]) hd (k p e s m args below meth c H locs ls hx hb hml hr hlk hown hts hC hP hS hl)
theorem kg_0 : Cond.fieldLink RX1 21 RX1 (roN 0) "[I" ∈ lw_good := lw_gd (by decide +kernel) (by decide +kernel)
theorem kg_1 : Cond.fieldLink RX1 37 RX1 (roN 1) "[I" ∈ lw_good := lw_gd (by decide +kernel) (by decide +kernel)
theorem kg_2 : Cond.fieldLink RX1 40 RX1 (roN 2) "[I" ∈ lw_good := lw_gd (by decide +kernel) (by decide +kernel)
theorem roW {j z : Int} (h0 : 0 ≤ j) (h1 : j < 6) (hz : roT 0 j.toNat = z) : (j = 0 ∧ z = -1) ∨ (j = 1 ∧ z = 0) ∨ (j = 2 ∧ z = 1) ∨ (j = 3 ∧ z = 2) ∨ (j = 4 ∧ z = 1) ∨ (j = 5 ∧ z = 0) := by
  have : j = 0 ∨ j = 1 ∨ j = 2 ∨ j = 3 ∨ j = 4 ∨ j = 5 := by omega
  rcases this with rfl | rfl | rfl | rfl | rfl | rfl <;> subst hz <;> decide
/-- a kind that is another, too -/
def oneOf (k w : Int) : Prop := 0 ≤ k ∧ (w = 0 ∨ k = w ∨ (w = 1 ∧ 1 ≤ k ∧ k < 5) ∨ (w = 2 ∧ k = 3))
