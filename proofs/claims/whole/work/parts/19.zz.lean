/-! ===== undone; images; missed ===== -/
def cp127 (F O : Int → Int) (m : Int) : Int → Int := fun k => if 0 ≤ k ∧ k < m then F k else O k
theorem cp127_0 {F O : Int → Int} : cp127 F O 0 = O := by
  funext k
  unfold cp127
  rw [if_neg (by omega)]
theorem cp127_s {I : HD} {h : Nat} {F O : Int → Int} {k z : Int} (hk : 0 ≤ k) (hz : z = F k) : up (upA I h (cp127 F O k)) h k z = upA I h (cp127 F O (k + 1)) := by
  rw [upA_u]
  congr 1
  funext i
  subst hz
  unfold cp127
  by_cases e : i = k
  · rw [if_pos e, if_pos (by omega), e]
  · rw [if_neg e]
    by_cases q : 0 ≤ i ∧ i < k
    · rw [if_pos q, if_pos (by omega)]
    · rw [if_neg q, if_neg (by omega)]
theorem cp127_k {F O : Int → Int} {k : Int} (h0 : 0 ≤ k) (h1 : k < 127) : cp127 F O 127 k = F k := if_pos ⟨h0, h1⟩
theorem upA_e {I : HD} {h : Nat} {f : Int → Int} (e : I h = f) : I = upA I h f := by subst e; exact upA_z
def narL (l v : Int) : Int := if l = 0 then ((iI v).toInt8.toInt32).toInt else if l = 1 then ((iI v).toInt16.toInt32).toInt else v
theorem narL_rg {l v : Int} (h : rg v) : rg (narL l v) := by
  unfold narL
  by_cases a : l = 0
  · rw [if_pos a]; exact rg_to _
  · rw [if_neg a]
    by_cases b : l = 1
    · rw [if_pos b]; exact rg_to _
    · rw [if_neg b]; exact h
def zro (W : Int → Int) (a m : Int) : Int → Int := fun i => if a ≤ i ∧ i < a + m then 0 else W i
theorem zro_0 {W : Int → Int} {a : Int} : zro W a 0 = W := by
  funext i
  unfold zro
  rw [if_neg (by omega)]
theorem zro_s {I : HD} {h : Nat} {W : Int → Int} {a k j : Int} (hk : 0 ≤ k) (hj : j = a + k) : up (upA I h (zro W a k)) h j 0 = upA I h (zro W a (k + 1)) := by
  rw [upA_u]
  congr 1
  funext i
  subst hj
  unfold zro
  by_cases e : i = a + k
  · rw [if_pos e, if_pos (by omega)]
  · rw [if_neg e]
    by_cases q : a ≤ i ∧ i < a + k
    · rw [if_pos q, if_pos (by omega)]
    · rw [if_neg q, if_neg (by omega)]
