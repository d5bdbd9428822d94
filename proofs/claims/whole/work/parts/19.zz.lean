/-! ===== undone; images; missed ===== -/
def cp127 (F O : Int → Int) (m : Int) : Int → Int := fun k => if 0 ≤ k ∧ k < m then F k else O k
theorem cp127_0 {F O : Int → Int} : cp127 F O 0 = O := by
  funext k
  unfold cp127
  rw [if_neg (by omega)]
theorem cp127_s {I : HD} {h : Nat} {F O : Int → Int} {k z : Int} (hk : 0 ≤ k) (hz : z = F k) : up (upA I h (cp127 F O k)) h k z = upA I h (cp127 F O (k + 1)) := by
  rw [upA_u]
  congr 1
  funext i
  subst hz
  unfold cp127
  by_cases e : i = k
  · rw [if_pos e, if_pos (by omega), e]
  · rw [if_neg e]
    by_cases q : 0 ≤ i ∧ i < k
    · rw [if_pos q, if_pos (by omega)]
    · rw [if_neg q, if_neg (by omega)]
theorem cp127_k {F O : Int → Int} {k : Int} (h0 : 0 ≤ k) (h1 : k < 127) : cp127 F O 127 k = F k := if_pos ⟨h0, h1⟩
theorem upA_e {I : HD} {h : Nat} {f : Int → Int} (e : I h = f) : I = upA I h f := by subst e; exact upA_z
