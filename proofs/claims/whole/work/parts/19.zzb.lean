/-! ===== a step of copying ===== -/
theorem cpy_st {w W : Int → Int} {d s lo k lo2 k2 t q : Int} (hw : ∀ q, w q = if d + lo ≤ q ∧ q < d + lo + k then W (q - d + s) else W q) (h : k2 = k + 1 ∧ 0 ≤ k ∧ ((lo2 = lo ∧ t = lo + k) ∨ (lo2 = lo - 1 ∧ t = lo2))) : (if q = d + t then W (s + t) else w q) = if d + lo2 ≤ q ∧ q < d + lo2 + k2 then W (q - d + s) else W q := by
  by_cases e : q = d + t
  · rw [if_pos e, if_pos (by omega)]
    congr 1
    omega
  · rw [if_neg e, hw]
    by_cases z : d + lo ≤ q ∧ q < d + lo + k
    · rw [if_pos z, if_pos (by omega)]
    · rw [if_neg z, if_neg (by omega)]
