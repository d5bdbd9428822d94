/-! ===== offices changed, in numbers ===== -/
def cmO (O : OF) (d p : Int) : OF := fun k => if k = 24 + 10 * d + O (23 + 10 * d) then p else if k = 23 + 10 * d then O (23 + 10 * d) + 1 else O k
def lvO (O : OF) (d z : Int) : OF := fun k => if 24 + 10 * d + z ≤ k ∧ k < 24 + 10 * d + (O (23 + 10 * d) - 1) then O (k + 1) else if k = 23 + 10 * d then O (23 + 10 * d) - 1 else O k
def shF (g : Int → Int) (a b : Int) : Int → Int := fun q => if a ≤ q ∧ q < b then g (q + 1) else g q
theorem shF_0 {g : Int → Int} {a : Int} : shF g a a = g := by
  funext q
  unfold shF
  rw [if_neg (by omega)]
theorem shF_s {I : HD} {h : Nat} {a b c z : Int} (hab : a ≤ b) (hc : c = b + 1) (hz : z = I h (b + 1)) : up (upA I h (shF (I h) a b)) h b z = upA I h (shF (I h) a c) := by
  rw [upA_u]
  congr 1
  funext q
  unfold shF
  subst hc hz
  by_cases e : q = b
  · subst e
    rw [if_pos rfl, if_pos (by omega)]
  · rw [if_neg e]
    by_cases e2 : a ≤ q ∧ q < b
    · rw [if_pos e2, if_pos (by omega)]
    · rw [if_neg e2, if_neg (by omega)]
theorem upA_z {I : HD} {h : Nat} : I = upA I h (I h) := upA_id.symm
theorem RepC.come {O : OF} {I J : HD} {o : Nat} {d p : Int} (hV : Val O) (hR : RepC O I o) (h0 : 0 ≤ d) (h1 : d < O 0) (hr : O (23 + 10 * d) < O (15 + 2 * d)) (e : J = up (up I (oH o + 5) (d * 9 + O (23 + 10 * d)) p) (oH o + 4) d (O (23 + 10 * d) + 1)) : frO I J o ∧ RepC (cmO O d p) J o := by
  subst e
  have v := hV.a
  have vd := hV.d h0 h1
  have hk : ∀ k, (k < 23 ∨ 63 ≤ k) → cmO O d p k = O k := fun k q => by unfold cmO; rw [if_neg (by omega), if_neg (by omega)]
  have hk2 : ∀ d2, d2 ≠ d → 0 ≤ d2 → d2 < 4 → cmO O d p (23 + 10 * d2) = O (23 + 10 * d2) := fun d2 q a b => by unfold cmO; rw [if_neg (by omega), if_neg (by omega)]
  have hk3 : cmO O d p (23 + 10 * d) = O (23 + 10 * d) + 1 := by unfold cmO; rw [if_neg (by omega), if_pos rfl]
  have hrow : ∀ a, a ≠ oH o + 4 → a ≠ oH o + 5 → up (up I (oH o + 5) (d * 9 + O (23 + 10 * d)) p) (oH o + 4) d (O (23 + 10 * d) + 1) a = I a := fun a x y => by rw [up_row x, up_row y]
  refine ⟨fun a q => hrow a (by omega) (by omega), ⟨?_, ?_, ?_⟩, fun q a b => ?_, fun d2 a b => ?_, fun d2 k a b e f => ?_, fun p2 a b => ?_, ?_⟩
  · rw [hrow _ (by omega) (by omega), hk 0 (by omega)]; exact hR.f0
  · rw [hrow _ (by omega) (by omega), hk 1 (by omega)]; exact hR.f1
  · rw [hrow _ (by omega) (by omega), hk 2 (by omega)]; exact hR.f2
  · rw [hrow _ (by omega) (by omega), hk _ (by omega)]; exact hR.wind a b
  · rw [hk 0 (by omega)] at b
    rw [hrow _ (by omega) (by omega), hrow _ (by omega) (by omega), hk _ (by omega), hk _ (by omega)]
    refine ⟨hR.room a b, hR.ston a b, ?_⟩
    by_cases z : d2 = d
    · subst z
      rw [up_s, hk3]
    · rw [up_i z, up_row (by omega), hk2 d2 z a (by omega)]
      exact hR.hgt a b
  · rw [hk 0 (by omega)] at b
    have vd2 := hV.d a b
    rw [up_row (by omega)]
    by_cases z : d2 = d
    · subst z
      rw [hk3] at f
      by_cases y : k = O (23 + 10 * d2)
      · rw [y, up_s]; unfold cmO; rw [if_pos rfl]
      · rw [up_i (by omega)]
        unfold cmO
        rw [if_neg (by omega), if_neg (by omega)]
        exact hR.pile a b e (by omega)
    · rw [hk2 d2 z a (by omega)] at f
      rw [up_i (by omega)]
      unfold cmO
      rw [if_neg (by omega), if_neg (by omega)]
      exact hR.pile a b e f
  · rw [hk 1 (by omega)] at b
    rw [hrow _ (by omega) (by omega), hrow _ (by omega) (by omega), hrow _ (by omega) (by omega), hk _ (by omega), hk _ (by omega), hk _ (by omega)]
    exact ⟨hR.sort a b, hR.wrth a b, hR.need a b⟩
  · rw [hrow _ (by omega) (by omega), hR.met, hk 1 (by omega)]
    exact bs_c' fun p2 a b => by rw [hk (66 + 4 * p2) (by omega)]
theorem RepC.leave {O : OF} {I J : HD} {o : Nat} {d z : Int} (hV : Val O) (hR : RepC O I o) (h0 : 0 ≤ d) (h1 : d < O 0) (hz0 : 0 ≤ z) (hz1 : z < O (23 + 10 * d)) (e : J = up (upA I (oH o + 5) (shF (I (oH o + 5)) (d * 9 + z) (d * 9 + (O (23 + 10 * d) - 1)))) (oH o + 4) d (O (23 + 10 * d) - 1)) : frO I J o ∧ RepC (lvO O d z) J o := by
  subst e
  have v := hV.a
  have vd := hV.d h0 h1
  have hk : ∀ k, (k < 23 ∨ 63 ≤ k) → lvO O d z k = O k := fun k q => by unfold lvO; rw [if_neg (by omega), if_neg (by omega)]
  have hk2 : ∀ d2, d2 ≠ d → 0 ≤ d2 → d2 < 4 → lvO O d z (23 + 10 * d2) = O (23 + 10 * d2) := fun d2 q a b => by unfold lvO; rw [if_neg (by omega), if_neg (by omega)]
  have hk3 : lvO O d z (23 + 10 * d) = O (23 + 10 * d) - 1 := by unfold lvO; rw [if_neg (by omega), if_pos rfl]
  have hrow : ∀ a, a ≠ oH o + 4 → a ≠ oH o + 5 → up (upA I (oH o + 5) (shF (I (oH o + 5)) (d * 9 + z) (d * 9 + (O (23 + 10 * d) - 1)))) (oH o + 4) d (O (23 + 10 * d) - 1) a = I a := fun a x y => by rw [up_row x, upA_h y]
  refine ⟨fun a q => hrow a (by omega) (by omega), ⟨?_, ?_, ?_⟩, fun q a b => ?_, fun d2 a b => ?_, fun d2 k a b e f => ?_, fun p2 a b => ?_, ?_⟩
  · rw [hrow _ (by omega) (by omega), hk 0 (by omega)]; exact hR.f0
  · rw [hrow _ (by omega) (by omega), hk 1 (by omega)]; exact hR.f1
  · rw [hrow _ (by omega) (by omega), hk 2 (by omega)]; exact hR.f2
  · rw [hrow _ (by omega) (by omega), hk _ (by omega)]; exact hR.wind a b
  · rw [hk 0 (by omega)] at b
    rw [hrow _ (by omega) (by omega), hrow _ (by omega) (by omega), hk _ (by omega), hk _ (by omega)]
    refine ⟨hR.room a b, hR.ston a b, ?_⟩
    by_cases y : d2 = d
    · subst y
      rw [up_s, hk3]
    · rw [up_i y, upA_h (by omega), hk2 d2 y a (by omega)]
      exact hR.hgt a b
  · rw [hk 0 (by omega)] at b
    have vd2 := hV.d a b
    rw [up_row (by omega), upA_s]
    by_cases y : d2 = d
    · subst y
      rw [hk3] at f
      unfold shF lvO
      by_cases x : z ≤ k
      · rw [if_pos (by omega), if_pos (by omega)]
        have := hR.pile a b (k := k + 1) (by omega) (by omega)
        rw [show d2 * 9 + k + 1 = d2 * 9 + (k + 1) by omega, this]
        congr 1
        omega
      · rw [if_neg (by omega), if_neg (by omega), if_neg (by omega)]
        exact hR.pile a b e (by omega)
    · rw [hk2 d2 y a (by omega)] at f
      unfold shF lvO
      rw [if_neg (by omega), if_neg (by omega), if_neg (by omega)]
      exact hR.pile a b e f
  · rw [hk 1 (by omega)] at b
    rw [hrow _ (by omega) (by omega), hrow _ (by omega) (by omega), hrow _ (by omega) (by omega), hk _ (by omega), hk _ (by omega), hk _ (by omega)]
    exact ⟨hR.sort a b, hR.wrth a b, hR.need a b⟩
  · rw [hrow _ (by omega) (by omega), hR.met, hk 1 (by omega)]
    exact bs_c' fun p2 a b => by rw [hk (66 + 4 * p2) (by omega)]
theorem ab_r {O : OF} {p : Int} (h : 0 ≤ dk O p) : 0 ≤ ab O p ∧ ab O p < O (23 + 10 * dk O p) := by
  rcases ab_is O p with ⟨e, _⟩ | ⟨_, a, b, _⟩
  · omega
  · exact ⟨a, b⟩
