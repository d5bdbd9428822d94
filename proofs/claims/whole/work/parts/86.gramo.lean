/-! ===== the reference's office ===== -/
def fO (I J : HD) : Prop := (∀ a, a ≠ 30 → a ≠ 35 → J a = I a) ∧ (∀ j, j ≠ 0 → j ≠ 11 → (j < 13 ∨ 19 < j) → J 30 j = I 30 j) ∧ J 30 11 = 0
theorem fO.w {I J K : HD} (h : fO I J) (g : fMW J K) : fO I K := ⟨fun a x y => (g.1 a x y).trans (h.1 a x y), fun j x y z => (g.2 j (by omega)).trans (h.2.1 j x y z), (g.2 11 (by omega)).trans h.2.2⟩
theorem pA2_w {c : Int → Int} {L : Int} {s : Ps} (h : s.2.2 = 0 ∧ isW c L 1 s.1) : pDs c L (5 : Int).toNat s = pA2 c L s := ((if_pos h.1).trans (if_pos h.2)).symm
theorem pA2_b {c : Int → Int} {L : Int} {s : Ps} (h : ¬ (s.2.2 = 0 ∧ isW c L 1 s.1)) (n : Nat) : pDs c L n (pBad 1 s) = pA2 c L s := by
  by_cases q : s.2.2 = 0
  · rw [pBad_t q, pDs_f (fun z => absurd (show (1 : Int) = 0 from z.1) (by decide))]
    exact ((if_pos q).trans (if_neg (fun z => h ⟨q, z⟩))).symm
  · rw [pBad_x q, pDs_f (fun z => q z.1), pA2_x q]
theorem pA1_of {c : Int → Int} {L : Int} (h : (pA2 c L (pA1 c L)).2.2 = 0) : (pA1 c L).2.2 = 0 := Classical.byContradiction fun q => by
  rw [pA2_x q] at h
  exact q h
theorem zr_s {g h : Int → Int} {k : Int} (hz : ∀ x, 0 ≤ x → x < k → g x = h x) {x : Int} (a : 0 ≤ x) (b : x < k + 1) : (if x = k then h k else g x) = h x := by
  by_cases e : x = k
  · rw [if_pos e, e]
  · rw [if_neg e]; exact hz x a (by omega)
theorem sh_n12 {c : Int → Int} {L : Int} {t : Ps} (h : t.2.2 = 0) (e : (pSheet c L t).2.2 = 0) : ¬ t.2.1 1 = 12 := fun q => by
  have := pSheet_12 (c := c) (L := L) (f := t.1) q
  rw [ps_eta h] at this
  rw [this] at e
  exact absurd (show (3 : Int) = 0 from e) (by decide)
