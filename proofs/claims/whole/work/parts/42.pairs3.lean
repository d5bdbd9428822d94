/-! ===== as, side by side ===== -/
theorem RC.sts {I : HD} (hI : RC I I) : RC (up (up (up I 0 9 0) 30 0 0) 30 1 0) (up (up (up I 0 9 0) 30 0 0) 30 1 0) := by
  have r : ∀ a, a ≠ 30 → a ≠ 0 → up (up (up I 0 9 0) 30 0 0) 30 1 0 a = I a := fun a x y => by rw [up_row x, up_row x, up_row y]
  refine hI.rw (hI.2.2.2.1.cg (r 31 (by decide) (by decide)) (r 32 (by decide) (by decide)) (r 33 (by decide) (by decide)) (fun a x y => r a (by omega) (by omega))) (fun a x y _ _ _ => r a y (by omega)) (fun j x y => ?_) ?_ ?_ ?_
  · rw [up_i y, up_i x, up_row (by decide)]
  · rw [up_row (by decide), up_row (by decide), up_i (by decide)]
  · rw [up_row (by decide), up_row (by decide), up_s, up_s]
  · rw [up_s]; exact rg_0
theorem pr_as {X : XC} {p w : Int} (hp : rg p) (hw : rg w) : Pair X mX8_as mX9_as [iv p, iv w] := by
  intro I hI
  have k8 := kX8_as X hI.1.2.1 hI.1.1 hp hw
  have k9 := fun (J : HD) (e : J 34 = I 34) => kX9_as X (I := J) (O := I 34) e hI.1.1 hp hw
  by_cases h1 : 0 ≤ p ∧ p < I 34 1 ∧ 0 ≤ w ∧ w < 6
  · by_cases h2 : oneOf (I 34 (63 + 4 * p)) w
    · refine ⟨p, 3, 3, by decide, by decide, k8.mono fun q J h => ?_⟩
      obtain ⟨rfl, rfl⟩ := h.2.2 h1 h2
      refine ⟨rfl, (k9 _ (up_row (by decide))).mono fun q J h => ?_⟩
      obtain ⟨rfl, rfl⟩ := h.2.2 h1 h2
      exact ⟨rfl, hI.sts⟩
    · refine ⟨-1000013, 3, 3, by decide, by decide, k8.mono fun q J h => ?_⟩
      obtain ⟨rfl, rfl⟩ := h.2.1 h1 h2
      refine ⟨rfl, (k9 _ (up_row (by decide))).mono fun q J h => ?_⟩
      obtain ⟨rfl, rfl⟩ := h.2.1 h1 h2
      exact ⟨rfl, hI.fnd (by unfold rg; omega)⟩
  · refine ⟨-1000001, 3, 3, by decide, by decide, k8.mono fun q J h => ?_⟩
    obtain ⟨rfl, rfl⟩ := h.1 h1
    refine ⟨rfl, (k9 _ rfl).mono fun q J h => ?_⟩
    obtain ⟨rfl, rfl⟩ := h.1 h1
    exact ⟨rfl, hI.thr2⟩
