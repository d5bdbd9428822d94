/-! ===== rows, side by side ===== -/
theorem RC.rw {I J : HD} (hI : RC I I) (hE : RE J J) (hf : ∀ a, 18 ≤ a → a ≠ 30 → a ≠ 31 → a ≠ 32 → a ≠ 33 → J a = I a) (h30 : ∀ j, j ≠ 0 → j ≠ 1 → J 30 j = I 30 j) (h0 : J 0 8 = I 0 8) (h9 : J 0 9 = J 30 1) (hs : rg (J 30 1)) : RC J J := by
  obtain ⟨hA, hB, c, d, e5, f, g, n⟩ := hI
  have r : ∀ a, 18 ≤ a → a ≠ 30 → (a < 31 ∨ 33 < a) → J a = I a := fun a x y z => hf a x y (by omega) (by omega) (by omega)
  refine ⟨hA.cg (r 34 (by omega) (by omega) (by omega)) (h30 7 (by decide) (by decide)) (fun a x y => r a (by omega) (by omega) (by omega)), hB.cg (r 36 (by omega) (by omega) (by omega)) (h30 9 (by decide) (by decide)) (r 21 (by omega) (by omega) (by omega)) (fun a x y => r a (by omega) (by omega) (by omega)), c.cg (r 42 (by omega) (by omega) (by omega)) (r 43 (by omega) (by omega) (by omega)) (fun a x y => r a (by omega) (by omega) (by omega)), hE, e5.cg (r 37 (by omega) (by omega) (by omega)) (h30 11 (by decide) (by decide)) (r 19 (by omega) (by omega) (by omega)) (r 20 (by omega) (by omega) (by omega)), ⟨?_, ?_, h9, hs⟩, g.cg (r 44 (by omega) (by omega) (by omega)) (h30 27 (by decide) (by decide)) (r 28 (by omega) (by omega) (by omega)) (r 29 (by omega) (by omega) (by omega)), ?_⟩
  · rw [h0, h30 12 (by decide) (by decide)]; exact f.1
  · rw [h30 12 (by decide) (by decide)]; exact f.2.1
  · unfold RN; rw [h30 9 (by decide) (by decide), r 34 (by omega) (by omega) (by omega), r 42 (by omega) (by omega) (by omega)]; exact n
/-- a finding of both -/
theorem RC.fnd {I : HD} (hI : RC I I) {k : Int} (hk : rg k) : RC (up (up (up (up I 0 9 k) 30 0 0) 30 1 0) 30 1 k) (up (up (up (up I 0 9 k) 30 0 0) 30 1 0) 30 1 k) := by
  have r : ∀ a, a ≠ 30 → a ≠ 0 → up (up (up (up I 0 9 k) 30 0 0) 30 1 0) 30 1 k a = I a := fun a x y => by rw [up_row x, up_row x, up_row x, up_row y]
  refine hI.rw (hI.2.2.2.1.cg (r 31 (by decide) (by decide)) (r 32 (by decide) (by decide)) (r 33 (by decide) (by decide)) (fun a x y => r a (by omega) (by omega))) (fun a x y _ _ _ => r a y (by omega)) (fun j x y => ?_) ?_ ?_ ?_
  · rw [up_i y, up_i y, up_i x, up_row (by decide)]
  · rw [up_row (by decide), up_row (by decide), up_row (by decide), up_i (by decide)]
  · rw [up_row (by decide), up_row (by decide), up_row (by decide), up_s, up_s]
  · rw [up_s]; exact hk
theorem pr_row {X : XC} {r l n : Int} (hr : rg r) (hl : rg l) (hn : rg n) : Pair X mX8_row mX9_row [iv r, iv l, iv n] := by
  intro I hI
  have k8 := kX8_row X (I := I) hr hl hn
  have k9 := fun J : HD => kX9_row X (I := J) hr hl hn
  by_cases h1 : 0 ≤ r ∧ r < 8 ∧ 0 ≤ l ∧ l < 3 ∧ n ≤ 40
  · by_cases h2 : n < 0
    · refine ⟨-1000014, 3, 3, by decide, by decide, k8.mono fun q J h => ?_⟩
      obtain ⟨rfl, rfl⟩ := h.2.1 h1 h2
      refine ⟨rfl, (k9 _).mono fun q J h => ?_⟩
      obtain ⟨rfl, rfl⟩ := h.2.1 h1 h2
      exact ⟨rfl, hI.fnd (by unfold rg; omega)⟩
    · refine ⟨n, 3, 3, by decide, by decide, k8.mono fun q J h => ?_⟩
      obtain ⟨rfl, eJ⟩ := h.2.2 h1 (by omega)
      refine ⟨rfl, (k9 J).mono fun q J2 h => ?_⟩
      obtain ⟨rfl, e⟩ := h.2.2 h1 (by omega)
      refine ⟨rfl, ?_⟩
      have o1 : rH r.toNat = 2 + r.toNat := rfl
      have o2 : iH r.toNat = 10 + r.toNat := rfl
      have rJ : ∀ a, a ≠ 0 → a ≠ rH r.toNat → a ≠ iH r.toNat → J a = I a := fun a x y z => by rw [eJ, up_row x, upA_h z, up_row y, up_row y]
      have r2 : ∀ a, a ≠ 30 → a ≠ 31 → a ≠ 32 → a ≠ 33 → J2 a = J a := fun a x y z w => by rw [e, upA_h w, up_row z, up_row y, up_row x, up_row x]
      have e31 : ∀ i, J2 31 i = if i = r then l else I 31 i := fun i => by
        rw [e, upA_h (by decide), up_row (by decide)]
        by_cases q : i = r
        · rw [q, up_s, if_pos rfl]
        · rw [up_i q, up_row (by decide), up_row (by decide), rJ 31 (by decide) (by omega) (by omega), if_neg q]
      have e32 : ∀ i, J2 32 i = if i = r then n else I 32 i := fun i => by
        rw [e, upA_h (by decide)]
        by_cases q : i = r
        · rw [q, up_s, if_pos rfl]
        · rw [up_i q, up_row (by decide), up_row (by decide), up_row (by decide), rJ 32 (by decide) (by omega) (by omega), if_neg q]
      have e33 : J2 33 = zro (I 33) (40 * r) 40 := by rw [e, upA_s, rJ 33 (by decide) (by omega) (by omega)]
      refine hI.rw (fun i x y => ?_) (fun a x _ y z w => ?_) (fun j x y => ?_) ?_ ?_ ?_
      · have p1 : rH i.toNat = 2 + i.toNat := rfl
        have p2 : iH i.toNat = 10 + i.toNat := rfl
        rw [e31, e32, e33, r2 (rH i.toNat) (by omega) (by omega) (by omega) (by omega), r2 (iH i.toNat) (by omega) (by omega) (by omega) (by omega)]
        by_cases q : i = r
        · subst q
          have f1 : J (rH i.toNat) 1 = l := by rw [eJ, up_row (by omega), upA_h (by omega), up_i (by decide), up_s]
          have f2 : J (rH i.toNat) 2 = n := by rw [eJ, up_row (by omega), upA_h (by omega), up_s]
          have f3 : ∀ k, 0 ≤ k → k < 40 → J (iH i.toNat) k = 0 := fun k a b => by
            rw [eJ, up_row (by omega), upA_s]
            unfold zro
            rw [if_pos (by omega)]
          rw [if_pos rfl, if_pos rfl, f1, f2]
          refine ⟨rfl, by omega, by omega, by unfold rg; omega, fun _ => ⟨rfl, by omega, by omega, fun k a b => ?_⟩⟩
          rw [f3 k a (by omega), show zro (I 33) (40 * i) 40 (40 * i + k) = 0 by unfold zro; rw [if_pos (by omega)]]
          exact ⟨rfl, rg_0⟩
        · rw [if_neg q, if_neg q, rJ _ (by omega) (by omega) (by omega), rJ (iH i.toNat) (by omega) (by omega) (by omega)]
          obtain ⟨g1, g2, g3, g4, g5⟩ := hI.2.2.2.1 i x y
          refine ⟨g1, g2, g3, g4, fun z => ?_⟩
          obtain ⟨g6, g7, g8, g9⟩ := g5 z
          refine ⟨g6, g7, g8, fun k a b => ?_⟩
          rw [show zro (I 33) (40 * r) 40 (40 * i + k) = I 33 (40 * i + k) by unfold zro; rw [if_neg (by omega)]]
          exact g9 k a b
      · rw [r2 a (by omega) y z w, rJ a (by omega) (by omega) (by omega)]
      · rw [e, upA_h (by decide), up_row (by decide), up_row (by decide), up_i y, up_i x, rJ 30 (by decide) (by omega) (by omega)]
      · rw [r2 0 (by decide) (by decide) (by decide) (by decide), eJ, up_i (by decide), upA_h (by omega), up_row (by omega), up_row (by omega)]
      · rw [r2 0 (by decide) (by decide) (by decide) (by decide), eJ, up_s, e, upA_h (by decide), up_row (by decide), up_row (by decide), up_s]
      · rw [e, upA_h (by decide), up_row (by decide), up_row (by decide), up_s]; exact rg_0
  · refine ⟨-1000001, 3, 3, by decide, by decide, k8.mono fun q J h => ?_⟩
    obtain ⟨rfl, rfl⟩ := h.1 h1
    refine ⟨rfl, (k9 _).mono fun q J h => ?_⟩
    obtain ⟨rfl, rfl⟩ := h.1 h1
    exact ⟨rfl, hI.thr2⟩
theorem pr_drop {X : XC} {r : Int} (hr : rg r) : Pair X mX8_drop mX9_drop [iv r] := by
  intro I hI
  have hE := hI.2.2.2.1
  have k8 := kX8_drop X hE hr
  have k9 := fun (J : HD) (e : RE J J) => kX9_drop X (I := J) e hr
  by_cases h1 : 0 ≤ r ∧ r < 8
  · by_cases h2 : I 31 r < 0
    · refine ⟨-1000011, 3, 3, by decide, by decide, k8.mono fun q J h => ?_⟩
      obtain ⟨rfl, rfl⟩ := h.2.1 h1 h2
      have hE2 : RE (up I 0 9 1) (up I 0 9 1) := hE.cg (up_row (by decide)) (up_row (by decide)) (up_row (by decide)) (fun a x y => up_row (by omega))
      refine ⟨rfl, (k9 _ hE2).mono fun q J h => ?_⟩
      obtain ⟨rfl, rfl⟩ := h.2.1 h1 (by rw [up_row (by decide)]; exact h2)
      exact ⟨rfl, hI.fnd (by unfold rg; omega)⟩
    · refine ⟨I 32 r, 3, 3, by decide, by decide, k8.mono fun q J h => ?_⟩
      obtain ⟨rfl, eJ⟩ := h.2.2 h1 (by omega)
      have o1 : rH r.toNat = 2 + r.toNat := rfl
      have rJ : ∀ a, a ≠ 0 → a ≠ rH r.toNat → J a = I a := fun a x y => by rw [eJ, up_row x, up_row y, up_row y]
      have k9' := (kX9_drop_raw X (I := J) (S := I) (rJ 31 (by decide) (by omega)) (rJ 32 (by decide) (by omega)) hE hr)
      refine ⟨rfl, k9'.mono fun q J2 h => ?_⟩
      obtain ⟨rfl, e⟩ := h.2.2 h1 (by omega)
      refine ⟨rfl, ?_⟩
      have r2 : ∀ a, a ≠ 30 → a ≠ 31 → J2 a = J a := fun a x y => by rw [e, up_row y, up_row x, up_row x]
      have e31 : ∀ i, J2 31 i = if i = r then -1 else I 31 i := fun i => by
        rw [e]
        by_cases q : i = r
        · rw [q, up_s, if_pos rfl]
        · rw [up_i q, up_row (by decide), up_row (by decide), rJ 31 (by decide) (by omega), if_neg q]
      refine hI.rw (fun i x y => ?_) (fun a x _ y z w => ?_) (fun j x y => ?_) ?_ ?_ ?_
      · have p1 : rH i.toNat = 2 + i.toNat := rfl
        have p2 : iH i.toNat = 10 + i.toNat := rfl
        rw [e31, r2 32 (by decide) (by decide), r2 33 (by decide) (by decide), r2 (rH i.toNat) (by omega) (by omega), r2 (iH i.toNat) (by omega) (by omega), rJ 32 (by decide) (by omega), rJ 33 (by decide) (by omega), rJ (iH i.toNat) (by omega) (by omega)]
        by_cases q : i = r
        · subst q
          have f1 : J (rH i.toNat) 1 = -1 := by rw [eJ, up_row (by omega), up_i (by decide), up_s]
          have f2 : J (rH i.toNat) 2 = 0 := by rw [eJ, up_row (by omega), up_s]
          rw [if_pos rfl, f1, f2]
          exact ⟨rfl, by omega, by omega, rg_0, fun z => by omega⟩
        · rw [if_neg q, rJ _ (by omega) (by omega)]
          exact hE i x y
      · rw [r2 a (by omega) y, rJ a (by omega) (by omega)]
      · rw [e, up_row (by decide), up_i y, up_i x, rJ 30 (by decide) (by omega)]
      · rw [r2 0 (by decide) (by decide), eJ, up_i (by decide), up_row (by omega), up_row (by omega)]
      · rw [r2 0 (by decide) (by decide), eJ, up_s, e, up_row (by decide), up_s]
      · rw [e, up_row (by decide), up_s]; exact rg_0
  · refine ⟨-1000001, 3, 3, by decide, by decide, k8.mono fun q J h => ?_⟩
    obtain ⟨rfl, rfl⟩ := h.1 h1
    refine ⟨rfl, (k9 _ hE).mono fun q J h => ?_⟩
    obtain ⟨rfl, rfl⟩ := h.1 h1
    exact ⟨rfl, hI.thr2⟩
