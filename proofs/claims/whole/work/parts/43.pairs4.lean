/-! ===== set, side by side ===== -/
theorem pr_set {X : XC} {r i v : Int} (hr : rg r) (hi : rg i) (hv : rg v) : Pair X mX8_set mX9_set [iv r, iv i, iv v] := by
  intro I hI
  have hE := hI.2.2.2.1
  have k8 := kX8_set X hE hr hi hv
  have k9 := fun (J : HD) (e31 : J 31 = I 31) (e32 : J 32 = I 32) => kX9_set X (I := J) (S := I) e31 e32 hE hr hi hv
  by_cases h1 : 0 ≤ r ∧ r < 8
  · by_cases h2 : I 31 r < 0
    · refine ⟨-1000011, 3, 3, by decide, by decide, k8.mono fun q J h => ?_⟩
      obtain ⟨rfl, rfl⟩ := h.2.1 h1 h2
      refine ⟨rfl, (k9 _ (up_row (by decide)) (up_row (by decide))).mono fun q J h => ?_⟩
      obtain ⟨rfl, rfl⟩ := h.2.1 h1 h2
      exact ⟨rfl, hI.fnd (by unfold rg; omega)⟩
    · have h2' : 0 ≤ I 31 r := by omega
      by_cases h3 : 0 ≤ i ∧ i < I 32 r
      · refine ⟨narL (I 31 r) v, 3, 3, by decide, by decide, k8.mono fun q J h => ?_⟩
        obtain ⟨rfl, eJ⟩ := h.2.2.2 h1 h2' h3
        have o1 : rH r.toNat = 2 + r.toNat := rfl
        have o2 : iH r.toNat = 10 + r.toNat := rfl
        have rJ : ∀ a, a ≠ 0 → a ≠ iH r.toNat → J a = I a := fun a x y => by rw [eJ, up_row x, up_row y]
        refine ⟨rfl, (k9 J (rJ 31 (by decide) (by omega)) (rJ 32 (by decide) (by omega))).mono fun q J2 h => ?_⟩
        obtain ⟨rfl, e⟩ := h.2.2.2 h1 h2' h3
        refine ⟨rfl, ?_⟩
        have r2 : ∀ a, a ≠ 30 → a ≠ 33 → J2 a = J a := fun a x y => by rw [e, up_row y, up_row x, up_row x]
        refine hI.rw (fun j x y => ?_) (fun a x _ y z w => ?_) (fun j x y => ?_) ?_ ?_ ?_
        · have p1 : rH j.toNat = 2 + j.toNat := rfl
          have p2 : iH j.toNat = 10 + j.toNat := rfl
          rw [r2 31 (by decide) (by decide), r2 32 (by decide) (by decide), r2 (rH j.toNat) (by omega) (by omega), r2 (iH j.toNat) (by omega) (by omega), rJ 31 (by decide) (by omega), rJ 32 (by decide) (by omega), rJ (rH j.toNat) (by omega) (by omega)]
          obtain ⟨g1, g2, g3, g4, g5⟩ := hE j x y
          refine ⟨g1, g2, g3, g4, fun z => ?_⟩
          obtain ⟨g6, g7, g8, g9⟩ := g5 z
          refine ⟨g6, g7, g8, fun k a b => ?_⟩
          have e33 : J2 33 (40 * j + k) = if j = r ∧ k = i then narL (I 31 r) v else I 33 (40 * j + k) := by
            rw [e]
            by_cases q : j = r ∧ k = i
            · rw [if_pos q, q.1, q.2, up_s]
            · rw [if_neg q]
              obtain ⟨_, _, _, _, f5⟩ := hE r h1.1 h1.2
              obtain ⟨_, _, f8, _⟩ := f5 h2'
              have hne : 40 * j + k ≠ 40 * r + i := fun w => q (by
                have : j = r := by omega
                subst this
                exact ⟨rfl, by omega⟩)
              rw [up_i hne, up_row (by decide), up_row (by decide), rJ 33 (by decide) (by omega)]
          have eit : J (iH j.toNat) k = if j = r ∧ k = i then narL (I 31 r) v else I (iH j.toNat) k := by
            rw [eJ, up_row (by omega)]
            by_cases q : j = r
            · subst q
              by_cases q2 : k = i
              · rw [if_pos ⟨rfl, q2⟩, q2, up_s]
              · rw [if_neg (fun w => q2 w.2), up_i q2]
            · rw [if_neg (fun w => q w.1), up_row (by omega)]
          rw [e33, eit]
          by_cases q : j = r ∧ k = i
          · rw [if_pos q, if_pos q]
            exact ⟨rfl, narL_rg hv⟩
          · rw [if_neg q, if_neg q]
            exact g9 k a b
        · rw [r2 a (by omega) w, rJ a (by omega) (by omega)]
        · rw [e, up_row (by decide), up_i y, up_i x, rJ 30 (by decide) (by omega)]
        · rw [r2 0 (by decide) (by decide), eJ, up_i (by decide), up_row (by omega)]
        · rw [r2 0 (by decide) (by decide), eJ, up_s, e, up_row (by decide), up_s]
        · rw [e, up_row (by decide), up_s]; exact rg_0
      · refine ⟨-1000012, 3, 3, by decide, by decide, k8.mono fun q J h => ?_⟩
        obtain ⟨rfl, rfl⟩ := h.2.2.1 h1 h2' h3
        refine ⟨rfl, (k9 _ (up_row (by decide)) (up_row (by decide))).mono fun q J h => ?_⟩
        obtain ⟨rfl, rfl⟩ := h.2.2.1 h1 h2' h3
        exact ⟨rfl, hI.fnd (by unfold rg; omega)⟩
  · refine ⟨-1000001, 3, 3, by decide, by decide, k8.mono fun q J h => ?_⟩
    obtain ⟨rfl, rfl⟩ := h.1 h1
    refine ⟨rfl, (k9 _ rfl rfl).mono fun q J h => ?_⟩
    obtain ⟨rfl, rfl⟩ := h.1 h1
    exact ⟨rfl, hI.thr2⟩
