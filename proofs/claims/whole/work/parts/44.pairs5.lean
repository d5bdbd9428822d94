/-! ===== copy, side by side ===== -/
theorem pr_copy {X : XC} {a i b j n : Int} (ha : rg a) (hi : rg i) (hb : rg b) (hj : rg j) (hn : rg n) : Pair X mX8_copy mX9_copy [iv a, iv i, iv b, iv j, iv n] := by
  intro I hI
  have hE := hI.2.2.2.1
  have k8 := kX8_copy X hE ha hi hb hj hn
  have k9 := fun (J : HD) (e31 : J 31 = I 31) (e32 : J 32 = I 32) => kX9_copy X (I := J) (S := I) e31 e32 hE ha hi hb hj hn
  by_cases h1 : 0 ≤ a ∧ a < 8 ∧ 0 ≤ b ∧ b < 8
  · by_cases h2 : I 31 a < 0 ∨ I 31 b < 0
    · refine ⟨-1000011, 3, 3, by decide, by decide, k8.mono fun q J h => ?_⟩
      obtain ⟨rfl, rfl⟩ := h.2.1 h1 h2
      refine ⟨rfl, (k9 _ (up_row (by decide)) (up_row (by decide))).mono fun q J h => ?_⟩
      obtain ⟨rfl, rfl⟩ := h.2.1 h1 h2
      exact ⟨rfl, hI.fnd (by unfold rg; omega)⟩
    · by_cases h3 : I 31 a = I 31 b
      · by_cases h4 : 0 ≤ i ∧ 0 ≤ j ∧ 0 ≤ n ∧ i + n ≤ I 32 a ∧ j + n ≤ I 32 b
        · refine ⟨n, 3, 3, by decide, by decide, k8.mono fun q J h => ?_⟩
          obtain ⟨rfl, eJ⟩ := h.2.2.2.2 h1 h2 h3 h4
          have o1 : rH b.toNat = 2 + b.toNat := rfl
          have o2 : iH b.toNat = 10 + b.toNat := rfl
          have rJ : ∀ x, x ≠ 0 → x ≠ iH b.toNat → J x = I x := fun x y z => by rw [eJ, up_row y, upA_h z]
          refine ⟨rfl, (k9 J (rJ 31 (by decide) (by omega)) (rJ 32 (by decide) (by omega))).mono fun q J2 h => ?_⟩
          obtain ⟨rfl, e⟩ := h.2.2.2.2 h1 h2 h3 h4
          refine ⟨rfl, ?_⟩
          have r2 : ∀ x, x ≠ 30 → x ≠ 33 → J2 x = J x := fun x y z => by rw [e, upA_h z, up_row y, up_row y]
          obtain ⟨a1, a2, a3, a4, a5⟩ := hE a h1.1 h1.2.1
          obtain ⟨b1, b2, b3, b4, b5⟩ := hE b h1.2.2.1 h1.2.2.2
          obtain ⟨a6, a7, a8, a9⟩ := a5 (by omega)
          obtain ⟨b6, b7, b8, b9⟩ := b5 (by omega)
          have e33 : ∀ q, J2 33 q = cpyF (I 33) (I 33) (40 * a + i) (40 * b + j) n q := fun q => by rw [e, upA_s, rJ 33 (by decide) (by omega)]
          have eit : ∀ q, J (iH b.toNat) q = cpyF (I (iH a.toNat)) (I (iH b.toNat)) i j n q := fun q => by rw [eJ, up_row (by omega), upA_s]
          refine hI.rw (fun x u v => ?_) (fun x y _ z w t => ?_) (fun x y z => ?_) ?_ ?_ ?_
          · have p1 : rH x.toNat = 2 + x.toNat := rfl
            have p2 : iH x.toNat = 10 + x.toNat := rfl
            rw [r2 31 (by decide) (by decide), r2 32 (by decide) (by decide), r2 (rH x.toNat) (by omega) (by omega), r2 (iH x.toNat) (by omega) (by omega), rJ 31 (by decide) (by omega), rJ 32 (by decide) (by omega), rJ (rH x.toNat) (by omega) (by omega)]
            obtain ⟨g1, g2, g3, g4, g5⟩ := hE x u v
            refine ⟨g1, g2, g3, g4, fun z => ?_⟩
            obtain ⟨g6, g7, g8, g9⟩ := g5 z
            refine ⟨g6, g7, g8, fun k c d => ?_⟩
            rw [e33]
            by_cases q : x = b
            · subst q
              rw [eit]
              unfold cpyF
              by_cases w : j ≤ k ∧ k < j + n
              · rw [if_pos w, if_pos (by omega)]
                have := a9 (i + (k - j)) (by omega) (by omega)
                rw [show 40 * a + i + (40 * x + k - (40 * x + j)) = 40 * a + (i + (k - j)) by omega]
                exact this
              · rw [if_neg w, if_neg (by omega)]
                exact g9 k c d
            · rw [rJ (iH x.toNat) (by omega) (by omega)]
              unfold cpyF
              rw [if_neg (by omega)]
              exact g9 k c d
          · rw [r2 x (by omega) t, rJ x (by omega) (by omega)]
          · rw [e, upA_h (by decide), up_i z, up_i y, rJ 30 (by decide) (by omega)]
          · rw [r2 0 (by decide) (by decide), eJ, up_i (by decide), upA_h (by omega)]
          · rw [r2 0 (by decide) (by decide), eJ, up_s, e, upA_h (by decide), up_s]
          · rw [e, upA_h (by decide), up_s]; exact rg_0
        · refine ⟨-1000012, 3, 3, by decide, by decide, k8.mono fun q J h => ?_⟩
          obtain ⟨rfl, rfl⟩ := h.2.2.2.1 h1 h2 h3 h4
          refine ⟨rfl, (k9 _ (up_row (by decide)) (up_row (by decide))).mono fun q J h => ?_⟩
          obtain ⟨rfl, rfl⟩ := h.2.2.2.1 h1 h2 h3 h4
          exact ⟨rfl, hI.fnd (by unfold rg; omega)⟩
      · refine ⟨-1000015, 3, 3, by decide, by decide, k8.mono fun q J h => ?_⟩
        obtain ⟨rfl, rfl⟩ := h.2.2.1 h1 h2 h3
        refine ⟨rfl, (k9 _ (up_row (by decide)) (up_row (by decide))).mono fun q J h => ?_⟩
        obtain ⟨rfl, rfl⟩ := h.2.2.1 h1 h2 h3
        exact ⟨rfl, hI.fnd (by unfold rg; omega)⟩
  · refine ⟨-1000001, 3, 3, by decide, by decide, k8.mono fun q J h => ?_⟩
    obtain ⟨rfl, rfl⟩ := h.1 h1
    refine ⟨rfl, (k9 _ rfl rfl).mono fun q J h => ?_⟩
    obtain ⟨rfl, rfl⟩ := h.1 h1
    exact ⟨rfl, hI.thr2⟩
