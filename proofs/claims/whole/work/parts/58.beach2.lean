theorem RC.fn2 {I : HD} (hI : RC I I) {k : Int} (hk : rg k) : RC (up (up (up I 0 9 k) 30 0 0) 30 1 k) (up (up (up I 0 9 k) 30 0 0) 30 1 k) := by
  have h := hI.fnd hk
  have e : up (up (up (up I 0 9 k) 30 0 0) 30 1 0) 30 1 k = up (up (up I 0 9 k) 30 0 0) 30 1 k := by
    funext a b
    unfold up
    by_cases q : a = 30 ∧ b = 1
    · simp [q]
    · simp [q]
  rw [e] at h
  exact h
theorem pr_beach {X : XC} {r i m n : Int} (hr : rg r) (hi : rg i) (hm : rg m) (hn : rg n) : Pair X mX8_beach mX9_beach [iv r, iv i, iv m, iv n] := by
  intro I hI
  have hV := hI.1.1
  have k8 := kX8_beach X hI.1.2.1 hV hI.2.2.2.1 hr hi hm hn
  have k9 := fun (J : HD) (e : ∀ a, 31 ≤ a → a < 45 → J a = I a) (e2 : J 30 7 = I 30 7) => kX9_beach X (I := J) (S := I) (O := I 34) (e 34 (by decide) (by decide)) (by rw [e2]; exact hI.1.2.2) hV (e 31 (by decide) (by decide)) (e 32 (by decide) (by decide)) (e 33 (by decide) (by decide)) hI.2.2.2.1 hr hi hm hn
  by_cases h1 : 0 < I 34 0
  · by_cases h2 : 0 ≤ r ∧ r < 8 ∧ 0 ≤ m ∧ m ≤ 16 ∧ 0 ≤ n ∧ n ≤ 9
    · by_cases h3 : I 31 r < 0
      · refine ⟨-1000011, 4, 4, by decide, by decide, k8.mono fun q J h => ?_⟩
        obtain ⟨rfl, rfl⟩ := h.2.2.1 h1 h2 h3
        refine ⟨rfl, (k9 _ (fun a x y => up_row (by omega)) (congrFun (up_row (by decide)) _)).mono fun q J h => ?_⟩
        obtain ⟨rfl, rfl⟩ := h.2.2.1 h1 h2 h3
        exact ⟨rfl, hI.fn2 (by unfold rg; omega)⟩
      · have h3' : 0 ≤ I 31 r := by omega
        by_cases h4 : 0 ≤ i ∧ i + m ≤ I 32 r
        · by_cases h5 : ∀ k, i ≤ k → k < i + m → 0 ≤ itm I r k ∧ itm I r k < I 34 1
          · refine ⟨_, 4, 4, by decide, by decide, k8.mono (K2 := fun q J => q = some (iv (bI (etg (I 34) (itm I r) (i + m) i n.toNat = i + m))) ∧ Cl X 4 mX9_beach [rv X 30, iv r, iv i, iv m, iv n] J (fun r2 J2 => r2 = some (iv (bI (etg (I 34) (itm I r) (i + m) i n.toNat = i + m))) ∧ RC J2 J2)) fun q J h => ?_⟩
            obtain ⟨rfl, rfl⟩ := h.2.2.2.2.2 h1 h2 h3' h4 h5
            refine ⟨rfl, (k9 _ (fun a x y => up_row (by omega)) (congrFun (up_row (by decide)) _)).mono fun q J h => ?_⟩
            obtain ⟨rfl, f, rfl⟩ := h.2.2.2.2.2 h1 h2 h3' h4 h5
            exact ⟨rfl, hI.sts.cg (fun a _ _ _ x _ _ _ => upA_h x) (fun j _ => by rw [upA_h (show (30 : Nat) ≠ 38 by decide)]) (fun a x => upA_h (by omega))⟩
          · refine ⟨-1000001, 4, 4, by decide, by decide, k8.mono fun q J h => ?_⟩
            obtain ⟨rfl, rfl⟩ := h.2.2.2.2.1 h1 h2 h3' h4 h5
            refine ⟨rfl, (k9 _ (fun a x y => rfl) rfl).mono fun q J h => ?_⟩
            obtain ⟨rfl, rfl⟩ := h.2.2.2.2.1 h1 h2 h3' h4 h5
            exact ⟨rfl, hI.thr2⟩
        · refine ⟨-1000012, 4, 4, by decide, by decide, k8.mono fun q J h => ?_⟩
          obtain ⟨rfl, rfl⟩ := h.2.2.2.1 h1 h2 h3' h4
          refine ⟨rfl, (k9 _ (fun a x y => up_row (by omega)) (congrFun (up_row (by decide)) _)).mono fun q J h => ?_⟩
          obtain ⟨rfl, rfl⟩ := h.2.2.2.1 h1 h2 h3' h4
          exact ⟨rfl, hI.fn2 (by unfold rg; omega)⟩
    · refine ⟨-1000001, 4, 4, by decide, by decide, k8.mono fun q J h => ?_⟩
      obtain ⟨rfl, rfl⟩ := h.2.1 h1 h2
      refine ⟨rfl, (k9 _ (fun a x y => rfl) rfl).mono fun q J h => ?_⟩
      obtain ⟨rfl, rfl⟩ := h.2.1 h1 h2
      exact ⟨rfl, hI.thr2⟩
  · refine ⟨-1000002, 4, 4, by decide, by decide, k8.mono fun q J h => ?_⟩
    obtain ⟨rfl, rfl⟩ := h.1 h1
    refine ⟨rfl, (k9 _ (fun a x y => rfl) rfl).mono fun q J h => ?_⟩
    obtain ⟨rfl, rfl⟩ := h.1 h1
    exact ⟨rfl, hI.thr2⟩
