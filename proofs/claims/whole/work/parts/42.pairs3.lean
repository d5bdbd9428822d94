/-! ===== as, side by side ===== -/
theorem RC.sts {I : HD} (hI : RC I I) : RC (up (up (up I 0 9 0) 30 0 0) 30 1 0) (up (up (up I 0 9 0) 30 0 0) 30 1 0) := by
  have r : ∀ a, a ≠ 30 → a ≠ 0 → up (up (up I 0 9 0) 30 0 0) 30 1 0 a = I a := fun a x y => by rw [up_row x, up_row x, up_row y]
  refine hI.rw (hI.2.2.2.1.cg (r 31 (by decide) (by decide)) (r 32 (by decide) (by decide)) (r 33 (by decide) (by decide)) (fun a x y => r a (by omega) (by omega))) (fun a x y _ _ _ => r a y (by omega)) (fun j x y => ?_) ?_ ?_ ?_
  · rw [up_i y, up_i x, up_row (by decide)]
  · rw [up_row (by decide), up_row (by decide), up_i (by decide)]
  · rw [up_row (by decide), up_row (by decide), up_s, up_s]
  · rw [up_s]; exact rg_0
theorem pr_as {X : XC} {p w : Int} (hp : rg p) (hw : rg w) : Pair X mX8_as mX9_as [iv p, iv w] := by
  intro I hI
  have k8 := kX8_as X hI.1.2.1 hI.1.1 hp hw
  have k9 := fun (J : HD) (e : J 34 = I 34) => kX9_as X (I := J) (O := I 34) e hI.1.1 hp hw
  by_cases h1 : 0 ≤ p ∧ p < I 34 1 ∧ 0 ≤ w ∧ w < 6
  · by_cases h2 : oneOf (I 34 (63 + 4 * p)) w
    · refine ⟨p, 3, 3, by decide, by decide, k8.mono fun q J h => ?_⟩
      obtain ⟨rfl, rfl⟩ := h.2.2 h1 h2
      refine ⟨rfl, (k9 _ (up_row (by decide))).mono fun q J h => ?_⟩
      obtain ⟨rfl, rfl⟩ := h.2.2 h1 h2
      exact ⟨rfl, hI.sts⟩
    · refine ⟨-1000013, 3, 3, by decide, by decide, k8.mono fun q J h => ?_⟩
      obtain ⟨rfl, rfl⟩ := h.2.1 h1 h2
      refine ⟨rfl, (k9 _ (up_row (by decide))).mono fun q J h => ?_⟩
      obtain ⟨rfl, rfl⟩ := h.2.1 h1 h2
      exact ⟨rfl, hI.fnd (by unfold rg; omega)⟩
  · refine ⟨-1000001, 3, 3, by decide, by decide, k8.mono fun q J h => ?_⟩
    obtain ⟨rfl, rfl⟩ := h.1 h1
    refine ⟨rfl, (k9 _ rfl).mono fun q J h => ?_⟩
    obtain ⟨rfl, rfl⟩ := h.1 h1
    exact ⟨rfl, hI.thr2⟩
theorem pr_blank {X : XC} {d : Int} (hd : rg d) : Pair X mX8_blank mX9_blank [iv d] := by
  intro I hI
  have hV := hI.1.1
  have v := hV.a
  have k8 := kX8_blank X (O := I 34) rfl hI.1 hI.2.1 hd
  have k9 := fun (J : HD) (e : J 34 = I 34) (e2 : J 30 = I 30) => kX9_blank X (I := J) (O := I 34) e hV (by rw [e2]; exact hI.2.1.2.2.2.1) (by rw [e2]; exact hI.2.1.2.2.2.2.1) hd
  by_cases h1 : 0 ≤ d ∧ d < I 34 0
  · by_cases h2 : I 34 (23 + 10 * d) < I 34 (15 + 2 * d) ∧ I 34 1 < 16
    · refine ⟨I 34 1, 6, 6, by decide, by decide, k8.mono fun r J h => ?_⟩
      obtain ⟨rfl, q1, q2, q3⟩ := h.2.2 h1 h2
      refine ⟨rfl, (k9 J (q3 34 (by decide) (by omega)) (q3 30 (by decide) (by omega))).mono fun r J2 h => ?_⟩
      obtain ⟨rfl, rfl⟩ := h.2.2 h1 h2
      refine ⟨rfl, ?_⟩
      have vd := hV.d h1.1 h1.2
      have hVA := hV.add (s := 4) (w := 0) (n := 12) h2.2 (by omega) (by omega) (by omega)
      have e : ∀ k, k ≠ 1 ∧ k < 63 → adO (I 34) 4 0 12 k = I 34 k := fun k q => adO_k v.2.2.1 q
      have e0 := e 0 (by omega)
      have e1 := adO_1 (O := I 34) (s := 4) (w := 0) (n := 12)
      have e2 := e (15 + 2 * d) (by omega)
      have e3 := e (23 + 10 * d) (by omega)
      refine hI.act q2 q1 q3 (Val.come hVA h1.1 (by omega) (by omega) v.2.2.1 (by omega) (fun f k a b c g => ?_)) ((cmO_k (by omega) h1.1 (by omega) (by omega) (by omega)).trans e0) (by omega)
      rw [e0] at b
      have vf := hV.d a b
      rw [e _ (by omega)] at g
      rw [e _ (by omega)]
      have := hV.k a b c g
      omega
    · refine ⟨-1000003, 6, 6, by decide, by decide, k8.mono fun r J h => ?_⟩
      obtain ⟨rfl, rfl⟩ := h.2.1 h1 h2
      refine ⟨rfl, (k9 _ rfl rfl).mono fun r J h => ?_⟩
      obtain ⟨rfl, rfl⟩ := h.2.1 h1 h2
      exact ⟨rfl, hI.thr2⟩
  · refine ⟨-1000001, 6, 6, by decide, by decide, k8.mono fun r J h => ?_⟩
    obtain ⟨rfl, rfl⟩ := h.1 h1
    refine ⟨rfl, (k9 _ rfl rfl).mono fun r J h => ?_⟩
    obtain ⟨rfl, rfl⟩ := h.1 h1
    exact ⟨rfl, hI.thr2⟩
