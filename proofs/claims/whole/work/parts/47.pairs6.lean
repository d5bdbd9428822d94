/-! ===== quarter, side by side ===== -/
theorem Val.qu {O : OF} (hV : Val O) (h : O 2 < 12) : Val (fun k => if k = 2 then O 2 + 1 else O k) := by
  have v := hV.a
  have e : ∀ k, k ≠ 2 → (fun k => if k = 2 then O 2 + 1 else O k) k = O k := fun k q => if_neg q
  have e0 := e 0 (by omega)
  have e1 := e 1 (by omega)
  refine ⟨by rw [e0, e1, show (fun k => if k = 2 then O 2 + 1 else O k) 2 = O 2 + 1 from if_pos rfl]; omega, fun q a b => by rw [e _ (by omega)]; exact hV.w a b, fun d a b => ?_, fun d k a b c f => ?_, fun p a b => ?_, fun d k d2 k2 a b c f a2 b2 c2 f2 g => ?_⟩
  · rw [e0] at b
    rw [e _ (by omega), e (16 + 2 * d) (by omega), e (23 + 10 * d) (by omega)]
    exact hV.d a b
  · rw [e0] at b
    rw [e _ (by omega)] at f
    rw [e _ (by omega), e1]
    exact hV.k a b c f
  · rw [e1] at b
    rw [e _ (by omega), e (64 + 4 * p) (by omega), e (65 + 4 * p) (by omega), e (66 + 4 * p) (by omega)]
    exact hV.p a b
  · rw [e0] at b b2
    rw [e _ (by omega)] at f f2
    rw [e _ (by omega), e (24 + 10 * d2 + k2) (by omega)] at g
    exact hV.u a b c f a2 b2 c2 f2 g
theorem pr_quarter {X : XC} {s : Int} (hs : rg s) : Pair X mX8_quarter mX9_quarter [iv s] := by
  intro I hI
  have hV := hI.1.1
  have v := hV.a
  have k8 := kX8_quarter X (O := I 34) rfl hI.1 hI.2.1 hs
  have k9 := fun (J : HD) (e : J 34 = I 34) (e2 : J 30 = I 30) => kX9_quarter X (I := J) (O := I 34) e (by rw [e2]; exact hI.1.2.2) hV (by rw [e2]; exact hI.2.1.2.2.2.1) (by rw [e2]; exact hI.2.1.2.2.2.2.1) hs
  by_cases h1 : 0 < I 34 0
  · by_cases h2 : 1 ≤ s ∧ s ≤ 999999
    · by_cases h3 : I 34 2 = 12
      · refine ⟨-1000002, 6, 6, by decide, by decide, k8.mono fun r J h => ?_⟩
        obtain ⟨rfl, rfl⟩ := h.2.2.1 h1 h2 h3
        refine ⟨rfl, (k9 _ rfl rfl).mono fun r J h => ?_⟩
        obtain ⟨rfl, rfl⟩ := h.2.2.1 h1 h2 h3
        exact ⟨rfl, hI.thr2⟩
      · refine ⟨_, 6, 6, by decide, by decide, k8.mono (K2 := fun r J => r = some (iv (if drw s < I 34 (3 + I 34 2) then ((bset (tbg (I 34) 0) 16 : Nat) : Int) else 0)) ∧ Cl X 6 mX9_quarter [rv X 30, iv s] J (fun r2 J2 => r2 = some (iv (if drw s < I 34 (3 + I 34 2) then ((bset (tbg (I 34) 0) 16 : Nat) : Int) else 0)) ∧ RC J2 J2)) fun r J h => ?_⟩
        obtain ⟨rfl, q1, q2, q3⟩ := h.2.2.2 h1 h2 h3
        refine ⟨rfl, (k9 J (q3 34 (by decide) (by omega)) (q3 30 (by decide) (by omega))).mono fun r J2 h => ?_⟩
        obtain ⟨rfl, f, rfl⟩ := h.2.2.2 h1 h2 h3
        refine ⟨rfl, ?_⟩
        have hQ : Val (quO (I 34) s) ∧ quO (I 34) s 0 = I 34 0 := by
          by_cases c : drw s < I 34 (3 + I 34 2)
          · rw [quO_a hV c]
            have b2 : blN (I 34) (I 34 0) 2 = I 34 2 := blN_k (by omega) (by omega)
            exact ⟨Val.qu (hV.blow (by omega)) (by omega), (if_neg (by decide)).trans (blN_k (by omega) (by omega))⟩
          · rw [quO_b c]
            exact ⟨Val.qu hV (by omega), if_neg (by decide)⟩
        have hE := hI.act q2 q1 q3 hQ.1 hQ.2 h1
        have r : ∀ a, a ≠ 38 → upA (upA (kpS (up J 30 0 0)) 38 f) 34 (quO (I 34) s) a = upA (kpS (up J 30 0 0)) 34 (quO (I 34) s) a := fun a x => by
          by_cases w : a = 34
          · rw [w, upA_s, upA_s]
          · rw [upA_h w, upA_h w, upA_h x]
        exact hE.cg (fun a _ _ _ x _ _ _ => r a x) (fun j _ => by rw [r 30 (by decide)]) (fun a x => r a (by omega))
    · refine ⟨-1000001, 6, 6, by decide, by decide, k8.mono fun r J h => ?_⟩
      obtain ⟨rfl, rfl⟩ := h.2.1 h1 h2
      refine ⟨rfl, (k9 _ rfl rfl).mono fun r J h => ?_⟩
      obtain ⟨rfl, rfl⟩ := h.2.1 h1 h2
      exact ⟨rfl, hI.thr2⟩
  · refine ⟨-1000002, 6, 6, by decide, by decide, k8.mono fun r J h => ?_⟩
    obtain ⟨rfl, rfl⟩ := h.1 h1
    refine ⟨rfl, (k9 _ rfl rfl).mono fun r J h => ?_⟩
    obtain ⟨rfl, rfl⟩ := h.1 h1
    exact ⟨rfl, hI.thr2⟩
