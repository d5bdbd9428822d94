/-! ===== more answers ===== -/
theorem iI_or0 {a : Int} : iI a ||| iI 0 = iI a := by
  show iI a ||| 0 = iI a
  exact Int32.or_zero
theorem w_1 {O : OF} {d : Int} (hV : Val O) (h0 : 0 ≤ d) (h1 : d < O 0) : liu O (O (24 + 10 * d + (O (23 + 10 * d) - 1))) d = lost O d 1 := by
  rw [lost_1 hV h0 h1]
  unfold liu tp
  rw [show O (23 + 10 * d) - 1 - 0 = O (23 + 10 * d) - 1 by omega]
theorem w_0 {O : OF} {d : Int} (hV : Val O) (h0 : 0 ≤ d) (h1 : d < O 0) (h : O (23 + 10 * d) ≤ 0) : (0 : Int) = lost O d 1 := by
  have vd := hV.d h0 h1
  rw [lost_1 hV h0 h1, bI_f (fun q => by have := q.1; omega), Int.zero_mul]
theorem w_3 {O : OF} {d : Int} (hV : Val O) (h0 : 0 ≤ d) (h1 : d < O 0) (h : O (16 + 2 * d) + 2 < O (23 + 10 * d)) : liu O (O (24 + 10 * d + (O (23 + 10 * d) - 3))) d = lth O d := by
  have vd := hV.d h0 h1
  unfold liu lth tp
  rw [show O (23 + 10 * d) - 1 - 2 = O (23 + 10 * d) - 3 by omega]
  rw [bI_c (show (O (16 + 2 * d) < O (23 + 10 * d) ∧ ¬ slat O (O (24 + 10 * d + (O (23 + 10 * d) - 3)))) ↔ (O (16 + 2 * d) ≤ O (23 + 10 * d) - 3 ∧ ¬ slat O (O (24 + 10 * d + (O (23 + 10 * d) - 3)))) from ⟨fun q => ⟨by omega, q.2⟩, fun q => ⟨by omega, q.2⟩⟩)]
theorem w_3n {O : OF} {d : Int} (h : ¬ O (16 + 2 * d) + 2 < O (23 + 10 * d)) : lth O d = 0 := by
  unfold lth
  rw [bI_f (fun q => by have := q.1; omega), Int.zero_mul]
noncomputable def zTak (O : OF) (n w : Int) : Int := if 0 < O 0 then (if 0 ≤ n ∧ n ≤ 9 ∧ 0 ≤ w ∧ w ≤ 1 then (if w = 0 then ((bset (tkn O n) 16 : Nat) : Int) else wsum O (tkn O n) (O 1).toNat) else -1000001) else -1000002
theorem tkn_0 {O : OF} {p : Int} : ¬ tkn O 0 p := by rintro ⟨e, a, b, _⟩; omega
theorem lft_0 {O : OF} {f : Int → Int} (h : ∀ c, 0 ≤ c → c < O 0 → f c = O (23 + 10 * c)) : lftE O 0 f := fun d a b => by
  rw [h d a b]
  show _ = O (23 + 10 * d) - tfv O d 0
  show _ = O (23 + 10 * d) - 0
  omega
noncomputable def zLend (O : OF) (a b : Int) : Int := if 0 ≤ a ∧ a < O 0 ∧ 0 ≤ b ∧ b < O 0 ∧ ¬ a = b then (if O (23 + 10 * a) = 0 ∨ O (23 + 10 * b) = 0 then -1000000 else (lost O a 1 + lost O b 1) - (liu O (O (24 + 10 * b + lon O b (O (23 + 10 * b) - 1).toNat)) a + liu O (O (24 + 10 * a + lon O a (O (23 + 10 * a) - 1).toNat)) b)) else -1000001
theorem liu_le {O : OF} {p d : Int} (hV : Val O) (h0 : 0 ≤ p) (h1 : p < O 1) : 0 ≤ liu O p d ∧ liu O p d ≤ 99 := by
  have vp := hV.p h0 h1
  unfold liu
  by_cases q : O (16 + 2 * d) < O (23 + 10 * d) ∧ ¬ slat O p
  · rw [bI_t q]; omega
  · rw [bI_f q]; omega
/-- a call that also lays the reference's own row of what is left -/
theorem Pair.rd38 {X : XC} {mx mm : MR} {av : List Value} {D D2 : Nat} (hD : D < 40) (hD2 : D2 < 40) (h : ∀ I : HD, RC I I → ∃ z : Int, Cl X D mx (rv X 0 :: av) I (Ki z I) ∧ Cl X D2 mm (rv X 30 :: av) I (fun r J => r = some (iv z) ∧ ∃ f, J = upA (up I 30 0 0) 38 f)) : Pair X mx mm av := by
  intro I hI
  obtain ⟨z, h1, h2⟩ := h I hI
  refine ⟨z, D, D2, hD, hD2, h1.mono ?_⟩
  rintro r J ⟨rfl, rfl⟩
  refine ⟨rfl, h2.mono ?_⟩
  rintro r J ⟨rfl, f, rfl⟩
  exact ⟨rfl, hI.thr2.cg (fun a _ _ _ b _ _ _ => upA_h b) (fun j _ => by rw [upA_h (by decide)]) (fun a q => upA_h (by omega))⟩
theorem tpN_or {O : OF} {d e : Int} (hV : Val O) (h0 : 0 ≤ d) (h1 : d < O 0) (he : 0 ≤ e) : (tpN O d e = -1000000 ∧ ¬ e < tfv O d (e + 1).toNat) ∨ (0 ≤ tpN O d e ∧ tpN O d e < 16 ∧ e < tfv O d (e + 1).toNat ∧ tpN O d e = tp O d e) := by
  by_cases q : e < tfv O d (e + 1).toNat
  · have l := tfv_le (e + 1).toNat hV h0 h1
    have vk := hV.k (k := O (23 + 10 * d) - 1 - e) h0 h1 (by omega) (by omega)
    have va := hV.a
    have t := tpN_a q
    refine Or.inr ⟨?_, ?_, q, t⟩
    · rw [t]; exact vk.1
    · rw [t]; show O (24 + 10 * d + (O (23 + 10 * d) - 1 - e)) < 16; omega
  · exact Or.inl ⟨tpN_b q, q⟩
