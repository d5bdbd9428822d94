/-! ===== what an office is: its 127 numbers (0 desks, 1 sheets, 2 quarter, 3 and on the wind, 15 + 2 d room, 16 + 2 d stones, 23 + 10 d how many lie there, 24 + 10 d + k which, 63 + 4 p sort, worth, need, met) ===== -/
abbrev OF : Type := Int → Int
noncomputable def bI (P : Prop) : Int := @ite Int P (Classical.propDecidable P) 1 0
theorem bI_t {P : Prop} (h : P) : bI P = 1 := by unfold bI; exact if_pos h
theorem bI_f {P : Prop} (h : ¬ P) : bI P = 0 := by unfold bI; exact if_neg h
theorem bI_0 {P : Prop} : bI P = 0 ↔ ¬ P := by
  by_cases h : P
  · rw [bI_t h]; simp [h]
  · rw [bI_f h]; simp [h]
theorem bI_n {P : Prop} : ¬ bI P = 0 ↔ P := by
  by_cases h : P
  · rw [bI_t h]; simp [h]
  · rw [bI_f h]; simp [h]
theorem bI_p {P : Prop} : 0 < bI P ↔ P := by
  by_cases h : P
  · rw [bI_t h]; simp [h]
  · rw [bI_f h]; simp [h]
theorem bI_le {P : Prop} : 0 ≤ bI P ∧ bI P ≤ 1 := by
  by_cases h : P
  · rw [bI_t h]; omega
  · rw [bI_f h]; omega
theorem rg_bI {P : Prop} : rg (bI P) := by have := bI_le (P := P); unfold rg; omega
theorem bI_c {P Q : Prop} (h : P ↔ Q) : bI P = bI Q := by
  by_cases q : Q
  · rw [bI_t q, bI_t (h.mpr q)]
  · rw [bI_f q, bI_f (fun z => q (h.mp z))]
def Val (O : OF) : Prop := (0 ≤ O 0 ∧ O 0 ≤ 4 ∧ 0 ≤ O 1 ∧ O 1 ≤ 16 ∧ 0 ≤ O 2 ∧ O 2 ≤ 12) ∧ (∀ q, 0 ≤ q → q < 12 → 0 ≤ O (3 + q) ∧ O (3 + q) ≤ 100) ∧
  (∀ d, 0 ≤ d → d < O 0 → 1 ≤ O (15 + 2 * d) ∧ O (15 + 2 * d) ≤ 9 ∧ 0 ≤ O (16 + 2 * d) ∧ O (16 + 2 * d) ≤ 3 ∧ 0 ≤ O (23 + 10 * d) ∧ O (23 + 10 * d) ≤ O (15 + 2 * d)) ∧
  (∀ d k, 0 ≤ d → d < O 0 → 0 ≤ k → k < O (23 + 10 * d) → 0 ≤ O (24 + 10 * d + k) ∧ O (24 + 10 * d + k) < O 1) ∧
  (∀ p, 0 ≤ p → p < O 1 → 1 ≤ O (63 + 4 * p) ∧ O (63 + 4 * p) ≤ 5 ∧ 0 ≤ O (64 + 4 * p) ∧ O (64 + 4 * p) ≤ 99 ∧ 0 ≤ O (65 + 4 * p) ∧ O (65 + 4 * p) ≤ 12 ∧ 0 ≤ O (66 + 4 * p) ∧ O (66 + 4 * p) ≤ 1) ∧
  (∀ d k d2 k2, 0 ≤ d → d < O 0 → 0 ≤ k → k < O (23 + 10 * d) → 0 ≤ d2 → d2 < O 0 → 0 ≤ k2 → k2 < O (23 + 10 * d2) → O (24 + 10 * d + k) = O (24 + 10 * d2 + k2) → d = d2 ∧ k = k2)
theorem Val.a {O : OF} (h : Val O) : 0 ≤ O 0 ∧ O 0 ≤ 4 ∧ 0 ≤ O 1 ∧ O 1 ≤ 16 ∧ 0 ≤ O 2 ∧ O 2 ≤ 12 := h.1
theorem Val.w {O : OF} (h : Val O) {q : Int} (h0 : 0 ≤ q) (h1 : q < 12) : 0 ≤ O (3 + q) ∧ O (3 + q) ≤ 100 := h.2.1 q h0 h1
theorem Val.d {O : OF} (h : Val O) {d : Int} (h0 : 0 ≤ d) (h1 : d < O 0) : 1 ≤ O (15 + 2 * d) ∧ O (15 + 2 * d) ≤ 9 ∧ 0 ≤ O (16 + 2 * d) ∧ O (16 + 2 * d) ≤ 3 ∧ 0 ≤ O (23 + 10 * d) ∧ O (23 + 10 * d) ≤ O (15 + 2 * d) := h.2.2.1 d h0 h1
theorem Val.k {O : OF} (h : Val O) {d k : Int} (h0 : 0 ≤ d) (h1 : d < O 0) (h2 : 0 ≤ k) (h3 : k < O (23 + 10 * d)) : 0 ≤ O (24 + 10 * d + k) ∧ O (24 + 10 * d + k) < O 1 := h.2.2.2.1 d k h0 h1 h2 h3
theorem Val.p {O : OF} (h : Val O) {p : Int} (h0 : 0 ≤ p) (h1 : p < O 1) : 1 ≤ O (63 + 4 * p) ∧ O (63 + 4 * p) ≤ 5 ∧ 0 ≤ O (64 + 4 * p) ∧ O (64 + 4 * p) ≤ 99 ∧ 0 ≤ O (65 + 4 * p) ∧ O (65 + 4 * p) ≤ 12 ∧ 0 ≤ O (66 + 4 * p) ∧ O (66 + 4 * p) ≤ 1 := h.2.2.2.2.1 p h0 h1
theorem Val.u {O : OF} (h : Val O) {d k d2 k2 : Int} (h0 : 0 ≤ d) (h1 : d < O 0) (h2 : 0 ≤ k) (h3 : k < O (23 + 10 * d)) (g0 : 0 ≤ d2) (g1 : d2 < O 0) (g2 : 0 ≤ k2) (g3 : k2 < O (23 + 10 * d2)) (e : O (24 + 10 * d + k) = O (24 + 10 * d2 + k2)) : d = d2 ∧ k = k2 := h.2.2.2.2.2 d k d2 k2 h0 h1 h2 h3 g0 g1 g2 g3 e
/-- a set of numbers below n, as bits -/
noncomputable def bset (f : Int → Prop) : Nat → Nat
  | 0 => 0
  | n + 1 => bset f n + @ite Nat (f n) (Classical.propDecidable _) (2 ^ n) 0
theorem bset_lt (f : Int → Prop) : ∀ n : Nat, bset f n < 2 ^ n
  | 0 => by simp [bset]
  | n + 1 => by
    have h := bset_lt f n
    have e : 2 ^ (n + 1) = 2 ^ n + 2 ^ n := by omega
    show bset f n + @ite Nat (f n) (Classical.propDecidable _) (2 ^ n) 0 < _
    by_cases q : f n
    · rw [if_pos q]; omega
    · rw [if_neg q]; omega
/-- the class's cells of an office o hold the numbers O (as far as they are alive) -/
def RepC (O : OF) (I : HD) (o : Nat) : Prop := (I (oH o) 8 = O 0 ∧ I (oH o) 9 = O 1 ∧ I (oH o) 10 = O 2) ∧ (∀ q, 0 ≤ q → q < 12 → I (oH o + 1) q = O (3 + q)) ∧
  (∀ d, 0 ≤ d → d < O 0 → I (oH o + 2) d = O (15 + 2 * d) ∧ I (oH o + 3) d = O (16 + 2 * d) ∧ I (oH o + 4) d = O (23 + 10 * d)) ∧
  (∀ d k, 0 ≤ d → d < O 0 → 0 ≤ k → k < O (23 + 10 * d) → I (oH o + 5) (d * 9 + k) = O (24 + 10 * d + k)) ∧
  (∀ p, 0 ≤ p → p < O 1 → I (oH o + 6) p = O (63 + 4 * p) ∧ I (oH o + 7) p = O (64 + 4 * p) ∧ I (oH o + 8) p = O (65 + 4 * p)) ∧
  I (oH o) 11 = (bset (fun p => p < O 1 ∧ O (66 + 4 * p) = 1) 16 : Nat)
theorem RepC.f0 {O : OF} {I : HD} {o : Nat} (h : RepC O I o) : I (oH o) 8 = O 0 := h.1.1
theorem RepC.f1 {O : OF} {I : HD} {o : Nat} (h : RepC O I o) : I (oH o) 9 = O 1 := h.1.2.1
theorem RepC.f2 {O : OF} {I : HD} {o : Nat} (h : RepC O I o) : I (oH o) 10 = O 2 := h.1.2.2
theorem RepC.wind {O : OF} {I : HD} {o : Nat} (h : RepC O I o) {q : Int} (h0 : 0 ≤ q) (h1 : q < 12) : I (oH o + 1) q = O (3 + q) := h.2.1 q h0 h1
theorem RepC.room {O : OF} {I : HD} {o : Nat} (h : RepC O I o) {d : Int} (h0 : 0 ≤ d) (h1 : d < O 0) : I (oH o + 2) d = O (15 + 2 * d) := (h.2.2.1 d h0 h1).1
theorem RepC.ston {O : OF} {I : HD} {o : Nat} (h : RepC O I o) {d : Int} (h0 : 0 ≤ d) (h1 : d < O 0) : I (oH o + 3) d = O (16 + 2 * d) := (h.2.2.1 d h0 h1).2.1
theorem RepC.hgt {O : OF} {I : HD} {o : Nat} (h : RepC O I o) {d : Int} (h0 : 0 ≤ d) (h1 : d < O 0) : I (oH o + 4) d = O (23 + 10 * d) := (h.2.2.1 d h0 h1).2.2
theorem RepC.pile {O : OF} {I : HD} {o : Nat} (h : RepC O I o) {d k : Int} (h0 : 0 ≤ d) (h1 : d < O 0) (h2 : 0 ≤ k) (h3 : k < O (23 + 10 * d)) : I (oH o + 5) (d * 9 + k) = O (24 + 10 * d + k) := h.2.2.2.1 d k h0 h1 h2 h3
theorem RepC.sort {O : OF} {I : HD} {o : Nat} (h : RepC O I o) {p : Int} (h0 : 0 ≤ p) (h1 : p < O 1) : I (oH o + 6) p = O (63 + 4 * p) := (h.2.2.2.2.1 p h0 h1).1
theorem RepC.wrth {O : OF} {I : HD} {o : Nat} (h : RepC O I o) {p : Int} (h0 : 0 ≤ p) (h1 : p < O 1) : I (oH o + 7) p = O (64 + 4 * p) := (h.2.2.2.2.1 p h0 h1).2.1
theorem RepC.need {O : OF} {I : HD} {o : Nat} (h : RepC O I o) {p : Int} (h0 : 0 ≤ p) (h1 : p < O 1) : I (oH o + 8) p = O (65 + 4 * p) := (h.2.2.2.2.1 p h0 h1).2.2
theorem RepC.met {O : OF} {I : HD} {o : Nat} (h : RepC O I o) : I (oH o) 11 = (bset (fun p => p < O 1 ∧ O (66 + 4 * p) = 1) 16 : Nat) := h.2.2.2.2.2
/-- how many n gusts take from a desk -/
def slat (O : OF) (p : Int) : Prop := O (63 + 4 * p) = 5
def Tf (O : OF) (d n r : Int) : Prop := 0 ≤ r ∧ r ≤ n ∧ (r = 0 ∨ r ≤ O (23 + 10 * d) - O (16 + 2 * d)) ∧ (∀ t, 0 ≤ t → t < r → ¬ slat O (O (24 + 10 * d + (O (23 + 10 * d) - 1 - t)))) ∧
  (r = n ∨ O (23 + 10 * d) - O (16 + 2 * d) ≤ r ∨ slat O (O (24 + 10 * d + (O (23 + 10 * d) - 1 - r))))
noncomputable def tfv (O : OF) (d : Int) : Nat → Int
  | 0 => 0
  | n + 1 => @ite Int (tfv O d n = n ∧ (n : Int) < O (23 + 10 * d) - O (16 + 2 * d) ∧ ¬ slat O (O (24 + 10 * d + (O (23 + 10 * d) - 1 - n)))) (Classical.propDecidable _) (n + 1) (tfv O d n)
theorem Tf.uniq {O : OF} {d n r r2 : Int} (h : Tf O d n r) (g : Tf O d n r2) : r = r2 := by
  obtain ⟨h1, h2, h3, h4, h5⟩ := h
  obtain ⟨g1, g2, g3, g4, g5⟩ := g
  rcases Int.lt_trichotomy r r2 with q | q | q
  · rcases h5 with e | e | e
    · omega
    · omega
    · exact absurd e (g4 r h1 q)
  · exact q
  · rcases g5 with e | e | e
    · omega
    · omega
    · exact absurd e (h4 r2 g1 q)
theorem tfv_Tf (O : OF) (d : Int) : ∀ n : Nat, Tf O d n (tfv O d n)
  | 0 => ⟨by simp [tfv], by simp [tfv], Or.inl rfl, fun t h0 h1 => by simp [tfv] at h1; omega, Or.inl rfl⟩
  | n + 1 => by
    have ih := tfv_Tf O d n
    obtain ⟨h1, h2, h3, h4, h5⟩ := ih
    by_cases q : tfv O d n = n ∧ (n : Int) < O (23 + 10 * d) - O (16 + 2 * d) ∧ ¬ slat O (O (24 + 10 * d + (O (23 + 10 * d) - 1 - n)))
    · rw [show tfv O d (n + 1) = n + 1 from if_pos q]
      obtain ⟨q1, q2, q3⟩ := q
      refine ⟨by omega, by push_cast; omega, Or.inr (by omega), fun t h0 ht => ?_, Or.inl (by push_cast; rfl)⟩
      by_cases e : t = n
      · rw [e]; exact q3
      · exact h4 t h0 (by omega)
    · rw [show tfv O d (n + 1) = tfv O d n from if_neg q]
      refine ⟨h1, by push_cast; omega, h3, h4, ?_⟩
      rcases h5 with e | e | e
      · by_cases z : (n : Int) < O (23 + 10 * d) - O (16 + 2 * d)
        · exact Or.inr (Or.inr (by rw [e]; exact Classical.byContradiction fun y => q ⟨e, z, y⟩))
        · exact Or.inr (Or.inl (by omega))
      · exact Or.inr (Or.inl e)
      · exact Or.inr (Or.inr e)
