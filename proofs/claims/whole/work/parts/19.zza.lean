/-! ===== a sheet more ===== -/
def adO (O : OF) (s w n : Int) : OF := fun k => if k = 1 then O 1 + 1 else if k = 63 + 4 * O 1 then s else if k = 64 + 4 * O 1 then w else if k = 65 + 4 * O 1 then n else if k = 66 + 4 * O 1 then 0 else O k
theorem adO_k {O : OF} {s w n k : Int} (h0 : 0 ≤ O 1) (h : k ≠ 1 ∧ k < 63) : adO O s w n k = O k := by
  unfold adO
  rw [if_neg h.1, if_neg (by omega), if_neg (by omega), if_neg (by omega), if_neg (by omega)]
theorem adO_1 {O : OF} {s w n : Int} : adO O s w n 1 = O 1 + 1 := by unfold adO; rw [if_pos rfl]
theorem adO_p {O : OF} {s w n p j : Int} (h0 : 0 ≤ O 1) (hp : 0 ≤ p) (h : p < O 1) (hj : 63 ≤ j ∧ j ≤ 66) : adO O s w n (j + 4 * p) = O (j + 4 * p) := by
  unfold adO
  rw [if_neg (by omega), if_neg (by omega), if_neg (by omega), if_neg (by omega), if_neg (by omega)]
theorem adO_n {O : OF} {s w n : Int} (h0 : 0 ≤ O 1) : adO O s w n (63 + 4 * O 1) = s ∧ adO O s w n (64 + 4 * O 1) = w ∧ adO O s w n (65 + 4 * O 1) = n ∧ adO O s w n (66 + 4 * O 1) = 0 := by
  unfold adO
  refine ⟨?_, ?_, ?_, ?_⟩
  · rw [if_neg (by omega), if_pos rfl]
  · rw [if_neg (by omega), if_neg (by omega), if_pos rfl]
  · rw [if_neg (by omega), if_neg (by omega), if_neg (by omega), if_pos rfl]
  · rw [if_neg (by omega), if_neg (by omega), if_neg (by omega), if_neg (by omega), if_pos rfl]
theorem Val.add {O : OF} {s w n : Int} (hV : Val O) (h1 : O 1 < 16) (hs : 1 ≤ s ∧ s ≤ 5) (hw : 0 ≤ w ∧ w ≤ 99) (hn : 0 ≤ n ∧ n ≤ 12) : Val (adO O s w n) := by
  have v := hV.a
  have e : ∀ k, k ≠ 1 ∧ k < 63 → adO O s w n k = O k := fun k q => adO_k v.2.2.1 q
  have e0 := e 0 (by omega)
  have e1 := adO_1 (O := O) (s := s) (w := w) (n := n)
  refine ⟨by rw [e0, e1, e 2 (by omega)]; omega, fun q a b => by rw [e _ (by omega)]; exact hV.w a b, fun d a b => ?_, fun d k a b c f => ?_, fun p a b => ?_, fun d k d2 k2 a b c f a2 b2 c2 f2 g => ?_⟩
  · rw [e0] at b
    rw [e _ (by omega), e (16 + 2 * d) (by omega), e (23 + 10 * d) (by omega)]
    exact hV.d a b
  · rw [e0] at b
    rw [e _ (by omega)] at f
    have vd := hV.d a b
    rw [e _ (by omega), e1]
    have := hV.k a b c f
    omega
  · rw [e1] at b
    by_cases q : p = O 1
    · obtain ⟨x1, x2, x3, x4⟩ := adO_n (O := O) (s := s) (w := w) (n := n) v.2.2.1
      rw [q, x1, x2, x3, x4]
      omega
    · rw [adO_p v.2.2.1 a (by omega) (by omega), adO_p v.2.2.1 a (by omega) (by omega), adO_p v.2.2.1 a (by omega) (by omega), adO_p v.2.2.1 a (by omega) (by omega)]
      exact hV.p a (by omega)
  · rw [e0] at b b2
    rw [e _ (by omega)] at f f2
    have vd := hV.d a b
    have vd2 := hV.d a2 b2
    rw [e _ (by omega), e (24 + 10 * d2 + k2) (by omega)] at g
    exact hV.u a b c f a2 b2 c2 f2 g
theorem RepC.add {O : OF} {I : HD} {o : Nat} {s w n : Int} (hV : Val O) (h : RepC O I o) : frO I (up (up (up (up I (oH o + 6) (O 1) s) (oH o + 7) (O 1) w) (oH o + 8) (O 1) n) (oH o) 9 (O 1 + 1)) o ∧ RepC (adO O s w n) (up (up (up (up I (oH o + 6) (O 1) s) (oH o + 7) (O 1) w) (oH o + 8) (O 1) n) (oH o) 9 (O 1 + 1)) o := by
  have v := hV.a
  have e : ∀ k, k ≠ 1 ∧ k < 63 → adO O s w n k = O k := fun k q => adO_k v.2.2.1 q
  have e0 := e 0 (by omega)
  have e1 := adO_1 (O := O) (s := s) (w := w) (n := n)
  obtain ⟨J, hJ⟩ : ∃ J, J = up (up (up (up I (oH o + 6) (O 1) s) (oH o + 7) (O 1) w) (oH o + 8) (O 1) n) (oH o) 9 (O 1 + 1) := ⟨_, rfl⟩
  rw [← hJ]
  have r : ∀ a, a ≠ oH o → a ≠ oH o + 6 → a ≠ oH o + 7 → a ≠ oH o + 8 → J a = I a := fun a x y z t => by rw [hJ, up_row x, up_row t, up_row z, up_row y]
  have r0 : ∀ j, j ≠ 9 → J (oH o) j = I (oH o) j := fun j q => by rw [hJ, up_i q, up_row (by omega), up_row (by omega), up_row (by omega)]
  have r9 : J (oH o) 9 = O 1 + 1 := by rw [hJ, up_s]
  have r6 : ∀ p, J (oH o + 6) p = if p = O 1 then s else I (oH o + 6) p := fun p => by
    rw [hJ, up_row (by omega), up_row (by omega), up_row (by omega)]
    by_cases q : p = O 1
    · rw [q, up_s, if_pos rfl]
    · rw [up_i q, if_neg q]
  have r7 : ∀ p, J (oH o + 7) p = if p = O 1 then w else I (oH o + 7) p := fun p => by
    rw [hJ, up_row (by omega), up_row (by omega)]
    by_cases q : p = O 1
    · rw [q, up_s, if_pos rfl]
    · rw [up_i q, up_row (by omega), if_neg q]
  have r8 : ∀ p, J (oH o + 8) p = if p = O 1 then n else I (oH o + 8) p := fun p => by
    rw [hJ, up_row (by omega)]
    by_cases q : p = O 1
    · rw [q, up_s, if_pos rfl]
    · rw [up_i q, up_row (by omega), up_row (by omega), if_neg q]
  refine ⟨fun a q => r a (by omega) (by omega) (by omega) (by omega), ⟨?_, ?_, ?_⟩, fun q a b => ?_, fun d a b => ?_, fun d k a b c f => ?_, fun p a b => ?_, ?_⟩
  · rw [r0 8 (by decide), e0]; exact h.f0
  · rw [r9, e1]
  · rw [r0 10 (by decide), e 2 (by omega)]; exact h.f2
  · rw [r _ (by omega) (by omega) (by omega) (by omega), e _ (by omega)]; exact h.wind a b
  · rw [e0] at b
    rw [r _ (by omega) (by omega) (by omega) (by omega), r (oH o + 3) (by omega) (by omega) (by omega) (by omega), r (oH o + 4) (by omega) (by omega) (by omega) (by omega), e _ (by omega), e (16 + 2 * d) (by omega), e (23 + 10 * d) (by omega)]
    exact ⟨h.room a b, h.ston a b, h.hgt a b⟩
  · rw [e0] at b
    rw [e _ (by omega)] at f
    have vd := hV.d a b
    rw [r _ (by omega) (by omega) (by omega) (by omega), e _ (by omega)]
    exact h.pile a b c f
  · rw [e1] at b
    rw [r6, r7, r8]
    by_cases q : p = O 1
    · obtain ⟨x1, x2, x3, x4⟩ := adO_n (O := O) (s := s) (w := w) (n := n) v.2.2.1
      rw [if_pos q, if_pos q, if_pos q, q, x1, x2, x3]
      exact ⟨rfl, rfl, rfl⟩
    · rw [if_neg q, if_neg q, if_neg q, adO_p v.2.2.1 a (by omega) (by omega), adO_p v.2.2.1 a (by omega) (by omega), adO_p v.2.2.1 a (by omega) (by omega)]
      exact ⟨h.sort a (by omega), h.wrth a (by omega), h.need a (by omega)⟩
  · rw [r0 11 (by decide), h.met, e1]
    refine bs_c' fun p a b => ?_
    by_cases q : p = O 1
    · rw [q, (adO_n (O := O) (s := s) (w := w) (n := n) v.2.2.1).2.2.2]
      omega
    · by_cases z : p < O 1
      · rw [adO_p v.2.2.1 a z (by omega)]
        omega
      · omega
theorem adO_up {I : HD} {O : OF} {s w n : Int} (hO : I 34 = O) (h0 : 0 ≤ O 1) : up (up (up (up (up I 34 (63 + 4 * O 1) s) 34 (63 + 4 * O 1 + 1) w) 34 (63 + 4 * O 1 + 2) n) 34 (63 + 4 * O 1 + 3) 0) 34 1 (O 1 + 1) = upA I 34 (adO O s w n) := by
  subst hO
  rw [upA_i (I := I), upA_u, upA_u, upA_u, upA_u]
  congr 1
  funext k
  unfold adO
  by_cases e1 : k = 1
  · rw [if_pos e1, if_pos e1]
  · rw [if_neg e1, if_neg e1]
    by_cases e2 : k = 63 + 4 * I 34 1 + 3
    · rw [if_pos e2, if_neg (by omega), if_neg (by omega), if_neg (by omega), if_pos (by omega)]
    · rw [if_neg e2]
      by_cases e3 : k = 63 + 4 * I 34 1 + 2
      · rw [if_pos e3, if_neg (by omega), if_neg (by omega), if_pos (by omega)]
      · rw [if_neg e3]
        by_cases e4 : k = 63 + 4 * I 34 1 + 1
        · rw [if_pos e4, if_neg (by omega), if_pos (by omega)]
        · rw [if_neg e4]
          by_cases e5 : k = 63 + 4 * I 34 1
          · rw [if_pos e5, if_pos (by omega)]
          · rw [if_neg e5, if_neg (by omega), if_neg (by omega), if_neg (by omega), if_neg (by omega)]
