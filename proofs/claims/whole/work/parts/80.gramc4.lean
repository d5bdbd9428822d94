theorem pDs_e {c : Int → Int} {L : Int} : ∀ {n : Nat} {s : Ps}, s.2.2 = 0 → GD s.2.1 → (pDs c L n s).2.2 = 0 → GD (pDs c L n s).2.1 ∧ s.2.1 0 ≤ (pDs c L n s).2.1 0 ∧ (pDs c L n s).2.1 1 = s.2.1 1
  | 0, s, _, hG, _ => ⟨hG, Int.le_refl _, rfl⟩
  | n + 1, s, h0, hG, h => by
    by_cases q : s.2.2 = 0 ∧ isW c L 1 s.1
    · have e : pDs c L (n + 1) s = pDs c L n (pDesk c L s) := if_pos q
      rw [e] at h ⊢
      by_cases w : (pDesk c L s).2.2 = 0
      · have k := pDesk_e (c := c) (L := L) (f := s.1) hG (by rw [ps_eta h0]; exact w)
        rw [ps_eta h0] at k
        obtain ⟨a, b, d⟩ := pDs_e (n := n) w k.1 h
        exact ⟨a, by omega, by omega⟩
      · rw [pDs_f (fun z => w z.1)] at h
        exact absurd h w
    · have e : pDs c L (n + 1) s = s := if_neg q
      rw [e]
      exact ⟨hG, Int.le_refl _, rfl⟩
theorem pA2_e {c : Int → Int} {L : Int} {s : Ps} (h0 : s.2.2 = 0) (hG : GD s.2.1) (hF : s.2.1 0 = 0) (h : (pA2 c L s).2.2 = 0) : GD (pA2 c L s).2.1 ∧ 1 ≤ (pA2 c L s).2.1 0 ∧ (pA2 c L s).2.1 1 = s.2.1 1 := by
  by_cases w : isW c L 1 s.1
  · have e : pA2 c L s = pDs c L (5 : Int).toNat s := (if_pos h0).trans (if_pos w)
    have e2 : pDs c L (5 : Int).toNat s = pDs c L 4 (pDesk c L s) := if_pos ⟨h0, w⟩
    rw [e, e2] at h ⊢
    by_cases q : (pDesk c L s).2.2 = 0
    · have k := pDesk_e (c := c) (L := L) (f := s.1) hG (by rw [ps_eta h0]; exact q)
      rw [ps_eta h0] at k
      obtain ⟨a, b, d⟩ := pDs_e (n := 4) q k.1 h
      exact ⟨a, by omega, by omega⟩
    · rw [pDs_f (fun z => q z.1)] at h
      exact absurd h q
  · have e : pA2 c L s = (s.1, s.2.1, 1) := (if_pos h0).trans (if_neg w)
    rw [e] at h
    exact absurd (show (1 : Int) = 0 from h) (by decide)
theorem pSh_e {c : Int → Int} {L : Int} : ∀ {n : Nat} {s : Ps}, s.2.2 = 0 → GD s.2.1 → s.2.1 1 ≤ 12 → (pSh c L n s).2.2 = 0 → GD (pSh c L n s).2.1 ∧ (pSh c L n s).2.1 0 = s.2.1 0
  | 0, s, _, hG, _, _ => ⟨hG, rfl⟩
  | n + 1, s, h0, hG, h1, h => by
    by_cases q : s.2.2 = 0 ∧ isW c L 2 s.1
    · have e : pSh c L (n + 1) s = pSh c L n (pSheet c L s) := if_pos q
      rw [e] at h ⊢
      by_cases w : (pSheet c L s).2.2 = 0
      · have k := pSheet_e (c := c) (L := L) (f := s.1) hG h1 (by rw [ps_eta h0]; exact w)
        rw [ps_eta h0] at k
        by_cases h12 : s.2.1 1 = 12
        · have := pSheet_12 (c := c) (L := L) (f := s.1) h12
          rw [ps_eta h0] at this
          rw [this] at w
          exact absurd (show (3 : Int) = 0 from w) (by decide)
        · obtain ⟨a, b⟩ := pSh_e (n := n) w k.1 (by omega) h
          exact ⟨a, by omega⟩
      · rw [pSh_f (fun z => w z.1)] at h
        exact absurd h w
    · have e : pSh c L (n + 1) s = s := if_neg q
      rw [e]
      exact ⟨hG, rfl⟩
theorem pA2_x {c : Int → Int} {L : Int} {s : Ps} (h : ¬ s.2.2 = 0) : pA2 c L s = s := if_neg h
theorem pA3_x {c : Int → Int} {L : Int} {s : Ps} (h : ¬ s.2.2 = 0) : pA3 c L s = s := if_neg (fun q => h q.1)
theorem pA3_t {c : Int → Int} {L : Int} {s : Ps} (h : tkK c L s.1 = 0) : pA3 c L s = s := if_neg (fun q => q.2 h)
theorem pA3_f {c : Int → Int} {L : Int} {s : Ps} (h0 : s.2.2 = 0) (h : ¬ tkK c L s.1 = 0) : pA3 c L s = (s.1, s.2.1, 1) := if_pos ⟨h0, h⟩
theorem pA3_e {c : Int → Int} {L : Int} {s : Ps} (h : (pA3 c L s).2.2 = 0) : s.2.2 = 0 ∧ pA3 c L s = s := by
  by_cases h0 : s.2.2 = 0
  · by_cases k : tkK c L s.1 = 0
    · exact ⟨h0, pA3_t k⟩
    · rw [pA3_f h0 k] at h
      exact absurd (show (1 : Int) = 0 from h) (by decide)
  · rw [pA3_x h0] at h
    exact absurd h h0
theorem pAll_1 {c : Int → Int} {L : Int} (h : ¬ (pA1 c L).2.2 = 0) : pAll c L = pA1 c L := by
  unfold pAll
  rw [pA2_x h, pSh_f (fun q => h q.1), pA3_x h]
theorem pAll_2 {c : Int → Int} {L : Int} (h : ¬ (pA2 c L (pA1 c L)).2.2 = 0) : pAll c L = pA2 c L (pA1 c L) := by
  unfold pAll
  rw [pSh_f (fun q => h q.1), pA3_x h]
/-- what a tape that is an office gives -/
theorem pAll_e {c : Int → Int} {L : Int} (h : (pAll c L).2.2 = 0) : GD (pAll c L).2.1 ∧ 1 ≤ (pAll c L).2.1 0 := by
  obtain ⟨h1, e1⟩ := pA3_e h
  have h2 : (pA2 c L (pA1 c L)).2.2 = 0 := Classical.byContradiction fun q => by
    rw [pSh_f (fun z => q z.1)] at h1
    exact q h1
  have h3 : (pA1 c L).2.2 = 0 := Classical.byContradiction fun q => by
    rw [pA2_x q] at h2
    exact q h2
  obtain ⟨g1, g2, g3, _⟩ := pWind_F h3
  obtain ⟨k1, k2, k3⟩ := pA2_e h3 g1 g2 h2
  have h4 : (pA2 c L (pA1 c L)).2.1 1 = 0 := k3.trans g3
  obtain ⟨m1, m2⟩ := pSh_e h2 k1 (by omega) h1
  unfold pAll
  rw [e1]
  exact ⟨m1, by omega⟩
theorem clr_0 {I : HD} {h : Nat} {j : Int} (q : j = 8 ∨ j = 9 ∨ j = 10 ∨ j = 11) : up (up (up (up I h 8 0) h 9 0) h 10 0) h 11 0 h j = 0 := by
  rcases q with rfl | rfl | rfl | rfl
  · rw [up_i (by decide), up_i (by decide), up_i (by decide), up_s]
  · rw [up_i (by decide), up_i (by decide), up_s]
  · rw [up_i (by decide), up_s]
  · rw [up_s]
theorem RepC.w0 {F : OF} {J : HD} {o : Nat} (hG : GD F) (h0 : F 0 = 0) (h1 : F 1 = 0) (e : ∀ j, (j = 8 ∨ j = 9 ∨ j = 10 ∨ j = 11) → J (oH o) j = 0) (w : ∀ j, 0 ≤ j → j < 12 → J (oH o + 1) j = F (3 + j)) : RepC F J o := by
  refine ⟨⟨by rw [e 8 (by omega), h0], by rw [e 9 (by omega), h1], by rw [e 10 (by omega), hG.2.1]⟩, w, fun d a b => by omega, fun d k a b => by omega, fun p a b => by omega, ?_⟩
  rw [e 11 (by omega)]
  exact bs_0 fun p a _ q => by have := q.1; omega
