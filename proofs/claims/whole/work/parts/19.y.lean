/-! ===== acts ===== -/
theorem Val.c {O O2 : OF} (h : Val O) (e : ∀ k, 0 ≤ k → k < 127 → O2 k = O k) : Val O2 := by
  have a := h.a
  have e0 := e 0 (by omega) (by omega)
  have e1 := e 1 (by omega) (by omega)
  have e2 := e 2 (by omega) (by omega)
  have hh : ∀ d, 0 ≤ d → d < O2 0 → O2 (23 + 10 * d) = O (23 + 10 * d) := fun d x y => e _ (by omega) (by omega)
  refine ⟨by rw [e0, e1, e2]; exact a, fun q x y => ?_, fun d x y => ?_, fun d k x y z w => ?_, fun p x y => ?_, fun d k d2 k2 a1 a2 a3 a4 b1 b2 b3 b4 c => ?_⟩
  · rw [e _ (by omega) (by omega)]; exact h.w x y
  · rw [hh d x y, e _ (by omega) (by omega), e (16 + 2 * d) (by omega) (by omega)]
    exact h.d x (by omega)
  · rw [hh d x y] at w
    have vd := h.d x (by omega)
    rw [e _ (by omega) (by omega), e1]
    exact h.k x (by omega) z w
  · rw [e _ (by omega) (by omega), e (64 + 4 * p) (by omega) (by omega), e (65 + 4 * p) (by omega) (by omega), e (66 + 4 * p) (by omega) (by omega)]
    exact h.p x (by omega)
  · rw [hh d a1 a2] at a4
    rw [hh d2 b1 b2] at b4
    have vd := h.d a1 (by omega)
    have vd2 := h.d b1 (by omega)
    rw [e _ (by omega) (by omega), e (24 + 10 * d2 + k2) (by omega) (by omega)] at c
    exact h.u a1 (by omega) a3 a4 b1 (by omega) b3 b4 c
theorem RepC.c {O O2 : OF} {I : HD} {o : Nat} (hV : Val O) (h : RepC O I o) (e : ∀ k, 0 ≤ k → k < 127 → O2 k = O k) : RepC O2 I o := by
  have a := hV.a
  have e0 := e 0 (by omega) (by omega)
  have e1 := e 1 (by omega) (by omega)
  refine ⟨⟨h.f0.trans e0.symm, h.f1.trans e1.symm, h.f2.trans (e 2 (by omega) (by omega)).symm⟩, fun q x y => (h.wind x y).trans (e _ (by omega) (by omega)).symm, fun d x y => ?_, fun d k x y z w => ?_, fun p x y => ?_, ?_⟩
  · rw [e0] at y
    exact ⟨(h.room x y).trans (e _ (by omega) (by omega)).symm, (h.ston x y).trans (e _ (by omega) (by omega)).symm, (h.hgt x y).trans (e _ (by omega) (by omega)).symm⟩
  · rw [e0] at y
    rw [e _ (by omega) (by omega)] at w
    have vd := hV.d x y
    exact (h.pile x y z w).trans (e _ (by omega) (by omega)).symm
  · rw [e1] at y
    exact ⟨(h.sort x y).trans (e _ (by omega) (by omega)).symm, (h.wrth x y).trans (e _ (by omega) (by omega)).symm, (h.need x y).trans (e _ (by omega) (by omega)).symm⟩
  · rw [h.met, e1]
    exact bs_c' fun p x y => by rw [e (66 + 4 * p) (by omega) (by omega)]
def kpS (S : HD) : HD := up (upA S 36 (kpW (S 36) (S 34) (S 30 9))) 30 9 (kpN (S 30 9))
theorem kpS_9 {S : HD} : kpS S 30 9 = kpN (S 30 9) := up_s
theorem kpS_36 {S : HD} : kpS S 36 = kpW (S 36) (S 34) (S 30 9) := by unfold kpS; rw [up_row (by decide), upA_s]
theorem RB.keep {S I J : HD} (hA : RA S I) (hB : RB S I) (hp : 0 < S 34 0) (h1 : J 21 1 = if S 30 9 = 24 then (I 21 1 + 1) % 24 else I 21 1) (h2 : J 21 2 = kpN (S 30 9)) (hc : ofC I J 0 (slotO I (S 30 9))) (hf : ∀ a, 81 ≤ a → a < 297 → (a < oH (slotO I (S 30 9)) ∨ oH (slotO I (S 30 9)) + 9 ≤ a) → J a = I a) : RB (kpS S) J := by
  obtain ⟨b1, b2, b3, b4, b5, b6⟩ := hB
  obtain ⟨a1, a2, _⟩ := hA
  have hV : Val (S 34) := a1
  have oe : ∀ x, oH x = 45 + 9 * x := fun _ => rfl
  have hbl : ∀ (W : Int → Int) (n k : Int), 0 ≤ k → k < 127 → blk W (S 34) n 127 (127 * n + k) = S 34 k := fun W n k x y => by
    unfold blk
    rw [if_pos (by omega), show 127 * n + k - 127 * n = k by omega]
  have hnew : RepC (S 34) J (slotO I (S 30 9)) := RepC.of hV a2 hc
  unfold RB
  rw [kpS_9, h2]
  by_cases e : S 30 9 = 24
  · rw [if_pos e] at h1
    rw [show kpN (S 30 9) = 24 by unfold kpN; rw [if_pos e]]
    refine ⟨by omega, by omega, rfl, by omega, by omega, fun j x y => ?_⟩
    have hw : wasO (kpS S) j = fun k => blk (sh127 (S 36) 2921) (S 34) 23 127 (127 * j + k) := by
      unfold wasO
      rw [kpS_36, show kpW (S 36) (S 34) (S 30 9) = blk (sh127 (S 36) 2921) (S 34) 23 127 by unfold kpW; rw [if_pos e]]
    rw [hw]
    by_cases q : j = 23
    · subst q
      have hs : slotO J 23 = slotO I (S 30 9) := by unfold slotO; rw [h1, e]; omega
      rw [hs]
      have ec : ∀ k, 0 ≤ k → k < 127 → (fun k => blk (sh127 (S 36) 2921) (S 34) 23 127 (127 * 23 + k)) k = S 34 k := fun k u v => hbl _ 23 k u v
      exact ⟨hV.c ec, by rw [ec 0 (by omega) (by omega)]; exact hp, hnew.c hV ec⟩
    · have hs : slotO J j = slotO I (j + 1) := by unfold slotO; rw [h1]; omega
      obtain ⟨c1, c2, c3⟩ := b6 (j + 1) (by omega) (by omega)
      have ec : ∀ k, 0 ≤ k → k < 127 → (fun k => blk (sh127 (S 36) 2921) (S 34) 23 127 (127 * j + k)) k = wasO S (j + 1) k := fun k u v => by
        show blk (sh127 (S 36) 2921) (S 34) 23 127 (127 * j + k) = S 36 (127 * (j + 1) + k)
        unfold blk sh127
        rw [if_neg (by omega), if_pos (by omega)]
        congr 1
        omega
      rw [hs]
      refine ⟨c1.c ec, by rw [ec 0 (by omega) (by omega)]; exact c2, (c3.fr (fun a u v => hf a ?_ ?_ ?_)).c c1 ec⟩
      · rw [oe] at u; unfold slotO at u; omega
      · rw [oe] at v; unfold slotO at v; omega
      · rw [oe] at u v ⊢; unfold slotO at u v ⊢; rw [e]; omega
  · rw [if_neg e] at h1
    have hN : kpN (S 30 9) = S 30 9 + 1 := by unfold kpN; rw [if_neg e]
    rw [hN]
    refine ⟨by omega, by omega, rfl, by omega, by omega, fun j x y => ?_⟩
    have hw : wasO (kpS S) j = fun k => blk (S 36) (S 34) (S 30 9) 127 (127 * j + k) := by
      unfold wasO
      rw [kpS_36, show kpW (S 36) (S 34) (S 30 9) = blk (S 36) (S 34) (S 30 9) 127 by unfold kpW; rw [if_neg e]]
    rw [hw]
    have hs : slotO J j = slotO I j := by unfold slotO; rw [h1]
    rw [hs]
    by_cases q : j = S 30 9
    · have ec : ∀ k, 0 ≤ k → k < 127 → (fun k => blk (S 36) (S 34) (S 30 9) 127 (127 * j + k)) k = S 34 k := fun k u v => by rw [q]; exact hbl _ _ k u v
      rw [show slotO I j = slotO I (S 30 9) by rw [q]]
      exact ⟨hV.c ec, by rw [ec 0 (by omega) (by omega)]; exact hp, hnew.c hV ec⟩
    · obtain ⟨c1, c2, c3⟩ := b6 j x (by omega)
      have ec : ∀ k, 0 ≤ k → k < 127 → (fun k => blk (S 36) (S 34) (S 30 9) 127 (127 * j + k)) k = wasO S j k := fun k u v => by
        show blk (S 36) (S 34) (S 30 9) 127 (127 * j + k) = S 36 (127 * j + k)
        unfold blk
        rw [if_neg (by omega)]
      refine ⟨c1.c ec, by rw [ec 0 (by omega) (by omega)]; exact c2, (c3.fr (fun a u v => hf a ?_ ?_ ?_)).c c1 ec⟩
      · rw [oe] at u; unfold slotO at u; omega
      · rw [oe] at v; unfold slotO at v; omega
      · rw [oe] at u v ⊢; unfold slotO at u v ⊢; omega
/-- an office with one more, one less -/
theorem Val.come {O : OF} {d p : Int} (hV : Val O) (h0 : 0 ≤ d) (h1 : d < O 0) (hr : O (23 + 10 * d) < O (15 + 2 * d)) (hp0 : 0 ≤ p) (hp1 : p < O 1) (hn : ∀ e k, 0 ≤ e → e < O 0 → 0 ≤ k → k < O (23 + 10 * e) → ¬ O (24 + 10 * e + k) = p) : Val (cmO O d p) := by
  have v := hV.a
  have vd := hV.d h0 h1
  have hk : ∀ k, (k < 23 ∨ 63 ≤ k) → cmO O d p k = O k := fun k q => by unfold cmO; rw [if_neg (by omega), if_neg (by omega)]
  have hk2 : ∀ e, e ≠ d → 0 ≤ e → e < 4 → cmO O d p (23 + 10 * e) = O (23 + 10 * e) := fun e q a b => by unfold cmO; rw [if_neg (by omega), if_neg (by omega)]
  have hk3 : cmO O d p (23 + 10 * d) = O (23 + 10 * d) + 1 := by unfold cmO; rw [if_neg (by omega), if_pos rfl]
  have hk4 : ∀ e k, 0 ≤ e → e < O 0 → 0 ≤ k → k < cmO O d p (23 + 10 * e) → (e = d ∧ k = O (23 + 10 * d) ∧ cmO O d p (24 + 10 * e + k) = p) ∨ (k < O (23 + 10 * e) ∧ cmO O d p (24 + 10 * e + k) = O (24 + 10 * e + k)) := by
    intro e k a b c f
    have ve := hV.d a b
    by_cases q : e = d
    · subst q
      rw [hk3] at f
      by_cases z : k = O (23 + 10 * e)
      · exact Or.inl ⟨rfl, z, by rw [z]; unfold cmO; rw [if_pos rfl]⟩
      · exact Or.inr ⟨by omega, by unfold cmO; rw [if_neg (by omega), if_neg (by omega)]⟩
    · rw [hk2 e q a (by omega)] at f
      exact Or.inr ⟨f, by unfold cmO; rw [if_neg (by omega), if_neg (by omega)]⟩
  have e0 := hk 0 (by omega)
  have e1 := hk 1 (by omega)
  refine ⟨by rw [e0, e1, hk 2 (by omega)]; exact v, fun q a b => by rw [hk _ (by omega)]; exact hV.w a b, fun e a b => ?_, fun e k a b c f => ?_, fun p2 a b => ?_, fun e k e2 k2 a b c f a2 b2 c2 f2 g => ?_⟩
  · rw [e0] at b
    have ve := hV.d a b
    rw [hk _ (by omega), hk (16 + 2 * e) (by omega)]
    by_cases q : e = d
    · subst q; rw [hk3]; omega
    · rw [hk2 e q a (by omega)]; exact ve
  · rw [e0] at b
    rw [e1]
    rcases hk4 e k a b c f with ⟨_, _, z⟩ | ⟨z, y⟩
    · rw [z]; exact ⟨hp0, hp1⟩
    · rw [y]; exact hV.k a b c z
  · rw [e1] at b
    rw [hk _ (by omega), hk (64 + 4 * p2) (by omega), hk (65 + 4 * p2) (by omega), hk (66 + 4 * p2) (by omega)]
    exact hV.p a b
  · rw [e0] at b b2
    rcases hk4 e k a b c f with ⟨x, y, z⟩ | ⟨y, z⟩
    · rcases hk4 e2 k2 a2 b2 c2 f2 with ⟨x2, y2, z2⟩ | ⟨y2, z2⟩
      · exact ⟨by omega, by omega⟩
      · rw [z, z2] at g
        exact absurd g.symm (hn e2 k2 a2 b2 c2 y2)
    · rcases hk4 e2 k2 a2 b2 c2 f2 with ⟨x2, y2, z2⟩ | ⟨y2, z2⟩
      · rw [z, z2] at g
        exact absurd g (hn e k a b c y)
      · rw [z, z2] at g
        exact hV.u a b c y a2 b2 c2 y2 g
theorem Val.leave {O : OF} {d z : Int} (hV : Val O) (h0 : 0 ≤ d) (h1 : d < O 0) (hz0 : 0 ≤ z) (hz1 : z < O (23 + 10 * d)) : Val (lvO O d z) ∧ (∀ e k, 0 ≤ e → e < O 0 → 0 ≤ k → k < lvO O d z (23 + 10 * e) → ¬ lvO O d z (24 + 10 * e + k) = O (24 + 10 * d + z)) := by
  have v := hV.a
  have vd := hV.d h0 h1
  have hk : ∀ k, (k < 23 ∨ 63 ≤ k) → lvO O d z k = O k := fun k q => by unfold lvO; rw [if_neg (by omega), if_neg (by omega)]
  have hk2 : ∀ e, e ≠ d → 0 ≤ e → e < 4 → lvO O d z (23 + 10 * e) = O (23 + 10 * e) := fun e q a b => by unfold lvO; rw [if_neg (by omega), if_neg (by omega)]
  have hk3 : lvO O d z (23 + 10 * d) = O (23 + 10 * d) - 1 := by unfold lvO; rw [if_neg (by omega), if_pos rfl]
  have hk4 : ∀ e k, 0 ≤ e → e < O 0 → 0 ≤ k → k < lvO O d z (23 + 10 * e) → ∃ k2, 0 ≤ k2 ∧ k2 < O (23 + 10 * e) ∧ lvO O d z (24 + 10 * e + k) = O (24 + 10 * e + k2) ∧ (k2 = if e = d ∧ z ≤ k then k + 1 else k) := by
    intro e k a b c f
    have ve := hV.d a b
    by_cases q : e = d
    · subst q
      rw [hk3] at f
      by_cases y : z ≤ k
      · refine ⟨k + 1, by omega, by omega, ?_, by rw [if_pos ⟨rfl, y⟩]⟩
        unfold lvO
        rw [if_pos (by omega)]
        congr 1
        omega
      · refine ⟨k, c, by omega, ?_, by rw [if_neg (by omega)]⟩
        unfold lvO
        rw [if_neg (by omega), if_neg (by omega)]
    · rw [hk2 e q a (by omega)] at f
      refine ⟨k, c, f, ?_, by rw [if_neg (by omega)]⟩
      unfold lvO
      rw [if_neg (by omega), if_neg (by omega)]
  have e0 := hk 0 (by omega)
  have e1 := hk 1 (by omega)
  refine ⟨⟨by rw [e0, e1, hk 2 (by omega)]; exact v, fun q a b => by rw [hk _ (by omega)]; exact hV.w a b, fun e a b => ?_, fun e k a b c f => ?_, fun p2 a b => ?_, fun e k e2 k2 a b c f a2 b2 c2 f2 g => ?_⟩, fun e k a b c f g => ?_⟩
  · rw [e0] at b
    have ve := hV.d a b
    rw [hk _ (by omega), hk (16 + 2 * e) (by omega)]
    by_cases q : e = d
    · subst q; rw [hk3]; omega
    · rw [hk2 e q a (by omega)]; exact ve
  · rw [e0] at b
    rw [e1]
    obtain ⟨y, y0, y1, y2, _⟩ := hk4 e k a b c f
    rw [y2]; exact hV.k a b y0 y1
  · rw [e1] at b
    rw [hk _ (by omega), hk (64 + 4 * p2) (by omega), hk (65 + 4 * p2) (by omega), hk (66 + 4 * p2) (by omega)]
    exact hV.p a b
  · rw [e0] at b b2
    obtain ⟨y, y0, y1, y2, y3⟩ := hk4 e k a b c f
    obtain ⟨x, x0, x1, x2, x3⟩ := hk4 e2 k2 a2 b2 c2 f2
    rw [y2, x2] at g
    obtain ⟨g1, g2⟩ := hV.u a b y0 y1 a2 b2 x0 x1 g
    refine ⟨g1, ?_⟩
    subst g1
    split at y3 <;> split at x3 <;> omega
  · obtain ⟨y, y0, y1, y2, y3⟩ := hk4 e k a b c f
    rw [y2] at g
    obtain ⟨g1, g2⟩ := hV.u a b y0 y1 h0 h1 hz0 hz1 g
    split at y3 <;> omega
