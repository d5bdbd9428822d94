/-! ===== office, side by side ===== -/
theorem bgS_ok {c : Int → Int} {L k m : Int} {s : Ps} (h : okS_ L s) : okS_ L (bgS c L k m s) := by
  unfold bgS
  split
  · exact ⟨h.1, h.2.1, (show (0 : Int) ≤ 3 by decide), (show (3 : Int) ≤ 3 by decide)⟩
  · have := nxt_r (c := c) h.2.1
    exact ⟨(show 0 ≤ nxt c L s.1 by have := h.1; omega), this.2, (show (0 : Int) ≤ 0 by decide), (show (0 : Int) ≤ 3 by decide)⟩
theorem okS_.z {L : Int} {s : Ps} {F : OF} (h : okS_ L s) : okS_ L (s.1, F, 0) := ⟨h.1, h.2.1, (show (0 : Int) ≤ 0 by decide), (show (0 : Int) ≤ 3 by decide)⟩
theorem pDesk_ok {c : Int → Int} {L : Int} {s : Ps} (h0 : s.2.2 = 0) (h : okS_ L s) : okS_ L (pDesk c L s) := by
  have e := pDesk_m (c := c) (L := L) (f := s.1) (F := s.2.1)
  rw [ps_eta h0] at e
  have g : okS_ L (pSm c L (pNm c L 0 3 (pNm c L 1 9 (bgS c L 0 4 s)))) := pMu_ok (pNm_ok (pNm_ok (bgS_ok h)))
  rw [e]
  split
  · exact g.z
  · exact g
theorem pDs_ok {c : Int → Int} {L : Int} : ∀ {n : Nat} {s : Ps}, okS_ L s → okS_ L (pDs c L n s)
  | 0, _, h => h
  | n + 1, s, h => by
    show okS_ L (@ite Ps (s.2.2 = 0 ∧ isW c L 1 s.1) (Classical.propDecidable _) (pDs c L n (pDesk c L s)) s)
    split
    · rename_i q
      exact pDs_ok (pDesk_ok q.1 h)
    · exact h
theorem shA_ok {c : Int → Int} {L : Int} {s : Ps} (h : okS_ L s) : okS_ L (shA c L s) := by
  unfold shA
  split
  · exact ⟨h.1, h.2.1, (show (0 : Int) ≤ 2 by decide), (show (2 : Int) ≤ 3 by decide)⟩
  · exact h
theorem pSb_ok {c : Int → Int} {L : Int} {s : Ps} (h : okS_ L s) : okS_ L (pSb c L s) := pMu_ok (pNm_ok (pNm_ok (pNm_ok h)))
theorem pSheet_ok {c : Int → Int} {L : Int} {s : Ps} (h0 : s.2.2 = 0) (h : okS_ L s) : okS_ L (pSheet c L s) := by
  have e := pSheet_m (c := c) (L := L) (f := s.1) (F := s.2.1)
  rw [ps_eta h0] at e
  have g : okS_ L (pSb c L (shA c L (shK c L s.1 s.2.1))) := pSb_ok (shA_ok (pMu_ok (bgS_ok (by rw [ps_eta h0]; exact h))))
  rw [e]
  split
  · exact g.z
  · exact g
theorem pSh_ok {c : Int → Int} {L : Int} : ∀ {n : Nat} {s : Ps}, okS_ L s → okS_ L (pSh c L n s)
  | 0, _, h => h
  | n + 1, s, h => by
    show okS_ L (@ite Ps (s.2.2 = 0 ∧ isW c L 2 s.1) (Classical.propDecidable _) (pSh c L n (pSheet c L s)) s)
    split
    · rename_i q
      exact pSh_ok (pSheet_ok q.1 h)
    · exact h
theorem pAll_ok {c : Int → Int} {L : Int} (L0 : 0 ≤ L) : okS_ L (pAll c L) := by
  have hr := tkF_r (c := c) (L := L) (p := 0) L0
  have h1 : okS_ L (pA1 c L) := pMu_ok (pWq_ok (pMu_ok ⟨(show 0 ≤ tkF c L 0 by omega), hr.2, (show (0 : Int) ≤ 0 by decide), (show (0 : Int) ≤ 3 by decide)⟩) _)
  have h2 : okS_ L (pA2 c L (pA1 c L)) := by
    unfold pA2
    split
    · split
      · exact pDs_ok h1
      · exact ⟨h1.1, h1.2.1, (show (0 : Int) ≤ 1 by decide), (show (1 : Int) ≤ 3 by decide)⟩
    · exact h1
  have h3 := pSh_ok (c := c) (n := (13 : Int).toNat) h2
  unfold pAll pA3
  split
  · exact ⟨h3.1, h3.2.1, (show (0 : Int) ≤ 1 by decide), (show (1 : Int) ≤ 3 by decide)⟩
  · exact h3
/-- one call of both, whose answer is not known ahead -/
def Pair2 (X : XC) (mx mm : MR) (av : List Value) : Prop := ∀ I : HD, RC I I → ∃ (D D2 : Nat), D < 40 ∧ D2 < 40 ∧ Cl X D mx (rv X 0 :: av) I (fun r J => ∃ z, r = some (iv z) ∧ Cl X D2 mm (rv X 30 :: av) J (fun r2 J2 => r2 = some (iv z) ∧ RC J2 J2))
theorem Pair.to2 {X : XC} {mx mm : MR} {av : List Value} (h : Pair X mx mm av) : Pair2 X mx mm av := fun I hI => by
  obtain ⟨z, D, D2, a, b, c⟩ := h I hI
  exact ⟨D, D2, a, b, c.mono fun r J q => ⟨z, q.1, q.2⟩⟩
theorem pr_office {X : XC} : Pair2 X mX8_office mX9_office [] := by
  intro I hI
  obtain ⟨f1, f2, f3, f4⟩ := id hI.2.2.2.2.1
  have hT : TC I (I 37) (I 30 11) := ⟨f1, f2, f3, fun k a b => ⟨(f4 k a b).1, (f4 k a b).2.1, (f4 k a b).2.2⟩⟩
  have hok := pAll_ok (c := I 37) (L := I 30 11) f2
  have oe : ∀ x, oH x = 45 + 9 * x := fun _ => rfl
  refine ⟨9, 5, by decide, by decide, (kX8_office X hT).mono fun r J h => ?_⟩
  obtain ⟨j0, jf, jt⟩ := h
  by_cases e : (pAll (I 37) (I 30 11)).2.2 = 0
  · obtain ⟨rfl, R, q1, q2, q3⟩ := jt e
    refine ⟨_, rfl, (kX9_office X (I := J) (c := I 37) (L := I 30 11) (by rw [q3 30 (by decide) (by decide) (by decide) (by omega)]) f2 f3 (fun k a b => ⟨(f4 k a b).1, (f4 k a b).2.1, by rw [q3 37 (by decide) (by decide) (by decide) (by omega)]⟩)).mono fun r J2 h => ?_⟩
    obtain ⟨k0, kf, kt⟩ := h
    obtain ⟨rfl, t1, t2, t3, t4, t5⟩ := kt e
    refine ⟨rfl, ?_⟩
    obtain ⟨hG, hF1⟩ := pAll_e e
    have rw_ : ∀ a, a ≠ 18 → a ≠ 19 → a ≠ 21 → a ≠ 30 → a ≠ 34 → a ≠ 35 → (a < 45 ∨ 63 ≤ a) → J2 a = I a := fun a x1 x2 x3 x4 x5 x6 y => (t5 a x4 x5 x6).trans (q3 a x1 x2 x3 y)
    have r30 : ∀ j, (j = 1 ∨ j = 12 ∨ j = 27) → J2 30 j = I 30 j := fun j q => (t3 j q).trans (congrFun (q3 30 (by decide) (by decide) (by decide) (by omega)) _)
    have hp : 0 < J2 34 0 := by rw [t4 0 (by omega) (by omega)]; omega
    have r21 : J2 21 = J 21 := t5 21 (by decide) (by decide) (by decide)
    obtain ⟨hA, hB, c, d, e5, f, g, n⟩ := hI
    refine ⟨⟨hG.1.c t4, (R.c hG.1 t4).fr (fun a x y => t5 a (by rw [oe] at x; omega) (by rw [oe] at x; omega) (by rw [oe] at x; omega)), ?_⟩, ?_, c.cg (rw_ 42 (by decide) (by decide) (by decide) (by decide) (by decide) (by decide) (by omega)) (rw_ 43 (by decide) (by decide) (by decide) (by decide) (by decide) (by decide) (by omega)) (fun a x y => rw_ a (by omega) (by omega) (by omega) (by omega) (by omega) (by omega) (by omega)),
      d.cg (rw_ 31 (by decide) (by decide) (by decide) (by decide) (by decide) (by decide) (by omega)) (rw_ 32 (by decide) (by decide) (by decide) (by decide) (by decide) (by decide) (by omega)) (rw_ 33 (by decide) (by decide) (by decide) (by decide) (by decide) (by decide) (by omega)) (fun a x y => rw_ a (by omega) (by omega) (by omega) (by omega) (by omega) (by omega) (by omega)), ?_,
      f.cg (r30 12 (by omega)) (r30 1 (by omega)) (rw_ 0 (by decide) (by decide) (by decide) (by decide) (by decide) (by decide) (by omega)),
      g.cg (rw_ 44 (by decide) (by decide) (by decide) (by decide) (by decide) (by decide) (by omega)) (r30 27 (by omega)) (rw_ 28 (by decide) (by decide) (by decide) (by decide) (by decide) (by decide) (by omega)) (rw_ 29 (by decide) (by decide) (by decide) (by decide) (by decide) (by decide) (by omega)), fun _ => hp⟩
    · rw [t1, bI_t hp]
    · unfold RB
      rw [t2, r21, q1, q2]
      exact ⟨by omega, by omega, rfl, by omega, by omega, fun j x y => by omega⟩
    · unfold RF
      rw [k0, t5 19 (by decide) (by decide) (by decide), j0]
      exact ⟨rfl, by omega, by omega, fun k x y => by omega⟩
  · obtain ⟨rfl, q1, q2, q3⟩ := jf e
    refine ⟨_, rfl, (kX9_office X (I := J) (c := I 37) (L := I 30 11) (by rw [q3 30 (by decide) (by decide) (by decide) (by omega)]) f2 f3 (fun k a b => ⟨(f4 k a b).1, (f4 k a b).2.1, by rw [q3 37 (by decide) (by decide) (by decide) (by omega)]⟩)).mono fun r J2 h => ?_⟩
    obtain ⟨k0, kf, kt⟩ := h
    obtain ⟨rfl, t1, t2, t3⟩ := kf e
    refine ⟨rfl, ?_⟩
    have rw_ : ∀ a, a ≠ 0 → a ≠ 18 → a ≠ 19 → a ≠ 30 → a ≠ 35 → (a < 54 ∨ 63 ≤ a) → J2 a = I a := fun a x1 x2 x3 x4 x5 y => (t3 a x4 x5).trans (q3 a x1 x2 x3 y)
    have r30 : ∀ j, (j = 1 ∨ j = 7 ∨ j = 9 ∨ j = 27) → J2 30 j = I 30 j := fun j q => (t2 j q).trans (congrFun (q3 30 (by decide) (by decide) (by decide) (by omega)) _)
    obtain ⟨a, b, c, d, e5, f, g, n⟩ := hI
    refine ⟨a.cg (rw_ 34 (by decide) (by decide) (by decide) (by decide) (by decide) (by omega)) (r30 7 (by omega)) (fun x p q => rw_ x (by omega) (by omega) (by omega) (by omega) (by omega) (by omega)),
      b.cg (rw_ 36 (by decide) (by decide) (by decide) (by decide) (by decide) (by omega)) (r30 9 (by omega)) (rw_ 21 (by decide) (by decide) (by decide) (by decide) (by decide) (by omega)) (fun x p q => rw_ x (by omega) (by omega) (by omega) (by omega) (by omega) (by omega)),
      c.cg (rw_ 42 (by decide) (by decide) (by decide) (by decide) (by decide) (by omega)) (rw_ 43 (by decide) (by decide) (by decide) (by decide) (by decide) (by omega)) (fun x p q => rw_ x (by omega) (by omega) (by omega) (by omega) (by omega) (by omega)),
      d.cg (rw_ 31 (by decide) (by decide) (by decide) (by decide) (by decide) (by omega)) (rw_ 32 (by decide) (by decide) (by decide) (by decide) (by decide) (by omega)) (rw_ 33 (by decide) (by decide) (by decide) (by decide) (by decide) (by omega)) (fun x p q => rw_ x (by omega) (by omega) (by omega) (by omega) (by omega) (by omega)), ?_, ?_,
      g.cg (rw_ 44 (by decide) (by decide) (by decide) (by decide) (by decide) (by omega)) (r30 27 (by omega)) (rw_ 28 (by decide) (by decide) (by decide) (by decide) (by decide) (by omega)) (rw_ 29 (by decide) (by decide) (by decide) (by decide) (by decide) (by omega)), ?_⟩
    · unfold RF
      rw [k0, t3 19 (by decide) (by decide), j0]
      exact ⟨rfl, by omega, by omega, fun k x y => by omega⟩
    · unfold RG
      have h3 := hok.2.2
      rw [t3 0 (by decide) (by decide), q1, t1, q2, r30 1 (by omega)]
      exact ⟨rfl, by unfold rg; omega, f.2.2.1, f.2.2.2⟩
    · unfold RN
      rw [r30 9 (by omega), rw_ 34 (by decide) (by decide) (by decide) (by decide) (by decide) (by omega), rw_ 42 (by decide) (by decide) (by decide) (by decide) (by decide) (by omega)]
      exact n
