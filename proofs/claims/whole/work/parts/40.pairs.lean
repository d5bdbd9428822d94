/-! ===== a call of both, side by side ===== -/
theorem Val.meet {O : OF} {p : Int} (hV : Val O) (hp0 : 0 ≤ p) (hp1 : p < O 1) : Val (fun k => if k = 66 + 4 * p then 1 else O k) := by
  have v := hV.a
  have e : ∀ k, k ≠ 66 + 4 * p → (fun k => if k = 66 + 4 * p then 1 else O k) k = O k := fun k q => if_neg q
  have e0 := e 0 (by omega)
  have e1 := e 1 (by omega)
  refine ⟨by rw [e0, e1, e 2 (by omega)]; exact v, fun q a b => by rw [e _ (by omega)]; exact hV.w a b, fun d a b => ?_, fun d k a b c f => ?_, fun p2 a b => ?_, fun d k d2 k2 a b c f a2 b2 c2 f2 g => ?_⟩
  · rw [e0] at b
    rw [e _ (by omega), e (16 + 2 * d) (by omega), e (23 + 10 * d) (by omega)]
    exact hV.d a b
  · rw [e0] at b
    rw [e _ (by omega)] at f
    have vd := hV.d a b
    rw [e _ (by omega), e1]
    exact hV.k a b c f
  · rw [e1] at b
    have vp := hV.p a b
    rw [e _ (by omega), e (64 + 4 * p2) (by omega), e (65 + 4 * p2) (by omega)]
    refine ⟨vp.1, vp.2.1, vp.2.2.1, vp.2.2.2.1, vp.2.2.2.2.1, vp.2.2.2.2.2.1, ?_⟩
    by_cases q : p2 = p
    · subst q
      rw [show (fun k => if k = 66 + 4 * p2 then 1 else O k) (66 + 4 * p2) = 1 from if_pos rfl]
      omega
    · rw [e _ (by omega)]; exact vp.2.2.2.2.2.2
  · rw [e0] at b b2
    rw [e _ (by omega)] at f f2
    have vd := hV.d a b
    have vd2 := hV.d a2 b2
    rw [e _ (by omega), e (24 + 10 * d2 + k2) (by omega)] at g
    exact hV.u a b c f a2 b2 c2 f2 g
/-- behind an act: the class's cells J, the reference's the same but what it kept and its office -/
theorem RC.act {I J : HD} {O2 : OF} (hI : RC I I) (hB : RB (kpS I) J) (hR : RepC O2 J 0) (hf : ∀ a, a ≠ 21 → (a < 45 ∨ (54 ≤ a ∧ a < 81)) → J a = I a) (hV : Val O2) (h0 : O2 0 = I 34 0) (hp : 0 < I 34 0) : RC (upA (kpS (up J 30 0 0)) 34 O2) (upA (kpS (up J 30 0 0)) 34 O2) := by
  obtain ⟨hA, _, c, d, e, f, g, n⟩ := hI
  have r : ∀ a, a ≠ 30 → a ≠ 34 → a ≠ 36 → upA (kpS (up J 30 0 0)) 34 O2 a = J a := fun a x y z => by rw [upA_h y, kpS_r x z, up_row x]
  have r30 : ∀ j, j ≠ 0 → j ≠ 9 → upA (kpS (up J 30 0 0)) 34 O2 30 j = I 30 j := fun j x y => by
    rw [upA_h (by decide), kpS_30 y, up_i x, hf 30 (by decide) (by omega)]
  have q : ∀ a, a ≠ 21 → a ≠ 30 → a ≠ 34 → a ≠ 36 → (a < 45 ∨ (54 ≤ a ∧ a < 81)) → upA (kpS (up J 30 0 0)) 34 O2 a = I a := fun a w x y z u => (r a x y z).trans (hf a w u)
  have oe : oH 0 = 45 := rfl
  refine ⟨⟨?_, ?_, ?_⟩, hB.cg ?_ ?_ (r 21 (by decide) (by decide) (by decide)) (fun a x y => r a (by omega) (by omega) (by omega)), c.cg (q 42 (by decide) (by decide) (by decide) (by decide) (by omega)) (q 43 (by decide) (by decide) (by decide) (by decide) (by omega)) (fun a x y => q a (by omega) (by omega) (by omega) (by omega) (by omega)), d.cg (q 31 (by decide) (by decide) (by decide) (by decide) (by omega)) (q 32 (by decide) (by decide) (by decide) (by decide) (by omega)) (q 33 (by decide) (by decide) (by decide) (by decide) (by omega)) (fun a x y => q a (by omega) (by omega) (by omega) (by omega) (by omega)),
    e.cg (q 37 (by decide) (by decide) (by decide) (by decide) (by omega)) (r30 11 (by decide) (by decide)) (q 19 (by decide) (by decide) (by decide) (by decide) (by omega)) (q 20 (by decide) (by decide) (by decide) (by decide) (by omega)),
    f.cg (r30 12 (by decide) (by decide)) (r30 1 (by decide) (by decide)) (q 0 (by decide) (by decide) (by decide) (by decide) (by omega)),
    g.cg (q 44 (by decide) (by decide) (by decide) (by decide) (by omega)) (r30 27 (by decide) (by decide)) (q 28 (by decide) (by decide) (by decide) (by decide) (by omega)) (q 29 (by decide) (by decide) (by decide) (by decide) (by omega)),
    fun _ => by rw [upA_s, h0]; exact hp⟩
  · rw [upA_s]; exact hV
  · rw [upA_s]; exact hR.fr (fun a x y => r a (by omega) (by omega) (by omega))
  · rw [upA_s, r30 7 (by decide) (by decide), hA.2.2, h0]
  · rw [upA_h (by decide), kpS_36, kpS_36, up_row (by decide), up_row (by decide), up_i (by decide), hf 36 (by decide) (by omega), hf 34 (by decide) (by omega), hf 30 (by decide) (by omega)]
  · rw [upA_h (by decide), kpS_9, kpS_9, up_i (by decide), hf 30 (by decide) (by omega)]
theorem pr_sheet {X : XC} {p w : Int} (hp : rg p) (hw : rg w) : Pair X mX8_sheet mX9_sheet [iv p, iv w] := Pair.rd (by decide) (by decide) fun _ h => ⟨_, kX8_sheet X h.1.2.1 h.1.1 hp hw, kX9_sheet X rfl h.1.1 hp hw⟩
theorem pr_kind {X : XC} {p : Int} (hp : rg p) : Pair X mX8_kind mX9_kind [iv p] := Pair.rd (by decide) (by decide) fun _ h => ⟨_, kX8_kind X h.1.2.1 h.1.1 hp, kX9_kind X rfl h.1.1 hp⟩
theorem pr_desk {X : XC} {d w : Int} (hd : rg d) (hw : rg w) : Pair X mX8_desk mX9_desk [iv d, iv w] := Pair.rd (by decide) (by decide) fun _ h => ⟨_, kX8_desk X h.1.2.1 h.1.1 hd hw, kX9_desk X rfl h.1.1 hd hw⟩
theorem pr_window {X : XC} : Pair X mX8_window mX9_window [] := Pair.rd (by decide) (by decide) fun _ h => ⟨_, kX8_window X h.1.2.1 h.1.1, kX9_window X rfl h.1.2.2 h.1.1⟩
theorem pr_lend {X : XC} {a b : Int} (ha : rg a) (hb : rg b) : Pair X mX8_lend mX9_lend [iv a, iv b] := Pair.rd (by decide) (by decide) fun _ h => ⟨_, kX8_lend X h.1.2.1 h.1.1 ha hb, kX9_lend X rfl h.1.1 ha hb⟩
theorem pr_cover {X : XC} {d n : Int} (hd : rg d) (hn : rg n) : Pair X mX8_cover mX9_cover [iv d, iv n] := Pair.rd (by decide) (by decide) fun _ h => ⟨_, kX8_cover X h.1.2.1 h.1.1 hd hn, kX9_cover X rfl h.1.1 hd hn⟩
theorem pr_taken {X : XC} {n w : Int} (hn : rg n) (hw : rg w) : Pair X mX8_taken mX9_taken [iv n, iv w] := Pair.rd38 (by decide) (by decide) fun _ h => ⟨_, kX8_taken X h.1.2.1 h.1.1 hn hw, kX9_taken X rfl h.1.2.2 h.1.1 hn hw⟩
theorem pr_lift {X : XC} {p : Int} (hp : rg p) : Pair X mX8_lift mX9_lift [iv p] := by
  intro I hI
  have hV := hI.1.1
  have k8 := kX8_lift X (O := I 34) rfl hI.1 hI.2.1 hp
  have k9 := fun (J : HD) (e : J 34 = I 34) (e2 : J 30 = I 30) => kX9_lift X (I := J) (O := I 34) e hV (by rw [e2]; exact hI.2.1.2.2.2.1) (by rw [e2]; exact hI.2.1.2.2.2.2.1) hp
  by_cases h1 : 0 ≤ p ∧ p < I 34 1
  · by_cases h2 : dk (I 34) p < 0
    · refine ⟨-1000002, 6, 6, by decide, by decide, k8.mono fun r J h => ?_⟩
      obtain ⟨rfl, rfl⟩ := h.2.1 h1 h2
      refine ⟨rfl, (k9 _ rfl rfl).mono fun r J h => ?_⟩
      obtain ⟨rfl, rfl⟩ := h.2.1 h1 h2
      exact ⟨rfl, hI.thr2⟩
    · have h2 : 0 ≤ dk (I 34) p := by omega
      refine ⟨ab (I 34) p, 6, 6, by decide, by decide, k8.mono fun r J h => ?_⟩
      obtain ⟨rfl, q1, q2, q3⟩ := h.2.2 h1 h2
      refine ⟨rfl, (k9 J (q3 34 (by decide) (by omega)) (q3 30 (by decide) (by omega))).mono fun r J2 h => ?_⟩
      obtain ⟨rfl, rfl⟩ := h.2.2 h1 h2
      refine ⟨rfl, ?_⟩
      obtain ⟨l1, l2, l3, l4, _⟩ := ly_all hV h1.1 h1.2 h2 (d := dk (I 34) p) h2 (dk_on h2).1 (Or.inl rfl)
      have l9 := l4 1 (by omega)
      have hdp : 0 < I 34 0 := by have := (dk_on h2).1; omega
      by_cases e : I 34 2 ≤ I 34 (65 + 4 * p)
      · have q1' := q1
        rw [lfO_a e] at q1' ⊢
        exact hI.act q2 q1' q3 (Val.meet l2 h1.1 (by omega)) ((if_neg (by omega)).trans (l4 0 (by omega))) hdp
      · have q1' := q1
        rw [lfO_b e] at q1' ⊢
        exact hI.act q2 q1' q3 l2 (l4 0 (by omega)) hdp
  · refine ⟨-1000001, 6, 6, by decide, by decide, k8.mono fun r J h => ?_⟩
    obtain ⟨rfl, rfl⟩ := h.1 h1
    refine ⟨rfl, (k9 _ rfl rfl).mono fun r J h => ?_⟩
    obtain ⟨rfl, rfl⟩ := h.1 h1
    exact ⟨rfl, hI.thr2⟩
theorem pr_lay {X : XC} {p d : Int} (hp : rg p) (hd : rg d) : Pair X mX8_lay mX9_lay [iv p, iv d] := by
  intro I hI
  have hV := hI.1.1
  have k8 := kX8_lay X (O := I 34) rfl hI.1 hI.2.1 hp hd
  have k9 := fun (J : HD) (e : J 34 = I 34) (e2 : J 30 = I 30) => kX9_lay X (I := J) (O := I 34) e hV (by rw [e2]; exact hI.2.1.2.2.2.1) (by rw [e2]; exact hI.2.1.2.2.2.2.1) hp hd
  by_cases h1 : 0 ≤ p ∧ p < I 34 1 ∧ 0 ≤ d ∧ d < I 34 0
  · by_cases h2 : dk (I 34) p < 0 ∨ dk (I 34) p = d
    · refine ⟨-1000002, 6, 6, by decide, by decide, k8.mono fun r J h => ?_⟩
      obtain ⟨rfl, rfl⟩ := h.2.1 h1 h2
      refine ⟨rfl, (k9 _ rfl rfl).mono fun r J h => ?_⟩
      obtain ⟨rfl, rfl⟩ := h.2.1 h1 h2
      exact ⟨rfl, hI.thr2⟩
    · by_cases h3 : I 34 (23 + 10 * d) < I 34 (15 + 2 * d)
      · refine ⟨I 34 (23 + 10 * d) + 1, 6, 6, by decide, by decide, k8.mono fun r J h => ?_⟩
        obtain ⟨rfl, q1, q2, q3⟩ := h.2.2.2 h1 h2 h3
        refine ⟨rfl, (k9 J (q3 34 (by decide) (by omega)) (q3 30 (by decide) (by omega))).mono fun r J2 h => ?_⟩
        obtain ⟨rfl, rfl⟩ := h.2.2.2 h1 h2 h3
        refine ⟨rfl, ?_⟩
        obtain ⟨l1, l2, l3, l4, _⟩ := ly_all hV h1.1 h1.2.1 (by omega) (d := d) h1.2.2.1 h1.2.2.2 (Or.inr h3)
        exact hI.act q2 q1 q3 l2 (l4 0 (by omega)) (by omega)
      · refine ⟨-1000003, 6, 6, by decide, by decide, k8.mono fun r J h => ?_⟩
        obtain ⟨rfl, rfl⟩ := h.2.2.1 h1 h2 h3
        refine ⟨rfl, (k9 _ rfl rfl).mono fun r J h => ?_⟩
        obtain ⟨rfl, rfl⟩ := h.2.2.1 h1 h2 h3
        exact ⟨rfl, hI.thr2⟩
  · refine ⟨-1000001, 6, 6, by decide, by decide, k8.mono fun r J h => ?_⟩
    obtain ⟨rfl, rfl⟩ := h.1 h1
    refine ⟨rfl, (k9 _ rfl rfl).mono fun r J h => ?_⟩
    obtain ⟨rfl, rfl⟩ := h.1 h1
    exact ⟨rfl, hI.thr2⟩
theorem pr_fault {X : XC} : Pair X mX8_fault mX9_fault [] := Pair.rd (by decide) (by decide) fun _ h => ⟨_, kX8_fault X h.2.2.2.2.2.1.1, kX9_fault X rfl⟩
theorem pr_status {X : XC} : Pair X mX8_status mX9_status [] := Pair.rd (by decide) (by decide) fun _ h => ⟨_, kX8_status X h.2.2.2.2.2.1.2.2.1, kX9_status X rfl⟩
theorem pr_trace {X : XC} {i : Int} (hi : rg i) : Pair X mX8_trace mX9_trace [iv i] := Pair.rd (by decide) (by decide) fun _ h => ⟨_, kX8_trace X h.2.2.2.2.2.2.1 hi, kX9_trace X h.2.2.2.2.2.2.1.2.1 h.2.2.2.2.2.2.1.2.2.1 hi⟩
theorem pr_missed {X : XC} {w : Int} (hw : rg w) : Pair X mX8_missed mX9_missed [iv w] := Pair.rd (by decide) (by decide) fun _ h => ⟨_, kX8_missed X h.1.2.1 h.1.1 hw, kX9_missed X rfl h.1.2.2 h.1.1 hw⟩
theorem pr_undo {X : XC} : Pair X mX8_undo mX9_undo [] := by
  intro I hI
  have k8 := kX8_undo X hI.2.1
  obtain ⟨b1, b2, b3, b4, b5, b6⟩ := hI.2.1
  have k9 := fun (J : HD) (e2 : J 30 = I 30) => kX9_undo X (I := J) (by rw [e2]; exact b4) (by rw [e2]; exact b5)
  have oe : oH 0 = 45 := rfl
  by_cases h1 : I 30 9 = 0
  · refine ⟨-1000002, 6, 6, by decide, by decide, k8.mono fun r J h => ?_⟩
    obtain ⟨rfl, rfl⟩ := h.1 h1
    refine ⟨rfl, (k9 _ rfl).mono fun r J h => ?_⟩
    obtain ⟨rfl, rfl⟩ := h.1 h1
    exact ⟨rfl, hI.thr2⟩
  · refine ⟨I 30 9 - 1, 6, 6, by decide, by decide, k8.mono fun r J h => ?_⟩
    obtain ⟨rfl, q1, q2, q3, q4⟩ := h.2 (by omega)
    have e30 : J 30 = I 30 := q4 30 (by decide) (by omega)
    refine ⟨rfl, (k9 J e30).mono fun r J2 h => ?_⟩
    obtain ⟨rfl, e⟩ := h.2 (by rw [e30]; omega)
    refine ⟨by rw [e30], ?_⟩
    obtain ⟨hA, hB, c, d, e5, f, g, n⟩ := hI
    obtain ⟨v1, v2, v3⟩ := b6 (I 30 9 - 1) (by omega) (by omega)
    have hw : wasO J (J 30 9 - 1) = wasO I (I 30 9 - 1) := by unfold wasO; rw [e30, q4 36 (by decide) (by omega)]
    have hc : ∀ k, 0 ≤ k → k < 127 → J2 34 k = wasO I (I 30 9 - 1) k := fun k x y => by rw [e, upA_s, cp127_k x y, hw]
    have r : ∀ a, a ≠ 21 → a ≠ 30 → a ≠ 34 → (a < 45 ∨ 54 ≤ a) → J2 a = I a := fun a x y z w => by rw [e, upA_h z, up_row y, up_row y, q4 a x w]
    have r30 : ∀ j, j ≠ 0 → j ≠ 9 → J2 30 j = I 30 j := fun j x y => by rw [e, upA_h (by decide), up_i y, up_i x, e30]
    have r39 : J2 30 9 = I 30 9 - 1 := by rw [e, upA_h (by decide), up_s, e30]
    have r21 : J2 21 = J 21 := by rw [e, upA_h (by decide), up_row (by decide), up_row (by decide)]
    have ro : ∀ a, 45 ≤ a → a < 54 → J2 a = J a := fun a x y => by rw [e, upA_h (by omega), up_row (by omega), up_row (by omega)]
    have hp : 0 < J2 34 0 := by rw [hc 0 (by omega) (by omega)]; exact v2
    have hV2 : Val (J2 34) := v1.c hc
    refine ⟨⟨hV2, ((RepC.of v1 v3 q1).c v1 hc).fr (fun a x y => ro a (by omega) (by omega)), ?_⟩, ?_, c.cg (r 42 (by decide) (by decide) (by decide) (by omega)) (r 43 (by decide) (by decide) (by decide) (by omega)) (fun a x y => r a (by omega) (by omega) (by omega) (by omega)), d.cg (r 31 (by decide) (by decide) (by decide) (by omega)) (r 32 (by decide) (by decide) (by decide) (by omega)) (r 33 (by decide) (by decide) (by decide) (by omega)) (fun a x y => r a (by omega) (by omega) (by omega) (by omega)), e5.cg (r 37 (by decide) (by decide) (by decide) (by omega)) (r30 11 (by decide) (by decide)) (r 19 (by decide) (by decide) (by decide) (by omega)) (r 20 (by decide) (by decide) (by decide) (by omega)), f.cg (r30 12 (by decide) (by decide)) (r30 1 (by decide) (by decide)) (r 0 (by decide) (by decide) (by decide) (by omega)), g.cg (r 44 (by decide) (by decide) (by decide) (by omega)) (r30 27 (by decide) (by decide)) (r 28 (by decide) (by decide) (by decide) (by omega)) (r 29 (by decide) (by decide) (by decide) (by omega)), fun _ => hp⟩
    · rw [r30 7 (by decide) (by decide), hA.2.2, bI_t hp, bI_t (n (Or.inl (by omega)))]
    · have hs : ∀ j, slotO J2 j = slotO I j := fun j => by unfold slotO; rw [r21, q3]
      have hwj : ∀ j, wasO J2 j = wasO I j := fun j => by unfold wasO; rw [r 36 (by decide) (by decide) (by decide) (by omega)]
      unfold RB
      rw [r39, r21, q2, q3]
      refine ⟨b1, b2, rfl, by omega, by omega, fun j x y => ?_⟩
      obtain ⟨c1, c2, c3⟩ := b6 j x (by omega)
      rw [hs, hwj]
      have oe2 : 81 ≤ oH (slotO I j) := by
        show 81 ≤ 45 + 9 * (4 + ((I 21 1 + j) % 24).toNat)
        omega
      exact ⟨c1, c2, c3.fr (fun a x y => r a (by omega) (by omega) (by omega) (by omega))⟩
theorem pr_image {X : XC} {j : Int} (hj : rg j) : Pair X mX8_image mX9_image [iv j] := by
  intro I hI
  have k8 := kX8_image X hI.1.2.1 hI.1.1 hj
  have k9 := fun (J : HD) (e : J 34 = I 34) (e2 : J 30 = I 30) => kX9_image X (I := J) (O := I 34) e (by rw [e2]; exact hI.1.2.2) hI.1.1 hj
  have oe : ∀ x, oH x = 45 + 9 * x := fun _ => rfl
  by_cases h1 : 0 ≤ j ∧ j < 2
  · by_cases h2 : 0 < I 34 0
    · refine ⟨1, 6, 6, by decide, by decide, k8.mono fun r J h => ?_⟩
      obtain ⟨rfl, q1, q2⟩ := h.2.2 h1 h2
      have e34 : J 34 = I 34 := q1 34 (Or.inl (by rw [oe]; omega))
      have e30 : J 30 = I 30 := q1 30 (Or.inl (by rw [oe]; omega))
      refine ⟨rfl, (k9 J e34 e30).mono fun r J2 h => ?_⟩
      obtain ⟨rfl, e⟩ := h.2.2 h1 h2
      refine ⟨rfl, ?_⟩
      obtain ⟨hA, hB, c, d, e5, f, g, n⟩ := hI
      have r : ∀ a, a ≠ 30 → a ≠ 42 → a ≠ 43 → (a < 63 ∨ 81 ≤ a) → J2 a = I a := fun a x y z w => by rw [e, up_row y, upA_h z, up_row x, q1 a (by rw [oe]; omega)]
      have ro : ∀ a, 45 ≤ a → J2 a = J a := fun a x => by rw [e, up_row (by omega), upA_h (by omega), up_row (by omega)]
      have r30 : ∀ i, i ≠ 0 → J2 30 i = I 30 i := fun i x => by rw [e, up_row (by decide), upA_h (by decide), up_i x, e30]
      refine ⟨hA.cg (r 34 (by decide) (by decide) (by decide) (by omega)) (r30 7 (by decide)) (fun a x y => r a (by omega) (by omega) (by omega) (by omega)), hB.cg (r 36 (by decide) (by decide) (by decide) (by omega)) (r30 9 (by decide)) (r 21 (by decide) (by decide) (by decide) (by omega)) (fun a x y => r a (by omega) (by omega) (by omega) (by omega)), ?_, d.cg (r 31 (by decide) (by decide) (by decide) (by omega)) (r 32 (by decide) (by decide) (by decide) (by omega)) (r 33 (by decide) (by decide) (by decide) (by omega)) (fun a x y => r a (by omega) (by omega) (by omega) (by omega)), e5.cg (r 37 (by decide) (by decide) (by decide) (by omega)) (r30 11 (by decide)) (r 19 (by decide) (by decide) (by decide) (by omega)) (r 20 (by decide) (by decide) (by decide) (by omega)), f.cg (r30 12 (by decide)) (r30 1 (by decide)) (r 0 (by decide) (by decide) (by decide) (by omega)), g.cg (r 44 (by decide) (by decide) (by decide) (by omega)) (r30 27 (by decide)) (r 28 (by decide) (by decide) (by decide) (by omega)) (r 29 (by decide) (by decide) (by decide) (by omega)), fun _ => by rw [r 34 (by decide) (by decide) (by decide) (by omega)]; exact h2⟩
      have e43 : J 43 = I 43 := q1 43 (Or.inl (by rw [oe]; omega))
      have e42 : J 42 = I 42 := q1 42 (Or.inl (by rw [oe]; omega))
      intro i x y
      have x1 : oH (2 + i.toNat) = 45 + 9 * (2 + i.toNat) := rfl
      have x2 : oH (2 + j.toNat) = 45 + 9 * (2 + j.toNat) := rfl
      rw [ro (oH (2 + i.toNat)) (by omega)]
      by_cases z : i = j
      · subst z
        have hc : ∀ k, 0 ≤ k → k < 127 → imgO J2 i k = I 34 k := fun k u v => by
          show J2 43 (127 * i + k) = _
          rw [e, up_row (by decide), upA_s]
          unfold blk
          rw [if_pos (by omega), show 127 * i + k - 127 * i = k by omega]
        have hR := RepC.of hA.1 hA.2.1 q2
        have h8 : J (oH (2 + i.toNat)) 8 = I 34 0 := hR.f0
        have v := hA.1.a
        rw [h8]
        refine ⟨?_, by unfold rg; omega, fun _ => ⟨hA.1.c hc, (hR.fr (fun a x y => ro a (by omega))).c hA.1 hc⟩⟩
        rw [e, up_s, bI_t h2]
      · obtain ⟨c1, c2, c3⟩ := c i x y
        have ej : ∀ a, oH (2 + i.toNat) ≤ a → a < oH (2 + i.toNat) + 9 → J a = I a := fun a u v => q1 a (by omega)
        rw [ej _ (by omega) (by omega)]
        have hc : ∀ k, 0 ≤ k → k < 127 → imgO J2 i k = imgO I i k := fun k u v => by
          show J2 43 (127 * i + k) = I 43 (127 * i + k)
          rw [e, up_row (by decide), upA_s]
          unfold blk
          rw [if_neg (by omega), e43]
        refine ⟨?_, c2, fun w => ⟨(c3 w).1.c hc, ((c3 w).2.fr (fun a u v => (ro a (by omega)).trans (ej a u v))).c (c3 w).1 hc⟩⟩
        rw [e, up_i z, upA_h (by decide), up_row (by decide), e42]
        exact c1
    · refine ⟨-1000002, 6, 6, by decide, by decide, k8.mono fun r J h => ?_⟩
      obtain ⟨rfl, rfl⟩ := h.2.1 h1 h2
      refine ⟨rfl, (k9 _ rfl rfl).mono fun r J h => ?_⟩
      obtain ⟨rfl, rfl⟩ := h.2.1 h1 h2
      exact ⟨rfl, hI.thr2⟩
  · refine ⟨-1000001, 6, 6, by decide, by decide, k8.mono fun r J h => ?_⟩
    obtain ⟨rfl, rfl⟩ := h.1 h1
    refine ⟨rfl, (k9 _ rfl rfl).mono fun r J h => ?_⟩
    obtain ⟨rfl, rfl⟩ := h.1 h1
    exact ⟨rfl, hI.thr2⟩
theorem pr_restore {X : XC} {j : Int} (hj : rg j) : Pair X mX8_restore mX9_restore [iv j] := by
  intro I hI
  have k8 := kX8_restore X hI.2.2.1 hj
  have k9 := fun (J : HD) (e : RD J J) => kX9_restore X (I := J) e hj
  have oe : ∀ x, oH x = 45 + 9 * x := fun _ => rfl
  by_cases h1 : 0 ≤ j ∧ j < 2
  · by_cases h2 : 0 < I (oH (2 + j.toNat)) 8
    · refine ⟨1, 6, 6, by decide, by decide, k8.mono fun r J h => ?_⟩
      obtain ⟨rfl, q1, q2, q3, q4⟩ := h.2.2 h1 h2
      have hDJ : RD J J := hI.2.2.1.cg (q4 42 (by decide) (by omega)) (q4 43 (by decide) (by omega)) (fun a x y => q4 a (by omega) (by omega))
      refine ⟨rfl, (k9 J hDJ).mono fun r J2 h => ?_⟩
      have e8 : J (oH (2 + j.toNat)) = I (oH (2 + j.toNat)) := q4 _ (by rw [oe]; omega) (by rw [oe]; omega)
      obtain ⟨rfl, e⟩ := h.2.2 h1 (by rw [e8]; exact h2)
      refine ⟨rfl, ?_⟩
      obtain ⟨hA, hB, c, d, e5, f, g, n⟩ := hI
      obtain ⟨c1, c2, c3⟩ := c j h1.1 h1.2
      obtain ⟨v1, v2⟩ := c3 h2
      have hw : imgO J j = imgO I j := by unfold imgO; rw [q4 43 (by decide) (by omega)]
      have hc : ∀ k, 0 ≤ k → k < 127 → J2 34 k = imgO I j k := fun k x y => by rw [e, up_row (by decide), upA_s, cp127_k x y, hw]
      have r : ∀ a, a ≠ 21 → a ≠ 30 → a ≠ 34 → (a < 45 ∨ 54 ≤ a) → J2 a = I a := fun a x y z w => by rw [e, up_row y, upA_h z, up_row y, q4 a x w]
      have r30 : ∀ i, i ≠ 0 → i ≠ 9 → J2 30 i = I 30 i := fun i x y => by rw [e, up_i y, upA_h (by decide), up_i x, q4 30 (by decide) (by omega)]
      have r39 : J2 30 9 = 0 := by rw [e, up_s]
      have r21 : J2 21 = J 21 := by rw [e, up_row (by decide), upA_h (by decide), up_row (by decide)]
      have ro : ∀ a, 45 ≤ a → a < 54 → J2 a = J a := fun a x y => by rw [e, up_row (by omega), upA_h (by omega), up_row (by omega)]
      have h8 : I (oH (2 + j.toNat)) 8 = imgO I j 0 := v2.f0
      have hp : 0 < J2 34 0 := by rw [hc 0 (by omega) (by omega), ← h8]; exact h2
      have hp0 : 0 < I 34 0 := by
        apply n
        rw [bI_t h2] at c1
        rcases (by omega : j = 0 ∨ j = 1) with z | z
        · rw [z] at c1; exact Or.inr (Or.inl c1)
        · rw [z] at c1; exact Or.inr (Or.inr c1)
      refine ⟨⟨v1.c hc, ((RepC.of v1 v2 q1).c v1 hc).fr (fun a x y => ro a (by have := oe 0; omega) (by have := oe 0; omega)), ?_⟩, ?_, c.cg (r 42 (by decide) (by decide) (by decide) (by omega)) (r 43 (by decide) (by decide) (by decide) (by omega)) (fun a x y => r a (by omega) (by omega) (by omega) (by omega)), d.cg (r 31 (by decide) (by decide) (by decide) (by omega)) (r 32 (by decide) (by decide) (by decide) (by omega)) (r 33 (by decide) (by decide) (by decide) (by omega)) (fun a x y => r a (by omega) (by omega) (by omega) (by omega)), e5.cg (r 37 (by decide) (by decide) (by decide) (by omega)) (r30 11 (by decide) (by decide)) (r 19 (by decide) (by decide) (by decide) (by omega)) (r 20 (by decide) (by decide) (by decide) (by omega)), f.cg (r30 12 (by decide) (by decide)) (r30 1 (by decide) (by decide)) (r 0 (by decide) (by decide) (by decide) (by omega)), g.cg (r 44 (by decide) (by decide) (by decide) (by omega)) (r30 27 (by decide) (by decide)) (r 28 (by decide) (by decide) (by decide) (by omega)) (r 29 (by decide) (by decide) (by decide) (by omega)), fun _ => hp⟩
      · rw [r30 7 (by decide) (by decide), hA.2.2, bI_t hp, bI_t hp0]
      · unfold RB
        rw [r39, r21, q2, q3]
        exact ⟨by omega, by omega, rfl, by omega, by omega, fun j x y => by omega⟩
    · refine ⟨-1000002, 6, 6, by decide, by decide, k8.mono fun r J h => ?_⟩
      obtain ⟨rfl, rfl⟩ := h.2.1 h1 h2
      refine ⟨rfl, (k9 _ hI.2.2.1).mono fun r J h => ?_⟩
      obtain ⟨rfl, rfl⟩ := h.2.1 h1 h2
      exact ⟨rfl, hI.thr2⟩
  · refine ⟨-1000001, 6, 6, by decide, by decide, k8.mono fun r J h => ?_⟩
    obtain ⟨rfl, rfl⟩ := h.1 h1
    refine ⟨rfl, (k9 _ hI.2.2.1).mono fun r J h => ?_⟩
    obtain ⟨rfl, rfl⟩ := h.1 h1
    exact ⟨rfl, hI.thr2⟩
