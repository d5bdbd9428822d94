/-! ===== a call of both, side by side ===== -/
theorem Val.meet {O : OF} {p : Int} (hV : Val O) (hp0 : 0 ≤ p) (hp1 : p < O 1) : Val (fun k => if k = 66 + 4 * p then 1 else O k) := by
  have v := hV.a
  have e : ∀ k, k ≠ 66 + 4 * p → (fun k => if k = 66 + 4 * p then 1 else O k) k = O k := fun k q => if_neg q
  have e0 := e 0 (by omega)
  have e1 := e 1 (by omega)
  refine ⟨by rw [e0, e1, e 2 (by omega)]; exact v, fun q a b => by rw [e _ (by omega)]; exact hV.w a b, fun d a b => ?_, fun d k a b c f => ?_, fun p2 a b => ?_, fun d k d2 k2 a b c f a2 b2 c2 f2 g => ?_⟩
  · rw [e0] at b
    rw [e _ (by omega), e (16 + 2 * d) (by omega), e (23 + 10 * d) (by omega)]
    exact hV.d a b
  · rw [e0] at b
    rw [e _ (by omega)] at f
    have vd := hV.d a b
    rw [e _ (by omega), e1]
    exact hV.k a b c f
  · rw [e1] at b
    have vp := hV.p a b
    rw [e _ (by omega), e (64 + 4 * p2) (by omega), e (65 + 4 * p2) (by omega)]
    refine ⟨vp.1, vp.2.1, vp.2.2.1, vp.2.2.2.1, vp.2.2.2.2.1, vp.2.2.2.2.2.1, ?_⟩
    by_cases q : p2 = p
    · subst q
      rw [show (fun k => if k = 66 + 4 * p2 then 1 else O k) (66 + 4 * p2) = 1 from if_pos rfl]
      omega
    · rw [e _ (by omega)]; exact vp.2.2.2.2.2.2
  · rw [e0] at b b2
    rw [e _ (by omega)] at f f2
    have vd := hV.d a b
    have vd2 := hV.d a2 b2
    rw [e _ (by omega), e (24 + 10 * d2 + k2) (by omega)] at g
    exact hV.u a b c f a2 b2 c2 f2 g
/-- behind an act: the class's cells J, the reference's the same but what it kept and its office -/
theorem RC.act {I J : HD} {O2 : OF} (hI : RC I I) (hB : RB (kpS I) J) (hR : RepC O2 J 0) (hf : ∀ a, a ≠ 21 → (a < 45 ∨ (54 ≤ a ∧ a < 81)) → J a = I a) (hV : Val O2) (h0 : O2 0 = I 34 0) : RC (upA (kpS (up J 30 0 0)) 34 O2) (upA (kpS (up J 30 0 0)) 34 O2) := by
  obtain ⟨hA, _, c, d, e, f, g⟩ := hI
  have r : ∀ a, a ≠ 30 → a ≠ 34 → a ≠ 36 → upA (kpS (up J 30 0 0)) 34 O2 a = J a := fun a x y z => by rw [upA_h y, kpS_r x z, up_row x]
  have r30 : ∀ j, j ≠ 0 → j ≠ 9 → upA (kpS (up J 30 0 0)) 34 O2 30 j = I 30 j := fun j x y => by
    rw [upA_h (by decide), kpS_30 y, up_i x, hf 30 (by decide) (by omega)]
  have q : ∀ a, a ≠ 21 → a ≠ 30 → a ≠ 34 → a ≠ 36 → (a < 45 ∨ (54 ≤ a ∧ a < 81)) → upA (kpS (up J 30 0 0)) 34 O2 a = I a := fun a w x y z u => (r a x y z).trans (hf a w u)
  have oe : oH 0 = 45 := rfl
  refine ⟨⟨?_, ?_, ?_⟩, hB.cg ?_ ?_ (r 21 (by decide) (by decide) (by decide)) (fun a x y => r a (by omega) (by omega) (by omega)), c.cg (q 42 (by decide) (by decide) (by decide) (by decide) (by omega)) (q 43 (by decide) (by decide) (by decide) (by decide) (by omega)) (fun a x y => q a (by omega) (by omega) (by omega) (by omega) (by omega)), d.cg (q 31 (by decide) (by decide) (by decide) (by decide) (by omega)) (q 32 (by decide) (by decide) (by decide) (by decide) (by omega)) (q 33 (by decide) (by decide) (by decide) (by decide) (by omega)) (fun a x y => q a (by omega) (by omega) (by omega) (by omega) (by omega)),
    e.cg (q 37 (by decide) (by decide) (by decide) (by decide) (by omega)) (r30 11 (by decide) (by decide)) (q 19 (by decide) (by decide) (by decide) (by decide) (by omega)) (q 20 (by decide) (by decide) (by decide) (by decide) (by omega)),
    f.cg (r30 12 (by decide) (by decide)) (r30 1 (by decide) (by decide)) (q 0 (by decide) (by decide) (by decide) (by decide) (by omega)),
    g.cg (q 44 (by decide) (by decide) (by decide) (by decide) (by omega)) (r30 27 (by decide) (by decide)) (q 28 (by decide) (by decide) (by decide) (by decide) (by omega)) (q 29 (by decide) (by decide) (by decide) (by decide) (by omega))⟩
  · rw [upA_s]; exact hV
  · rw [upA_s]; exact hR.fr (fun a x y => r a (by omega) (by omega) (by omega))
  · rw [upA_s, r30 7 (by decide) (by decide), hA.2.2, h0]
  · rw [upA_h (by decide), kpS_36, kpS_36, up_row (by decide), up_row (by decide), up_i (by decide), hf 36 (by decide) (by omega), hf 34 (by decide) (by omega), hf 30 (by decide) (by omega)]
  · rw [upA_h (by decide), kpS_9, kpS_9, up_i (by decide), hf 30 (by decide) (by omega)]
theorem pr_sheet {X : XC} {p w : Int} (hp : rg p) (hw : rg w) : Pair X mX8_sheet mX9_sheet [iv p, iv w] := Pair.rd (by decide) (by decide) fun _ h => ⟨_, kX8_sheet X h.1.2.1 h.1.1 hp hw, kX9_sheet X rfl h.1.1 hp hw⟩
theorem pr_kind {X : XC} {p : Int} (hp : rg p) : Pair X mX8_kind mX9_kind [iv p] := Pair.rd (by decide) (by decide) fun _ h => ⟨_, kX8_kind X h.1.2.1 h.1.1 hp, kX9_kind X rfl h.1.1 hp⟩
theorem pr_desk {X : XC} {d w : Int} (hd : rg d) (hw : rg w) : Pair X mX8_desk mX9_desk [iv d, iv w] := Pair.rd (by decide) (by decide) fun _ h => ⟨_, kX8_desk X h.1.2.1 h.1.1 hd hw, kX9_desk X rfl h.1.1 hd hw⟩
theorem pr_window {X : XC} : Pair X mX8_window mX9_window [] := Pair.rd (by decide) (by decide) fun _ h => ⟨_, kX8_window X h.1.2.1 h.1.1, kX9_window X rfl h.1.2.2 h.1.1⟩
theorem pr_lend {X : XC} {a b : Int} (ha : rg a) (hb : rg b) : Pair X mX8_lend mX9_lend [iv a, iv b] := Pair.rd (by decide) (by decide) fun _ h => ⟨_, kX8_lend X h.1.2.1 h.1.1 ha hb, kX9_lend X rfl h.1.1 ha hb⟩
theorem pr_cover {X : XC} {d n : Int} (hd : rg d) (hn : rg n) : Pair X mX8_cover mX9_cover [iv d, iv n] := Pair.rd (by decide) (by decide) fun _ h => ⟨_, kX8_cover X h.1.2.1 h.1.1 hd hn, kX9_cover X rfl h.1.1 hd hn⟩
theorem pr_taken {X : XC} {n w : Int} (hn : rg n) (hw : rg w) : Pair X mX8_taken mX9_taken [iv n, iv w] := Pair.rd38 (by decide) (by decide) fun _ h => ⟨_, kX8_taken X h.1.2.1 h.1.1 hn hw, kX9_taken X rfl h.1.2.2 h.1.1 hn hw⟩
theorem pr_lift {X : XC} {p : Int} (hp : rg p) : Pair X mX8_lift mX9_lift [iv p] := by
  intro I hI
  have hV := hI.1.1
  have k8 := kX8_lift X (O := I 34) rfl hI.1 hI.2.1 hp
  have k9 := fun (J : HD) (e : J 34 = I 34) (e2 : J 30 = I 30) => kX9_lift X (I := J) (O := I 34) e hV (by rw [e2]; exact hI.2.1.2.2.2.1) (by rw [e2]; exact hI.2.1.2.2.2.2.1) hp
  by_cases h1 : 0 ≤ p ∧ p < I 34 1
  · by_cases h2 : dk (I 34) p < 0
    · refine ⟨-1000002, 6, 6, by decide, by decide, k8.mono fun r J h => ?_⟩
      obtain ⟨rfl, rfl⟩ := h.2.1 h1 h2
      refine ⟨rfl, (k9 _ rfl rfl).mono fun r J h => ?_⟩
      obtain ⟨rfl, rfl⟩ := h.2.1 h1 h2
      exact ⟨rfl, hI.thr2⟩
    · have h2 : 0 ≤ dk (I 34) p := by omega
      refine ⟨ab (I 34) p, 6, 6, by decide, by decide, k8.mono fun r J h => ?_⟩
      obtain ⟨rfl, q1, q2, q3⟩ := h.2.2 h1 h2
      refine ⟨rfl, (k9 J (q3 34 (by decide) (by omega)) (q3 30 (by decide) (by omega))).mono fun r J2 h => ?_⟩
      obtain ⟨rfl, rfl⟩ := h.2.2 h1 h2
      refine ⟨rfl, ?_⟩
      obtain ⟨l1, l2, l3, l4, _⟩ := ly_all hV h1.1 h1.2 h2 (d := dk (I 34) p) h2 (dk_on h2).1 (Or.inl rfl)
      have l9 := l4 1 (by omega)
      by_cases e : I 34 2 ≤ I 34 (65 + 4 * p)
      · have q1' := q1
        rw [lfO_a e] at q1' ⊢
        exact hI.act q2 q1' q3 (Val.meet l2 h1.1 (by omega)) ((if_neg (by omega)).trans (l4 0 (by omega)))
      · have q1' := q1
        rw [lfO_b e] at q1' ⊢
        exact hI.act q2 q1' q3 l2 (l4 0 (by omega))
  · refine ⟨-1000001, 6, 6, by decide, by decide, k8.mono fun r J h => ?_⟩
    obtain ⟨rfl, rfl⟩ := h.1 h1
    refine ⟨rfl, (k9 _ rfl rfl).mono fun r J h => ?_⟩
    obtain ⟨rfl, rfl⟩ := h.1 h1
    exact ⟨rfl, hI.thr2⟩
theorem pr_lay {X : XC} {p d : Int} (hp : rg p) (hd : rg d) : Pair X mX8_lay mX9_lay [iv p, iv d] := by
  intro I hI
  have hV := hI.1.1
  have k8 := kX8_lay X (O := I 34) rfl hI.1 hI.2.1 hp hd
  have k9 := fun (J : HD) (e : J 34 = I 34) (e2 : J 30 = I 30) => kX9_lay X (I := J) (O := I 34) e hV (by rw [e2]; exact hI.2.1.2.2.2.1) (by rw [e2]; exact hI.2.1.2.2.2.2.1) hp hd
  by_cases h1 : 0 ≤ p ∧ p < I 34 1 ∧ 0 ≤ d ∧ d < I 34 0
  · by_cases h2 : dk (I 34) p < 0 ∨ dk (I 34) p = d
    · refine ⟨-1000002, 6, 6, by decide, by decide, k8.mono fun r J h => ?_⟩
      obtain ⟨rfl, rfl⟩ := h.2.1 h1 h2
      refine ⟨rfl, (k9 _ rfl rfl).mono fun r J h => ?_⟩
      obtain ⟨rfl, rfl⟩ := h.2.1 h1 h2
      exact ⟨rfl, hI.thr2⟩
    · by_cases h3 : I 34 (23 + 10 * d) < I 34 (15 + 2 * d)
      · refine ⟨I 34 (23 + 10 * d) + 1, 6, 6, by decide, by decide, k8.mono fun r J h => ?_⟩
        obtain ⟨rfl, q1, q2, q3⟩ := h.2.2.2 h1 h2 h3
        refine ⟨rfl, (k9 J (q3 34 (by decide) (by omega)) (q3 30 (by decide) (by omega))).mono fun r J2 h => ?_⟩
        obtain ⟨rfl, rfl⟩ := h.2.2.2 h1 h2 h3
        refine ⟨rfl, ?_⟩
        obtain ⟨l1, l2, l3, l4, _⟩ := ly_all hV h1.1 h1.2.1 (by omega) (d := d) h1.2.2.1 h1.2.2.2 (Or.inr h3)
        exact hI.act q2 q1 q3 l2 (l4 0 (by omega))
      · refine ⟨-1000003, 6, 6, by decide, by decide, k8.mono fun r J h => ?_⟩
        obtain ⟨rfl, rfl⟩ := h.2.2.1 h1 h2 h3
        refine ⟨rfl, (k9 _ rfl rfl).mono fun r J h => ?_⟩
        obtain ⟨rfl, rfl⟩ := h.2.2.1 h1 h2 h3
        exact ⟨rfl, hI.thr2⟩
  · refine ⟨-1000001, 6, 6, by decide, by decide, k8.mono fun r J h => ?_⟩
    obtain ⟨rfl, rfl⟩ := h.1 h1
    refine ⟨rfl, (k9 _ rfl rfl).mono fun r J h => ?_⟩
    obtain ⟨rfl, rfl⟩ := h.1 h1
    exact ⟨rfl, hI.thr2⟩
