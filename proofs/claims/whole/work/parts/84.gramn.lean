/-! ===== the reference reads wind, desks, sheets ===== -/
def fMW (I J : HD) : Prop := (∀ a, a ≠ 30 → a ≠ 35 → J a = I a) ∧ ∀ j, (j < 14 ∨ 19 < j) → J 30 j = I 30 j
theorem fMW.rf {I : HD} : fMW I I := ⟨fun _ _ _ => rfl, fun _ _ => rfl⟩
theorem fMW.tr {I J K : HD} (h : fMW I J) (g : fM3 J K) : fMW I K := ⟨fun a x y => (g.1 a x).trans (h.1 a x y), fun j x => (g.2 j x).trans (h.2 j x)⟩
theorem fMW.tw {I J K : HD} (h : fMW I J) (g : fMW J K) : fMW I K := ⟨fun a x y => (g.1 a x y).trans (h.1 a x y), fun j x => (g.2 j x).trans (h.2 j x)⟩
theorem fMW.up {I J : HD} {i z : Int} (h : fMW I J) : fMW I (up J 35 i z) := ⟨fun a x y => (up_row y).trans (h.1 a x y), fun j x => (congrFun (up_row (by decide)) _).trans (h.2 j x)⟩
theorem fM3.w {I J : HD} (h : fM3 I J) : fMW I J := ⟨fun a x _ => h.1 a x, h.2⟩
theorem MS.sim {I : HD} {c : Int → Int} {L : Int} {s t : Ps} (h : MS I c L s) (h1 : t.1 = s.1) (h2 : t.2.2 = s.2.2) : MS I c L t := by
  unfold MS
  rw [h1, h2]
  exact h
theorem MS.up {I : HD} {c : Int → Int} {L i z : Int} {s : Ps} (h : MS I c L s) : MS (up I 35 i z) c L s := h.fr (up_row (by decide)) (up_row (by decide))
theorem pWq_1 {c : Int → Int} {L q : Int} {s : Ps} (h0 : 0 ≤ q) : (pWq c L (q + 1).toNat s).1 = (pNm c L 0 100 (pWq c L q.toNat s)).1 ∧ (pWq c L (q + 1).toNat s).2.2 = (pNm c L 0 100 (pWq c L q.toNat s)).2.2 := by
  by_cases h : (pNm c L 0 100 (pWq c L q.toNat s)).2.2 = 0
  · rw [pWq_t h0 h]
    exact ⟨rfl, h.symm⟩
  · rw [pWq_f h0 h]
    exact ⟨rfl, rfl⟩
noncomputable def kb (c : Int → Int) (L : Int) (s : Ps) : Int := @ite Int (s.2.2 = 0 ∧ ¬ kd c L s.1 = 0) (Classical.propDecidable _) (kd c L s.1) (-1000000)
theorem kb_t {c : Int → Int} {L k : Int} {s : Ps} (h : s.2.2 = 0) (e : kd c L s.1 = k) (hk : ¬ k = 0) : kb c L s = k := by
  unfold kb
  rw [e, if_pos ⟨h, hk⟩]
theorem kb_f {c : Int → Int} {L : Int} {s : Ps} (h : ¬ (s.2.2 = 0 ∧ ¬ kd c L s.1 = 0)) : kb c L s = -1000000 := if_neg h
theorem kb_r {c : Int → Int} {L : Int} {s : Ps} : (s.2.2 = 0 ∧ ¬ kd c L s.1 = 0 ∧ kb c L s = kd c L s.1) ∨ (¬ (s.2.2 = 0 ∧ ¬ kd c L s.1 = 0) ∧ kb c L s = -1000000) := by
  by_cases h : s.2.2 = 0 ∧ ¬ kd c L s.1 = 0
  · exact Or.inl ⟨h.1, h.2, if_pos h⟩
  · exact Or.inr ⟨h, if_neg h⟩
theorem eqF_dk {J : HD} {F : OF} {a b : Int} (h0 : 0 ≤ F 0) (h : eqF J F) : eqF (up (up (up J 35 (15 + 2 * F 0) a) 35 (15 + 2 * F 0 + 1) b) 35 0 (F 0 + 1)) (dkO F a b) := fun k x y => by
  rw [up_at, up_at, up_at]
  unfold dkO
  by_cases e0 : k = 0
  · rw [if_pos e0, if_pos e0]
  · rw [if_neg e0, if_neg e0]
    by_cases e1 : k = 15 + 2 * F 0
    · rw [if_neg (by omega), if_pos e1, if_pos e1]
    · rw [if_neg e1]
      by_cases e2 : k = 16 + 2 * F 0
      · rw [if_pos (by omega), if_neg e1, if_pos e2]
      · rw [if_neg (by omega), if_neg e1, if_neg e2]
        exact h k x y
theorem eqF_sh {J : HD} {F : OF} {k d w n : Int} (hG : GD F) (d0 : 0 ≤ d) (d1 : d < F 0) (h12 : F 1 < 12) (hr : F (23 + 10 * d) < F (15 + 2 * d)) (h : eqF J F) : eqF (up (up (up (up (up (up J 35 (63 + 4 * F 1) k) 35 (63 + 4 * F 1 + 1) w) 35 (63 + 4 * F 1 + 2) n) 35 (23 + 10 * d) (F (23 + 10 * d) + 1)) 35 (23 + 10 * d + (F (23 + 10 * d) + 1)) (F 1)) 35 1 (F 1 + 1)) (shO F k d w n) := fun j x y => by
  obtain ⟨hV, h2, hz, hm⟩ := hG
  have v := hV.a
  have vd := hV.d d0 d1
  have a : ∀ j, j ≠ 1 → j < 63 → adO F k w n j = F j := fun j x y => adO_k v.2.2.1 ⟨x, y⟩
  have a23 := a (23 + 10 * d) (by omega) (by omega)
  rw [up_at, up_at, up_at, up_at, up_at, up_at]
  unfold shO cmO
  rw [a23]
  by_cases e1 : j = 1
  · rw [if_pos e1, if_neg (by omega), if_neg (by omega), e1, adO_1]
  · rw [if_neg e1]
    by_cases e2 : j = 24 + 10 * d + F (23 + 10 * d)
    · rw [if_pos (by omega), if_pos e2]
    · rw [if_neg (by omega), if_neg e2]
      by_cases e3 : j = 23 + 10 * d
      · rw [if_pos e3, if_pos e3]
      · rw [if_neg e3, if_neg e3]
        unfold adO
        rw [if_neg e1]
        by_cases e4 : j = 63 + 4 * F 1
        · rw [if_neg (by omega), if_neg (by omega), if_pos e4, if_pos e4]
        · rw [if_neg e4]
          by_cases e5 : j = 64 + 4 * F 1
          · rw [if_neg (by omega), if_pos (by omega), if_neg e4, if_pos e5]
          · rw [if_neg e5]
            by_cases e6 : j = 65 + 4 * F 1
            · rw [if_pos (by omega), if_neg e4, if_pos e6]
            · rw [if_neg (by omega), if_neg (by omega), if_neg e4, if_neg e6]
              by_cases e7 : j = 66 + 4 * F 1
              · rw [if_pos e7, h j x y, e7]
                exact hm (F 1) (by omega) (by omega)
              · rw [if_neg e7]
                exact h j x y
theorem nr_1 {c : Int → Int} {L : Int} {F : OF} {s : Ps} (hF : s.2.1 = F) (h : noR c L s.2.1 s.1) : 0 ≤ fgV c L s.1 ∧ fgV c L s.1 ≤ F 0 - 1 := by
  rw [hF] at h
  obtain ⟨a, b, d⟩ := h
  have := tkV_r a
  unfold fgV
  rw [if_pos a]
  omega
theorem nr_2 {c : Int → Int} {L : Int} {F : OF} {s : Ps} (hG : GD F) (hF : s.2.1 = F) (h : noR c L s.2.1 s.1) (q : ¬ F (23 + 10 * fgV c L s.1) = F (15 + 2 * fgV c L s.1)) : False := by
  have e := nr_1 hF h
  rw [hF] at h
  obtain ⟨a, b, d⟩ := h
  have hf : fgV c L s.1 = tkV c L s.1 := if_pos a
  rw [hf] at q e
  have := hG.1.d e.1 (by omega)
  omega
theorem nr_3 {c : Int → Int} {L : Int} {F : OF} {s : Ps} (hF : s.2.1 = F) (a : tkK c L s.1 = 2) (b : fgV c L s.1 ≤ F 0 - 1) (q : F (23 + 10 * fgV c L s.1) = F (15 + 2 * fgV c L s.1)) : noR c L s.2.1 s.1 := by
  have hf : fgV c L s.1 = tkV c L s.1 := if_pos a
  rw [hf] at b q
  rw [hF]
  exact ⟨a, by omega, by omega⟩
theorem shA_1 {c : Int → Int} {L : Int} {F : OF} {s : Ps} (hF : s.2.1 = F) (h : (shA c L s).2.2 = 0) : shA c L s = s ∧ s.2.2 = 0 ∧ ¬ noR c L F s.1 := by
  by_cases q : s.2.2 = 0 ∧ noR c L s.2.1 s.1
  · rw [show shA c L s = (s.1, s.2.1, 2) from if_pos q] at h
    exact absurd (show (2 : Int) = 0 from h) (by decide)
  · have e : shA c L s = s := if_neg q
    rw [e] at h
    exact ⟨e, h, fun z => q ⟨h, by rw [hF]; exact z⟩⟩
theorem shA_2 {c : Int → Int} {L : Int} {F : OF} {s : Ps} (e : shA c L s = s) (h : ¬ noR c L F s.1) (k : tkK c L (shA c L s).1 = 2) (b : tkV c L (shA c L s).1 < F 0) : F (23 + 10 * tkV c L (shA c L s).1) < F (15 + 2 * tkV c L (shA c L s).1) := by
  rw [e] at k b ⊢
  exact Classical.byContradiction fun q => h ⟨k, b, q⟩
