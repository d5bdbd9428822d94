/-! ===== the class reads ===== -/
def fr8 (I J : HD) : Prop := ∀ a, a ≠ 18 → J a = I a
def frD (I J : HD) : Prop := ∀ a, a ≠ 18 → (a < 54 ∨ 63 ≤ a) → J a = I a
theorem ps_eta {s : Ps} (h : s.2.2 = 0) : (s.1, s.2.1, (0 : Int)) = s := by
  obtain ⟨a, b, e⟩ := s
  have h2 : e = 0 := h
  subst h2
  rfl
theorem CS.t {I : HD} {c : Int → Int} {L : Int} {s : Ps} (h : s.2.2 = 0) (g : atC I c L s.1) : CS I c L s := ⟨fun _ => g, fun q => absurd h q⟩
theorem CS.f {I : HD} {c : Int → Int} {L : Int} {s : Ps} (h : ¬ s.2.2 = 0) (g : I 18 3 = s.1) (g2 : I 18 7 = s.2.2) : CS I c L s := ⟨fun q => absurd q h, fun _ => ⟨g, g2⟩⟩
theorem CS.cg {I : HD} {c : Int → Int} {L : Int} {s t : Ps} (h : CS I c L s) (e : t = s) : CS I c L t := e ▸ h
theorem pWind_f {c : Int → Int} {L f : Int} (h : ¬ isW c L 0 f) : pWind c L (f, zF, 0) = (f, zF, 1) := by
  have e : pWi c L 0 (f, zF, 0) = (f, zF, 1) := pMu_f rfl h
  have n : ¬ ((f, zF, (1 : Int)) : Ps).2.2 = 0 := show ¬ (1 : Int) = 0 by decide
  have e2 : pWq c L (12 : Int).toNat (f, zF, 1) = (f, zF, 1) := by
    have := pWq_stop (c := c) (L := L) (q := 0) (s := (f, zF, 1)) n 12
    exact this
  unfold pWind
  rw [e, e2]
  exact pMu_x n
theorem pWind_t {c : Int → Int} {L f : Int} (h : isW c L 0 f) : pWind c L (f, zF, 0) = pSm c L (pWq c L (12 : Int).toNat (nxt c L f, zF, 0)) := by
  unfold pWind
  rw [show pWi c L 0 (f, zF, 0) = (nxt c L f, zF, 0) from pMu_t rfl h]
theorem pWind_x {c : Int → Int} {L f q : Int} (h : isW c L 0 f) (q0 : 0 ≤ q) (q1 : q < 12) (hx : ¬ (pNm c L 0 100 (pWq c L q.toNat (nxt c L f, zF, 0))).2.2 = 0) : pWind c L (f, zF, 0) = pNm c L 0 100 (pWq c L q.toNat (nxt c L f, zF, 0)) := by
  rw [pWind_t h, pWq_x q0 q1 hx]
  exact pMu_x hx
theorem pDesk_a {c : Int → Int} {L f : Int} {F : OF} (h4 : ¬ F 0 = 4) (h : ¬ (pNm c L 1 9 (nxt c L f, F, 0)).2.2 = 0) : pDesk c L (f, F, 0) = pNm c L 1 9 (nxt c L f, F, 0) := by
  unfold pDesk
  rw [if_neg h4]
  rw [show pNm c L 0 3 (pNm c L 1 9 (nxt c L f, F, 0)) = pNm c L 1 9 (nxt c L f, F, 0) from pNm_x h]
  rw [show pSm c L (pNm c L 1 9 (nxt c L f, F, 0)) = pNm c L 1 9 (nxt c L f, F, 0) from pMu_x h]
  exact if_neg h
theorem pDesk_b {c : Int → Int} {L f f2 : Int} {F : OF} (h4 : ¬ F 0 = 4) (e : pNm c L 1 9 (nxt c L f, F, 0) = (f2, F, 0)) (h : ¬ (pNm c L 0 3 (f2, F, 0)).2.2 = 0) : pDesk c L (f, F, 0) = pNm c L 0 3 (f2, F, 0) := by
  unfold pDesk
  rw [if_neg h4, show ((f, F, (0 : Int)) : Ps).1 = f from rfl, show ((f, F, (0 : Int)) : Ps).2.1 = F from rfl, e]
  rw [show pSm c L (pNm c L 0 3 (f2, F, 0)) = pNm c L 0 3 (f2, F, 0) from pMu_x h]
  exact if_neg h
theorem pDesk_c {c : Int → Int} {L f f2 f3 : Int} {F : OF} (h4 : ¬ F 0 = 4) (e : pNm c L 1 9 (nxt c L f, F, 0) = (f2, F, 0)) (e2 : pNm c L 0 3 (f2, F, 0) = (f3, F, 0)) : pDesk c L (f, F, 0) = @ite Ps ((pSm c L (f3, F, 0)).2.2 = 0) (Classical.propDecidable _) ((pSm c L (f3, F, 0)).1, dkO F (tkV c L (nxt c L f)) (tkV c L f2), 0) (pSm c L (f3, F, 0)) := by
  unfold pDesk
  rw [if_neg h4, show ((f, F, (0 : Int)) : Ps).1 = f from rfl, show ((f, F, (0 : Int)) : Ps).2.1 = F from rfl, e, e2]
theorem pDesk_4 {c : Int → Int} {L f : Int} {F : OF} (h4 : F 0 = 4) : pDesk c L (f, F, 0) = (f, F, 3) := if_pos h4
/-- a desk that is read well -/
theorem pDesk_e {c : Int → Int} {L f : Int} {F : OF} (hG : GD F) (h : (pDesk c L (f, F, 0)).2.2 = 0) : GD (pDesk c L (f, F, 0)).2.1 ∧ (pDesk c L (f, F, 0)).2.1 0 = F 0 + 1 ∧ (pDesk c L (f, F, 0)).2.1 1 = F 1 := by
  have v := hG.1.a
  by_cases h4 : F 0 = 4
  · rw [pDesk_4 h4] at h
    exact absurd (show (3 : Int) = 0 from h) (by decide)
  · by_cases e1 : (pNm c L 1 9 (nxt c L f, F, 0)).2.2 = 0
    · obtain ⟨_, k1, r1, q1⟩ := pNm_e e1
      by_cases e2 : (pNm c L 0 3 (nxt c L (nxt c L f), F, 0)).2.2 = 0
      · obtain ⟨_, k2, r2, q2⟩ := pNm_e e2
        have e := pDesk_c h4 q1 q2
        by_cases e3 : (pSm c L (nxt c L (nxt c L (nxt c L f)), F, 0)).2.2 = 0
        · rw [e, if_pos e3]
          exact ⟨hG.desk (by omega) r1 r2, dkO_0 (r := tkV c L (nxt c L f)) (t := tkV c L (nxt c L (nxt c L f))), dkO_k (r := tkV c L (nxt c L f)) (t := tkV c L (nxt c L (nxt c L f))) (k := 1) (by omega)⟩
        · rw [e, if_neg e3] at h
          exact absurd h e3
      · rw [pDesk_b h4 q1 e2] at h
        exact absurd h e2
    · rw [pDesk_a h4 e1] at h
      exact absurd h e1
theorem pA2_f {c : Int → Int} {L f : Int} {F : OF} (h : ¬ isW c L 1 f) : pA2 c L (f, F, 0) = (f, F, 1) := (if_pos rfl).trans (if_neg h)
theorem pA2_t {c : Int → Int} {L f : Int} {F : OF} (h : isW c L 1 f) : pA2 c L (f, F, 0) = pDs c L (5 : Int).toNat (f, F, 0) := (if_pos rfl).trans (if_pos h)
theorem pDs_x {c : Int → Int} {L n : Int} {t : Ps} (hn : 0 < n) (ht : t.2.2 = 0) (hw : isW c L 1 t.1) (h : ¬ (pDesk c L t).2.2 = 0) : pDs c L n.toNat t = pDesk c L t := by
  rw [pDs_t hn ⟨ht, hw⟩]
  exact pDs_f (fun q => h q.1)
theorem pSh_x {c : Int → Int} {L n : Int} {t : Ps} (hn : 0 < n) (ht : t.2.2 = 0) (hw : isW c L 2 t.1) (h : ¬ (pSheet c L t).2.2 = 0) : pSh c L n.toNat t = pSheet c L t := by
  rw [pSh_t hn ⟨ht, hw⟩]
  exact pSh_f (fun q => h q.1)
theorem pSheet_12 {c : Int → Int} {L f : Int} {F : OF} (h : F 1 = 12) : pSheet c L (f, F, 0) = (f, F, 3) := if_pos h
theorem pSheet_k {c : Int → Int} {L f : Int} {F : OF} (h : ¬ F 1 = 12) (hk : kd c L (nxt c L f) = 0) : pSheet c L (f, F, 0) = (nxt c L f, F, 1) := (if_neg h).trans (if_pos hk)
theorem pSheet_n {c : Int → Int} {L f : Int} {F : OF} (h : ¬ F 1 = 12) (hk : ¬ kd c L (nxt c L f) = 0) (hn : noR c L F (nxt c L (nxt c L f))) : pSheet c L (f, F, 0) = (nxt c L (nxt c L f), F, 2) := (if_neg h).trans ((if_neg hk).trans (if_pos hn))
theorem pSheet_s {c : Int → Int} {L f : Int} {F : OF} (h : ¬ F 1 = 12) (hk : ¬ kd c L (nxt c L f) = 0) (hn : ¬ noR c L F (nxt c L (nxt c L f))) : pSheet c L (f, F, 0) = @ite Ps ((pSb c L (nxt c L (nxt c L f), F, 0)).2.2 = 0) (Classical.propDecidable _) ((pSb c L (nxt c L (nxt c L f), F, 0)).1, shO F (kd c L (nxt c L f)) (tkV c L (nxt c L (nxt c L f))) (tkV c L (pNm c L 0 (F 0 - 1) (nxt c L (nxt c L f), F, 0)).1) (tkV c L (pNm c L 0 99 (pNm c L 0 (F 0 - 1) (nxt c L (nxt c L f), F, 0))).1), 0) (pSb c L (nxt c L (nxt c L f), F, 0)) := (if_neg h).trans ((if_neg hk).trans (if_neg hn))
theorem pSb_a {c : Int → Int} {L f : Int} {F : OF} (h : ¬ (pNm c L 0 (F 0 - 1) (f, F, 0)).2.2 = 0) : pSb c L (f, F, 0) = pNm c L 0 (F 0 - 1) (f, F, 0) := by
  unfold pSb
  rw [show pNm c L 0 99 (pNm c L 0 (F 0 - 1) (f, F, 0)) = pNm c L 0 (F 0 - 1) (f, F, 0) from pNm_x h]
  rw [show pNm c L 0 12 (pNm c L 0 (F 0 - 1) (f, F, 0)) = pNm c L 0 (F 0 - 1) (f, F, 0) from pNm_x h]
  exact pMu_x h
theorem pSb_b {c : Int → Int} {L f f2 : Int} {F : OF} (e : pNm c L 0 (F 0 - 1) (f, F, 0) = (f2, F, 0)) (h : ¬ (pNm c L 0 99 (f2, F, 0)).2.2 = 0) : pSb c L (f, F, 0) = pNm c L 0 99 (f2, F, 0) := by
  unfold pSb
  rw [show pNm c L 0 (((f, F, (0 : Int)) : Ps).2.1 0 - 1) (f, F, 0) = (f2, F, 0) from e]
  rw [show pNm c L 0 12 (pNm c L 0 99 (f2, F, 0)) = pNm c L 0 99 (f2, F, 0) from pNm_x h]
  exact pMu_x h
theorem pSb_c {c : Int → Int} {L f f2 f3 : Int} {F : OF} (e : pNm c L 0 (F 0 - 1) (f, F, 0) = (f2, F, 0)) (e2 : pNm c L 0 99 (f2, F, 0) = (f3, F, 0)) (h : ¬ (pNm c L 0 12 (f3, F, 0)).2.2 = 0) : pSb c L (f, F, 0) = pNm c L 0 12 (f3, F, 0) := by
  unfold pSb
  rw [show pNm c L 0 (((f, F, (0 : Int)) : Ps).2.1 0 - 1) (f, F, 0) = (f2, F, 0) from e, e2]
  exact pMu_x h
theorem pSb_d {c : Int → Int} {L f f2 f3 f4 : Int} {F : OF} (e : pNm c L 0 (F 0 - 1) (f, F, 0) = (f2, F, 0)) (e2 : pNm c L 0 99 (f2, F, 0) = (f3, F, 0)) (e3 : pNm c L 0 12 (f3, F, 0) = (f4, F, 0)) : pSb c L (f, F, 0) = pSm c L (f4, F, 0) := by
  unfold pSb
  rw [show pNm c L 0 (((f, F, (0 : Int)) : Ps).2.1 0 - 1) (f, F, 0) = (f2, F, 0) from e, e2, e3]
/-- a sheet that is read well -/
theorem pSheet_e {c : Int → Int} {L f : Int} {F : OF} (hG : GD F) (h1 : F 1 ≤ 12) (h : (pSheet c L (f, F, 0)).2.2 = 0) : GD (pSheet c L (f, F, 0)).2.1 ∧ (pSheet c L (f, F, 0)).2.1 0 = F 0 ∧ (pSheet c L (f, F, 0)).2.1 1 = F 1 + 1 := by
  by_cases h12 : F 1 = 12
  · rw [pSheet_12 h12] at h
    exact absurd (show (3 : Int) = 0 from h) (by decide)
  · by_cases hk : kd c L (nxt c L f) = 0
    · rw [pSheet_k h12 hk] at h
      exact absurd (show (1 : Int) = 0 from h) (by decide)
    · by_cases hn : noR c L F (nxt c L (nxt c L f))
      · rw [pSheet_n h12 hk hn] at h
        exact absurd (show (2 : Int) = 0 from h) (by decide)
      · have e := pSheet_s h12 hk hn
        by_cases b1 : (pSb c L (nxt c L (nxt c L f), F, 0)).2.2 = 0
        · by_cases a1 : (pNm c L 0 (F 0 - 1) (nxt c L (nxt c L f), F, 0)).2.2 = 0
          · obtain ⟨_, k1, r1, q1⟩ := pNm_e a1
            by_cases a2 : (pNm c L 0 99 (nxt c L (nxt c L (nxt c L f)), F, 0)).2.2 = 0
            · obtain ⟨_, k2, r2, q2⟩ := pNm_e a2
              by_cases a3 : (pNm c L 0 12 (nxt c L (nxt c L (nxt c L (nxt c L f))), F, 0)).2.2 = 0
              · obtain ⟨_, k3, r3, q3⟩ := pNm_e a3
                rw [e, if_pos b1, q1]
                have hkr := kd_r (c := c) (L := L) (f := nxt c L f)
                have hroom : F (23 + 10 * tkV c L (nxt c L (nxt c L f))) < F (15 + 2 * tkV c L (nxt c L (nxt c L f))) := by
                  apply Classical.byContradiction
                  intro q
                  exact hn ⟨k1, by have := r1.2; have : tkV c L (nxt c L (nxt c L f)) ≤ F 0 - 1 := this; omega, q⟩
                rw [q2]
                have r1a : 0 ≤ tkV c L (nxt c L (nxt c L f)) ∧ tkV c L (nxt c L (nxt c L f)) ≤ F 0 - 1 := r1
                exact hG.sheet (by omega) (by omega) r1a.1 (by omega) hroom r2 r3
              · rw [pSb_c q1 q2 a3] at b1
                exact absurd b1 a3
            · rw [pSb_b q1 a2] at b1
              exact absurd b1 a2
          · rw [pSb_a a1] at b1
            exact absurd b1 a1
        · rw [e, if_neg b1] at h
          exact absurd h b1
theorem fR.w {I J : HD} (h : fR I J) : fr8 I J := h.1
theorem wd_s {q v : Int} {g : Int → Int} {F : OF} {s : Ps} {e : Int} (h : ∀ j, 0 ≤ j → j < q → g j = F (3 + j)) {j : Int} (a : 0 ≤ j) (b : j < q + 1) : (if j = q then v else g j) = ((s.1, (fun k => if k = 3 + q then v else F k), e) : Ps).2.1 (3 + j) := by
  show _ = if 3 + j = 3 + q then v else F (3 + j)
  by_cases w : j = q
  · rw [if_pos w, if_pos (by omega)]
  · rw [if_neg w, if_neg (by omega)]
    exact h j a (by omega)
