/-! ===== the reference reads ===== -/
def fM3 (I J : HD) : Prop := (∀ a, a ≠ 30 → J a = I a) ∧ ∀ j, (j < 14 ∨ 19 < j) → J 30 j = I 30 j
theorem fM3.rf {I : HD} : fM3 I I := ⟨fun _ _ => rfl, fun _ _ => rfl⟩
theorem fM3.tr {I J K : HD} (h : fM3 I J) (g : fM3 J K) : fM3 I K := ⟨fun a x => (g.1 a x).trans (h.1 a x), fun j x => (g.2 j x).trans (h.2 j x)⟩
theorem fM.w {I J : HD} (h : fM I J) : fM3 I J := ⟨h.1, fun j x => h.2 j (by omega)⟩
def MS (I : HD) (c : Int → Int) (L : Int) (s : Ps) : Prop := atM I c L s.1 ∧ I 30 18 = s.2.2 ∧ (¬ s.2.2 = 0 → I 30 19 = s.1) ∧ 0 ≤ s.2.2 ∧ s.2.2 ≤ 3
theorem atM.fr {I J : HD} {c : Int → Int} {L f : Int} (h : atM I c L f) (h1 : ∀ j, 13 ≤ j → j ≤ 17 → J 30 j = I 30 j) (h2 : J 37 = I 37) : atM J c L f := by
  obtain ⟨a, b, d, e⟩ := h
  refine ⟨a.fr (h1 13 (by omega) (by omega)) h2, b, d, ?_⟩
  rw [h1 15 (by omega) (by omega), h1 16 (by omega) (by omega), h1 17 (by omega) (by omega), h1 14 (by omega) (by omega)]
  exact e
theorem MS.fr {I J : HD} {c : Int → Int} {L : Int} {s : Ps} (h : MS I c L s) (h1 : J 30 = I 30) (h2 : J 37 = I 37) : MS J c L s := by
  obtain ⟨a, b⟩ := h
  refine ⟨a.fr (fun j _ _ => by rw [h1]) h2, ?_⟩
  rw [h1]
  exact b
noncomputable def pBad (k : Int) (s : Ps) : Ps := @ite Ps (s.2.2 = 0) (Classical.propDecidable _) (s.1, s.2.1, k) s
theorem pBad_t {k : Int} {s : Ps} (h : s.2.2 = 0) : pBad k s = (s.1, s.2.1, k) := if_pos h
theorem pBad_x {k : Int} {s : Ps} (h : ¬ s.2.2 = 0) : pBad k s = s := if_neg h
theorem kBad (X : XC) {I : HD} {c : Int → Int} {L k : Int} {s : Ps} (h : MS I c L s) (k1 : 1 ≤ k) (k3 : k ≤ 3) : Cl X 0 mX9_bad [rv X 30, iv k] I (fun r J => r = none ∧ fM3 I J ∧ MS J c L (pBad k s) ∧ ¬ (pBad k s).2.2 = 0) := by
  obtain ⟨a, b, d, e1, e2⟩ := id h
  refine (kX9_bad X (k := k) b (by unfold rg; omega) a.2.2.2.2.1).mono ?_
  rintro r J ⟨rfl, h1, h2⟩
  by_cases q : s.2.2 = 0
  · have e := h2 q
    rw [pBad_t q]
    refine ⟨rfl, ?_, ?_, (show ¬ k = 0 by omega)⟩
    · rw [e]
      exact ⟨fun a x => (up_row x).trans (up_row x), fun j x => (up_i (by omega)).trans (up_i (by omega))⟩
    · rw [e]
      exact ⟨a.fr (fun j x y => (up_i (by omega)).trans (up_i (by omega))) ((up_row (by decide)).trans (up_row (by decide))), (up_i (by decide)).trans up_s, fun _ => up_s, (show 0 ≤ k by omega), (show k ≤ 3 by omega)⟩
  · have e := h1 q
    subst e
    rw [pBad_x q]
    exact ⟨rfl, fM3.rf, h, q⟩
theorem kNxt (X : XC) {I : HD} {c : Int → Int} {L : Int} {s : Ps} (h : MS I c L s) (h0 : s.2.2 = 0) : Cl X 1 mX9_next [rv X 30] I (fun r J => r = none ∧ fM3 I J ∧ MS J c L (nxt c L s.1, s.2.1, 0)) := by
  obtain ⟨a, b, d, e1, e2⟩ := id h
  have hn := tkN_r (c := c) (L := L) a.2.2.1
  refine (kX9_next X (c := c) (L := L) (p := tkN c L s.1) a.1 a.2.2.2.2.2.2 (by have := a.2.1; omega) hn.2).mono ?_
  rintro r J ⟨rfl, hf, h1, h2, h3, h4⟩
  have hr := tkF_r (c := c) hn.2
  exact ⟨rfl, hf.w, ⟨a.1.fr (hf.2 13 (by omega)) (hf.1 37 (by decide)), (show 0 ≤ tkF c L (tkN c L s.1) by have := a.2.1; omega), hr.2, h1, h2, h3, h4⟩, (hf.2 18 (by omega)).trans (b.trans h0), fun q => absurd (show (0 : Int) = 0 from rfl) q, (show (0 : Int) ≤ 0 by decide), (show (0 : Int) ≤ 3 by decide)⟩
noncomputable def nmS (c : Int → Int) (L : Int) (s : Ps) : Int := if s.2.2 = 0 then nmV c L s.1 else 0
theorem nmS_is {c : Int → Int} {L : Int} {s : Ps} {i : Nat} (hi : i < 8) : nmS c L s = stV i ↔ (s.2.2 = 0 ∧ isW c L i s.1) := by
  unfold nmS
  by_cases q : s.2.2 = 0
  · rw [if_pos q, nm_is hi]
    exact ⟨fun w => ⟨q, w⟩, fun w => w.2⟩
  · rw [if_neg q]
    constructor
    · intro w
      have hp : ∀ i : Nat, i < 8 → stV i ≠ 0 := by decide
      exact absurd w.symm (hp i hi)
    · intro w; exact absurd w.1 q
theorem nmS_r {c : Int → Int} {L : Int} {s : Ps} (h : 0 ≤ s.1) : 0 ≤ nmS c L s ∧ nmS c L s < 72057594037927936 := by
  unfold nmS
  split
  · exact nmV_r h
  · omega
theorem kNam (X : XC) {I : HD} {c : Int → Int} {L : Int} {s : Ps} (h : MS I c L s) : Cl X 0 mX9_name [rv X 30] I (Kj (nmS c L s) I) := by
  have e := kX9_name X h.1 h.2.1 (by have := h.2.2.2; unfold rg; omega)
  exact e
noncomputable def fgV (c : Int → Int) (L f : Int) : Int := if tkK c L f = 2 then tkV c L f else 0
theorem fgV_r {c : Int → Int} {L f : Int} : 0 ≤ fgV c L f ∧ fgV c L f ≤ 999 := by
  unfold fgV
  split
  · rename_i h; exact tkV_r h
  · omega
def eqF (I : HD) (F : OF) : Prop := ∀ k, 0 ≤ k → k < 127 → I 35 k = F k
theorem eqF.fr {I J : HD} {F : OF} (h : eqF I F) (e : J 35 = I 35) : eqF J F := fun k a b => by rw [e]; exact h k a b
theorem eqF.up {I : HD} {F : OF} {i z : Int} (h : eqF I F) : eqF (up I 35 i z) (fun k => if k = i then z else F k) := fun k a b => by
  rw [up_at]
  by_cases q : k = i
  · rw [if_pos q]; exact (if_pos q).symm
  · rw [if_neg q]; exact (h k a b).trans (if_neg q).symm
noncomputable def bgS (c : Int → Int) (L k m : Int) (s : Ps) : Ps := @ite Ps (s.2.1 k = m) (Classical.propDecidable _) (s.1, s.2.1, 3) (nxt c L s.1, s.2.1, 0)
theorem bgS_F {c : Int → Int} {L k m : Int} {s : Ps} : (bgS c L k m s).2.1 = s.2.1 := by
  unfold bgS
  split <;> rfl
theorem bgS_t {c : Int → Int} {L k m : Int} {s : Ps} (h : s.2.1 k = m) : bgS c L k m s = (s.1, s.2.1, 3) := if_pos h
theorem bgS_f {c : Int → Int} {L k m : Int} {s : Ps} (h : ¬ s.2.1 k = m) : bgS c L k m s = (nxt c L s.1, s.2.1, 0) := if_neg h
theorem bgS_e {c : Int → Int} {L k m : Int} {s : Ps} (h : (bgS c L k m s).2.2 = 0) : ¬ s.2.1 k = m := fun q => by
  rw [bgS_t q] at h
  exact absurd (show (3 : Int) = 0 from h) (by decide)
theorem pDesk_m {c : Int → Int} {L f : Int} {F : OF} : pDesk c L (f, F, 0) = @ite Ps ((pSm c L (pNm c L 0 3 (pNm c L 1 9 (bgS c L 0 4 (f, F, 0))))).2.2 = 0) (Classical.propDecidable _) ((pSm c L (pNm c L 0 3 (pNm c L 1 9 (bgS c L 0 4 (f, F, 0))))).1, dkO F (tkV c L (bgS c L 0 4 (f, F, 0)).1) (tkV c L (pNm c L 1 9 (bgS c L 0 4 (f, F, 0))).1), 0) (pSm c L (pNm c L 0 3 (pNm c L 1 9 (bgS c L 0 4 (f, F, 0))))) := by
  by_cases h : F 0 = 4
  · have n : ¬ ((f, F, (3 : Int)) : Ps).2.2 = 0 := show ¬ (3 : Int) = 0 by decide
    rw [pDesk_4 h, show bgS c L 0 4 (f, F, 0) = (f, F, 3) from bgS_t h, pNm_x n, pNm_x n, show pSm c L (f, F, 3) = (f, F, 3) from pMu_x n, if_neg n]
  · rw [show bgS c L 0 4 (f, F, 0) = (nxt c L f, F, 0) from bgS_f h]
    exact if_neg h
/-- the sheet's sort, and whether its desk has room -/
noncomputable def shA (c : Int → Int) (L : Int) (s : Ps) : Ps := @ite Ps (s.2.2 = 0 ∧ noR c L s.2.1 s.1) (Classical.propDecidable _) (s.1, s.2.1, 2) s
theorem shA_F {c : Int → Int} {L : Int} {s : Ps} : (shA c L s).2.1 = s.2.1 := by
  unfold shA
  split <;> rfl
noncomputable abbrev shK (c : Int → Int) (L f : Int) (F : OF) : Ps := pMu c L (¬ kd c L (bgS c L 1 12 (f, F, 0)).1 = 0) (bgS c L 1 12 (f, F, 0))
theorem shK_F {c : Int → Int} {L f : Int} {F : OF} : (shK c L f F).2.1 = F := by
  rw [pMu_F, bgS_F]
theorem pSb_x {c : Int → Int} {L : Int} {s : Ps} (h : ¬ s.2.2 = 0) : pSb c L s = s := by
  unfold pSb
  rw [pNm_x h, pNm_x h, pNm_x h]
  exact pMu_x h
theorem pSheet_m {c : Int → Int} {L f : Int} {F : OF} : pSheet c L (f, F, 0) = @ite Ps ((pSb c L (shA c L (shK c L f F))).2.2 = 0) (Classical.propDecidable _) ((pSb c L (shA c L (shK c L f F))).1, shO F (kd c L (bgS c L 1 12 (f, F, 0)).1) (tkV c L (shA c L (shK c L f F)).1) (tkV c L (pNm c L 0 (F 0 - 1) (shA c L (shK c L f F))).1) (tkV c L (pNm c L 0 99 (pNm c L 0 (F 0 - 1) (shA c L (shK c L f F)))).1), 0) (pSb c L (shA c L (shK c L f F))) := by
  by_cases h : F 1 = 12
  · have n : ¬ ((f, F, (3 : Int)) : Ps).2.2 = 0 := show ¬ (3 : Int) = 0 by decide
    have e : shK c L f F = (f, F, 3) := by
      show pMu c L (¬ kd c L (bgS c L 1 12 (f, F, 0)).1 = 0) (bgS c L 1 12 (f, F, 0)) = _
      rw [show bgS c L 1 12 (f, F, 0) = (f, F, 3) from bgS_t h]
      exact pMu_x n
    rw [e, show shA c L (f, F, 3) = (f, F, 3) from if_neg (fun q => n q.1), pSb_x n, if_neg n]
    exact pSheet_12 h
  · have e0 : bgS c L 1 12 (f, F, 0) = (nxt c L f, F, 0) := bgS_f h
    by_cases hk : kd c L (nxt c L f) = 0
    · have n : ¬ ((nxt c L f, F, (1 : Int)) : Ps).2.2 = 0 := show ¬ (1 : Int) = 0 by decide
      have e : shK c L f F = (nxt c L f, F, 1) := by
        show pMu c L (¬ kd c L (bgS c L 1 12 (f, F, 0)).1 = 0) (bgS c L 1 12 (f, F, 0)) = _
        rw [e0]
        exact pMu_f rfl (fun q => q hk)
      rw [e, show shA c L (nxt c L f, F, 1) = (nxt c L f, F, 1) from if_neg (fun q => n q.1), pSb_x n, if_neg n]
      exact pSheet_k h hk
    · have e : shK c L f F = (nxt c L (nxt c L f), F, 0) := by
        show pMu c L (¬ kd c L (bgS c L 1 12 (f, F, 0)).1 = 0) (bgS c L 1 12 (f, F, 0)) = _
        rw [e0]
        exact pMu_t rfl hk
      by_cases hn : noR c L F (nxt c L (nxt c L f))
      · have n : ¬ ((nxt c L (nxt c L f), F, (2 : Int)) : Ps).2.2 = 0 := show ¬ (2 : Int) = 0 by decide
        rw [e, show shA c L (nxt c L (nxt c L f), F, 0) = (nxt c L (nxt c L f), F, 2) from if_pos ⟨rfl, hn⟩, pSb_x n, if_neg n]
        exact pSheet_n h hk hn
      · rw [e, show shA c L (nxt c L (nxt c L f), F, 0) = (nxt c L (nxt c L f), F, 0) from if_neg (fun q => hn q.2), e0]
        exact pSheet_s h hk hn
theorem fg_e {c : Int → Int} {L f k v : Int} (hk0 : f ≤ k) (hk1 : k ≤ tkN c L f) (hv : v = tvN c f (k - f).toNat) (hkk : f < k → tkK c L f = 2) (hx : k = tkN c L f ∨ ¬ tkK c L f = 2) : v = fgV c L f := by
  unfold fgV
  by_cases q : tkK c L f = 2
  · rw [if_pos q, hv]
    have e : k = tkN c L f := by omega
    rw [e]; rfl
  · rw [if_neg q, hv, show (k - f).toNat = 0 by omega]; rfl
theorem nm_in {c : Int → Int} {L f lo hi : Int} (k : tkK c L f = 2) (o : tkV c L f < lo ∨ hi < tkV c L f) (h : ¬ tkK c L f = 2 ∨ (lo ≤ fgV c L f ∧ fgV c L f ≤ hi)) : False := by
  unfold fgV at h
  rw [if_pos k] at h
  omega
theorem nm_out {c : Int → Int} {L f lo hi : Int} (k : tkK c L f = 2) (h : ¬ (lo ≤ fgV c L f ∧ fgV c L f ≤ hi)) : tkV c L f < lo ∨ hi < tkV c L f := by
  unfold fgV at h
  rw [if_pos k] at h
  omega
