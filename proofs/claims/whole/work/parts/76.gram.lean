/-! ===== the grammar of a tape: where the reading stands, the office so far, the fault ===== -/
abbrev Ps : Type := Int × OF × Int
noncomputable def nxt (c : Int → Int) (L f : Int) : Int := tkF c L (tkN c L f)
theorem nxt_r {c : Int → Int} {L f : Int} (h : f ≤ L) : f ≤ nxt c L f ∧ nxt c L f ≤ L := by
  have a := tkN_r (c := c) h
  have b := tkF_r (c := c) a.2
  unfold nxt
  omega
noncomputable def pMu (c : Int → Int) (L : Int) (b : Prop) (s : Ps) : Ps := @ite Ps (s.2.2 = 0) (Classical.propDecidable _) (@ite Ps b (Classical.propDecidable _) (nxt c L s.1, s.2.1, 0) (s.1, s.2.1, 1)) s
theorem pMu_x {c : Int → Int} {L : Int} {b : Prop} {s : Ps} (h : ¬ s.2.2 = 0) : pMu c L b s = s := if_neg h
theorem pMu_t {c : Int → Int} {L : Int} {b : Prop} {s : Ps} (h : s.2.2 = 0) (hb : b) : pMu c L b s = (nxt c L s.1, s.2.1, 0) := (if_pos h).trans (if_pos hb)
theorem pMu_f {c : Int → Int} {L : Int} {b : Prop} {s : Ps} (h : s.2.2 = 0) (hb : ¬ b) : pMu c L b s = (s.1, s.2.1, 1) := (if_pos h).trans (if_neg hb)
noncomputable def pNm (c : Int → Int) (L lo hi : Int) (s : Ps) : Ps := @ite Ps (s.2.2 = 0 ∧ tkK c L s.1 = 2 ∧ (tkV c L s.1 < lo ∨ hi < tkV c L s.1)) (Classical.propDecidable _) (s.1, s.2.1, 2) (pMu c L (tkK c L s.1 = 2) s)
theorem pNm_x {c : Int → Int} {L lo hi : Int} {s : Ps} (h : ¬ s.2.2 = 0) : pNm c L lo hi s = s := (if_neg (fun q => h q.1)).trans (pMu_x h)
theorem pNm_a {c : Int → Int} {L lo hi : Int} {s : Ps} (h : s.2.2 = 0) (k : ¬ tkK c L s.1 = 2) : pNm c L lo hi s = (s.1, s.2.1, 1) := (if_neg (fun q => k q.2.1)).trans (pMu_f h k)
theorem pNm_b {c : Int → Int} {L lo hi : Int} {s : Ps} (h : s.2.2 = 0) (k : tkK c L s.1 = 2) (v : tkV c L s.1 < lo ∨ hi < tkV c L s.1) : pNm c L lo hi s = (s.1, s.2.1, 2) := if_pos ⟨h, k, v⟩
theorem pNm_c {c : Int → Int} {L lo hi : Int} {s : Ps} (h : s.2.2 = 0) (k : tkK c L s.1 = 2) (v : lo ≤ tkV c L s.1 ∧ tkV c L s.1 ≤ hi) : pNm c L lo hi s = (nxt c L s.1, s.2.1, 0) := (if_neg (fun q => by omega)).trans (pMu_t h k)
theorem pMu_F {c : Int → Int} {L : Int} {b : Prop} {s : Ps} : (pMu c L b s).2.1 = s.2.1 := by
  unfold pMu
  split
  · split <;> rfl
  · rfl
theorem pNm_F {c : Int → Int} {L lo hi : Int} {s : Ps} : (pNm c L lo hi s).2.1 = s.2.1 := by
  unfold pNm
  split
  · rfl
  · exact pMu_F
theorem pMu_e {c : Int → Int} {L : Int} {b : Prop} {s : Ps} (h : (pMu c L b s).2.2 = 0) : s.2.2 = 0 ∧ b ∧ pMu c L b s = (nxt c L s.1, s.2.1, 0) := by
  by_cases q : s.2.2 = 0
  · by_cases w : b
    · exact ⟨q, w, pMu_t q w⟩
    · rw [pMu_f q w] at h
      exact absurd (show (1 : Int) = 0 from h) (by decide)
  · rw [pMu_x q] at h
    exact absurd h q
theorem pNm_e {c : Int → Int} {L lo hi : Int} {s : Ps} (h : (pNm c L lo hi s).2.2 = 0) : s.2.2 = 0 ∧ tkK c L s.1 = 2 ∧ (lo ≤ tkV c L s.1 ∧ tkV c L s.1 ≤ hi) ∧ pNm c L lo hi s = (nxt c L s.1, s.2.1, 0) := by
  by_cases q : s.2.2 = 0
  · by_cases k : tkK c L s.1 = 2
    · by_cases v : tkV c L s.1 < lo ∨ hi < tkV c L s.1
      · rw [pNm_b q k v] at h
        exact absurd (show (2 : Int) = 0 from h) (by decide)
      · exact ⟨q, k, by omega, pNm_c q k (by omega)⟩
    · rw [pNm_a q k] at h
      exact absurd (show (1 : Int) = 0 from h) (by decide)
  · rw [pNm_x q] at h
    exact absurd h q
/-- a place within the tape, a number of a fault -/
def okS_ (L : Int) (s : Ps) : Prop := 0 ≤ s.1 ∧ s.1 ≤ L ∧ 0 ≤ s.2.2 ∧ s.2.2 ≤ 3
theorem pMu_ok {c : Int → Int} {L : Int} {b : Prop} {s : Ps} (h : okS_ L s) : okS_ L (pMu c L b s) := by
  obtain ⟨h1, h2, h3, h4⟩ := h
  by_cases q : s.2.2 = 0
  · by_cases w : b
    · rw [pMu_t q w]
      have := nxt_r (c := c) h2
      exact ⟨by show 0 ≤ nxt c L s.1; omega, this.2, Int.le_refl _, (show (0 : Int) ≤ 3 from by decide)⟩
    · rw [pMu_f q w]; exact ⟨h1, h2, (show (0 : Int) ≤ 1 from by decide), (show (1 : Int) ≤ 3 from by decide)⟩
  · rw [pMu_x q]; exact ⟨h1, h2, h3, h4⟩
theorem pNm_ok {c : Int → Int} {L lo hi : Int} {s : Ps} (h : okS_ L s) : okS_ L (pNm c L lo hi s) := by
  unfold pNm
  split
  · exact ⟨h.1, h.2.1, (show (0 : Int) ≤ 2 from by decide), (show (2 : Int) ≤ 3 from by decide)⟩
  · exact pMu_ok h
noncomputable abbrev pSm (c : Int → Int) (L : Int) (s : Ps) : Ps := pMu c L (tkK c L s.1 = 3) s
noncomputable abbrev pWi (c : Int → Int) (L : Int) (i : Nat) (s : Ps) : Ps := pMu c L (isW c L i s.1) s
/-- q numbers of the wind -/
noncomputable def pWq (c : Int → Int) (L : Int) : Nat → Ps → Ps
  | 0, s => s
  | q + 1, s => @ite Ps ((pNm c L 0 100 (pWq c L q s)).2.2 = 0) (Classical.propDecidable _) ((pNm c L 0 100 (pWq c L q s)).1, (fun k => if k = 3 + q then tkV c L (pWq c L q s).1 else (pWq c L q s).2.1 k), 0) (pNm c L 0 100 (pWq c L q s))
theorem pWq_t {c : Int → Int} {L : Int} {q : Int} {s : Ps} (h0 : 0 ≤ q) (h : (pNm c L 0 100 (pWq c L q.toNat s)).2.2 = 0) : pWq c L (q + 1).toNat s = ((pNm c L 0 100 (pWq c L q.toNat s)).1, (fun k => if k = 3 + q then tkV c L (pWq c L q.toNat s).1 else (pWq c L q.toNat s).2.1 k), 0) := by
  obtain ⟨n, rfl⟩ : ∃ n : Nat, q = n := ⟨q.toNat, by omega⟩
  rw [show ((n : Int) + 1).toNat = n + 1 by omega]
  rw [Int.toNat_natCast] at h ⊢
  exact if_pos h
theorem pWq_f {c : Int → Int} {L : Int} {q : Int} {s : Ps} (h0 : 0 ≤ q) (h : ¬ (pNm c L 0 100 (pWq c L q.toNat s)).2.2 = 0) : pWq c L (q + 1).toNat s = pNm c L 0 100 (pWq c L q.toNat s) := by
  obtain ⟨n, rfl⟩ : ∃ n : Nat, q = n := ⟨q.toNat, by omega⟩
  rw [show ((n : Int) + 1).toNat = n + 1 by omega]
  rw [Int.toNat_natCast] at h ⊢
  exact if_neg h
theorem pWq_stop {c : Int → Int} {L : Int} {q : Nat} {s : Ps} (h : ¬ (pWq c L q s).2.2 = 0) : ∀ m : Nat, pWq c L (q + m) s = pWq c L q s
  | 0 => rfl
  | m + 1 => by
    have ih := pWq_stop h m
    have e : pNm c L 0 100 (pWq c L (q + m) s) = pWq c L q s := by rw [ih]; exact pNm_x h
    show @ite Ps ((pNm c L 0 100 (pWq c L (q + m) s)).2.2 = 0) (Classical.propDecidable _) _ (pNm c L 0 100 (pWq c L (q + m) s)) = _
    rw [e, if_neg h]
theorem pWq_x {c : Int → Int} {L q n : Int} {s : Ps} (h0 : 0 ≤ q) (hq : q < n) (h : ¬ (pNm c L 0 100 (pWq c L q.toNat s)).2.2 = 0) : pWq c L n.toNat s = pNm c L 0 100 (pWq c L q.toNat s) := by
  have e := pWq_f h0 h
  have := pWq_stop (c := c) (L := L) (q := (q + 1).toNat) (s := s) (by rw [e]; exact h) (n.toNat - (q + 1).toNat)
  rw [show (q + 1).toNat + (n.toNat - (q + 1).toNat) = n.toNat by omega] at this
  rw [this, e]
theorem pWq_ok {c : Int → Int} {L : Int} {s : Ps} (h : okS_ L s) : ∀ n : Nat, okS_ L (pWq c L n s)
  | 0 => h
  | n + 1 => by
    have ih := pNm_ok (c := c) (lo := 0) (hi := 100) (pWq_ok (c := c) h n)
    show okS_ L (@ite Ps ((pNm c L 0 100 (pWq c L n s)).2.2 = 0) (Classical.propDecidable _) ((pNm c L 0 100 (pWq c L n s)).1, (fun k => if k = 3 + (n : Int) then tkV c L (pWq c L n s).1 else (pWq c L n s).2.1 k), 0) (pNm c L 0 100 (pWq c L n s)))
    split
    · exact ⟨ih.1, ih.2.1, (show (0 : Int) ≤ 0 from by decide), (show (0 : Int) ≤ 3 from by decide)⟩
    · exact ih
theorem pWq_k {c : Int → Int} {L : Int} {s : Ps} {k : Int} (hk : k < 3 ∨ 15 ≤ k) : ∀ n : Nat, n ≤ 12 → (pWq c L n s).2.1 k = s.2.1 k
  | 0, _ => rfl
  | n + 1, hn => by
    have ih := pWq_k (c := c) (L := L) (s := s) hk n (by omega)
    show (@ite Ps ((pNm c L 0 100 (pWq c L n s)).2.2 = 0) (Classical.propDecidable _) ((pNm c L 0 100 (pWq c L n s)).1, (fun k => if k = 3 + (n : Int) then tkV c L (pWq c L n s).1 else (pWq c L n s).2.1 k), 0) (pNm c L 0 100 (pWq c L n s))).2.1 k = _
    split
    · exact (if_neg (by omega)).trans ih
    · rw [pNm_F]; exact ih
theorem pWq_w {c : Int → Int} {L : Int} {s : Ps} : ∀ n : Nat, n ≤ 12 → (pWq c L n s).2.2 = 0 → ∀ j : Int, 0 ≤ j → j < n → 0 ≤ (pWq c L n s).2.1 (3 + j) ∧ (pWq c L n s).2.1 (3 + j) ≤ 100
  | 0, _, _, j, a, b => by omega
  | n + 1, hn, h, j, a, b => by
    by_cases q : (pNm c L 0 100 (pWq c L n s)).2.2 = 0
    · have e : pWq c L (n + 1) s = ((pNm c L 0 100 (pWq c L n s)).1, (fun k => if k = 3 + (n : Int) then tkV c L (pWq c L n s).1 else (pWq c L n s).2.1 k), 0) := if_pos q
      have h2 := pNm_e q
      rw [e]
      show 0 ≤ (if 3 + j = 3 + (n : Int) then tkV c L (pWq c L n s).1 else (pWq c L n s).2.1 (3 + j)) ∧ (if 3 + j = 3 + (n : Int) then tkV c L (pWq c L n s).1 else (pWq c L n s).2.1 (3 + j)) ≤ 100
      by_cases w : j = n
      · rw [if_pos (by omega)]; exact h2.2.2.1
      · rw [if_neg (by omega)]
        exact pWq_w n (by omega) h2.1 j a (by omega)
    · have e : pWq c L (n + 1) s = pNm c L 0 100 (pWq c L n s) := if_neg q
      rw [e] at h
      exact absurd h q
noncomputable def pWind (c : Int → Int) (L : Int) (s : Ps) : Ps := pSm c L (pWq c L (12 : Int).toNat (pWi c L 0 s))
/-- an office that is being read -/
def GD (F : OF) : Prop := Val F ∧ F 2 = 0 ∧ (∀ d, F 0 ≤ d → d < 4 → F (23 + 10 * d) = 0) ∧ (∀ p, 0 ≤ p → p < 16 → F (66 + 4 * p) = 0)
def zF : OF := fun _ => 0
theorem pWind_F {c : Int → Int} {L f : Int} (h : (pWind c L (f, zF, 0)).2.2 = 0) : GD (pWind c L (f, zF, 0)).2.1 ∧ (pWind c L (f, zF, 0)).2.1 0 = 0 ∧ (pWind c L (f, zF, 0)).2.1 1 = 0 ∧ (pWind c L (f, zF, 0)).2.1 = (pWq c L (12 : Int).toNat (pWi c L 0 (f, zF, 0))).2.1 := by
  have e0 : (pWi c L 0 (f, zF, 0)).2.1 = zF := pMu_F
  have h2 := (pMu_e h).1
  have e1 : (pWind c L (f, zF, 0)).2.1 = (pWq c L (12 : Int).toNat (pWi c L 0 (f, zF, 0))).2.1 := pMu_F
  have k : ∀ k : Int, (k < 3 ∨ 15 ≤ k) → (pWind c L (f, zF, 0)).2.1 k = 0 := fun k hk => by
    rw [e1, pWq_k hk _ (by decide), e0]; rfl
  have w : ∀ j : Int, 0 ≤ j → j < 12 → 0 ≤ (pWind c L (f, zF, 0)).2.1 (3 + j) ∧ (pWind c L (f, zF, 0)).2.1 (3 + j) ≤ 100 := fun j a b => by
    rw [e1]
    exact pWq_w (12 : Int).toNat (by decide) h2 j a (by have : (((12 : Int).toNat : Nat) : Int) = 12 := rfl; omega)
  have k0 := k 0 (by omega)
  have k1 := k 1 (by omega)
  have k2 := k 2 (by omega)
  exact ⟨⟨⟨by omega, w, fun d a b => by omega, fun d j a b => by omega, fun p a b => by omega, fun d j d2 j2 a b => by omega⟩, k2, fun d a b => k _ (by omega), fun p a b => k _ (by omega)⟩, k0, k1, e1⟩
def dkO (F : OF) (r t : Int) : OF := fun k => if k = 0 then F 0 + 1 else if k = 15 + 2 * F 0 then r else if k = 16 + 2 * F 0 then t else F k
theorem dkO_k {F : OF} {r t k : Int} (h : k ≠ 0 ∧ k ≠ 15 + 2 * F 0 ∧ k ≠ 16 + 2 * F 0) : dkO F r t k = F k := by unfold dkO; rw [if_neg h.1, if_neg h.2.1, if_neg h.2.2]
theorem dkO_0 {F : OF} {r t : Int} : dkO F r t 0 = F 0 + 1 := if_pos rfl
theorem dkO_a {F : OF} {r t : Int} (h : 0 ≤ F 0) : dkO F r t (15 + 2 * F 0) = r := by unfold dkO; rw [if_neg (by omega), if_pos rfl]
theorem dkO_b {F : OF} {r t : Int} (h : 0 ≤ F 0) : dkO F r t (16 + 2 * F 0) = t := by unfold dkO; rw [if_neg (by omega), if_neg (by omega), if_pos rfl]
theorem GD.desk {F : OF} {r t : Int} (h : GD F) (h4 : F 0 < 4) (hr : 1 ≤ r ∧ r ≤ 9) (ht : 0 ≤ t ∧ t ≤ 3) : GD (dkO F r t) := by
  obtain ⟨hV, h2, hz, hm⟩ := h
  have v := hV.a
  have k : ∀ k, k ≠ 0 → k < 15 ∨ 23 ≤ k → dkO F r t k = F k := fun k a b => dkO_k (by omega)
  have k1 := k 1 (by omega) (by omega)
  refine ⟨⟨by rw [dkO_0, k1, k 2 (by omega) (by omega)]; omega, fun q a b => by rw [k _ (by omega) (by omega)]; exact hV.w a b, fun d a b => ?_, fun d j a b c f => ?_, fun p a b => ?_, fun d j d2 j2 a b c f a2 b2 c2 f2 g => ?_⟩, by rw [k 2 (by omega) (by omega)]; exact h2, fun d a b => ?_, fun p a b => by rw [k _ (by omega) (by omega)]; exact hm p a b⟩
  · rw [dkO_0] at b
    rw [k (23 + 10 * d) (by omega) (by omega)]
    by_cases e : d = F 0
    · subst e
      have := hz (F 0) (Int.le_refl _) h4
      rw [dkO_a v.1, dkO_b v.1]
      omega
    · rw [dkO_k (by omega), dkO_k (by omega)]
      exact hV.d a (by omega)
  · rw [dkO_0] at b
    rw [k _ (by omega) (by omega)] at f
    by_cases e : d = F 0
    · subst e
      have := hz (F 0) (Int.le_refl _) h4
      omega
    · rw [k _ (by omega) (by omega), k1]
      exact hV.k a (by omega) c f
  · rw [k1] at b
    rw [k _ (by omega) (by omega), k (64 + 4 * p) (by omega) (by omega), k (65 + 4 * p) (by omega) (by omega), k (66 + 4 * p) (by omega) (by omega)]
    exact hV.p a b
  · rw [dkO_0] at b b2
    rw [k _ (by omega) (by omega)] at f f2
    rw [k _ (by omega) (by omega), k _ (by omega) (by omega)] at g
    have z := hz (F 0) (Int.le_refl _) h4
    have e : d ≠ F 0 := fun e => by rw [e] at f; omega
    have e2 : d2 ≠ F 0 := fun e => by rw [e] at f2; omega
    exact hV.u a (by omega) c f a2 (by omega) c2 f2 g
  · rw [dkO_0] at a
    rw [k _ (by omega) (by omega)]
    exact hz d (by omega) b
theorem RepC.furn {O : OF} {I : HD} {o : Nat} {r t : Int} (hG : GD O) (h : RepC O I o) (h4 : O 0 < 4) : RepC (dkO O r t) (up (up (up (up I (oH o + 2) (O 0) r) (oH o + 3) (O 0) t) (oH o + 4) (O 0) 0) (oH o) 8 (O 0 + 1)) o := by
  obtain ⟨hV, h2, hz, hm⟩ := hG
  have v := hV.a
  have k : ∀ k, k ≠ 0 → k < 15 ∨ 23 ≤ k → dkO O r t k = O k := fun k a b => dkO_k (by omega)
  have k1 := k 1 (by omega) (by omega)
  obtain ⟨J, hJ⟩ : ∃ J, J = up (up (up (up I (oH o + 2) (O 0) r) (oH o + 3) (O 0) t) (oH o + 4) (O 0) 0) (oH o) 8 (O 0 + 1) := ⟨_, rfl⟩
  rw [← hJ]
  have ra : ∀ a, a ≠ oH o → a ≠ oH o + 2 → a ≠ oH o + 3 → a ≠ oH o + 4 → J a = I a := fun a x y z w => by rw [hJ, up_row x, up_row w, up_row z, up_row y]
  have r0 : ∀ j, j ≠ 8 → J (oH o) j = I (oH o) j := fun j q => by rw [hJ, up_i q, up_row (by omega), up_row (by omega), up_row (by omega)]
  have q2 : ∀ p, J (oH o + 2) p = if p = O 0 then r else I (oH o + 2) p := fun p => by rw [hJ, up_row (by omega), up_row (by omega), up_row (by omega), up_at]
  have q3 : ∀ p, J (oH o + 3) p = if p = O 0 then t else I (oH o + 3) p := fun p => by
    rw [hJ, up_row (by omega), up_row (by omega), up_at]
    by_cases e : p = O 0
    · rw [if_pos e, if_pos e]
    · rw [if_neg e, if_neg e, up_row (by omega)]
  have q4 : ∀ p, J (oH o + 4) p = if p = O 0 then 0 else I (oH o + 4) p := fun p => by
    rw [hJ, up_row (by omega), up_at]
    by_cases e : p = O 0
    · rw [if_pos e, if_pos e]
    · rw [if_neg e, if_neg e, up_row (by omega), up_row (by omega)]
  refine ⟨⟨by rw [hJ, up_s, dkO_0], by rw [r0 9 (by decide), k1]; exact h.f1, by rw [r0 10 (by decide), k 2 (by omega) (by omega)]; exact h.f2⟩, fun q a b => by rw [ra _ (by omega) (by omega) (by omega) (by omega), k _ (by omega) (by omega)]; exact h.wind a b, fun d a b => ?_, fun d j a b c f => ?_, fun p a b => ?_, ?_⟩
  · rw [dkO_0] at b
    rw [q2, q3, q4, k (23 + 10 * d) (by omega) (by omega)]
    by_cases e : d = O 0
    · subst e
      have := hz (O 0) (Int.le_refl _) h4
      rw [if_pos rfl, if_pos rfl, if_pos rfl, dkO_a v.1, dkO_b v.1]
      exact ⟨rfl, rfl, this.symm⟩
    · rw [if_neg e, if_neg e, if_neg e, dkO_k (by omega), dkO_k (by omega)]
      exact ⟨h.room a (by omega), h.ston a (by omega), h.hgt a (by omega)⟩
  · rw [dkO_0] at b
    rw [k _ (by omega) (by omega)] at f
    have z := hz (O 0) (Int.le_refl _) h4
    have e : d ≠ O 0 := fun e => by rw [e] at f; omega
    rw [ra _ (by omega) (by omega) (by omega) (by omega), k _ (by omega) (by omega)]
    exact h.pile a (by omega) c f
  · rw [k1] at b
    rw [ra _ (by omega) (by omega) (by omega) (by omega), ra (oH o + 7) (by omega) (by omega) (by omega) (by omega), ra (oH o + 8) (by omega) (by omega) (by omega) (by omega), k _ (by omega) (by omega), k (64 + 4 * p) (by omega) (by omega), k (65 + 4 * p) (by omega) (by omega)]
    exact ⟨h.sort a b, h.wrth a b, h.need a b⟩
  · rw [r0 11 (by decide), h.met, k1]
    exact bs_c' fun p a b => by rw [k (66 + 4 * p) (by omega) (by omega)]
noncomputable def pDesk (c : Int → Int) (L : Int) (s : Ps) : Ps := @ite Ps (s.2.1 0 = 4) (Classical.propDecidable _) (s.1, s.2.1, 3) (@ite Ps ((pSm c L (pNm c L 0 3 (pNm c L 1 9 (nxt c L s.1, s.2.1, 0)))).2.2 = 0) (Classical.propDecidable _) ((pSm c L (pNm c L 0 3 (pNm c L 1 9 (nxt c L s.1, s.2.1, 0)))).1, dkO s.2.1 (tkV c L (nxt c L s.1)) (tkV c L (pNm c L 1 9 (nxt c L s.1, s.2.1, 0)).1), 0) (pSm c L (pNm c L 0 3 (pNm c L 1 9 (nxt c L s.1, s.2.1, 0)))))
noncomputable def pDs (c : Int → Int) (L : Int) : Nat → Ps → Ps
  | 0, s => s
  | n + 1, s => @ite Ps (s.2.2 = 0 ∧ isW c L 1 s.1) (Classical.propDecidable _) (pDs c L n (pDesk c L s)) s
theorem pDs_t {c : Int → Int} {L n : Int} {s : Ps} (h : 0 < n) (q : s.2.2 = 0 ∧ isW c L 1 s.1) : pDs c L n.toNat s = pDs c L (n - 1).toNat (pDesk c L s) := by
  obtain ⟨b, rfl⟩ : ∃ b : Nat, n = b + 1 := ⟨(n - 1).toNat, by omega⟩
  rw [show ((b : Int) + 1).toNat = b + 1 by omega, show (b : Int) + 1 - 1 = b by omega, Int.toNat_natCast]
  exact if_pos q
theorem pDs_f {c : Int → Int} {L : Int} {s : Ps} (q : ¬ (s.2.2 = 0 ∧ isW c L 1 s.1)) : ∀ {n : Nat}, pDs c L n s = s
  | 0 => rfl
  | _ + 1 => if_neg q
def shO (F : OF) (k d w n : Int) : OF := cmO (adO F k w n) d (F 1)
noncomputable def kd (c : Int → Int) (L f : Int) : Int := @ite Int (isW c L 3 f) (Classical.propDecidable _) 2 (@ite Int (isW c L 4 f) (Classical.propDecidable _) 3 (@ite Int (isW c L 5 f) (Classical.propDecidable _) 1 (@ite Int (isW c L 6 f) (Classical.propDecidable _) 4 (@ite Int (isW c L 7 f) (Classical.propDecidable _) 5 0))))
theorem kd_r {c : Int → Int} {L f : Int} : 0 ≤ kd c L f ∧ kd c L f ≤ 5 := by
  unfold kd
  split
  · omega
  · split
    · omega
    · split
      · omega
      · split
        · omega
        · split <;> omega
/-- behind the words 'sheet' and its sort: the desk, and how it goes on -/
def noR (c : Int → Int) (L : Int) (F : OF) (f : Int) : Prop := tkK c L f = 2 ∧ tkV c L f < F 0 ∧ ¬ F (23 + 10 * tkV c L f) < F (15 + 2 * tkV c L f)
noncomputable def pSb (c : Int → Int) (L : Int) (s : Ps) : Ps := pSm c L (pNm c L 0 12 (pNm c L 0 99 (pNm c L 0 (s.2.1 0 - 1) s)))
noncomputable def pSheet (c : Int → Int) (L : Int) (s : Ps) : Ps := @ite Ps (s.2.1 1 = 12) (Classical.propDecidable _) (s.1, s.2.1, 3) (@ite Ps (kd c L (nxt c L s.1) = 0) (Classical.propDecidable _) (nxt c L s.1, s.2.1, 1) (@ite Ps (noR c L s.2.1 (nxt c L (nxt c L s.1))) (Classical.propDecidable _) (nxt c L (nxt c L s.1), s.2.1, 2) (@ite Ps ((pSb c L (nxt c L (nxt c L s.1), s.2.1, 0)).2.2 = 0) (Classical.propDecidable _) ((pSb c L (nxt c L (nxt c L s.1), s.2.1, 0)).1, shO s.2.1 (kd c L (nxt c L s.1)) (tkV c L (nxt c L (nxt c L s.1))) (tkV c L (pNm c L 0 (s.2.1 0 - 1) (nxt c L (nxt c L s.1), s.2.1, 0)).1) (tkV c L (pNm c L 0 99 (pNm c L 0 (s.2.1 0 - 1) (nxt c L (nxt c L s.1), s.2.1, 0))).1), 0) (pSb c L (nxt c L (nxt c L s.1), s.2.1, 0)))))
noncomputable def pSh (c : Int → Int) (L : Int) : Nat → Ps → Ps
  | 0, s => s
  | n + 1, s => @ite Ps (s.2.2 = 0 ∧ isW c L 2 s.1) (Classical.propDecidable _) (pSh c L n (pSheet c L s)) s
theorem pSh_t {c : Int → Int} {L n : Int} {s : Ps} (h : 0 < n) (q : s.2.2 = 0 ∧ isW c L 2 s.1) : pSh c L n.toNat s = pSh c L (n - 1).toNat (pSheet c L s) := by
  obtain ⟨b, rfl⟩ : ∃ b : Nat, n = b + 1 := ⟨(n - 1).toNat, by omega⟩
  rw [show ((b : Int) + 1).toNat = b + 1 by omega, show (b : Int) + 1 - 1 = b by omega, Int.toNat_natCast]
  exact if_pos q
theorem pSh_f {c : Int → Int} {L : Int} {s : Ps} (q : ¬ (s.2.2 = 0 ∧ isW c L 2 s.1)) : ∀ {n : Nat}, pSh c L n s = s
  | 0 => rfl
  | _ + 1 => if_neg q
theorem GD.sheet {F : OF} {k d w n : Int} (h : GD F) (h1 : F 1 < 12) (hk : 1 ≤ k ∧ k ≤ 5) (d0 : 0 ≤ d) (d1 : d < F 0) (hr : F (23 + 10 * d) < F (15 + 2 * d)) (hw : 0 ≤ w ∧ w ≤ 99) (hn : 0 ≤ n ∧ n ≤ 12) : GD (shO F k d w n) ∧ shO F k d w n 0 = F 0 ∧ shO F k d w n 1 = F 1 + 1 := by
  obtain ⟨hV, h2, hz, hm⟩ := h
  have v := hV.a
  have vd := hV.d d0 d1
  have hA := hV.add (s := k) (w := w) (n := n) (by omega) hk hw hn
  have a : ∀ j, j ≠ 1 → j < 63 → adO F k w n j = F j := fun j x y => adO_k v.2.2.1 ⟨x, y⟩
  have a0 := a 0 (by omega) (by omega)
  have a23 := a (23 + 10 * d) (by omega) (by omega)
  have a15 := a (15 + 2 * d) (by omega) (by omega)
  have e : ∀ j, (j < 23 ∨ 63 ≤ j) → shO F k d w n j = adO F k w n j := fun j x => cmO_k x d0 (by omega) (by omega) (by omega)
  refine ⟨⟨?_, ?_, fun d2 x y => ?_, fun p x y => ?_⟩, ?_, ?_⟩
  · refine hA.come d0 (by omega) (by omega) v.2.2.1 (by rw [adO_1]; omega) (fun e2 j x y z t => ?_)
    rw [a0] at y
    have ve := hV.d x y
    rw [a _ (by omega) (by omega)] at t
    rw [a _ (by omega) (by omega)]
    have := hV.k x y z t
    omega
  · rw [e 2 (by omega), a 2 (by omega) (by omega)]; exact h2
  · rw [e 0 (by omega), a0] at x
    have : shO F k d w n (23 + 10 * d2) = adO F k w n (23 + 10 * d2) := by
      unfold shO cmO
      rw [if_neg (by omega), if_neg (by omega)]
    rw [this, a _ (by omega) (by omega)]
    exact hz d2 x y
  · rw [e _ (by omega)]
    by_cases q : p < F 1
    · rw [adO_p v.2.2.1 x q (by omega)]; exact hm p x y
    · by_cases q2 : p = F 1
      · rw [q2]; exact (adO_n v.2.2.1).2.2.2
      · have : adO F k w n (66 + 4 * p) = F (66 + 4 * p) := by
          unfold adO
          rw [if_neg (by omega), if_neg (by omega), if_neg (by omega), if_neg (by omega), if_neg (by omega)]
        rw [this]; exact hm p x y
  · rw [e 0 (by omega), a0]
  · rw [e 1 (by omega), adO_1]
/-- the whole tape -/
noncomputable def pA1 (c : Int → Int) (L : Int) : Ps := pWind c L (tkF c L 0, zF, 0)
noncomputable def pA2 (c : Int → Int) (L : Int) (s : Ps) : Ps := @ite Ps (s.2.2 = 0) (Classical.propDecidable _) (@ite Ps (isW c L 1 s.1) (Classical.propDecidable _) (pDs c L (5 : Int).toNat s) (s.1, s.2.1, 1)) s
noncomputable def pA3 (c : Int → Int) (L : Int) (s : Ps) : Ps := @ite Ps (s.2.2 = 0 ∧ ¬ tkK c L s.1 = 0) (Classical.propDecidable _) (s.1, s.2.1, 1) s
noncomputable def pAll (c : Int → Int) (L : Int) : Ps := pA3 c L (pSh c L (13 : Int).toNat (pA2 c L (pA1 c L)))
def CS (I : HD) (c : Int → Int) (L : Int) (s : Ps) : Prop := (s.2.2 = 0 → atC I c L s.1) ∧ (¬ s.2.2 = 0 → I 18 3 = s.1 ∧ I 18 7 = s.2.2)
theorem atC.fr {I J : HD} {c : Int → Int} {L f : Int} (h : atC I c L f) (h1 : J 18 = I 18) (h2 : J 19 = I 19) (h3 : J 20 = I 20) : atC J c L f := by
  obtain ⟨a, b, d, e⟩ := h
  refine ⟨a.fr h2 h3, b, d, ?_⟩
  rw [h1]
  exact e
theorem atC.st {I J : HD} {c : Int → Int} {L p : Int} (hT : TC I c L) (p0 : 0 ≤ p) (pL : p ≤ L) (h : fR I J ∧ J 18 2 = tkK c L (tkF c L p) ∧ J 18 3 = tkF c L p ∧ J 18 4 = tkN c L (tkF c L p) ∧ (tkK c L (tkF c L p) = 2 → J 18 5 = tkV c L (tkF c L p))) : atC J c L (tkF c L p) := by
  have r := tkF_r (c := c) pL
  exact ⟨hT.fr (h.1.1 19 (by decide)) (h.1.1 20 (by decide)), by omega, r.2, h.2.1, h.2.2.1, h.2.2.2.1, h.2.2.2.2⟩
