/-! ===== order: the reference's next arrangement ===== -/
theorem dSb_c {O : OF} {d n : Int} {f g : Int → Int} (h0 : 0 ≤ O (23 + 10 * d)) (h : agr (O (23 + 10 * d)) f g) : dSb O d n f = dSb O d n g := dS_c (by rw [Int.toNat_of_nonneg h0]; exact h)
/-- the ascending arrangement comes first -/
theorem asc_min {S : Int → Prop} {h : Int} {t B : Int → Int} (hB : arr S h B) (hs : ∀ x, S x → ∃ k, 0 ≤ k ∧ k < h ∧ t k = x) (ha : ∀ k m, 0 ≤ k → k < m → m < h → t k < t m) : ¬ llt h B t := by
  rintro ⟨q, a, b, c, d⟩
  obtain ⟨k, k0, k1, k2⟩ := hs (B q) (hB.1 q a b)
  have : k < q := by
    apply Classical.byContradiction
    intro z
    by_cases e : k = q
    · rw [e] at k2; omega
    · have := ha q k a (by omega) k1; omega
  have e := hB.2.1 k q k0 k1 a b (by rw [c k k0 this, k2])
  omega
/-- the descending arrangement comes last -/
theorem desc_max {S : Int → Prop} {h : Int} {t B : Int → Int} (ht : arr S h t) (hB : arr S h B) (ha : ∀ k m, 0 ≤ k → k < m → m < h → t m < t k) : ¬ llt h t B := by
  rintro ⟨q, a, b, c, d⟩
  obtain ⟨k, k0, k1, k2⟩ := ht.2.2 (B q) (hB.1 q a b)
  have : k < q := by
    apply Classical.byContradiction
    intro z
    by_cases e : k = q
    · rw [e] at k2; omega
    · have := ha q k a (by omega) k1; omega
  have e := hB.2.1 k q k0 k1 a b (by rw [← c k k0 this, k2])
  omega
def nxp (h i j k : Int) : Int := if k < i then k else if k = i then j else if h + i - k = j then i else h + i - k
theorem nx {S : Int → Prop} {h i j : Int} {t u : Int → Int} (hA : arr S h t) (i0 : 0 ≤ i) (hd : ∀ a b, i < a → a < b → b < h → t b < t a) (j0 : i < j) (j1 : j < h) (hj : t i < t j) (hj2 : ∀ k, j < k → k < h → t k < t i) (hu : ∀ k, 0 ≤ k → k < h → u k = t (nxp h i j k)) : arr S h u ∧ llt h t u ∧ ∀ B, arr S h B → llt h t B → lle h u B := by
  have e1 : ∀ k, 0 ≤ k → k < i → u k = t k := fun k a b => by rw [hu k a (by omega)]; unfold nxp; rw [if_pos b]
  have e2 : u i = t j := by rw [hu i i0 (by omega)]; unfold nxp; rw [if_neg (by omega), if_pos rfl]
  have e3 : ∀ k, i < k → k < h → h + i - k ≠ j → u k = t (h + i - k) := fun k a b c => by rw [hu k (by omega) b]; unfold nxp; rw [if_neg (by omega), if_neg (by omega), if_neg c]
  have e4 : ∀ k, i < k → k < h → h + i - k = j → u k = t i := fun k a b c => by rw [hu k (by omega) b]; unfold nxp; rw [if_neg (by omega), if_neg (by omega), if_pos c]
  have asc : ∀ a b, i < a → a < b → b < h → u a < u b := fun a b x y z => by
    by_cases p : h + i - a = j
    · rw [e4 a x (by omega) p, e3 b (by omega) z (by omega)]
      have := hd (h + i - b) j (by omega) (by omega) j1
      omega
    · by_cases q : h + i - b = j
      · rw [e4 b (by omega) z q, e3 a x (by omega) p]
        exact hj2 _ (by omega) (by omega)
      · rw [e3 a x (by omega) p, e3 b (by omega) z q]
        exact hd _ _ (by omega) (by omega) (by omega)
  have px : ∀ k, 0 ≤ k → k < h → 0 ≤ nxp h i j k ∧ nxp h i j k < h := fun k a b => by
    unfold nxp
    split
    · omega
    · split
      · omega
      · split <;> omega
  have pi : ∀ k m, 0 ≤ k → k < h → 0 ≤ m → m < h → nxp h i j k = nxp h i j m → k = m := fun k m a b c d e => by
    unfold nxp at e
    split at e
    · split at e
      · exact e
      · split at e
        · omega
        · split at e <;> omega
    · split at e
      · split at e
        · omega
        · split at e
          · omega
          · split at e <;> omega
      · split at e
        · split at e
          · omega
          · split at e
            · omega
            · split at e <;> omega
        · split at e
          · omega
          · split at e
            · omega
            · split at e <;> omega
  have hU : arr S h u := by
    refine ⟨fun k a b => ?_, fun k m a b c d e => ?_, fun x hx => ?_⟩
    · rw [hu k a b]
      have := px k a b
      exact hA.1 _ this.1 this.2
    · rw [hu k a b, hu m c d] at e
      have p1 := px k a b
      have p2 := px m c d
      exact pi k m a b c d (hA.2.1 _ _ p1.1 p1.2 p2.1 p2.2 e)
    · obtain ⟨m, m0, m1, m2⟩ := hA.2.2 x hx
      by_cases q1 : m < i
      · exact ⟨m, m0, m1, by rw [e1 m m0 q1]; exact m2⟩
      · by_cases q2 : m = i
        · refine ⟨h + i - j, by omega, by omega, ?_⟩
          rw [e4 _ (by omega) (by omega) (by omega), ← q2]; exact m2
        · by_cases q3 : m = j
          · exact ⟨i, i0, by omega, by rw [e2, ← q3]; exact m2⟩
          · refine ⟨h + i - m, by omega, by omega, ?_⟩
            rw [e3 _ (by omega) (by omega) (by omega), show h + i - (h + i - m) = m by omega]; exact m2
  refine ⟨hU, ⟨i, i0, by omega, fun k a b => (e1 k a b).symm, by rw [e2]; exact hj⟩, fun B hB hl => ?_⟩
  obtain ⟨q, a, b, c, d⟩ := hl
  obtain ⟨m, m0, m1, m2⟩ := hA.2.2 (B q) (hB.1 q a b)
  have hmq : q < m := by
    apply Classical.byContradiction
    intro z
    by_cases e : m = q
    · rw [e] at m2; omega
    · have := hB.2.1 m q m0 m1 a b (by rw [← c m m0 (by omega), m2])
      omega
  rcases Int.lt_trichotomy q i with z | z | z
  · exact Or.inr ⟨q, a, b, fun k x y => by rw [e1 k x (by omega), c k x y], by rw [e1 q a z]; exact d⟩
  · subst z
    have hmj : m ≤ j := by
      apply Classical.byContradiction
      intro z
      have := hj2 m (by omega) m1
      omega
    by_cases e : m = j
    · rcases lex_t (show 0 ≤ h by omega) u B with w | w | ⟨r, r0, r1, r2, r3⟩
      · exact Or.inl w
      · exact Or.inr w
      · exfalso
        have hr : q < r := by
          apply Classical.byContradiction
          intro y
          by_cases y2 : r = q
          · rw [y2, e2, ← m2, e] at r3; omega
          · rw [e1 r r0 (by omega), c r r0 (by omega)] at r3; omega
        obtain ⟨k, k0, k1, k2⟩ := hU.2.2 (B r) (hB.1 r r0 r1)
        have hk : k < r := by
          apply Classical.byContradiction
          intro y
          by_cases y2 : k = r
          · rw [y2] at k2; omega
          · have := asc r k hr (by omega) k1; omega
        have := hB.2.1 k r k0 k1 r0 r1 (by rw [r2 k k0 hk, k2])
        omega
    · have := hd m j (by omega) (by omega) j1
      exact Or.inr ⟨q, a, b, fun k x y => by rw [e1 k x (by omega), c k x y], by rw [e2]; omega⟩
  · have := hd q m (by omega) hmq m1
    omega
/-- what is best so far -/
def oI (O : OF) (d n : Int) (t : Int → Int) (z : Int) (b : Int → Int) : Prop := (z = -1000000 ∧ ∀ B, arr (onD O d) (O (23 + 10 * d)) B → ¬ llt (O (23 + 10 * d)) B t) ∨ (0 ≤ z ∧ arr (onD O d) (O (23 + 10 * d)) b ∧ dSb O d n b = z ∧ llt (O (23 + 10 * d)) b t ∧ ∀ B, arr (onD O d) (O (23 + 10 * d)) B → llt (O (23 + 10 * d)) B t → z ≤ dSb O d n B ∧ (dSb O d n B = z → lle (O (23 + 10 * d)) b B))
def oJ (O : OF) (d n : Int) (t : Int → Int) (z : Int) (b : Int → Int) : Prop := 0 ≤ z ∧ arr (onD O d) (O (23 + 10 * d)) b ∧ dSb O d n b = z ∧ lle (O (23 + 10 * d)) b t ∧ ∀ B, arr (onD O d) (O (23 + 10 * d)) B → lle (O (23 + 10 * d)) B t → z ≤ dSb O d n B ∧ (dSb O d n B = z → lle (O (23 + 10 * d)) b B)
theorem oJ_new {O : OF} {d n z : Int} {t b b2 : Int → Int} (h0 : 0 ≤ O (23 + 10 * d)) (ht : arr (onD O d) (O (23 + 10 * d)) t) (h : oI O d n t z b) (hz : 0 ≤ dSb O d n t) (hu : z = -1000000 ∨ dSb O d n t < z) (hb : agr (O (23 + 10 * d)) b2 t) : oJ O d n t (dSb O d n t) b2 := by
  refine ⟨hz, ht.cg hb, dSb_c h0 hb, Or.inl hb, fun B hB hl => ?_⟩
  rcases hl with hl | hl
  · exact ⟨by rw [dSb_c h0 hl]; exact Int.le_refl _, fun _ => Or.inl (fun k x y => (hb k x y).trans (hl k x y).symm)⟩
  · rcases h with ⟨e, h⟩ | ⟨e1, e2, e3, e4, e5⟩
    · exact absurd hl (h B hB)
    · have := (e5 B hB hl).1
      exact ⟨by omega, fun y => by omega⟩
theorem oJ_old {O : OF} {d n z : Int} {t b : Int → Int} (h0 : 0 ≤ O (23 + 10 * d)) (h : oI O d n t z b) (hz : ¬ z = -1000000) (hu : z ≤ dSb O d n t) : oJ O d n t z b := by
  rcases h with ⟨e, h⟩ | ⟨e1, e2, e3, e4, e5⟩
  · exact absurd e hz
  · refine ⟨e1, e2, e3, Or.inr e4, fun B hB hl => ?_⟩
    rcases hl with hl | hl
    · exact ⟨by rw [dSb_c h0 hl]; exact hu, fun _ => Or.inr (e4.cg (fun _ _ _ => rfl) hl)⟩
    · exact e5 B hB hl
theorem oI_nx {O : OF} {d n z : Int} {t u b : Int → Int} (h0 : 0 ≤ O (23 + 10 * d)) (h : oJ O d n t z b) (hl : llt (O (23 + 10 * d)) t u) (hn : ∀ B, arr (onD O d) (O (23 + 10 * d)) B → llt (O (23 + 10 * d)) t B → lle (O (23 + 10 * d)) u B) : oI O d n u z b := by
  obtain ⟨e1, e2, e3, e4, e5⟩ := h
  refine Or.inr ⟨e1, e2, e3, ?_, fun B hB hl2 => e5 B hB ?_⟩
  · rcases e4 with e4 | e4
    · exact hl.cg e4 (fun _ _ _ => rfl)
    · rcases lex_t h0 b u with w | w | w
      · exact absurd (hl.cg (B2 := b) (fun _ _ _ => rfl) w) (fun q => q.as e4)
      · exact w
      · have := hn b e2
        obtain ⟨q, a, x, c, y⟩ := e4
        obtain ⟨r, a2, x2, c2, y2⟩ := hl
        rcases Int.lt_trichotomy q r with v | v | v
        · exact ⟨q, a, x, fun k p1 p2 => (c k p1 p2).trans (c2 k p1 (by omega)), by rw [← c2 q a v]; exact y⟩
        · subst v
          exact ⟨q, a, x, fun k p1 p2 => (c k p1 p2).trans (c2 k p1 (by omega)), by omega⟩
        · exact ⟨r, a2, x2, fun k p1 p2 => (c k p1 (by omega)).trans (c2 k p1 (by omega)), by rw [c r a2 v]; exact y2⟩
  · rcases lex_t h0 B t with w | w | w
    · exact Or.inl w
    · exact Or.inr w
    · rcases hn B hB w with v | v
      · exact (hl2.no v.sy).elim
      · exact (hl2.as v).elim
theorem isB_of {O : OF} {d n z : Int} {t b : Int → Int} (h0 : 0 ≤ O (23 + 10 * d)) (h : oJ O d n t z b) (hm : ∀ B, arr (onD O d) (O (23 + 10 * d)) B → ¬ llt (O (23 + 10 * d)) t B) : isB O d n b ∧ dSb O d n b = z := by
  obtain ⟨e1, e2, e3, e4, e5⟩ := h
  have hle : ∀ B, arr (onD O d) (O (23 + 10 * d)) B → lle (O (23 + 10 * d)) B t := fun B hB => by
    rcases lex_t h0 B t with w | w | w
    · exact Or.inl w
    · exact Or.inr w
    · exact absurd w (hm B hB)
  exact ⟨⟨e2, fun B hB => by rw [e3]; exact (e5 B hB (hle B hB)).1, fun B hB hd => (e5 B hB (hle B hB)).2 (hd.trans e3)⟩, e3⟩
theorem mx_m {O : OF} {d n k : Int} (n0 : 0 ≤ n) (k0 : 0 ≤ k) (hk : k ≤ rch O d n) : (k < n ∧ O (16 + 2 * d) < O (23 + 10 * d) - k) ↔ k < rch O d n := by
  unfold rch at *
  omega
def swp (t : Int → Int) (i j : Int) : Int → Int := fun b => if b = j then t i else if b = i then t j else t b
theorem swp_e {t : Int → Int} {i j h k : Int} (hij : i < j) (j1 : j < h) (k0 : 0 ≤ k) (k1 : k < h) (i0 : 0 ≤ i) : (if i < k then swp t i j (h + i - k) else swp t i j k) = t (nxp h i j k) := by
  unfold swp nxp
  by_cases a : i < k
  · rw [if_pos a, if_neg (show ¬ k < i by omega), if_neg (show ¬ k = i by omega)]
    by_cases b : h + i - k = j
    · rw [if_pos b, if_pos b]
    · rw [if_neg b, if_neg b, if_neg (by omega)]
  · rw [if_neg a]
    by_cases b : k = i
    · rw [if_neg (by omega), if_pos b, if_neg (by omega), if_pos b]
    · rw [if_neg (by omega), if_neg b, if_pos (by omega)]
theorem rev_s {u s : Int → Int} {h i k e x : Int} (hu : ∀ x, 0 ≤ x → x < h → u x = if i < x ∧ (x < k ∨ e < x) then s (h + i - x) else s x) (hk : i < k) (he : e < h) (hke : k + e = h + i) (hl : k < e) (x0 : 0 ≤ x) (x1 : x < h) (i0 : 0 ≤ i) : (if x = e then u k else if x = k then u e else u x) = if i < x ∧ (x < k + 1 ∨ e - 1 < x) then s (h + i - x) else s x := by
  by_cases a : x = e
  · rw [if_pos a, hu k (by omega) (by omega), if_neg (by omega), if_pos (by omega), show h + i - x = k by omega]
  · rw [if_neg a]
    by_cases b : x = k
    · rw [if_pos b, hu e (by omega) (by omega), if_neg (by omega), if_pos (by omega), show h + i - x = e by omega]
    · rw [if_neg b, hu x x0 x1]
      by_cases c : i < x ∧ (x < k ∨ e < x)
      · rw [if_pos c, if_pos (by omega)]
      · rw [if_neg c, if_neg (by omega)]
theorem rev_e {s : Int → Int} {h i k e x : Int} (hk : e ≤ k) (hke : k + e = h + i) : (if i < x ∧ (x < k ∨ e < x) then s (h + i - x) else s x) = if i < x then s (h + i - x) else s x := by
  by_cases a : i < x
  · rw [if_pos a]
    by_cases b : x < k ∨ e < x
    · rw [if_pos ⟨a, b⟩]
    · rw [if_neg (fun q => b q.2), show h + i - x = x by omega]
  · rw [if_neg a, if_neg (fun q => a q.1)]
theorem nx_d {t : Int → Int} {h i i2 : Int} (hd : ∀ a b, i < a → 0 ≤ a → a < b → b < h → t b < t a) (h2 : i2 = i - 1) (hl : t (i + 1) < t i) : ∀ a b, i2 < a → 0 ≤ a → a < b → b < h → t b < t a := fun a b x y z w => by
  by_cases e : a = i
  · subst e
    by_cases f : b = a + 1
    · rw [f]; exact hl
    · have := hd (a + 1) b (by omega) (by omega) (by omega) w
      omega
  · exact hd a b (by omega) y z w
theorem nx_up {S : Int → Prop} {t : Int → Int} {h i : Int} (hA : arr S h t) (i0 : 0 ≤ i) (i1 : i + 1 < h) (hl : t i ≤ t (i + 1)) : t i < t (i + 1) := by
  have := hA.2.1 i (i + 1) i0 (by omega) (by omega) i1
  by_cases e : t i = t (i + 1)
  · have := this e; omega
  · omega
theorem nx_lt {S : Int → Prop} {t : Int → Int} {h i j : Int} (hA : arr S h t) (i0 : 0 ≤ i) (ij : i < j) (j1 : j < h) (_ : 0 ≤ j) (hl : t i ≤ t j) : t i < t j := by
  have := hA.2.1 i j i0 (by omega) (by omega) j1
  by_cases e : t i = t j
  · have := this e; omega
  · omega
theorem cnt_m (f : Int → Prop) {n m : Nat} (h : n ≤ m) : cnt f n ≤ cnt f m := by
  induction m with
  | zero => rw [show n = 0 by omega]; exact Int.le_refl _
  | succ m ih =>
    by_cases e : n = m + 1
    · rw [e]; exact Int.le_refl _
    · have a := ih (by omega)
      have b := bI_le (P := f m)
      show cnt f n ≤ cnt f m + bI (f m)
      omega
theorem cnt_up {f : Int → Prop} {n m : Nat} (h : ∀ p : Int, (n : Int) ≤ p → ¬ f p) (hn : n ≤ m) : cnt f m = cnt f n := by
  have := cnt_ext h (m - n)
  rw [show n + (m - n) = m by omega] at this
  exact this
theorem lf_no {O : OF} {d i : Int} (hV : Val O) (hi : 0 ≤ i) (h0 : 0 ≤ d) (h1 : d < O 0) (h : ¬ dkN O i = d) : ¬ onD O d i := fun q => by
  have e := isD_u hV (Or.inr ⟨h0, h1, q⟩)
  have := dkN_or O i
  omega
theorem lf_S {S : Int → Prop} {t : Int → Int} {c i : Int} (hS : ∀ k, 0 ≤ k → k < c → S (t k) ∧ t k < i) (hon : S i) : ∀ k, 0 ≤ k → k < c + 1 → S (stl t c i k) ∧ stl t c i k < i + 1 := fun k a b => by
  by_cases e : k = c
  · rw [e, stl_s]; exact ⟨hon, by omega⟩
  · rw [stl_n e]
    have := hS k a (by omega)
    exact ⟨this.1, by omega⟩
theorem lf_A {S : Int → Prop} {t : Int → Int} {c i : Int} (hS : ∀ k, 0 ≤ k → k < c → S (t k) ∧ t k < i) (hA : ∀ k m, 0 ≤ k → k < m → m < c → t k < t m) : ∀ k m, 0 ≤ k → k < m → m < c + 1 → stl t c i k < stl t c i m := fun k m a b e => by
  by_cases f : m = c
  · rw [f, stl_s, stl_n (by omega)]
    exact (hS k a (by omega)).2
  · rw [stl_n f, stl_n (by omega)]
    exact hA k m a b (by omega)
theorem lf_X {S : Int → Prop} {t : Int → Int} {c i : Int} (hc : 0 ≤ c) (hX : ∀ x, 0 ≤ x → x < i → S x → ∃ k, 0 ≤ k ∧ k < c ∧ t k = x) : ∀ x, 0 ≤ x → x < i + 1 → S x → ∃ k, 0 ≤ k ∧ k < c + 1 ∧ stl t c i k = x := fun x a b h => by
  by_cases e : x = i
  · exact ⟨c, hc, by omega, by rw [stl_s, e]⟩
  · obtain ⟨k, k0, k1, k2⟩ := hX x a (by omega) h
    exact ⟨k, k0, by omega, by rw [stl_n (by omega)]; exact k2⟩
theorem lf_X2 {S : Int → Prop} {t : Int → Int} {c i : Int} (hX : ∀ x, 0 ≤ x → x < i → S x → ∃ k, 0 ≤ k ∧ k < c ∧ t k = x) (hon : ¬ S i) : ∀ x, 0 ≤ x → x < i + 1 → S x → ∃ k, 0 ≤ k ∧ k < c ∧ t k = x := fun x a b h => by
  by_cases e : x = i
  · exact absurd (e ▸ h) hon
  · exact hX x a (by omega) h
