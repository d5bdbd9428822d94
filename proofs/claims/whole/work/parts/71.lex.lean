/-! ===== the tokens of a tape ===== -/
abbrev isBl (z : Int) : Prop := z = 32 ∨ z = 10
abbrev isLe (z : Int) : Prop := 97 ≤ z ∧ z ≤ 122
abbrev isFi (z : Int) : Prop := 48 ≤ z ∧ z ≤ 57
noncomputable def rn (P : Int → Prop) (c : Int → Int) (L : Int) : Nat → Int → Int
  | 0, p => p
  | n + 1, p => @ite Int (p < L ∧ P (c p)) (Classical.propDecidable _) (rn P c L n (p + 1)) p
noncomputable def rnF (P : Int → Prop) (c : Int → Int) (L p : Int) : Int := rn P c L 600 p
theorem rn_n {P : Int → Prop} {c : Int → Int} {L q : Int} (hq : q ≤ L) (he : q = L ∨ ¬ P (c q)) : ∀ {n : Nat} {p : Int}, p ≤ q → q - p < n → (∀ x, p ≤ x → x < q → P (c x)) → rn P c L n p = q
  | 0, p, a, b, _ => by omega
  | n + 1, p, a, b, h => by
    by_cases e : p = q
    · subst e
      exact if_neg (fun z => by rcases he with w | w; (have := z.1; omega); exact w z.2)
    · show @ite Int (p < L ∧ P (c p)) (Classical.propDecidable _) (rn P c L n (p + 1)) p = q
      rw [if_pos ⟨by omega, h p (by omega) (by omega)⟩]
      exact rn_n hq he (by omega) (by omega) (fun x y z => h x (by omega) z)
theorem rn_u {P : Int → Prop} {c : Int → Int} {L p q : Int} (p0 : 0 ≤ p) (L5 : L ≤ 500) (hp : p ≤ q) (hq : q ≤ L) (h : ∀ x, p ≤ x → x < q → P (c x)) (he : q = L ∨ ¬ P (c q)) : rnF P c L p = q := rn_n hq he hp (by omega) h
theorem rn_r {P : Int → Prop} {c : Int → Int} {L : Int} : ∀ {n : Nat} {p : Int}, p ≤ L → p ≤ rn P c L n p ∧ rn P c L n p ≤ L ∧ ∀ x, p ≤ x → x < rn P c L n p → P (c x)
  | 0, p, h => ⟨Int.le_refl _, h, fun x a b => by have : x < p := b; omega⟩
  | n + 1, p, h => by
    by_cases q : p < L ∧ P (c p)
    · rw [show rn P c L (n + 1) p = rn P c L n (p + 1) from if_pos q]
      obtain ⟨a, b, d⟩ := rn_r (P := P) (c := c) (n := n) (p := p + 1) (L := L) (by omega)
      refine ⟨by omega, b, fun x y z => ?_⟩
      by_cases e : x = p
      · rw [e]; exact q.2
      · exact d x (by omega) z
    · rw [show rn P c L (n + 1) p = p from if_neg q]
      exact ⟨Int.le_refl _, h, fun x a b => by omega⟩
noncomputable def tkF (c : Int → Int) (L p : Int) : Int := rnF isBl c L p
noncomputable def tkN (c : Int → Int) (L f : Int) : Int := if L ≤ f then f else if isLe (c f) then rnF isLe c L f else if isFi (c f) then rnF isFi c L f else f + 1
noncomputable def tkK (c : Int → Int) (L f : Int) : Int := if L ≤ f then 0 else if isLe (c f) then 1 else if isFi (c f) then (if rnF isFi c L f - f ≤ 3 then 2 else 4) else if c f = 59 then 3 else 4
def tvN (c : Int → Int) (f : Int) : Nat → Int
  | 0 => 0
  | n + 1 => tvN c f n * 10 + (c (f + n) - 48)
noncomputable def tkV (c : Int → Int) (L f : Int) : Int := tvN c f (tkN c L f - f).toNat
theorem tk0 {c : Int → Int} {L f : Int} (h : L ≤ f) : tkK c L f = 0 ∧ tkN c L f = f := ⟨if_pos h, if_pos h⟩
theorem tk1 {c : Int → Int} {L f : Int} (h : f < L) (g : isLe (c f)) : tkK c L f = 1 ∧ tkN c L f = rnF isLe c L f := by
  unfold tkK tkN
  rw [if_neg (by omega), if_pos g, if_neg (by omega), if_pos g]
  exact ⟨rfl, rfl⟩
theorem tk2 {c : Int → Int} {L f : Int} (h : f < L) (g : isFi (c f)) : tkN c L f = rnF isFi c L f ∧ tkK c L f = if tkN c L f - f ≤ 3 then 2 else 4 := by
  have e : tkN c L f = rnF isFi c L f := by unfold tkN; rw [if_neg (by omega), if_neg (by omega), if_pos g]
  refine ⟨e, ?_⟩
  rw [e]
  unfold tkK
  rw [if_neg (by omega), if_neg (by omega), if_pos g]
theorem tk3 {c : Int → Int} {L f : Int} (h : f < L) (g : ¬ isLe (c f)) (g2 : ¬ isFi (c f)) : tkN c L f = f + 1 ∧ tkK c L f = if c f = 59 then 3 else 4 := by
  unfold tkK tkN
  rw [if_neg (by omega), if_neg g, if_neg g2, if_neg (by omega), if_neg g, if_neg g2]
  exact ⟨rfl, rfl⟩
theorem tkF_r {c : Int → Int} {L p : Int} (h : p ≤ L) : p ≤ tkF c L p ∧ tkF c L p ≤ L := by
  have := rn_r (P := isBl) (c := c) (n := 600) h
  exact ⟨this.1, this.2.1⟩
theorem tkN_r {c : Int → Int} {L f : Int} (h : f ≤ L) : f ≤ tkN c L f ∧ tkN c L f ≤ L := by
  unfold tkN
  split
  · omega
  · split
    · have := rn_r (P := isLe) (c := c) (n := 600) h
      exact ⟨this.1, this.2.1⟩
    · split
      · have := rn_r (P := isFi) (c := c) (n := 600) h
        exact ⟨this.1, this.2.1⟩
      · omega
/-- what a token that is of one kind says -/
theorem tkK_1 {c : Int → Int} {L f : Int} (h : tkK c L f = 1) : f < L ∧ isLe (c f) ∧ ∀ x, f ≤ x → x < tkN c L f → isLe (c x) := by
  by_cases a : L ≤ f
  · rw [(tk0 a).1] at h; omega
  · by_cases b : isLe (c f)
    · have e := (tk1 (c := c) (L := L) (f := f) (by omega) b).2
      refine ⟨by omega, b, ?_⟩
      rw [e]
      exact (rn_r (P := isLe) (c := c) (n := 600) (L := L) (p := f) (by omega)).2.2
    · by_cases d : isFi (c f)
      · have := (tk2 (c := c) (L := L) (f := f) (by omega) d).2
        rw [this] at h
        split at h <;> omega
      · have := (tk3 (c := c) (L := L) (f := f) (by omega) b d).2
        rw [this] at h
        split at h <;> omega
theorem tkK_2 {c : Int → Int} {L f : Int} (h : tkK c L f = 2) : f < L ∧ tkN c L f - f ≤ 3 ∧ ∀ x, f ≤ x → x < tkN c L f → isFi (c x) := by
  by_cases a : L ≤ f
  · rw [(tk0 a).1] at h; omega
  · by_cases b : isLe (c f)
    · rw [(tk1 (c := c) (L := L) (f := f) (by omega) b).1] at h; omega
    · by_cases d : isFi (c f)
      · obtain ⟨e, e2⟩ := tk2 (c := c) (L := L) (f := f) (by omega) d
        rw [e2] at h
        refine ⟨by omega, by split at h <;> omega, ?_⟩
        rw [e]
        exact (rn_r (P := isFi) (c := c) (n := 600) (L := L) (p := f) (by omega)).2.2
      · have := (tk3 (c := c) (L := L) (f := f) (by omega) b d).2
        rw [this] at h
        split at h <;> omega
theorem tkV_r {c : Int → Int} {L f : Int} (h : tkK c L f = 2) : 0 ≤ tkV c L f ∧ tkV c L f ≤ 999 := by
  obtain ⟨a, b, d⟩ := tkK_2 h
  have hr := tkN_r (c := c) (L := L) (f := f) (by omega)
  unfold tkV
  have key : ∀ n : Nat, (n : Int) ≤ tkN c L f - f → 0 ≤ tvN c f n ∧ tvN c f n < 10 ^ n := by
    intro n
    induction n with
    | zero => intro _; show 0 ≤ (0 : Int) ∧ (0 : Int) < 1; omega
    | succ n ih =>
      intro hn
      have i1 := ih (by omega)
      have i2 := d (f + n) (by omega) (by omega)
      have e : (10 : Int) ^ (n + 1) = 10 ^ n * 10 := Int.pow_succ 10 n
      show 0 ≤ tvN c f n * 10 + (c (f + n) - 48) ∧ tvN c f n * 10 + (c (f + n) - 48) < 10 ^ (n + 1)
      omega
  have k := key (tkN c L f - f).toNat (by omega)
  have p : (10 : Int) ^ (tkN c L f - f).toNat ≤ 1000 := by
    rcases (by omega : (tkN c L f - f).toNat = 0 ∨ (tkN c L f - f).toNat = 1 ∨ (tkN c L f - f).toNat = 2 ∨ (tkN c L f - f).toNat = 3) with e | e | e | e <;> rw [e] <;> decide
  omega
theorem tvN_s {c : Int → Int} {f n : Int} (h : f ≤ n) : tvN c f (n + 1 - f).toNat = tvN c f (n - f).toNat * 10 + (c n - 48) := by
  obtain ⟨k, hk⟩ : ∃ k : Nat, (k : Int) = n - f := ⟨(n - f).toNat, by omega⟩
  rw [show (n + 1 - f).toNat = k + 1 by omega, show (n - f).toNat = k by omega]
  show tvN c f k * 10 + (c (f + k) - 48) = _
  rw [show f + (k : Int) = n by omega]
theorem sb_r {u : Int} (h : 0 ≤ u ∧ u < 256) : (u < 128 ∧ sb u = u) ∨ (128 ≤ u ∧ sb u < 0 ∧ -128 ≤ sb u) := by
  unfold sb
  split <;> omega
def TC (I : HD) (c : Int → Int) (L : Int) : Prop := I 19 1 = L ∧ 0 ≤ L ∧ L ≤ 500 ∧ ∀ k, 0 ≤ k → k < L → 0 ≤ c k ∧ c k < 256 ∧ I 20 k = sb (c k)
theorem TC.fr {I J : HD} {c : Int → Int} {L : Int} (h : TC I c L) (h1 : J 19 = I 19) (h2 : J 20 = I 20) : TC J c L := by
  unfold TC
  rw [h1, h2]
  exact h
theorem kAt (X : XC) {I : HD} {c : Int → Int} {L k : Int} (hT : TC I c L) (k0 : 0 ≤ k) (k1 : k < L) : Cl X 0 mX7_at [rv X 19, iv k] I (Ki (sb (c k)) I) := by
  have h := kX7_at X (I := I) (k := k) hT.1 hT.2.1 hT.2.2.1 (by have := hT.2.2.1; unfold rg; omega)
  rw [if_pos ⟨k0, k1⟩, (hT.2.2.2 k k0 k1).2.2] at h
  exact h
def fR (I J : HD) : Prop := (∀ a, a ≠ 18 → J a = I a) ∧ ∀ j, (j < 2 ∨ 5 < j) → J 18 j = I 18 j
theorem fR.up {I J : HD} {j z : Int} (h : fR I J) (hj : 2 ≤ j ∧ j ≤ 5) : fR I (up J 18 j z) := ⟨fun a x => (up_row x).trans (h.1 a x), fun i x => (up_i (by omega)).trans (h.2 i x)⟩
theorem fR.rf {I : HD} : fR I I := ⟨fun _ _ => rfl, fun _ _ => rfl⟩
