/-! ===== the mean: odds, sums, Euclid ===== -/
theorem lrem_i {a b : Int} (h : 0 ≤ a) (h2 : a < 9000000000000000) (hn : 0 < b) (hn2 : b < 9000000000000000) : iL a - iL a / iL b * iL b = iL (a % b) := by
  obtain ⟨n, rfl⟩ : ∃ n : Nat, b = n := ⟨b.toNat, by omega⟩
  exact lrem_n h h2 (by omega) (by omega)
theorem ldiv_i {a b : Int} (h : 0 ≤ a) (h2 : a < 9000000000000000) (hn : 0 < b) (hn2 : b < 9000000000000000) : iL a / iL b = iL (a / b) := by
  obtain ⟨n, rfl⟩ : ∃ n : Nat, b = n := ⟨b.toNat, by omega⟩
  obtain ⟨k, rfl⟩ : ∃ k : Nat, a = k := ⟨a.toNat, by omega⟩
  rw [iL_n, iL_n, pk_lDiv (by omega) (by omega) (by omega), ← Int.natCast_ediv, iL_n]
theorem iL_ne {b : Int} (h : 0 < b) (h2 : b < 9000000000000000) : ¬ iL b = 0 := fun q => by
  have := (rl_eq (a := b) (b := 0) (by unfold rl; omega) (by unfold rl; omega)).mp q
  omega
def od (O : OF) : Nat → Int → Int
  | 0, k => if k = 0 then 1 else 0
  | j + 1, k => od O j k * (100 - O (3 + (O 2 + j))) + (if 0 < k then od O j (k - 1) * O (3 + (O 2 + j)) else 0)
theorem od_s {O : OF} {j k : Int} (h : 0 ≤ j) : od O (j + 1).toNat k = od O j.toNat k * (100 - O (3 + (O 2 + j))) + (if 0 < k then od O j.toNat (k - 1) * O (3 + (O 2 + j)) else 0) := by
  obtain ⟨n, rfl⟩ : ∃ n : Nat, j = n := ⟨j.toNat, by omega⟩
  rw [show ((n : Int) + 1).toNat = n + 1 by omega, Int.toNat_natCast]
  rfl
theorem od_hi {O : OF} : ∀ {j : Nat} {k : Int}, (j : Int) < k → od O j k = 0
  | 0, k, h => if_neg (by omega)
  | j + 1, k, h => by
    show od O j k * _ + (if 0 < k then od O j (k - 1) * _ else 0) = 0
    rw [od_hi (j := j) (by omega), if_pos (by omega), od_hi (j := j) (k := k - 1) (by omega)]
    omega
theorem mix_le {x y w B : Int} (hx : 0 ≤ x ∧ x ≤ B) (hy : 0 ≤ y ∧ y ≤ B) (hw : 0 ≤ w ∧ w ≤ 100) : 0 ≤ x * (100 - w) + y * w ∧ x * (100 - w) + y * w ≤ B * 100 := by
  have a1 := Int.mul_nonneg hx.1 (show 0 ≤ 100 - w by omega)
  have a2 := Int.mul_nonneg hy.1 hw.1
  have a3 := Int.mul_le_mul_of_nonneg_right hx.2 (show 0 ≤ 100 - w by omega)
  have a4 := Int.mul_le_mul_of_nonneg_right hy.2 hw.1
  have a5 : B * (100 - w) = B * 100 - B * w := Int.mul_sub B 100 w
  omega
theorem od_le {O : OF} (hV : Val O) : ∀ {j : Nat} {k : Int}, O 2 + j ≤ 12 → 0 ≤ od O j k ∧ od O j k ≤ 100 ^ j
  | 0, k, _ => by
    show 0 ≤ (if k = 0 then (1 : Int) else 0) ∧ (if k = 0 then (1 : Int) else 0) ≤ 1
    split <;> omega
  | j + 1, k, h => by
    have v := hV.a
    have i1 := od_le hV (j := j) (k := k) (by omega)
    have i2 := od_le hV (j := j) (k := k - 1) (by omega)
    have w := hV.w (q := O 2 + j) (by omega) (by omega)
    have e : od O (j + 1) k = od O j k * (100 - O (3 + (O 2 + j))) + (if 0 < k then od O j (k - 1) else 0) * O (3 + (O 2 + j)) := by
      show od O j k * _ + (if 0 < k then od O j (k - 1) * _ else 0) = _
      by_cases q : 0 < k
      · rw [if_pos q, if_pos q]
      · rw [if_neg q, if_neg q, Int.zero_mul]
    rw [e, show (100 : Int) ^ (j + 1) = 100 ^ j * 100 from Int.pow_succ 100 j]
    exact mix_le i1 (by split <;> omega) w
noncomputable def sm (O : OF) (n : Nat) : Nat → Int
  | 0 => 0
  | m + 1 => sm O n m + od O n m * wsum O (tkn O m) (O 1).toNat
theorem sm_s {O : OF} {n : Nat} {m : Int} (h : 0 ≤ m) : sm O n (m + 1).toNat = sm O n m.toNat + od O n m * wsum O (tkn O m) (O 1).toNat := by
  obtain ⟨k, rfl⟩ : ∃ k : Nat, m = k := ⟨m.toNat, by omega⟩
  rw [show ((k : Int) + 1).toNat = k + 1 by omega, Int.toNat_natCast]
  rfl
theorem sm_ext {O : OF} {n : Nat} : ∀ m : Nat, sm O n (n + 1 + m) = sm O n (n + 1)
  | 0 => rfl
  | m + 1 => by
    show sm O n (n + 1 + m) + od O n ((n + 1 + m : Nat) : Int) * _ = sm O n (n + 1)
    rw [sm_ext m, od_hi (by omega)]
    omega
theorem sm_le {O : OF} (hV : Val O) {n : Nat} (hn : n ≤ 3) (h : O 2 + n ≤ 12) : ∀ {m : Nat}, 0 ≤ sm O n m ∧ sm O n m ≤ 1584000000 * m
  | 0 => by simp [sm]
  | m + 1 => by
    have v := hV.a
    have ih := sm_le hV hn h (m := m)
    have a := od_le hV (j := n) (k := m) h
    have b := wsum_le (f := tkn O m) hV (n := (O 1).toNat) (by omega)
    have p : (100 : Int) ^ n ≤ 1000000 := by
      rcases (by omega : n = 0 ∨ n = 1 ∨ n = 2 ∨ n = 3) with rfl | rfl | rfl | rfl <;> decide
    have c1 := Int.mul_nonneg a.1 b.1
    have c2 := Int.mul_le_mul (Int.le_trans a.2 p) (show wsum O (tkn O m) (O 1).toNat ≤ 1584 by omega) b.1 (by decide)
    show 0 ≤ sm O n m + od O n m * wsum O (tkn O m) (O 1).toNat ∧ sm O n m + od O n m * wsum O (tkn O m) (O 1).toNat ≤ 1584000000 * ((m + 1 : Nat) : Int)
    omega
theorem gcd_st {d r : Int} (h0 : 0 ≤ d) (h1 : 0 < r) : Int.gcd r (d % r) = Int.gcd d r := by
  obtain ⟨m, rfl⟩ : ∃ n : Nat, d = n := ⟨d.toNat, by omega⟩
  obtain ⟨n, rfl⟩ : ∃ n : Nat, r = n := ⟨r.toNat, by omega⟩
  rw [← Int.natCast_emod]
  show Nat.gcd n (m % n) = Nat.gcd m n
  rw [Nat.gcd_comm n, Nat.gcd_comm m, ← Nat.gcd_rec]
theorem gcd_z {d r : Int} (h0 : 0 ≤ d) (h1 : r = 0) : ((Int.gcd d r : Nat) : Int) = d := by
  subst h1
  rw [Int.gcd_zero]
  omega
theorem gcd_p {a b : Int} (h : 0 < b) : 0 < ((Int.gcd a b : Nat) : Int) := by
  have : 0 < Int.gcd a b := Int.gcd_pos_of_ne_zero_right _ (by omega)
  omega
theorem gcd_lt {a b : Int} (h : 0 < b) : ((Int.gcd a b : Nat) : Int) ≤ b := Int.le_of_dvd h (Int.gcd_dvd_right _ _)
def gdI (a b d r s : Int) : Prop := 0 ≤ d ∧ d < 10000000000 ∧ 0 ≤ r ∧ r ≤ 1000000 ∧ Int.gcd d r = Int.gcd a b ∧ ((s = 0 ∧ d = a ∧ r = b) ∨ (1 ≤ s ∧ r < d ∧ d * r * 2 ^ s.toNat ≤ 4398046511104))
theorem gdI_s {a b d r s : Int} (h : gdI a b d r s) (hr : ¬ r = 0) (s0 : 0 ≤ s) : gdI a b r (d % r) (s + 1) := by
  obtain ⟨h1, h2, h3, h4, h5, h6⟩ := h
  have m1 := Int.emod_nonneg d hr
  have m2 := Int.emod_lt_of_pos d (show 0 < r by omega)
  refine ⟨by omega, by omega, m1, by omega, (gcd_st h1 (by omega)).trans h5, Or.inr ⟨by omega, m2, ?_⟩⟩
  rw [show (s + 1).toNat = s.toNat + 1 by omega, show (2 : Int) ^ (s.toNat + 1) = 2 ^ s.toNat * 2 from Int.pow_succ 2 _]
  rcases h6 with ⟨e1, e2, e3⟩ | ⟨e1, e2, e3⟩
  · rw [e1, show (2 : Int) ^ (0 : Int).toNat = 1 from rfl]
    have := Int.mul_le_mul h4 (show d % r ≤ 1000000 by omega) m1 (by decide)
    omega
  · have q : 1 ≤ d / r := by
      have := Int.le_ediv_of_mul_le (a := 1) (b := d) (c := r) (by omega) (by omega)
      omega
    have e4 := Int.emod_add_mul_ediv d r
    have e5 := Int.mul_le_mul_of_nonneg_left q h3
    have e6 : 2 * (d % r) ≤ d := by omega
    have e7 := Int.mul_le_mul_of_nonneg_left e6 h3
    have p : (0 : Int) ≤ 2 ^ s.toNat := Int.pow_nonneg (by decide)
    have e8 : r * (d % r) * (2 ^ s.toNat * 2) = r * (2 * (d % r)) * 2 ^ s.toNat := by
      rw [Int.mul_comm (2 ^ s.toNat) 2, ← Int.mul_assoc, Int.mul_assoc r (d % r) 2, Int.mul_comm (d % r) 2]
    have e9 := Int.mul_le_mul_of_nonneg_right e7 p
    rw [e8]
    rw [Int.mul_comm r d] at e9
    omega
theorem gdI_e {a b d r s : Int} (h : gdI a b d r s) (hs : 100 ≤ s) : r = 0 := by
  obtain ⟨h1, h2, h3, h4, h5, h6⟩ := h
  rcases h6 with ⟨e1, e2, e3⟩ | ⟨e1, e2, e3⟩
  · omega
  · apply Classical.byContradiction
    intro q
    have p : (2 : Int) ^ 100 ≤ 2 ^ s.toNat := by
      have := Nat.pow_le_pow_right (n := 2) (by decide) (show 100 ≤ s.toNat by omega)
      exact_mod_cast this
    have e4 := Int.mul_le_mul (show (1 : Int) ≤ d by omega) (show (1 : Int) ≤ r by omega) (by decide) h1
    have e5 := Int.mul_le_mul e4 p (by decide) (Int.mul_nonneg h1 h3)
    have : (1 : Int) * 1 * 2 ^ 100 = 1267650600228229401496703205376 := by decide
    omega
def BL (n : Int) : Int := if n = 1 then 100 else if n = 2 then 10000 else 1000000
noncomputable def mnA (O : OF) (n : Int) : Int := sm O n.toNat (n + 1).toNat
noncomputable def mnV (O : OF) (n w : Int) : Int := if w = 0 then mnA O n / ((Int.gcd (mnA O n) (BL n) : Nat) : Int) else BL n / ((Int.gcd (mnA O n) (BL n) : Nat) : Int)
theorem mnA_4 {O : OF} {n : Int} (h1 : 1 ≤ n) (h3 : n ≤ 3) : sm O n.toNat (4 : Int).toNat = mnA O n := by
  unfold mnA
  have := sm_ext (O := O) (n := n.toNat) (3 - n.toNat)
  rw [show n.toNat + 1 + (3 - n.toNat) = (4 : Int).toNat by omega, show n.toNat + 1 = (n + 1).toNat by omega] at this
  exact this
noncomputable def zMean (O : OF) (n w : Int) : Int := if 0 < O 0 then (if 1 ≤ n ∧ n ≤ 3 ∧ O 2 + n ≤ 12 ∧ 0 ≤ w ∧ w ≤ 1 then mnV O n w else -1000001) else -1000002
theorem od_i {O : OF} {g : Int → Int} {j k : Int} (h : 0 ≤ j) (hg : ∀ k, 0 ≤ k → k ≤ j → g k = od O j.toNat k) (h0 : 0 ≤ k) (h1 : k ≤ j + 1) : (if k = j + 1 then g j * O (3 + (O 2 + j)) else g k) = if j < k then od O (j + 1).toNat k else od O j.toNat k := by
  by_cases e : k = j + 1
  · rw [if_pos e, if_pos (by omega), od_s h, od_hi (j := j.toNat) (k := k) (by omega), if_pos (by omega), hg j h (by omega), show k - 1 = j by omega, Int.zero_mul, Int.zero_add]
  · rw [if_neg e, if_neg (by omega)]
    exact hg k h0 (by omega)
theorem od_n {O : OF} {g : Int → Int} {j c c2 k : Int} (h : 0 ≤ j) (hc : 0 < c) (hj : c ≤ j) (hg : ∀ k, 0 ≤ k → k ≤ j + 1 → g k = if c < k then od O (j + 1).toNat k else od O j.toNat k) (h2 : c2 = c - 1) (h0 : 0 ≤ k) (h1 : k ≤ j + 1) : (if k = c then g c * (100 - O (3 + (O 2 + j))) + g (c - 1) * O (3 + (O 2 + j)) else g k) = if c2 < k then od O (j + 1).toNat k else od O j.toNat k := by
  by_cases e : k = c
  · rw [if_pos e, if_pos (by omega), e, od_s h, if_pos hc, hg c (by omega) (by omega), if_neg (by omega), hg (c - 1) (by omega) (by omega), if_neg (by omega)]
  · rw [if_neg e, hg k h0 h1]
    by_cases q : c < k
    · rw [if_pos q, if_pos (by omega)]
    · rw [if_neg q, if_neg (by omega)]
theorem od_z {O : OF} {g : Int → Int} {j c k : Int} (h : 0 ≤ j) (hc : c = 0) (hg : ∀ k, 0 ≤ k → k ≤ j + 1 → g k = if c < k then od O (j + 1).toNat k else od O j.toNat k) (h0 : 0 ≤ k) (h1 : k ≤ j + 1) : (if k = 0 then g 0 * (100 - O (3 + (O 2 + j))) else g k) = od O (j + 1).toNat k := by
  by_cases e : k = 0
  · rw [if_pos e, e, od_s h, if_neg (by omega), hg 0 (by omega) (by omega), if_neg (by omega), Int.add_zero]
  · rw [if_neg e, hg k h0 h1, if_pos (by omega)]
theorem od_r {O : OF} {g : Int → Int} {j c c2 k : Int} (h : 0 ≤ j) (hc : 0 < c) (hg : ∀ k, 0 ≤ k → k < 4 → g k = if c < k then od O (j + 1).toNat k else od O j.toNat k) (h2 : c2 = c - 1 ∧ c < 4) (h0 : 0 ≤ k) (h1 : k < 4) : (if k = c then g c * (100 - O (3 + (O 2 + j))) + g (c - 1) * O (3 + (O 2 + j)) else g k) = if c2 < k then od O (j + 1).toNat k else od O j.toNat k := by
  by_cases e : k = c
  · rw [if_pos e, if_pos (by omega), e, od_s h, if_pos hc, hg c (by omega) (by omega), if_neg (by omega), hg (c - 1) (by omega) (by omega), if_neg (by omega)]
  · rw [if_neg e, hg k h0 h1]
    by_cases q : c < k
    · rw [if_pos q, if_pos (by omega)]
    · rw [if_neg q, if_neg (by omega)]
theorem od_r0 {O : OF} {g : Int → Int} {j c c2 k : Int} (h : 0 ≤ j) (hc : c = 0) (hg : ∀ k, 0 ≤ k → k < 4 → g k = if c < k then od O (j + 1).toNat k else od O j.toNat k) (h2 : c2 = c - 1 ∧ c < 4) (h0 : 0 ≤ k) (h1 : k < 4) : (if k = c then g c * (100 - O (3 + (O 2 + j))) + 0 else g k) = if c2 < k then od O (j + 1).toNat k else od O j.toNat k := by
  by_cases e : k = c
  · rw [if_pos e, if_pos (by omega), e, od_s h, if_neg (by omega), hg c (by omega) (by omega), if_neg (by omega)]
  · rw [if_neg e, hg k h0 h1]
    by_cases q : c < k
    · rw [if_pos q, if_pos (by omega)]
    · rw [if_neg q, if_neg (by omega)]
