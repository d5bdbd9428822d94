/-! ===== words ===== -/
def isW (c : Int → Int) (L : Int) (i : Nat) (f : Int) : Prop := tkK c L f = 1 ∧ tkN c L f - f = sLn i ∧ ∀ j, 0 ≤ j → j < sLn i → c (f + j) = stZ i j
theorem shl_8 {a : Int} (h0 : 0 ≤ a) (h1 : a < 36028797018963968) : iL a <<< ((iI 8).toInt64 &&& 63) = iL (a * 256) := by
  obtain ⟨n, rfl⟩ : ∃ n : Nat, a = n := ⟨a.toNat, by omega⟩
  rw [show (n : Int) * 256 = ((n * 256 : Nat) : Int) by omega, iL_n, iL_n]
  apply Int64.toBitVec_inj.mp
  rw [Int64.toBitVec_shiftLeft, show (((iI 8).toInt64 &&& 63).toBitVec.smod 64) = 8#64 from by decide]
  apply BitVec.eq_of_toNat_eq
  rw [BitVec.shiftLeft_eq', BitVec.toNat_shiftLeft]
  show ((BitVec.ofNat 64 n).toNat <<< 8) % 2 ^ 64 = (BitVec.ofNat 64 (n * 256)).toNat
  rw [BitVec.toNat_ofNat, BitVec.toNat_ofNat, Nat.shiftLeft_eq]
  omega
theorem lor_8 {a b : Int} (h0 : 0 ≤ a) (h1 : a < 36028797018963968) (b0 : 0 ≤ b) (b1 : b < 256) : iL (a * 256) ||| iL b = iL (a * 256 + b) := by
  obtain ⟨n, rfl⟩ : ∃ n : Nat, a = n := ⟨a.toNat, by omega⟩
  obtain ⟨m, rfl⟩ : ∃ m : Nat, b = m := ⟨b.toNat, by omega⟩
  rw [show (n : Int) * 256 + (m : Int) = ((n * 256 + m : Nat) : Int) by omega, show (n : Int) * 256 = ((n * 256 : Nat) : Int) by omega, iL_n, iL_n, iL_n]
  apply Int64.toBitVec_inj.mp
  rw [Int64.toBitVec_or]
  apply BitVec.eq_of_toNat_eq
  rw [BitVec.toNat_or]
  show (BitVec.ofNat 64 (n * 256)).toNat ||| (BitVec.ofNat 64 m).toNat = (BitVec.ofNat 64 (n * 256 + m)).toNat
  rw [BitVec.toNat_ofNat, BitVec.toNat_ofNat, BitVec.toNat_ofNat, Nat.mod_eq_of_lt (by omega), Nat.mod_eq_of_lt (by omega), Nat.mod_eq_of_lt (by omega)]
  have := Nat.two_pow_add_eq_or_of_lt (b := m) (i := 8) (by omega) n
  rw [show n * 256 = 2 ^ 8 * n by omega]
  exact this.symm
def nv (c : Int → Int) (f : Int) : Nat → Int
  | 0 => 0
  | n + 1 => nv c f n * 256 + c (f + n)
theorem nv_s {c : Int → Int} {f n : Int} (h : f ≤ n) : nv c f (n + 1 - f).toNat = nv c f (n - f).toNat * 256 + c n := by
  obtain ⟨k, hk⟩ : ∃ k : Nat, (k : Int) = n - f := ⟨(n - f).toNat, by omega⟩
  rw [show (n + 1 - f).toNat = k + 1 by omega, show (n - f).toNat = k by omega]
  show nv c f k * 256 + c (f + k) = _
  rw [show f + (k : Int) = n by omega]
theorem nv_r {c : Int → Int} {f : Int} : ∀ {n : Nat}, (∀ x : Int, 0 ≤ x → x < n → 0 ≤ c (f + x) ∧ c (f + x) < 256) → 0 ≤ nv c f n ∧ nv c f n < 256 ^ n
  | 0, _ => by show 0 ≤ (0 : Int) ∧ (0 : Int) < 1; omega
  | n + 1, h => by
    have ih := nv_r (c := c) (f := f) (n := n) (fun x a b => h x a (by omega))
    have hn := h n (by omega) (by omega)
    have e : (256 : Int) ^ (n + 1) = 256 ^ n * 256 := Int.pow_succ 256 n
    show 0 ≤ nv c f n * 256 + c (f + n) ∧ nv c f n * 256 + c (f + n) < 256 ^ (n + 1)
    omega
theorem nv_g {c : Int → Int} {f : Int} : ∀ {n : Nat}, (∀ x : Int, 0 ≤ x → x < (n : Int) + 1 → 1 ≤ c (f + x) ∧ c (f + x) < 256) → 256 ^ n ≤ nv c f (n + 1)
  | 0, h => by
    have := h 0 (by omega) (by omega)
    show 1 ≤ 0 * 256 + c (f + ((0 : Nat) : Int))
    rw [show f + ((0 : Nat) : Int) = f + 0 by omega]
    omega
  | n + 1, h => by
    have ih := nv_g (c := c) (f := f) (n := n) (fun x a b => h x a (by omega))
    have hn := h ((n + 1 : Nat) : Int) (by omega) (by omega)
    have e : (256 : Int) ^ (n + 1) = 256 ^ n * 256 := Int.pow_succ 256 n
    show 256 ^ (n + 1) ≤ nv c f (n + 1) * 256 + c (f + ((n + 1 : Nat) : Int))
    omega
theorem nv_e {c d : Int → Int} {f g : Int} : ∀ {n : Nat}, (∀ x : Int, 0 ≤ x → x < n → 0 ≤ c (f + x) ∧ c (f + x) < 256 ∧ 0 ≤ d (g + x) ∧ d (g + x) < 256) → nv c f n = nv d g n → ∀ x : Int, 0 ≤ x → x < n → c (f + x) = d (g + x)
  | 0, _, _, x, a, b => by omega
  | n + 1, h, e, x, a, b => by
    have hn := h n (by omega) (by omega)
    have e2 : nv c f n * 256 + c (f + n) = nv d g n * 256 + d (g + n) := e
    by_cases q : x = n
    · rw [q]; omega
    · exact nv_e (c := c) (d := d) (f := f) (g := g) (n := n) (fun x a b => h x a (by omega)) (by omega) x a (by omega)
theorem nv_c {c d : Int → Int} {f g : Int} : ∀ {n : Nat}, (∀ x : Int, 0 ≤ x → x < n → c (f + x) = d (g + x)) → nv c f n = nv d g n
  | 0, _ => rfl
  | n + 1, h => by
    show nv c f n * 256 + c (f + n) = nv d g n * 256 + d (g + n)
    rw [nv_c (n := n) (fun x a b => h x a (by omega)), h n (by omega) (by omega)]
noncomputable def nmV (c : Int → Int) (L f : Int) : Int := if tkK c L f = 1 ∧ tkN c L f - f < 8 then nv c f (tkN c L f - f).toNat else 0
def stV (i : Nat) : Int := ([2003398244, 1684370283, 495672714612, 33602666401721972, 2003397740, 1651076204, 422725119595, 495739565157] : List Int).getD i 0
theorem stV_e : ∀ i : Nat, i < 8 → stV i = nv (stZ i) 0 (stL.getD i 0) := by decide
theorem tkN_1 {c : Int → Int} {L f : Int} (h : tkK c L f = 1) : f < tkN c L f := by
  obtain ⟨a, b, _⟩ := tkK_1 h
  rw [(tk1 a b).2]
  have e : rnF isLe c L f = rn isLe c L 599 (f + 1) := if_pos ⟨a, b⟩
  rw [e]
  have := (rn_r (P := isLe) (c := c) (n := 599) (p := f + 1) (L := L) (by omega)).1
  omega
theorem p256k {a : Nat} : ∀ k : Nat, (256 : Int) ^ a ≤ 256 ^ (a + k)
  | 0 => Int.le_refl _
  | k + 1 => by
    have ih := p256k (a := a) k
    have e : (256 : Int) ^ (a + k + 1) = 256 ^ (a + k) * 256 := Int.pow_succ 256 (a + k)
    have p : (0 : Int) < 256 ^ a := Int.pow_pos (by decide)
    show (256 : Int) ^ a ≤ 256 ^ (a + k + 1)
    omega
theorem p256 {a b : Nat} (h : a ≤ b) : (256 : Int) ^ a ≤ 256 ^ b := by
  have := p256k (a := a) (b - a)
  rw [show a + (b - a) = b by omega] at this
  exact this
theorem nm_is {c : Int → Int} {L f : Int} {i : Nat} (hi : i < 8) : nmV c L f = stV i ↔ isW c L i f := by
  have hl := sLn_r i hi
  have hz : ∀ x : Int, 0 ≤ x → x < sLn i → 1 ≤ stZ i (0 + x) ∧ stZ i (0 + x) < 256 := fun x a b => by
    have := st_z hi a b
    rw [Int.zero_add]
    omega
  have he := stV_e i hi
  obtain ⟨m, hm⟩ : ∃ m : Nat, stL.getD i 0 = m + 1 := ⟨stL.getD i 0 - 1, by have : 4 ≤ ((stL.getD i 0 : Nat) : Int) := hl.1; omega⟩
  have hsl : sLn i = (m : Int) + 1 := by show ((stL.getD i 0 : Nat) : Int) = _; rw [hm]; omega
  rw [hm] at he
  have hg := nv_g (c := stZ i) (f := 0) (n := m) (fun x a b => hz x a (by omega))
  have hr := nv_r (c := stZ i) (f := 0) (n := m + 1) (fun x a b => by have := hz x a (by omega); omega)
  have p1 : (1 : Int) ≤ 256 ^ m := by
    have := Int.pow_pos (n := (256 : Int)) (m := m) (by decide)
    omega
  unfold nmV isW
  by_cases k1 : tkK c L f = 1
  · obtain ⟨b1, b2, b3⟩ := tkK_1 k1
    have b4 := tkN_1 k1
    by_cases k2 : tkN c L f - f < 8
    · rw [if_pos ⟨k1, k2⟩]
      obtain ⟨n, hn⟩ : ∃ n : Nat, tkN c L f - f = (n : Int) + 1 := ⟨(tkN c L f - f - 1).toNat, by omega⟩
      have hc : ∀ x : Int, 0 ≤ x → x < (n : Int) + 1 → 1 ≤ c (f + x) ∧ c (f + x) < 256 := fun x a b => by
        have := b3 (f + x) (by omega) (by omega)
        omega
      have g1 := nv_g (c := c) (f := f) (n := n) hc
      have r1 := nv_r (c := c) (f := f) (n := n + 1) (fun x a b => by have := hc x a (by omega); omega)
      rw [show (tkN c L f - f).toNat = n + 1 by omega, he]
      constructor
      · intro q
        have enm : n = m := by
          rcases Nat.lt_trichotomy n m with w | w | w
          · have : (256 : Int) ^ (n + 1) ≤ 256 ^ m := by
              exact p256 (by omega)
            omega
          · exact w
          · have : (256 : Int) ^ (m + 1) ≤ 256 ^ n := by
              exact p256 (by omega)
            omega
        subst enm
        refine ⟨k1, by omega, fun j a b => ?_⟩
        have := nv_e (c := c) (d := stZ i) (f := f) (g := 0) (n := n + 1) (fun x a b => by have := hc x a (by omega); have := hz x a (by omega); omega) q j a (by omega)
        rw [Int.zero_add] at this
        exact this
      · rintro ⟨_, q2, q3⟩
        have enm : n = m := by omega
        subst enm
        exact nv_c fun x a b => by rw [Int.zero_add]; exact q3 x a (by omega)
    · rw [if_neg (fun q => k2 q.2), he]
      constructor
      · intro q; omega
      · rintro ⟨_, q2, _⟩; omega
  · rw [if_neg (fun q => k1 q.1), he]
    constructor
    · intro q; omega
    · rintro ⟨q2, _⟩; exact absurd q2 k1
theorem nmV_r {c : Int → Int} {L f : Int} (L0 : 0 ≤ f) : 0 ≤ nmV c L f ∧ nmV c L f < 72057594037927936 := by
  unfold nmV
  by_cases k : tkK c L f = 1 ∧ tkN c L f - f < 8
  · rw [if_pos k]
    obtain ⟨b1, b2, b3⟩ := tkK_1 k.1
    have b4 := tkN_1 k.1
    have r := nv_r (c := c) (f := f) (n := (tkN c L f - f).toNat) (fun x a b => by have := b3 (f + x) (by omega) (by omega); omega)
    have p : (256 : Int) ^ (tkN c L f - f).toNat ≤ 72057594037927936 := by
      have e : (256 : Int) ^ (tkN c L f - f).toNat ≤ 256 ^ 7 := p256 (by omega)
      have e2 : (256 : Int) ^ 7 = 72057594037927936 := by decide
      omega
    omega
  · rw [if_neg k]; omega
/-- the reader stands at the token that begins at f -/
def atC (I : HD) (c : Int → Int) (L f : Int) : Prop := TC I c L ∧ 0 ≤ f ∧ f ≤ L ∧ I 18 2 = tkK c L f ∧ I 18 3 = f ∧ I 18 4 = tkN c L f ∧ (tkK c L f = 2 → I 18 5 = tkV c L f)
def atM (I : HD) (c : Int → Int) (L f : Int) : Prop := TR I c L ∧ 0 ≤ f ∧ f ≤ L ∧ I 30 15 = rt (tkK c L f) ∧ I 30 16 = f ∧ I 30 17 = tkN c L f ∧ I 30 14 = tkN c L f
theorem tkK_r {c : Int → Int} {L f : Int} : 0 ≤ tkK c L f ∧ tkK c L f ≤ 4 := by
  unfold tkK
  split
  · omega
  · split
    · omega
    · split
      · split <;> omega
      · split <;> omega
theorem rt_r {k : Int} (h : 0 ≤ k ∧ k ≤ 4) : (k = 0 ∧ rt k = 1) ∨ (k = 1 ∧ rt k = 2) ∨ (k = 2 ∧ rt k = 3) ∨ (k = 3 ∧ rt k = 4) ∨ (k = 4 ∧ rt k = 0) := by
  unfold rt
  rcases (by omega : k = 0 ∨ k = 1 ∨ k = 2 ∨ k = 3 ∨ k = 4) with rfl | rfl | rfl | rfl | rfl <;> decide
theorem nv_b {c : Int → Int} {L f k : Int} (f0 : 0 ≤ f) (h0 : ∀ x, 0 ≤ x → x < L → 0 ≤ c x) (h1 : ∀ x, 0 ≤ x → x < L → c x < 256) (hk : f ≤ k) (hkL : k ≤ L) (h7 : k - f ≤ 6) : 0 ≤ nv c f (k - f).toNat ∧ nv c f (k - f).toNat < 36028797018963968 := by
  have r := nv_r (c := c) (f := f) (n := (k - f).toNat) (fun x a b => ⟨h0 _ (by omega) (by omega), h1 _ (by omega) (by omega)⟩)
  have p : (256 : Int) ^ (k - f).toNat ≤ 281474976710656 := by
    have e : (256 : Int) ^ (k - f).toNat ≤ 256 ^ 6 := p256 (by omega)
    have e2 : (256 : Int) ^ 6 = 281474976710656 := by decide
    omega
  omega
