/-! ===== bits ===== -/
theorem iI_n (n : Nat) : iI (n : Int) = nI n := by
  show Int32.ofInt (n : Int) = Int32.ofNat n
  apply Int32.toBitVec_inj.mp
  rw [Int32.toBitVec_ofInt, BitVec.ofInt_natCast]
  rfl
theorem nI_bv {n : Nat} (h : n < 2 ^ 32) : (nI n).toBitVec.toNat = n := pk_tn h
theorem iI_or {a b : Nat} (ha : a < 2 ^ 31) (hb : b < 2 ^ 31) : iI (a : Int) ||| iI (b : Int) = iI ((a ||| b : Nat) : Int) := by
  rw [iI_n, iI_n, iI_n]
  apply Int32.toBitVec_inj.mp
  apply BitVec.eq_of_toNat_eq
  rw [Int32.toBitVec_or, BitVec.toNat_or, nI_bv (by omega), nI_bv (by omega), nI_bv]
  have := Nat.or_lt_two_pow ha hb
  omega
theorem iI_and {a b : Nat} (ha : a < 2 ^ 31) (hb : b < 2 ^ 31) : iI (a : Int) &&& iI (b : Int) = iI ((a &&& b : Nat) : Int) := by
  rw [iI_n, iI_n, iI_n]
  apply Int32.toBitVec_inj.mp
  apply BitVec.eq_of_toNat_eq
  rw [Int32.toBitVec_and, BitVec.toNat_and, nI_bv (by omega), nI_bv (by omega), nI_bv]
  have := Nat.and_lt_two_pow a hb
  omega
theorem iI_not (a : Int) : iI a ^^^ iI (-1) = iI (-1 - a) := by
  rw [show iI (-1 - a) = iI (-1) - iI a from Int32.ofInt_sub (-1) a]
  generalize iI a = x
  apply Int32.toBitVec_inj.mp
  rw [Int32.toBitVec_xor, Int32.toBitVec_sub, show (iI (-1)).toBitVec = BitVec.allOnes 32 from by decide, BitVec.xor_allOnes, BitVec.allOnes_sub_eq_not]
theorem iI_31 {s : Int} (h0 : 0 ≤ s) (h1 : s < 32) : (iI s).toBitVec.smod 32 = BitVec.ofNat 32 s.toNat := by
  obtain ⟨n, rfl⟩ : ∃ n : Nat, s = n := ⟨s.toNat, by omega⟩
  have hn : n < 32 := by omega
  rw [iI_n]
  revert hn
  revert n
  intro n _ _ hn
  have : ∀ k, k < 32 → (nI k).toBitVec.smod 32 = BitVec.ofNat 32 ((k : Int)).toNat := by decide +kernel
  exact this n hn
theorem bset_bit (f : Int → Prop) : ∀ (n i : Nat), (bset f n).testBit i = true ↔ i < n ∧ f i
  | 0, i => by simp [bset]
  | n + 1, i => by
    have ih := bset_bit f n i
    have hl := bset_lt f n
    show (bset f n + @ite Nat (f n) (Classical.propDecidable _) (2 ^ n) 0).testBit i = true ↔ _
    by_cases q : f n
    · rw [if_pos q, Nat.add_comm]
      by_cases e : i = n
      · subst e
        rw [Nat.testBit_two_pow_add_eq, Nat.testBit_lt_two_pow hl]
        simp [q]
      · rcases Nat.lt_or_ge i n with z | z
        · rw [Nat.testBit_two_pow_add_gt z, ih]
          constructor
          · exact fun h => ⟨by omega, h.2⟩
          · exact fun h => ⟨z, h.2⟩
        · have h2 : 2 ^ n + bset f n < 2 ^ i := by
            have : 2 ^ (n + 1) ≤ 2 ^ i := Nat.pow_le_pow_right (by omega) (by omega)
            have e2 : 2 ^ (n + 1) = 2 ^ n + 2 ^ n := by omega
            omega
          rw [Nat.testBit_lt_two_pow h2]
          constructor
          · intro h; cases h
          · intro h; omega
    · rw [if_neg q, Nat.add_zero, ih]
      constructor
      · exact fun h => ⟨by omega, h.2⟩
      · intro h
        refine ⟨?_, h.2⟩
        by_cases e : i = n
        · subst e; exact absurd h.2 q
        · omega
theorem bset_congr {f g : Int → Prop} {n : Nat} (h : ∀ p : Int, 0 ≤ p → p < n → (f p ↔ g p)) : bset f n = bset g n := by
  apply Nat.eq_of_testBit_eq
  intro i
  apply Bool.eq_iff_iff.mpr
  rw [bset_bit, bset_bit]
  constructor
  · exact fun q => ⟨q.1, (h i (by omega) (by omega)).mp q.2⟩
  · exact fun q => ⟨q.1, (h i (by omega) (by omega)).mpr q.2⟩
theorem bset_none {f : Int → Prop} {n : Nat} (h : ∀ p : Int, 0 ≤ p → p < n → ¬ f p) : bset f n = 0 := by
  apply Nat.eq_of_testBit_eq
  intro i
  apply Bool.eq_iff_iff.mpr
  rw [bset_bit]
  constructor
  · exact fun q => absurd q.2 (h i (by omega) (by omega))
  · intro q; simp at q
theorem bset_or {f g : Int → Prop} {n : Nat} : bset f n ||| bset g n = bset (fun p => f p ∨ g p) n := by
  apply Nat.eq_of_testBit_eq
  intro i
  apply Bool.eq_iff_iff.mpr
  rw [Nat.testBit_or, Bool.or_eq_true, bset_bit, bset_bit, bset_bit]
  constructor
  · rintro (h | h)
    · exact ⟨h.1, Or.inl h.2⟩
    · exact ⟨h.1, Or.inr h.2⟩
  · rintro ⟨h, q | q⟩
    · exact Or.inl ⟨h, q⟩
    · exact Or.inr ⟨h, q⟩
theorem bset_one {n : Nat} {p : Nat} (h : p < n) : 2 ^ p = bset (fun x => x = p) n := by
  apply Nat.eq_of_testBit_eq
  intro i
  apply Bool.eq_iff_iff.mpr
  rw [bset_bit, Nat.testBit_two_pow]
  simp
  constructor
  · rintro rfl; exact ⟨h, rfl⟩
  · intro q; omega
/-- 1 << p -/
theorem sh_1 {p : Int} (h0 : 0 ≤ p) (h1 : p < 31) : iI 1 <<< (iI p &&& 31) = iI ((2 ^ p.toNat : Nat) : Int) := by
  obtain ⟨n, rfl⟩ : ∃ n : Nat, p = n := ⟨p.toNat, by omega⟩
  have hn : n < 31 := by omega
  have key : ∀ k, k < 31 → iI 1 <<< (nI k &&& 31) = nI (2 ^ k) := by decide +kernel
  rw [iI_n, iI_n, Int.toNat_natCast]
  exact key n hn
/-- a set with one more -/
theorem bs_add {f : Int → Prop} {p : Int} (h0 : 0 ≤ p) (h1 : p < 16) : iI ((bset f 16 : Nat) : Int) ||| iI ((2 ^ p.toNat : Nat) : Int) = iI ((bset (fun x => f x ∨ x = p) 16 : Nat) : Int) := by
  have ha := bset_lt f 16
  obtain ⟨n, rfl⟩ : ∃ n : Nat, p = n := ⟨p.toNat, by omega⟩
  have hn : n < 16 := by omega
  rw [Int.toNat_natCast, bset_one hn]
  have hb := bset_lt (fun x => x = (n : Int)) 16
  rw [iI_or (by omega) (by omega), bset_or]
/-- a set shifted down by p -/
theorem bs_shr {f : Int → Prop} {p : Int} (h0 : 0 ≤ p) (h1 : p < 16) : iI ((bset f 16 : Nat) : Int) >>> (iI p &&& 31) = iI ((bset f 16 >>> p.toNat : Nat) : Int) := by
  have ha := bset_lt f 16
  obtain ⟨n, rfl⟩ : ∃ n : Nat, p = n := ⟨p.toNat, by omega⟩
  have hn : n < 16 := by omega
  have k1 : ∀ k, k < 16 → nI k &&& 31 = nI k := by decide +kernel
  rw [iI_n, iI_n, iI_n, Int.toNat_natCast, k1 n hn, pk_shrN (by omega) (nI n) n (by
    have : ∀ k, k < 16 → ((nI k).toBitVec.smod 32).toNat = k := by decide +kernel
    exact this n hn), Nat.shiftRight_eq_div_pow]
/-- its last bit -/
theorem bs_bit {f : Int → Prop} {p : Int} (h0 : 0 ≤ p) (h1 : p < 16) : iI ((bset f 16 >>> p.toNat : Nat) : Int) &&& iI 1 = iI (bI (f p)) := by
  have ha := bset_lt f 16
  obtain ⟨n, rfl⟩ : ∃ n : Nat, p = n := ⟨p.toNat, by omega⟩
  have hn : n < 16 := by omega
  rw [Int.toNat_natCast]
  have hs : bset f 16 >>> n < 2 ^ 31 := by
    rw [Nat.shiftRight_eq_div_pow]
    have := Nat.div_le_self (bset f 16) (2 ^ n)
    omega
  rw [show (1 : Int) = ((1 : Nat) : Int) from rfl, iI_and hs (by omega)]
  have hb := bset_bit f 16 n
  rw [Nat.testBit, Nat.and_comm] at hb
  rcases Nat.mod_two_eq_zero_or_one (bset f 16 >>> n) with q | q
  · have e : bset f 16 >>> n &&& 1 = 0 := by rw [Nat.and_one_is_mod]; exact q
    rw [e] at hb ⊢
    rw [bI_f (fun z => by have := hb.mpr ⟨hn, z⟩; simp at this)]; rfl
  · have e : bset f 16 >>> n &&& 1 = 1 := by rw [Nat.and_one_is_mod]; exact q
    rw [e] at hb ⊢
    rw [bI_t (hb.mp (by simp)).2]; rfl
