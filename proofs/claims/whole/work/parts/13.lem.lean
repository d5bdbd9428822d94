/-! ===== steps of the words ===== -/
theorem bs_skip {f : Int → Prop} {p : Int} {n : Nat} (h : ¬ f p) : bset (fun x => x < p ∧ f x) n = bset (fun x => x < p + 1 ∧ f x) n :=
  bset_congr fun x _ _ => ⟨fun q => ⟨by omega, q.2⟩, fun q => ⟨by
    have : x ≠ p := fun e => h (e ▸ q.2)
    omega, q.2⟩⟩
theorem bs_take {f : Int → Prop} {p : Int} {n : Nat} (h : f p) : bset (fun x => (x < p ∧ f x) ∨ x = p) n = bset (fun x => x < p + 1 ∧ f x) n :=
  bset_congr fun x _ _ => ⟨fun q => by
    rcases q with q | q
    · exact ⟨by omega, q.2⟩
    · exact ⟨by omega, q ▸ h⟩, fun q => by
    by_cases e : x = p
    · exact Or.inr e
    · exact Or.inl ⟨by omega, q.2⟩⟩
theorem bs_all {n : Int} (h0 : 0 ≤ n) (h1 : n ≤ 16) : ((2 ^ n.toNat : Nat) : Int) - 1 = ((bset (fun x => x < n) 16 : Nat) : Int) := by
  obtain ⟨k, rfl⟩ : ∃ k : Nat, n = k := ⟨n.toNat, by omega⟩
  have key : bset (fun x => x < (k : Int)) 16 = 2 ^ k - 1 := by
    apply Nat.eq_of_testBit_eq
    intro i
    apply Bool.eq_iff_iff.mpr
    rw [bset_bit, Nat.testBit_two_pow_sub_one]
    simp
    omega
  rw [key, Int.toNat_natCast]
  have : 1 ≤ 2 ^ k := Nat.one_le_two_pow
  omega
theorem bs_andn {f g : Int → Prop} : iI ((bset f 16 : Nat) : Int) &&& iI (-1 - ((bset g 16 : Nat) : Int)) = iI ((bset (fun x => f x ∧ ¬ g x) 16 : Nat) : Int) := by
  have ha := bset_lt f 16
  have hb := bset_lt g 16
  have hc := bset_lt (fun x => f x ∧ ¬ g x) 16
  rw [← iI_not, iI_n, iI_n, iI_n]
  apply Int32.toBitVec_inj.mp
  rw [Int32.toBitVec_and, Int32.toBitVec_xor, show (iI (-1)).toBitVec = BitVec.allOnes 32 from by decide, BitVec.xor_allOnes]
  apply BitVec.eq_of_getLsbD_eq
  intro i hi
  rw [BitVec.getLsbD_and, BitVec.getLsbD_not]
  have e : ∀ {h : Int → Prop}, (nI (bset h 16)).toBitVec.getLsbD i = (bset h 16).testBit i := by
    intro h
    have hh := bset_lt h 16
    rw [BitVec.getLsbD, nI_bv (by omega)]
  rw [e, e, e]
  apply Bool.eq_iff_iff.mpr
  simp only [Bool.and_eq_true, bset_bit, decide_eq_true_eq, Bool.not_eq_true']
  constructor
  · rintro ⟨⟨h1, h2⟩, h3, h4⟩
    refine ⟨h1, h2, fun q => ?_⟩
    have := (bset_bit g 16 i).mpr ⟨h1, q⟩
    rw [this] at h4
    cases h4
  · rintro ⟨h1, h2, h3⟩
    refine ⟨⟨h1, h2⟩, hi, ?_⟩
    rcases Bool.eq_false_or_eq_true ((bset g 16).testBit i) with q | q
    · exact absurd ((bset_bit g 16 i).mp q).2 h3
    · exact q
theorem bs_or {f g : Int → Prop} : iI ((bset f 16 : Nat) : Int) ||| iI ((bset g 16 : Nat) : Int) = iI ((bset (fun x => f x ∨ g x) 16 : Nat) : Int) := by
  have ha := bset_lt f 16
  have hb := bset_lt g 16
  rw [iI_or (by omega) (by omega), bset_or]
theorem bs_c {f g : Int → Prop} {n : Nat} (h : ∀ p : Int, 0 ≤ p → p < n → (f p ↔ g p)) : iI ((bset f n : Nat) : Int) = iI ((bset g n : Nat) : Int) := by
  rw [bset_congr h]
theorem bs_c' {f g : Int → Prop} {n : Nat} (h : ∀ p : Int, 0 ≤ p → p < n → (f p ↔ g p)) : ((bset f n : Nat) : Int) = ((bset g n : Nat) : Int) := by
  rw [bset_congr h]
theorem bs_0 {f : Int → Prop} {n : Nat} (h : ∀ p : Int, 0 ≤ p → p < n → ¬ f p) : (0 : Int) = ((bset f n : Nat) : Int) := by
  rw [bset_none h]; rfl
theorem bs_le {f : Int → Prop} : 0 ≤ ((bset f 16 : Nat) : Int) ∧ ((bset f 16 : Nat) : Int) < 65536 := by
  have := bset_lt f 16
  omega
theorem rg_bs {f : Int → Prop} : rg ((bset f 16 : Nat) : Int) := by
  have := bs_le (f := f)
  unfold rg; omega
theorem wsum_s {O : OF} {f : Int → Prop} {i : Int} (h : 0 ≤ i) : wsum O f (i + 1).toNat = wsum O f i.toNat + bI (f i) * O (64 + 4 * i) := by
  obtain ⟨n, rfl⟩ : ∃ n : Nat, i = n := ⟨i.toNat, by omega⟩
  rw [show ((n : Int) + 1).toNat = n + 1 by omega, Int.toNat_natCast]
  rfl
theorem tfv_of {O : OF} {d n t : Int} (h0 : 0 ≤ n) (h : Tf O d n t) : tfv O d n.toNat = t := by
  have g := tfv_Tf O d n.toNat
  rw [Int.toNat_of_nonneg h0] at g
  exact Tf.uniq g h
theorem lsum_p {O : OF} {d t : Int} (h : 0 < t) : lsum O d t.toNat = lsum O d (t - 1).toNat + O (64 + 4 * O (24 + 10 * d + (O (23 + 10 * d) - t))) := by
  obtain ⟨n, rfl⟩ : ∃ n : Nat, t = n + 1 := ⟨(t - 1).toNat, by omega⟩
  rw [show ((n : Int) + 1).toNat = n + 1 by omega, show ((n : Int) + 1 - 1).toNat = n by omega]
  show lsum O d n + O (64 + 4 * tp O d n) = _
  unfold tp
  rw [show O (23 + 10 * d) - ((n : Int) + 1) = O (23 + 10 * d) - 1 - n by omega]
theorem tbn_s {O : OF} {d e p : Int} (h : 0 ≤ d) : tbn O (d + 1) e p ↔ tbn O d e p ∨ (e < tfv O d (e + 1).toNat ∧ p = tp O d e) := by
  constructor
  · rintro ⟨d2, h0, h1, h2, h3⟩
    by_cases q : d2 = d
    · subst q; exact Or.inr ⟨h2, h3⟩
    · exact Or.inl ⟨d2, h0, by omega, h2, h3⟩
  · rintro (⟨d2, h0, h1, h2⟩ | h2)
    · exact ⟨d2, h0, by omega, h2⟩
    · exact ⟨d, h, by omega, h2⟩
theorem tkn_s {O : OF} {e p : Int} (h : 0 ≤ e) : tkn O (e + 1) p ↔ tkn O e p ∨ tbg O e p := by
  constructor
  · rintro ⟨e2, h0, h1, h2⟩
    by_cases q : e2 = e
    · subst q; exact Or.inr h2
    · exact Or.inl ⟨e2, h0, by omega, h2⟩
  · rintro (⟨e2, h0, h1, h2⟩ | h2)
    · exact ⟨e2, h0, by omega, h2⟩
    · exact ⟨e, h, by omega, h2⟩
theorem lon_s {O : OF} {d k : Int} (h : 1 ≤ k) : lon O d k.toNat = if O (64 + 4 * O (24 + 10 * d + k)) < O (64 + 4 * O (24 + 10 * d + lon O d (k - 1).toNat)) then k else lon O d (k - 1).toNat := by
  obtain ⟨n, rfl⟩ : ∃ n : Nat, k = n + 1 := ⟨(k - 1).toNat, by omega⟩
  rw [show ((n : Int) + 1).toNat = n + 1 by omega, show ((n : Int) + 1 - 1).toNat = n by omega]
  rfl
