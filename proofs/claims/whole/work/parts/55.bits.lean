/-! ===== Integer.bitCount ===== -/
abbrev mJ6_bitCount_0f7a4 : MR := (yJ6_bitCount_0f7a4, cJ6_bitCount_0f7a4, 1, (some .int))
theorem okJ6_bitCount_0f7a4 : okS mJ6_bitCount_0f7a4 1 := ⟨⟨lw_gd (List.mem_of_getElem? (i := 748) (by decide +kernel)) (by decide +kernel), lw_gd (List.mem_of_getElem? (i := 78) (by decide +kernel)) (by decide +kernel), ⟨by decide +kernel, by decide +kernel, by decide +kernel⟩, by decide⟩, lw_gd (List.mem_of_getElem? (i := 747) (by decide +kernel)) (by decide +kernel)⟩
theorem kc_J6_265 : Cond.constant RJ6 265 (iI (1431655765)) ∈ lw_good := lw_gd (List.mem_of_getElem? (i := 749) (by decide +kernel)) (by decide +kernel)
theorem kc_J6_266 : Cond.constant RJ6 266 (iI (858993459)) ∈ lw_good := lw_gd (List.mem_of_getElem? (i := 750) (by decide +kernel)) (by decide +kernel)
theorem kc_J6_267 : Cond.constant RJ6 267 (iI (252645135)) ∈ lw_good := lw_gd (List.mem_of_getElem? (i := 751) (by decide +kernel)) (by decide +kernel)
theorem km_X8_322 : Cond.methodLink RX8 322 yJ6_bitCount_0f7a4 ∈ lw_good := lw_gd (List.mem_of_getElem? (i := 746) (by decide +kernel)) (by decide +kernel)
theorem r_iushr {X : XC} {D : Nat} {M : MR} {K : KP} {pc : Nat} {lv : List (Nat × Value)} {st : List Value} {I : HD} {a b z : Int} (hz : ((iI a).toUInt32 >>> ((iI b).toUInt32 &&& Int32.toUInt32 31)).toInt32 = iI z) (hd : decode M.2.1 pc = .ok (.iushr, 1)) (k : Rn X D M K (pc + 1) lv (iv z :: st) I) : Rn X D M K pc lv (iv b :: iv a :: st) I := by
  intro p e s m args below meth c H locs ls hx hb hml hr hlk hown hts hC hP hS hl
  refine lv_iushr hx hb hd hz ?_
  exact k p e s m args below meth c H locs ls hx hb hml hr hlk hown hts hC hP hS hl
theorem ush_n {n k : Nat} (h : n < 2 ^ 31) (hk : ((iI (k : Int)).toUInt32 &&& Int32.toUInt32 31).toNat % 32 = k) : ((iI (n : Int)).toUInt32 >>> ((iI (k : Int)).toUInt32 &&& Int32.toUInt32 31)).toInt32 = iI ((n >>> k : Nat) : Int) := by
  rw [iI_n n, iI_n (n >>> k)]
  apply Int32.toBitVec_inj.mp
  apply BitVec.eq_of_toNat_eq
  have hs : n >>> k ≤ n := by rw [Nat.shiftRight_eq_div_pow]; exact Nat.div_le_self _ _
  rw [nI_bv (n := n >>> k) (by omega)]
  show ((nI n).toUInt32 >>> ((iI (k : Int)).toUInt32 &&& Int32.toUInt32 31)).toNat = n >>> k
  rw [UInt32.toNat_shiftRight, hk]
  show (nI n).toBitVec.toNat >>> k = n >>> k
  rw [nI_bv (by omega)]
def bA (n : Nat) : Nat := Nat.sub n (Nat.land (Nat.shiftRight n 1) 1431655765)
def bB (n : Nat) : Nat := Nat.add (Nat.land n 858993459) (Nat.land (Nat.shiftRight n 2) 858993459)
def bC (n : Nat) : Nat := Nat.land (Nat.add n (Nat.shiftRight n 4)) 252645135
def bD (n : Nat) : Nat := Nat.add n (Nat.shiftRight n 8)
def bE (n : Nat) : Nat := Nat.add n (Nat.shiftRight n 16)
def bN (n : Nat) : Nat := Nat.land (bE (bD (bC (bB (bA n))))) 63
def pb (n i : Nat) : Nat := Nat.mod (Nat.shiftRight n i) 2
def pN (n : Nat) : Nat := Nat.add (Nat.add (Nat.add (Nat.add (pb n 0) (pb n 1)) (Nat.add (pb n 2) (pb n 3))) (Nat.add (Nat.add (pb n 4) (pb n 5)) (Nat.add (pb n 6) (pb n 7)))) (Nat.add (Nat.add (Nat.add (pb n 8) (pb n 9)) (Nat.add (pb n 10) (pb n 11))) (Nat.add (Nat.add (pb n 12) (pb n 13)) (Nat.add (pb n 14) (pb n 15))))
def bK (a : Nat) : Nat → Bool
  | 0 => true
  | b + 1 => (Nat.beq (bN (Nat.add (Nat.mul 256 a) b)) (pN (Nat.add (Nat.mul 256 a) b))) && bK a b
def bL : Nat → Bool
  | 0 => true
  | a + 1 => bK a 256 && bL a
theorem bK_of {a : Nat} : ∀ {n : Nat}, bK a n = true → ∀ b, b < n → bN (256 * a + b) = pN (256 * a + b)
  | 0, _, _, h => by omega
  | n + 1, h, b, hb => by
    have h2 : (Nat.beq (bN (256 * a + n)) (pN (256 * a + n)) && bK a n) = true := h
    rw [Bool.and_eq_true] at h2
    by_cases e : b = n
    · rw [e]; exact Nat.eq_of_beq_eq_true h2.1
    · exact bK_of h2.2 b (by omega)
theorem bL_of : ∀ {m : Nat}, bL m = true → ∀ a, a < m → bK a 256 = true
  | 0, _, _, h => by omega
  | m + 1, h, a, ha => by
    have h2 : (bK m 256 && bL m) = true := h
    rw [Bool.and_eq_true] at h2
    by_cases e : a = m
    · rw [e]; exact h2.1
    · exact bL_of h2.2 a (by omega)
set_option maxRecDepth 100000 in
theorem bL_all : bL 256 = true := by decide +kernel
theorem bN_eq {n : Nat} (h : n < 65536) : bN n = pN n := by
  have := bK_of (bL_of bL_all (n / 256) (by omega)) (n % 256) (by omega)
  rw [show 256 * (n / 256) + n % 256 = n by omega] at this
  exact this
/-- how many numbers below n are so -/
noncomputable def cnt (f : Int → Prop) : Nat → Int
  | 0 => 0
  | n + 1 => cnt f n + bI (f n)
theorem pb_bset {f : Int → Prop} {i : Nat} (h : i < 16) : ((pb (bset f 16) i : Nat) : Int) = bI (f i) := by
  have hb := bset_bit f 16 i
  have e : pb (bset f 16) i = bset f 16 / 2 ^ i % 2 := by
    show Nat.shiftRight (bset f 16) i % 2 = _
    rw [show Nat.shiftRight (bset f 16) i = bset f 16 >>> i from rfl, Nat.shiftRight_eq_div_pow]
  rw [Nat.testBit_eq_decide_div_mod_eq, decide_eq_true_eq, ← e] at hb
  have hl : pb (bset f 16) i < 2 := Nat.mod_lt _ (by decide)
  by_cases q : f i
  · rw [bI_t q, hb.mpr ⟨h, q⟩]; rfl
  · rw [bI_f q]
    have : pb (bset f 16) i ≠ 1 := fun z => q (hb.mp z).2
    omega
theorem bN_cnt {f : Int → Prop} : ((bN (bset f 16) : Nat) : Int) = cnt f 16 := by
  have hl := bset_lt f 16
  rw [bN_eq (by omega)]
  have p : ∀ i : Nat, i < 16 → ((pb (bset f 16) i : Nat) : Int) = bI (f i) := fun i h => pb_bset h
  show ((((((pb (bset f 16) 0 + pb (bset f 16) 1) + (pb (bset f 16) 2 + pb (bset f 16) 3)) + ((pb (bset f 16) 4 + pb (bset f 16) 5) + (pb (bset f 16) 6 + pb (bset f 16) 7))) + (((pb (bset f 16) 8 + pb (bset f 16) 9) + (pb (bset f 16) 10 + pb (bset f 16) 11)) + ((pb (bset f 16) 12 + pb (bset f 16) 13) + (pb (bset f 16) 14 + pb (bset f 16) 15))) : Nat)) : Int) = _
  show _ = ((((((((((((((((0 + bI (f ((0 : Nat) : Int))) + bI (f ((1 : Nat) : Int))) + bI (f ((2 : Nat) : Int))) + bI (f ((3 : Nat) : Int))) + bI (f ((4 : Nat) : Int))) + bI (f ((5 : Nat) : Int))) + bI (f ((6 : Nat) : Int))) + bI (f ((7 : Nat) : Int))) + bI (f ((8 : Nat) : Int))) + bI (f ((9 : Nat) : Int))) + bI (f ((10 : Nat) : Int))) + bI (f ((11 : Nat) : Int))) + bI (f ((12 : Nat) : Int))) + bI (f ((13 : Nat) : Int))) + bI (f ((14 : Nat) : Int))) + bI (f ((15 : Nat) : Int)))
  rw [← p 0 (by decide), ← p 1 (by decide), ← p 2 (by decide), ← p 3 (by decide), ← p 4 (by decide), ← p 5 (by decide), ← p 6 (by decide), ← p 7 (by decide), ← p 8 (by decide), ← p 9 (by decide), ← p 10 (by decide), ← p 11 (by decide), ← p 12 (by decide), ← p 13 (by decide), ← p 14 (by decide), ← p 15 (by decide)]
  omega
theorem cnt_congr {f g : Int → Prop} : ∀ {n : Nat}, (∀ p : Int, 0 ≤ p → p < n → (f p ↔ g p)) → cnt f n = cnt g n
  | 0, _ => rfl
  | n + 1, h => by
    show cnt f n + _ = cnt g n + _
    rw [cnt_congr (n := n) (fun p h0 h1 => h p h0 (by omega)), bI_c (h n (by omega) (by omega))]
theorem cnt_s {f : Int → Prop} {i : Int} (h : 0 ≤ i) : cnt f (i + 1).toNat = cnt f i.toNat + bI (f i) := by
  obtain ⟨n, rfl⟩ : ∃ n : Nat, i = n := ⟨i.toNat, by omega⟩
  rw [show ((n : Int) + 1).toNat = n + 1 by omega, Int.toNat_natCast]
  rfl
theorem cnt_ext {f : Int → Prop} {n : Nat} (h : ∀ p : Int, (n : Int) ≤ p → ¬ f p) : ∀ m : Nat, cnt f (n + m) = cnt f n
  | 0 => rfl
  | m + 1 => by
    show cnt f (n + m) + bI (f ((n + m : Nat) : Int)) = cnt f n
    rw [cnt_ext h m, bI_f (h _ (by omega))]
    omega
theorem bA_le {n : Nat} : Nat.land (Nat.shiftRight n 1) 1431655765 ≤ n := by
  have h1 : n >>> 1 &&& 1431655765 ≤ n >>> 1 := Nat.and_le_left
  rw [Nat.shiftRight_eq_div_pow] at h1
  have h2 : n / 2 ^ 1 ≤ n := Nat.div_le_self _ _
  have h3 : n >>> 1 &&& 1431655765 ≤ n := by rw [Nat.shiftRight_eq_div_pow]; omega
  exact h3
theorem sr_le {n k : Nat} : Nat.shiftRight n k ≤ n := by
  have h : n >>> k ≤ n := by rw [Nat.shiftRight_eq_div_pow]; exact Nat.div_le_self _ _
  exact h
theorem la_le {n k : Nat} : Nat.land n k ≤ k := by
  have h : n &&& k ≤ k := Nat.and_le_right
  exact h

