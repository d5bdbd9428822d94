/-! ===== the reference's writers, in numbers ===== -/
theorem cmO_up {I : HD} {O : OF} {d p : Int} (hO : I 34 = O) : up (up I 34 (23 + 10 * d) (O (23 + 10 * d) + 1)) 34 (23 + 10 * d + (O (23 + 10 * d) + 1)) p = upA I 34 (cmO O d p) := by
  subst hO
  rw [upA_i (I := I), upA_u]
  congr 1
  funext k
  unfold cmO
  by_cases e : k = 24 + 10 * d + I 34 (23 + 10 * d)
  · rw [if_pos e, if_pos (by omega)]
  · rw [if_neg e, if_neg (by omega)]
theorem lvO_up {I : HD} {O : OF} {d z : Int} (h : 0 ≤ z) : up (upA I 34 (shF O (24 + 10 * d + z) (24 + 10 * d + (O (23 + 10 * d) - 1)))) 34 (23 + 10 * d) (O (23 + 10 * d) - 1) = upA I 34 (lvO O d z) := by
  rw [upA_u]
  congr 1
  funext k
  unfold lvO shF
  by_cases e : k = 23 + 10 * d
  · rw [if_pos e, if_neg (by omega), if_pos e]
  · rw [if_neg e]
    by_cases q : 24 + 10 * d + z ≤ k ∧ k < 24 + 10 * d + (O (23 + 10 * d) - 1)
    · rw [if_pos q, if_pos q]
    · rw [if_neg q, if_neg q, if_neg e]
theorem upA_O {I : HD} {O : OF} (hO : I 34 = O) : I = upA I 34 O := by subst hO; exact upA_z
/-- a block of 127 numbers put at the place n -/
def blk (W : Int → Int) (O : OF) (n m : Int) : Int → Int := fun i => if 127 * n ≤ i ∧ i < 127 * n + m then O (i - 127 * n) else W i
theorem blk_0 {W : Int → Int} {O : OF} {n : Int} : blk W O n 0 = W := by
  funext i
  unfold blk
  rw [if_neg (by omega)]
theorem blk_s {I : HD} {h : Nat} {W : Int → Int} {O : OF} {n k z : Int} (hk : 0 ≤ k) (hz : z = O k) : up (upA I h (blk W O n k)) h (127 * n + k) z = upA I h (blk W O n (k + 1)) := by
  rw [upA_u]
  congr 1
  funext i
  subst hz
  unfold blk
  by_cases e : i = 127 * n + k
  · rw [if_pos e, if_pos (by omega), show i - 127 * n = k by omega]
  · rw [if_neg e]
    by_cases q : 127 * n ≤ i ∧ i < 127 * n + k
    · rw [if_pos q, if_pos (by omega)]
    · rw [if_neg q, if_neg (by omega)]
def sh127 (W : Int → Int) (m : Int) : Int → Int := fun i => if 0 ≤ i ∧ i < m then W (i + 127) else W i
theorem sh127_0 {W : Int → Int} : sh127 W 0 = W := by
  funext i
  unfold sh127
  rw [if_neg (by omega)]
theorem sh127_s {I : HD} {h : Nat} {W : Int → Int} {k z : Int} (hk : 0 ≤ k) (hz : z = W (k + 127)) : up (upA I h (sh127 W k)) h k z = upA I h (sh127 W (k + 1)) := by
  rw [upA_u]
  congr 1
  funext i
  subst hz
  unfold sh127
  by_cases e : i = k
  · rw [if_pos e, if_pos (by omega), e]
  · rw [if_neg e]
    by_cases q : 0 ≤ i ∧ i < k
    · rw [if_pos q, if_pos (by omega)]
    · rw [if_neg q, if_neg (by omega)]
/-- what is kept of acts: the reference's -/
def kpW (W : Int → Int) (O : OF) (n : Int) : Int → Int := if n = 24 then blk (sh127 W 2921) O 23 127 else blk W O n 127
def kpN (n : Int) : Int := if n = 24 then 24 else n + 1
/-- what is left on the desks behind e gusts -/
def lftE (O : OF) (e : Int) (f : Int → Int) : Prop := ∀ d, 0 ≤ d → d < O 0 → f d = O (23 + 10 * d) - tfv O d e.toNat
theorem tpN_a {O : OF} {d e : Int} (h : e < tfv O d (e + 1).toNat) : tpN O d e = tp O d e := if_pos h
theorem tpN_b {O : OF} {d e : Int} (h : ¬ e < tfv O d (e + 1).toNat) : tpN O d e = -1000000 := if_neg h
theorem shF_s2 {I : HD} {h : Nat} {g : Int → Int} {a b c i z : Int} (hi : i = b) (hab : a ≤ b) (hc : c = b + 1) (hz : z = g (b + 1)) : up (upA I h (shF g a b)) h i z = upA I h (shF g a c) := by
  rw [upA_u]
  congr 1
  funext q
  unfold shF
  subst hi hc hz
  by_cases e : q = i
  · subst e
    rw [if_pos rfl, if_pos (by omega)]
  · rw [if_neg e]
    by_cases e2 : a ≤ q ∧ q < i
    · rw [if_pos e2, if_pos (by omega)]
    · rw [if_neg e2, if_neg (by omega)]
theorem kp_eq {I : HD} {W : Int → Int} {O : OF} {n k : Int} (hn : n = 24) (hk : k = 2921) : up (upA (up (upA I 36 (sh127 W k)) 30 9 (n - 1)) 36 (blk (sh127 W k) O (n - 1) 127)) 30 9 (n - 1 + 1) = up (upA I 36 (kpW W O n)) 30 9 (kpN n) := by
  subst hn hk
  have e : kpW W O 24 = blk (sh127 W 2921) O 23 127 := by unfold kpW; rw [if_pos rfl]
  have e2 : kpN 24 = 24 := rfl
  rw [e, e2]
  funext a b
  unfold up upA
  by_cases q : a = 30
  · subst q
    by_cases r : b = 9
    · subst r; simp
    · simp [r]
  · by_cases q2 : a = 36
    · subst q2; simp
    · simp [q, q2]
