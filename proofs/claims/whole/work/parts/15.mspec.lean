/-! ===== words for the reference ===== -/
noncomputable def dkN (O : OF) (p : Int) : Int := if dk O p < 0 then -1000000 else dk O p
theorem dkN_a {O : OF} {p : Int} (h : dk O p < 0) : dkN O p = -1000000 := if_pos h
theorem dkN_b {O : OF} {p : Int} (h : 0 ≤ dk O p) : dkN O p = dk O p := if_neg (by omega)
theorem nar_bI {P : Prop} : narrow .boolean (iv (bI P)) = iv (bI P) := by
  by_cases h : P
  · rw [bI_t h]; rfl
  · rw [bI_f h]; rfl
/-- a place of a desk where a sheet lies -/
def isPl (O : OF) (d p z : Int) : Prop := 0 ≤ z ∧ z < O (23 + 10 * d) ∧ O (24 + 10 * d + z) = p
/-- the uppermost sheet that the gust behind e others takes from a desk, else -1000000 -/
noncomputable def tpN (O : OF) (d : Int) (e : Int) : Int := if e < tfv O d (e + 1).toNat then tp O d e else -1000000
theorem tfv_s {O : OF} {d e : Int} (h : 0 ≤ e) : tfv O d (e + 1).toNat = if e < tfv O d (e + 1).toNat then tfv O d e.toNat + 1 else tfv O d e.toNat := by
  obtain ⟨n, rfl⟩ : ∃ n : Nat, e = n := ⟨e.toNat, by omega⟩
  rw [show ((n : Int) + 1).toNat = n + 1 by omega, Int.toNat_natCast]
  have g := (tfv_Tf O d n).2.1
  by_cases q : tfv O d n = n ∧ (n : Int) < O (23 + 10 * d) - O (16 + 2 * d) ∧ ¬ slat O (O (24 + 10 * d + (O (23 + 10 * d) - 1 - n)))
  · rw [show tfv O d (n + 1) = n + 1 from if_pos q, if_pos (by omega), q.1]
  · rw [show tfv O d (n + 1) = tfv O d n from if_neg q, if_neg (by omega)]
/-- the gust behind e others takes one of a desk: exactly if e were taken, one may yet go and it is no slate -/
theorem tfv_i {O : OF} {d e : Int} (h : 0 ≤ e) : e < tfv O d (e + 1).toNat ↔ (O (16 + 2 * d) < O (23 + 10 * d) - tfv O d e.toNat ∧ ¬ slat O (tp O d (tfv O d e.toNat))) := by
  obtain ⟨n, rfl⟩ : ∃ n : Nat, e = n := ⟨e.toNat, by omega⟩
  rw [show ((n : Int) + 1).toNat = n + 1 by omega, Int.toNat_natCast]
  obtain ⟨g1, g2, g3, g4, g5⟩ := tfv_Tf O d n
  by_cases q : tfv O d n = n ∧ (n : Int) < O (23 + 10 * d) - O (16 + 2 * d) ∧ ¬ slat O (O (24 + 10 * d + (O (23 + 10 * d) - 1 - n)))
  · rw [show tfv O d (n + 1) = n + 1 from if_pos q]
    constructor
    · intro _
      refine ⟨by omega, ?_⟩
      rw [q.1]; exact q.2.2
    · intro _; omega
  · rw [show tfv O d (n + 1) = tfv O d n from if_neg q]
    constructor
    · intro z; omega
    · rintro ⟨z1, z2⟩
      exfalso
      rcases g5 with e | e | e
      · rw [e] at z2
        exact q ⟨e, by omega, z2⟩
      · omega
      · exact z2 e
theorem tfv_e {O : OF} {d e : Int} (h : 0 ≤ e) (q : e < tfv O d (e + 1).toNat) : tfv O d e.toNat = e := by
  obtain ⟨n, rfl⟩ : ∃ n : Nat, e = n := ⟨e.toNat, by omega⟩
  have e1 := tfv_s (O := O) (d := d) (e := (n : Int)) h
  rw [if_pos q] at e1
  have g := (tfv_Tf O d n).2.1
  rw [Int.toNat_natCast] at e1 ⊢
  omega
theorem dkN_or (O : OF) (p : Int) : (dk O p < 0 ∧ dkN O p = -1000000) ∨ (0 ≤ dk O p ∧ dkN O p = dk O p) := by
  rcases (by omega : dk O p < 0 ∨ 0 ≤ dk O p) with z | z
  · exact Or.inl ⟨z, dkN_a z⟩
  · exact Or.inr ⟨z, dkN_b z⟩
