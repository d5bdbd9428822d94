/-! ===== a quarter ===== -/
theorem iL_n (n : Nat) : iL (n : Int) = lN n := by
  show Int64.ofInt (n : Int) = Int64.ofNat n
  apply Int64.toBitVec_inj.mp
  rw [Int64.toBitVec_ofInt, BitVec.ofInt_natCast]
  rfl
theorem lrem_n {a : Int} {n : Nat} (h : 0 ≤ a) (h2 : a < 9000000000000000) (hn : 0 < n) (hn2 : n < 9000000000000000) : iL a - iL a / iL (n : Int) * iL (n : Int) = iL (a % (n : Int)) := by
  obtain ⟨k, rfl⟩ : ∃ k : Nat, a = k := ⟨a.toNat, by omega⟩
  rw [iL_n, iL_n, pk_lRem (by omega) hn (by omega), ← Int.natCast_emod, iL_n]
def drw (s : Int) : Int := s * 16807 % 2147483647 % 100
noncomputable def quO (O : OF) (s : Int) : OF := fun k => if k = 2 then O 2 + 1 else if drw s < O (3 + O 2) then blN O (O 0) k else O k
theorem quO_a {O : OF} {s : Int} (hV : Val O) (h : drw s < O (3 + O 2)) : quO O s = fun k => if k = 2 then blN O (O 0) 2 + 1 else blN O (O 0) k := by
  have v := hV.a
  funext k
  unfold quO
  rw [blN_k (k := 2) (by omega) (by omega)]
  by_cases q : k = 2
  · rw [if_pos q, if_pos q]
  · rw [if_neg q, if_neg q, if_pos h]
theorem quO_b {O : OF} {s : Int} (h : ¬ drw s < O (3 + O 2)) : quO O s = fun k => if k = 2 then O 2 + 1 else O k := by
  funext k
  unfold quO
  by_cases q : k = 2
  · rw [if_pos q, if_pos q]
  · rw [if_neg q, if_neg q, if_neg h]
theorem RepC.qu {O : OF} {J : HD} {o : Nat} (h : RepC O J o) : RepC (fun k => if k = 2 then O 2 + 1 else O k) (up J (oH o) 10 (O 2 + 1)) o := by
  have e : ∀ k, k ≠ 2 → (fun k => if k = 2 then O 2 + 1 else O k) k = O k := fun k q => if_neg q
  have r : ∀ a, a ≠ oH o → up J (oH o) 10 (O 2 + 1) a = J a := fun a q => up_row q
  have e0 := e 0 (by omega)
  have e1 := e 1 (by omega)
  refine ⟨⟨?_, ?_, ?_⟩, fun q a b => ?_, fun c a b => ?_, fun c k a b f g => ?_, fun p a b => ?_, ?_⟩
  · rw [up_i (by decide), e0]; exact h.f0
  · rw [up_i (by decide), e1]; exact h.f1
  · rw [up_s]; exact (if_pos rfl).symm
  · rw [r _ (by omega), e _ (by omega)]; exact h.wind a b
  · rw [e0] at b
    rw [r _ (by omega), r (oH o + 3) (by omega), r (oH o + 4) (by omega), e _ (by omega), e (16 + 2 * c) (by omega), e (23 + 10 * c) (by omega)]
    exact ⟨h.room a b, h.ston a b, h.hgt a b⟩
  · rw [e0] at b
    rw [e _ (by omega)] at g
    rw [r _ (by omega), e _ (by omega)]
    exact h.pile a b f g
  · rw [e1] at b
    rw [r _ (by omega), r (oH o + 7) (by omega), r (oH o + 8) (by omega), e _ (by omega), e (64 + 4 * p) (by omega), e (65 + 4 * p) (by omega)]
    exact ⟨h.sort a b, h.wrth a b, h.need a b⟩
  · rw [up_i (by decide), h.met, e1]
    exact bs_c' fun p a b => by rw [e (66 + 4 * p) (by omega)]
