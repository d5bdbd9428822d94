/-! ===== lifted, laid ===== -/
theorem r_lve {X : XC} {D : Nat} {M : MR} {K : KP} {pc : Nat} {lv : List (Nat × Value)} {st : List Value} {I : HD} {lv2 : List (Nat × Value)} (e : lv = lv2) (k : Rn X D M K pc lv2 st I) : Rn X D M K pc lv st I := e ▸ k
theorem irem_n {a : Int} {n : Nat} (h : 0 ≤ a) (h2 : a < 1000000) (hn : 0 < n) (hn2 : n < 1000000) : iI a - iI a / iI (n : Int) * iI (n : Int) = iI (a % (n : Int)) := by
  obtain ⟨k, rfl⟩ : ∃ k : Nat, a = k := ⟨a.toNat, by omega⟩
  rw [iI_n, iI_n, pk_rem (by omega) hn (by omega), ← Int.natCast_emod, iI_n]
theorem kpS_34 {S : HD} : kpS S 34 = S 34 := by unfold kpS; rw [up_row (by decide), upA_h (by decide)]
theorem kpS_r {S : HD} {a : Nat} (h : a ≠ 30) (h2 : a ≠ 36) : kpS S a = S a := by unfold kpS; rw [up_row h, upA_h h2]
theorem kpS_30 {S : HD} {j : Int} (h : j ≠ 9) : kpS S 30 j = S 30 j := by unfold kpS; rw [up_i h, upA_h (by decide)]
theorem ofC.up {I J : HD} {s t h : Nat} {i z : Int} (c : ofC I J s t) (q : h < oH t ∨ oH t + 9 ≤ h) : ofC I (up J h i z) s t := by
  unfold ofC
  rw [up_row (show oH t ≠ h by omega), up_row (show oH t + 1 ≠ h by omega), up_row (show oH t + 2 ≠ h by omega), up_row (show oH t + 3 ≠ h by omega), up_row (show oH t + 4 ≠ h by omega), up_row (show oH t + 5 ≠ h by omega), up_row (show oH t + 6 ≠ h by omega), up_row (show oH t + 7 ≠ h by omega), up_row (show oH t + 8 ≠ h by omega)]
  exact c
theorem RepC.meet {O : OF} {I : HD} {o : Nat} {p : Int} (hV : Val O) (h : RepC O I o) (hp0 : 0 ≤ p) (hp1 : p < O 1) : RepC (fun k => if k = 66 + 4 * p then 1 else O k) (up I (oH o) 11 ((bset (fun x => (x < O 1 ∧ O (66 + 4 * x) = 1) ∨ x = p) 16 : Nat) : Int)) o := by
  have v := hV.a
  have e : ∀ k, k ≠ 66 + 4 * p → (fun k => if k = 66 + 4 * p then 1 else O k) k = O k := fun k q => if_neg q
  have hne : ∀ j : Nat, 0 < j → oH o + j ≠ oH o := fun j q => by omega
  unfold RepC
  rw [up_row (hne 1 (by omega)), up_row (hne 2 (by omega)), up_row (hne 3 (by omega)), up_row (hne 4 (by omega)), up_row (hne 5 (by omega)), up_row (hne 6 (by omega)), up_row (hne 7 (by omega)), up_row (hne 8 (by omega)), up_s, up_i (by decide), up_i (by decide), up_i (by decide)]
  have e0 := e 0 (by omega)
  have e1 := e 1 (by omega)
  refine ⟨⟨h.f0.trans e0.symm, h.f1.trans e1.symm, h.f2.trans (e 2 (by omega)).symm⟩, fun q x y => (h.wind x y).trans (e _ (by omega)).symm, fun d x y => ?_, fun d k x y z w => ?_, fun p2 x y => ?_, ?_⟩
  · rw [e0] at y
    refine ⟨(h.room x y).trans ?_, (h.ston x y).trans ?_, (h.hgt x y).trans ?_⟩ <;> exact (if_neg (by omega)).symm
  · rw [e0] at y
    have vd := hV.d x y
    rw [e _ (by omega)] at w
    exact (h.pile x y z w).trans (e _ (by omega)).symm
  · rw [e1] at y
    refine ⟨(h.sort x y).trans ?_, (h.wrth x y).trans ?_, (h.need x y).trans ?_⟩ <;> exact (if_neg (by omega)).symm
  · rw [e1]
    refine bs_c' fun x a b => ?_
    show (x < O 1 ∧ O (66 + 4 * x) = 1) ∨ x = p ↔ x < O 1 ∧ (if 66 + 4 * x = 66 + 4 * p then 1 else O (66 + 4 * x)) = 1
    by_cases q : x = p
    · subst q
      rw [if_pos rfl]
      exact ⟨fun _ => ⟨hp1, rfl⟩, fun _ => Or.inr rfl⟩
    · rw [if_neg (by omega)]
      exact ⟨fun z => z.elim id (fun w => absurd w q), Or.inl⟩
/-- laid uppermost elsewhere; lifted -/
noncomputable def lyO (O : OF) (p d : Int) : OF := cmO (lvO O (dk O p) (O (23 + 10 * dk O p) - 1 - ab O p)) d p
noncomputable def lfO (O : OF) (p : Int) : OF := fun k => if k = 66 + 4 * p ∧ O 2 ≤ O (65 + 4 * p) then 1 else lyO O p (dk O p) k
theorem lfO_a {O : OF} {p : Int} (h : O 2 ≤ O (65 + 4 * p)) : lfO O p = fun k => if k = 66 + 4 * p then 1 else lyO O p (dk O p) k := by
  funext k
  unfold lfO
  by_cases q : k = 66 + 4 * p
  · rw [if_pos ⟨q, h⟩, if_pos q]
  · rw [if_neg (fun z => q z.1), if_neg q]
theorem lfO_b {O : OF} {p : Int} (h : ¬ O 2 ≤ O (65 + 4 * p)) : lfO O p = lyO O p (dk O p) := by
  funext k
  unfold lfO
  rw [if_neg (fun z => h z.2)]
theorem lvO_k {O : OF} {d z k : Int} (h : k < 23 ∨ 63 ≤ k) (h0 : 0 ≤ d) (h1 : d < 4) (hz : 0 ≤ z) (h2 : O (23 + 10 * d) ≤ 9) : lvO O d z k = O k := by unfold lvO; rw [if_neg (by omega), if_neg (by omega)]
theorem lvO_h {O : OF} {d z : Int} (hz : 0 ≤ z) : lvO O d z (23 + 10 * d) = O (23 + 10 * d) - 1 := by unfold lvO; rw [if_neg (by omega), if_pos rfl]
theorem lvO_g {O : OF} {d z e : Int} (hz : 0 ≤ z) (hb : O (23 + 10 * d) ≤ 9) (h0 : 0 ≤ e) (h : e ≠ d) : lvO O d z (23 + 10 * e) = O (23 + 10 * e) := by unfold lvO; rw [if_neg (by omega), if_neg (by omega)]
theorem cmO_k {O : OF} {d p k : Int} (h : k < 23 ∨ 63 ≤ k) (h0 : 0 ≤ d) (h1 : d < 4) (h2 : 0 ≤ O (23 + 10 * d)) (h3 : O (23 + 10 * d) < 9) : cmO O d p k = O k := by unfold cmO; rw [if_neg (by omega), if_neg (by omega)]
theorem cmO_h {O : OF} {d p : Int} (h2 : 0 ≤ O (23 + 10 * d)) : cmO O d p (23 + 10 * d) = O (23 + 10 * d) + 1 := by unfold cmO; rw [if_neg (by omega), if_pos rfl]
/-- what a sheet that lies on a desk has: all that lifting and laying need -/
theorem ly_all {O : OF} {p d : Int} (hV : Val O) (hp0 : 0 ≤ p) (hp1 : p < O 1) (hk : 0 ≤ dk O p) (hd0 : 0 ≤ d) (hd1 : d < O 0) (hr : d = dk O p ∨ O (23 + 10 * d) < O (15 + 2 * d)) :
    Val (lvO O (dk O p) (O (23 + 10 * dk O p) - 1 - ab O p)) ∧ Val (lyO O p d) ∧ (∀ k, (k < 23 ∨ 63 ≤ k) → lvO O (dk O p) (O (23 + 10 * dk O p) - 1 - ab O p) k = O k) ∧ (∀ k, (k < 23 ∨ 63 ≤ k) → lyO O p d k = O k) ∧ lvO O (dk O p) (O (23 + 10 * dk O p) - 1 - ab O p) (23 + 10 * d) < O (15 + 2 * d) ∧ 0 ≤ lvO O (dk O p) (O (23 + 10 * dk O p) - 1 - ab O p) (23 + 10 * d) ∧ lyO O p d (23 + 10 * d) = lvO O (dk O p) (O (23 + 10 * dk O p) - 1 - ab O p) (23 + 10 * d) + 1 ∧ (d ≠ dk O p → lvO O (dk O p) (O (23 + 10 * dk O p) - 1 - ab O p) (23 + 10 * d) = O (23 + 10 * d)) := by
  have v := hV.a
  have h1 := (dk_on hk).1
  have vd := hV.d hk h1
  have va := ab_r hk
  have vd2 := hV.d hd0 hd1
  have hl := hV.leave hk h1 (z := O (23 + 10 * dk O p) - 1 - ab O p) (by omega) (by omega)
  have hg : ∀ k, (k < 23 ∨ 63 ≤ k) → lvO O (dk O p) (O (23 + 10 * dk O p) - 1 - ab O p) k = O k := fun k q => lvO_k q hk (by omega) (by omega) (by omega)
  have hh := lvO_h (O := O) (d := dk O p) (z := O (23 + 10 * dk O p) - 1 - ab O p) (by omega)
  have hn : d ≠ dk O p → lvO O (dk O p) (O (23 + 10 * dk O p) - 1 - ab O p) (23 + 10 * d) = O (23 + 10 * d) := fun q => lvO_g (by omega) (by omega) hd0 q
  have hx : lvO O (dk O p) (O (23 + 10 * dk O p) - 1 - ab O p) (23 + 10 * d) < O (15 + 2 * d) ∧ 0 ≤ lvO O (dk O p) (O (23 + 10 * dk O p) - 1 - ab O p) (23 + 10 * d) := by
    by_cases q : d = dk O p
    · rw [q, hh]; omega
    · rw [hn q]; omega
  have e0 := hg 0 (by omega)
  have e1 := hg 1 (by omega)
  have e2 := hg (15 + 2 * d) (by omega)
  refine ⟨hl.1, Val.come hl.1 hd0 (by omega) (by omega) hp0 (by omega) (fun e k a b c f => ?_), hg, fun k q => (cmO_k q hd0 (by omega) hx.2 (by omega)).trans (hg k q), hx.1, hx.2, cmO_h hx.2, hn⟩
  have := hl.2 e k a (by omega) c f
  rw [ab_3 hk] at this
  exact this
theorem ofC_pre {I J : HD} {s t h : Nat} {i z : Int} (c : ofC (up I h i z) J s t) (q : h < oH s) : ofC I J s t := by
  unfold ofC at c ⊢
  rw [up_row (show oH s ≠ h by omega), up_row (show oH s + 1 ≠ h by omega), up_row (show oH s + 2 ≠ h by omega), up_row (show oH s + 3 ≠ h by omega), up_row (show oH s + 4 ≠ h by omega), up_row (show oH s + 5 ≠ h by omega), up_row (show oH s + 6 ≠ h by omega), up_row (show oH s + 7 ≠ h by omega), up_row (show oH s + 8 ≠ h by omega)] at c
  exact c
