/-! ===== arraycopy; offices changed ===== -/
def cpyF (f g : Int → Int) (sp dp n : Int) : Int → Int := fun k => if dp ≤ k ∧ k < dp + n then f (sp + (k - dp)) else g k
theorem cpy_iI {f g : Int → Int} {sp dp n : Int} (h1 : 0 ≤ sp) (h2 : 0 ≤ dp) (h3 : 0 ≤ n) : (fun j : Nat => iI (cpyF f g sp dp n j)) = va_cpy (fun j : Nat => iI (f j)) (fun j : Nat => iI (g j)) sp.toNat dp.toNat n.toNat := by
  funext j
  unfold cpyF va_cpy
  by_cases q : dp ≤ (j : Int) ∧ (j : Int) < dp + n
  · rw [if_pos q, if_pos (by omega)]
    rw [show sp + ((j : Int) - dp) = ((sp.toNat + (j - dp.toNat) : Nat) : Int) by omega]
  · rw [if_neg q, if_neg (by omega)]
theorem wl_setA {X : XC} {I : HD} {h : Nat} {f : Int → Int} {e : va_E} (hh : h < NN) (he : cell X (upA I h f) h = e) : (wl X I).set h (X.2.2.1 h, e) = wl X (upA I h f) := by
  apply List.ext_getElem?
  intro k
  rw [List.getElem?_set]
  by_cases hk : h = k
  · subst hk
    rw [if_pos rfl, wl_get hh, he]
    simp [wl, hh]
  · rw [if_neg hk]
    by_cases q : k < NN
    · rw [wl_get q, wl_get q]
      rw [cell_c (I := I) (I2 := upA I h f) (fun j => by rw [upA_h (fun z => hk z.symm)])]
    · rw [List.getElem?_eq_none (by simp [wl]; omega), List.getElem?_eq_none (by simp [wl]; omega)]
theorem mo_copy : Cond.native arraycopyName ∈ lw_tbl ∧ Cond.static arraycopyName ∈ lw_good ∧ Cond.initialized "java/lang/System" ∈ lw_good := ⟨by decide +kernel, lw_gd (by decide +kernel) (by decide +kernel), lw_gd (by decide +kernel) (by decide +kernel)⟩
theorem mo_nat : goodWord (Cond.native arraycopyName) = true := by decide +kernel
theorem r_copy {X : XC} {D : Nat} {M : MR} {K : KP} {pc : Nat} {lv : List (Nat × Value)} {st : List Value} {I : HD} {h g n0 n1 idx : Nat} {sp dp n : Int} (hh : h < NN) (hg : g < NN) (hc : cell X I h = oiv X I h 0 n0) (hc2 : ∀ I2, cell X I2 g = oiv X I2 g 0 n1) (h1 : 0 ≤ sp) (h2 : 0 ≤ dp) (h3 : 0 ≤ n) (h4 : sp + n ≤ n0) (h5 : dp + n ≤ n1) (hb1 : n0 < 100000) (hb2 : n1 < 100000) (hD : 0 < D) (hst : (st.map fun v => v.category).sum ≤ 8) (hk : Cond.methodLink M.1.cls idx arraycopyName ∈ lw_good) (hd : decode M.2.1 pc = .ok (.invokestatic idx, 3)) (k : Rn X D M K (pc + 3) lv st (upA I g (cpyF (I h) (I g) sp dp n))) : Rn X D M K pc lv (iv n :: iv dp :: rv X g :: iv sp :: rv X h :: st) I := by
  intro p e s m args below meth c H locs ls hx hb hml hr hlk hown hts hC hP hS hl
  have hw : ∀ {w : Cond}, w ∈ lw_good → w.before args s = true := fun h => hts _ (List.mem_cons_of_mem _ h)
  have r0 : ∀ {z : Int}, 0 ≤ z → z < 200000 → (iI z).toNatClampNeg = z.toNat ∧ ¬ iI z < 0 := fun {z} a b => ⟨rg_cl (by unfold rg; omega) a, fun q => by
    have := (rg_lt (a := z) (b := 0) (by unfold rg; omega) rg_0).mp q
    omega⟩
  have a1 := r0 h1 (by omega)
  have a2 := r0 h2 (by omega)
  have a3 := r0 h3 (by omega)
  have hF : 1 ≤ (rmD D).frames := hD
  have hL : (st.map fun v => v.category).sum + (nativeFrameWords "java/lang/System" "arraycopy" 5 + 11) ≤ (rmD D).locals := by
    have e1 : nativeFrameWords "java/lang/System" "arraycopy" 5 + 11 ≤ 32 := by decide +kernel
    have e2 : (rmD D).locals = 40 * D := rfl
    omega
  refine va_copyi hx hb (hml.trans hl.1.symm) hown (hw hk) (hw (lw_gd mo_copy.1 mo_nat)) (hw mo_copy.2.1) (hw mo_copy.2.2) hC.1 hP (wl_D hC.2.2.1) hS h g 0 0 (by rw [wl_get hh, hc]; rfl) (by rw [wl_get hg, hc2]; rfl) rfl rfl rfl a1.2 a2.2 a3.2 (by rw [a1.1, a3.1]; omega) (by rw [a2.1, a3.1]; omega) (fun _ _ => rfl) hF hL hd (fun H1 locs1 hP1 _ hS1 => ?_)
  rw [a1.1, a2.1, a3.1, wl_setA (f := cpyF (I h) (I g) sp dp n) hg (by rw [hc2]; unfold oiv; rw [upA_s, cpy_iI h1 h2 h3])] at hP1
  exact k p e s m args below meth c H1 locs1 ls hx hb hml hr hlk hown hts hC hP1 hS1 hl
/-- nothing but the office o is changed -/
def frO (I J : HD) (o : Nat) : Prop := ∀ a, (a < oH o ∨ oH o + 9 ≤ a) → J a = I a
theorem frO.rf {I : HD} {o : Nat} : frO I I o := fun _ _ => rfl
theorem frO.tr {I J L : HD} {o : Nat} (h : frO I J o) (g : frO J L o) : frO I L o := fun a q => (g a q).trans (h a q)
theorem frO.up {I J : HD} {o h : Nat} {i z : Int} (g : frO I J o) (h1 : oH o ≤ h) (h2 : h < oH o + 9) : frO I (up J h i z) o := fun a q => by
  rw [up_row (by omega)]
  exact g a q
theorem frO.upA {I J : HD} {o h : Nat} {f : Int → Int} (g : frO I J o) (h1 : oH o ≤ h) (h2 : h < oH o + 9) : frO I (upA J h f) o := fun a q => by
  rw [upA_h (by omega)]
  exact g a q
/-- an office holds what another held -/
def ofC (I J : HD) (s t : Nat) : Prop := (∀ j, 8 ≤ j → j < 12 → J (oH t) j = I (oH s) j) ∧ (∀ q, 0 ≤ q → q < 12 → J (oH t + 1) q = I (oH s + 1) q) ∧ (∀ q, 0 ≤ q → q < 4 → J (oH t + 2) q = I (oH s + 2) q ∧ J (oH t + 3) q = I (oH s + 3) q ∧ J (oH t + 4) q = I (oH s + 4) q) ∧ (∀ q, 0 ≤ q → q < 36 → J (oH t + 5) q = I (oH s + 5) q) ∧ (∀ q, 0 ≤ q → q < 16 → J (oH t + 6) q = I (oH s + 6) q ∧ J (oH t + 7) q = I (oH s + 7) q ∧ J (oH t + 8) q = I (oH s + 8) q)
theorem RepC.of {O : OF} {I J : HD} {s t : Nat} (hV : Val O) (h : RepC O I s) (c : ofC I J s t) : RepC O J t := by
  obtain ⟨c1, c2, c3, c4, c5⟩ := c
  have v := hV.a
  refine ⟨⟨(c1 8 (by omega) (by omega)).trans h.f0, (c1 9 (by omega) (by omega)).trans h.f1, (c1 10 (by omega) (by omega)).trans h.f2⟩, fun q a b => (c2 q a b).trans (h.wind a b), fun d a b => ?_, fun d k a b e f => ?_, fun p a b => ?_, (c1 11 (by omega) (by omega)).trans h.met⟩
  · obtain ⟨x, y, z⟩ := c3 d a (by omega)
    exact ⟨x.trans (h.room a b), y.trans (h.ston a b), z.trans (h.hgt a b)⟩
  · have vd := hV.d a b
    exact (c4 (d * 9 + k) (by omega) (by omega)).trans (h.pile a b e f)
  · obtain ⟨x, y, z⟩ := c5 p a (by omega)
    exact ⟨x.trans (h.sort a b), y.trans (h.wrth a b), z.trans (h.need a b)⟩
theorem RepC.fr {O : OF} {I J : HD} {o : Nat} (h : RepC O I o) (e : ∀ a, oH o ≤ a → a < oH o + 9 → J a = I a) : RepC O J o := by
  unfold RepC
  rw [e (oH o) (by omega) (by omega), e (oH o + 1) (by omega) (by omega), e (oH o + 2) (by omega) (by omega), e (oH o + 3) (by omega) (by omega), e (oH o + 4) (by omega) (by omega), e (oH o + 5) (by omega) (by omega), e (oH o + 6) (by omega) (by omega), e (oH o + 7) (by omega) (by omega), e (oH o + 8) (by omega) (by omega)]
  exact h
theorem Cl.mono {X : XC} {D : Nat} {M : MR} {av : List Value} {I : HD} {K K2 : KP} (hK : ∀ r J, K r J → K2 r J) (h : Cl X D M av I K) : Cl X D M av I K2 := by
  intro p e ha hc hk s m args below hf hfit hheap happ
  obtain ⟨n, o, h1, h2, h3, ⟨⟨r, J, q1, q2, q3⟩, q4⟩, h5⟩ := h p e ha hc hk s m args below hf hfit hheap happ
  exact ⟨n, o, h1, h2, h3, ⟨⟨r, J, q1, hK r J q2, q3⟩, q4⟩, h5⟩
theorem kmcp_X3 : Cond.methodLink RX3 49 arraycopyName ∈ lw_good := lw_gd (List.mem_of_getElem? (i := 543) (by decide +kernel)) (by decide +kernel)
theorem kmcp_X8 : Cond.methodLink RX8 104 arraycopyName ∈ lw_good := lw_gd (List.mem_of_getElem? (i := 368) (by decide +kernel)) (by decide +kernel)
theorem r_I {X : XC} {D : Nat} {M : MR} {K : KP} {pc : Nat} {lv : List (Nat × Value)} {st : List Value} {I : HD} {J : HD} (e : I = J) (k : Rn X D M K pc lv st J) : Rn X D M K pc lv st I := e ▸ k
/-- the first j arrays of an office are copied -/
def nOA (i : Nat) : Int := match i with
  | 1 => 12
  | 2 => 4
  | 3 => 4
  | 4 => 4
  | 5 => 36
  | _ => 16
def cpd (I J : HD) (s t j : Nat) : Prop := (∀ a, (a < oH t + 1 ∨ oH t + j < a) → J a = I a) ∧ ∀ (i : Nat) (q : Int), 1 ≤ i → i ≤ j → 0 ≤ q → q < nOA i → J (oH t + i) q = I (oH s + i) q
theorem cpd_0 {I : HD} {s t : Nat} : cpd I I s t 0 := ⟨fun _ _ => rfl, fun i q h1 h2 => by omega⟩
theorem cpd_s {I J L : HD} {s t j : Nat} {n : Int} (hst : s ≠ t) (hj : j < 8) (hn : n = nOA (j + 1)) (h : cpd I J s t j) (e : L = upA J (oH t + (j + 1)) (cpyF (J (oH s + (j + 1))) (J (oH t + (j + 1))) 0 0 n)) : cpd I L s t (j + 1) := by
  subst e
  refine ⟨fun a q => ?_, fun i q h1 h2 h3 h4 => ?_⟩
  · rw [upA_h (by omega)]
    exact h.1 a (by omega)
  · by_cases z : i = j + 1
    · subst z
      rw [upA_s]
      unfold cpyF
      rw [if_pos (by omega), h.1 (oH s + (j + 1)) (by
        show 45 + 9 * s + (j + 1) < 45 + 9 * t + 1 ∨ 45 + 9 * t + j < 45 + 9 * s + (j + 1)
        omega)]
      congr 1
      omega
    · rw [upA_h (by omega)]
      exact h.2 i q h1 (by omega) h3 h4
theorem cpd_8 {I J L : HD} {s t : Nat} (hst : s ≠ t) (h : cpd I J s t 8) (e : L = up (up (up (up J (oH t) 8 (J (oH s) 8)) (oH t) 9 (J (oH s) 9)) (oH t) 10 (J (oH s) 10)) (oH t) 11 (J (oH s) 11)) : frO I L t ∧ ofC I L s t := by
  have hs : J (oH s) = I (oH s) := h.1 _ (by show 45 + 9 * s < 45 + 9 * t + 1 ∨ 45 + 9 * t + 8 < 45 + 9 * s; omega)
  have hr : ∀ a, a ≠ oH t → L a = J a := fun a q => by rw [e, up_row q, up_row q, up_row q, up_row q]
  have hf : ∀ j, L (oH t) j = if j = 11 then I (oH s) 11 else if j = 10 then I (oH s) 10 else if j = 9 then I (oH s) 9 else if j = 8 then I (oH s) 8 else J (oH t) j := by
    intro j
    rw [e, hs]
    unfold up
    by_cases z1 : j = 11
    · simp [z1]
    · by_cases z2 : j = 10
      · simp [z2]
      · by_cases z3 : j = 9
        · simp [z3]
        · by_cases z4 : j = 8
          · simp [z4]
          · simp [z1, z2, z3, z4]
  have key : ∀ (i : Nat) (q : Int), 1 ≤ i → i ≤ 8 → 0 ≤ q → q < nOA i → L (oH t + i) q = I (oH s + i) q := fun i q a b c d => by
    rw [hr _ (by omega)]
    exact h.2 i q a b c d
  refine ⟨fun a q => ?_, fun j a b => ?_, fun q a b => key 1 q (by omega) (by omega) a b, fun q a b => ⟨key 2 q (by omega) (by omega) a b, key 3 q (by omega) (by omega) a b, key 4 q (by omega) (by omega) a b⟩, fun q a b => key 5 q (by omega) (by omega) a b, fun q a b => ⟨key 6 q (by omega) (by omega) a b, key 7 q (by omega) (by omega) a b, key 8 q (by omega) (by omega) a b⟩⟩
  · rw [hr a (by omega)]
    exact h.1 a (by omega)
  · rw [hf j]
    have : j = 8 ∨ j = 9 ∨ j = 10 ∨ j = 11 := by omega
    rcases this with rfl | rfl | rfl | rfl <;> simp
