/-! ===== rows: fields, arrays, calls, returns ===== -/
def ckX (ci : Nat) (C : String) (N : Nat) (T : u_T) (ty : Nat → FieldType) : Prop := vwCl[ci]? = some (C, T, N) ∧ (∀ w ∈ u_ws C T N, w ∈ lw_good) ∧ (∀ k, k < N → parseFieldDescriptor (T k).2.2.1 = some (ty k)) ∧ (∀ a, a < N → ∀ b, b < N → a ≠ b → (T a).2.1 ≠ (T b).2.1)
theorem hinW {M : MR} {ws : List Cond} (h : ∀ w ∈ ws, w ∈ lw_good) : ∀ w ∈ ws, w ∈ wsM M := fun w hw => List.mem_cons_of_mem _ (h w hw)
theorem upd_iI {f : Nat → Int32} {I : HD} {h : Nat} {i z : Int} (h0 : 0 ≤ i) (hf : f = fun j : Nat => iI (I h j)) : (fun j : Nat => iI (up I h i z h j)) = upd f i.toNat (iI z) := by
  subst hf
  funext j
  unfold up upd
  by_cases q : (j : Int) = i
  · have q2 : j = i.toNat := by omega
    rw [if_pos ⟨rfl, q⟩, if_pos q2]
  · have q2 : ¬ j = i.toNat := by omega
    rw [if_neg (fun z => q z.2), if_neg q2]
theorem upd_iL {f : Nat → Int64} {I : HD} {h : Nat} {i z : Int} (h0 : 0 ≤ i) (hf : f = fun j : Nat => iL (I h j)) : (fun j : Nat => iL (up I h i z h j)) = vp_updL f i.toNat (iL z) := by
  subst hf
  funext j
  unfold up vp_updL
  by_cases q : (j : Int) = i
  · have q2 : j = i.toNat := by omega
    rw [if_pos ⟨rfl, q⟩, if_pos q2]
  · have q2 : ¬ j = i.toNat := by omega
    rw [if_neg (fun z => q z.2), if_neg q2]
theorem r_get {X : XC} {D : Nat} {M : MR} {K : KP} {pc : Nat} {lv : List (Nat × Value)} {st : List Value} {I : HD} {h ci j N idx : Nat} {C : String} {T : u_T} {ty : Nat → FieldType} {fs : List Value} {v : Value} (ck : ckX ci C N T ty) (hh : h < NN) (hc : cell X I h = .inr (ci, fs)) (hj : j < N) (hv : fs[j]? = some v) (hk : Cond.fieldLink M.1.cls idx (T j).1 (T j).2.1 (T j).2.2.1 ∈ lw_good) (hd : decode M.2.1 pc = .ok (.getfield idx, 3)) (k : Rn X D M K (pc + 3) lv (v :: st) I) : Rn X D M K pc lv (rv X h :: st) I := by
  intro p e s m args below meth c H locs ls hx hb hml hr hlk hown hts hC hP hS hl
  exact va_get hx hb hts (hinW ck.2.1) hown hC.1 hP h (by rw [wl_get hh, hc]) ck.1 j hj (hts _ (List.mem_cons_of_mem _ hk)) (fun _ h9 => h9) hv hd (k p e s m args below meth c H locs ls hx hb hml hr hlk hown hts hC hP hS hl)
theorem r_put {X : XC} {D : Nat} {M : MR} {K : KP} {pc : Nat} {lv : List (Nat × Value)} {st : List Value} {I : HD} {h ci N idx : Nat} {C : String} {T : u_T} {ty : Nat → FieldType} {fs : List Value} {z : Int} {t : FieldType} (j : Nat) {ji : Int} (hji : (j : Int) = ji) (ck : ckX ci C N T ty) (hh : h < NN) (hc : cell X I h = .inr (ci, fs)) (hc2 : cell X (up I h ji z) h = .inr (ci, fs.set j (iv z))) (hj : j < N) (hjl : j < fs.length) (hk : Cond.fieldLink M.1.cls idx (T j).1 (T j).2.1 (T j).2.2.1 ∈ lw_good) (hfin : (T j).2.2.2 = false) (hty : parseFieldDescriptor (T j).2.2.1 = some t) (hn : narrow t (iv z) = iv z) (hfit : fits t (iv z) = true) (hd : decode M.2.1 pc = .ok (.putfield idx, 3)) (k : Rn X D M K (pc + 3) lv st (up I h ji z)) : Rn X D M K pc lv (iv z :: rv X h :: st) I := by
  subst hji
  intro p e s m args below meth c H locs ls hx hb hml hr hlk hown hts hC hP hS hl
  refine va_put hx hb hts (hinW ck.2.1) ty ck.2.2.1 ck.2.2.2 hown hC.1 hP (wl_D hC.2.2.1) hS h (by rw [wl_get hh, hc]) ck.1 j hj (hts _ (List.mem_cons_of_mem _ hk)) (fun _ h9 => h9) hfin hty hn hfit hjl hd (fun H1 locs1 hP1 _ hS1 => ?_)
  rw [wl_set hh hc2] at hP1
  exact k p e s m args below meth c H1 locs1 ls hx hb hml hr hlk hown hts hC hP1 hS1 hl
theorem r_getN {X : XC} {D : Nat} {M : MR} {K : KP} {pc : Nat} {lv : List (Nat × Value)} {st : List Value} {I : HD} {host : String} {h ci j N idx : Nat} {C : String} {T : u_T} {ty : Nat → FieldType} {fs : List Value} {v : Value} (ck : ckX ci C N T ty) (hh : h < NN) (hc : cell X I h = .inr (ci, fs)) (hj : j < N) (hv : fs[j]? = some v) (hk : Cond.fieldLinkNest M.1.cls idx (T j).1 (T j).2.1 (T j).2.2.1 host ∈ lw_nest) (hd : decode M.2.1 pc = .ok (.getfield idx, 3)) (k : Rn X D M K (pc + 3) lv (v :: st) I) : Rn X D M K pc lv (rv X h :: st) I := by
  intro p e s m args below meth c H locs ls hx hb hml hr hlk hown hts hC hP hS hl
  exact va_getN hx hb hts (hinW ck.2.1) hown hC.1 hP h (by rw [wl_get hh, hc]) ck.1 j hj (va_Nw.use rfl (hC.2.1 _ hk)) (fun _ h9 => h9) hv hd (k p e s m args below meth c H locs ls hx hb hml hr hlk hown hts hC hP hS hl)
theorem r_putN {X : XC} {D : Nat} {M : MR} {K : KP} {pc : Nat} {lv : List (Nat × Value)} {st : List Value} {I : HD} {host : String} {h ci N idx : Nat} {C : String} {T : u_T} {ty : Nat → FieldType} {fs : List Value} {z : Int} {t : FieldType} (j : Nat) {ji : Int} (hji : (j : Int) = ji) (ck : ckX ci C N T ty) (hh : h < NN) (hc : cell X I h = .inr (ci, fs)) (hc2 : cell X (up I h ji z) h = .inr (ci, fs.set j (iv z))) (hj : j < N) (hjl : j < fs.length) (hk : Cond.fieldLinkNest M.1.cls idx (T j).1 (T j).2.1 (T j).2.2.1 host ∈ lw_nest) (hfin : (T j).2.2.2 = false) (hty : parseFieldDescriptor (T j).2.2.1 = some t) (hn : narrow t (iv z) = iv z) (hfit : fits t (iv z) = true) (hd : decode M.2.1 pc = .ok (.putfield idx, 3)) (k : Rn X D M K (pc + 3) lv st (up I h ji z)) : Rn X D M K pc lv (iv z :: rv X h :: st) I := by
  subst hji
  intro p e s m args below meth c H locs ls hx hb hml hr hlk hown hts hC hP hS hl
  refine va_putN hx hb hts (hinW ck.2.1) ty ck.2.2.1 ck.2.2.2 hown hC.1 hP (wl_D hC.2.2.1) hS h (by rw [wl_get hh, hc]) ck.1 j hj (va_Nw.use rfl (hC.2.1 _ hk)) (fun _ h9 => h9) hfin hty hn hfit hjl hd (fun H1 locs1 hP1 _ hS1 => ?_)
  rw [wl_set hh hc2] at hP1
  exact k p e s m args below meth c H1 locs1 ls hx hb hml hr hlk hown hts hC hP1 hS1 hl
theorem r_iald {X : XC} {D : Nat} {M : MR} {K : KP} {pc : Nat} {lv : List (Nat × Value)} {st : List Value} {I : HD} {h n : Nat} {i z : Int} (hh : h < NN) (hc : cell X I h = oiv X I h 0 n) (h0 : 0 ≤ i) (h1 : i < n) (hn : n < 2147483648) (hz : I h i = z) (hd : decode M.2.1 pc = .ok (.iaload, 1)) (k : Rn X D M K (pc + 1) lv (iv z :: st) I) : Rn X D M K pc lv (iv i :: rv X h :: st) I := by
  intro p e s m args below meth c H locs ls hx hb hml hr hlk hown hts hC hP hS hl
  refine va_iald hx hb hC.1 hP h 0 (by rw [wl_get hh, hc]; rfl) rfl (rg_in h0 h1 hn) hd ?_
  rw [rg_cl (by unfold rg; omega) h0, Int.toNat_of_nonneg h0, hz]
  exact k p e s m args below meth c H locs ls hx hb hml hr hlk hown hts hC hP hS hl
theorem r_bald {X : XC} {D : Nat} {M : MR} {K : KP} {pc : Nat} {lv : List (Nat × Value)} {st : List Value} {I : HD} {h n : Nat} {i z : Int} (hh : h < NN) (hc : cell X I h = oiv X I h 1 n) (h0 : 0 ≤ i) (h1 : i < n) (hn : n < 2147483648) (hz : I h i = z) (hd : decode M.2.1 pc = .ok (.baload, 1)) (k : Rn X D M K (pc + 1) lv (iv z :: st) I) : Rn X D M K pc lv (iv i :: rv X h :: st) I := by
  intro p e s m args below meth c H locs ls hx hb hml hr hlk hown hts hC hP hS hl
  refine va_bald hx hb hC.1 hP h 1 (by rw [wl_get hh, hc]; rfl) rfl (rg_in h0 h1 hn) hd ?_
  rw [rg_cl (by unfold rg; omega) h0, Int.toNat_of_nonneg h0, hz]
  exact k p e s m args below meth c H locs ls hx hb hml hr hlk hown hts hC hP hS hl
theorem r_zald {X : XC} {D : Nat} {M : MR} {K : KP} {pc : Nat} {lv : List (Nat × Value)} {st : List Value} {I : HD} {h n : Nat} {i z : Int} (hh : h < NN) (hc : cell X I h = oiv X I h 3 n) (h0 : 0 ≤ i) (h1 : i < n) (hn : n < 2147483648) (hz : I h i = z) (hd : decode M.2.1 pc = .ok (.baload, 1)) (k : Rn X D M K (pc + 1) lv (iv z :: st) I) : Rn X D M K pc lv (iv i :: rv X h :: st) I := by
  intro p e s m args below meth c H locs ls hx hb hml hr hlk hown hts hC hP hS hl
  refine va_zald hx hb hC.1 hP h 3 (by rw [wl_get hh, hc]; rfl) rfl (rg_in h0 h1 hn) hd ?_
  rw [rg_cl (by unfold rg; omega) h0, Int.toNat_of_nonneg h0, hz]
  exact k p e s m args below meth c H locs ls hx hb hml hr hlk hown hts hC hP hS hl
theorem r_iast {X : XC} {D : Nat} {M : MR} {K : KP} {pc : Nat} {lv : List (Nat × Value)} {st : List Value} {I : HD} {h n : Nat} {i z : Int} (hh : h < NN) (hc : ∀ I2, cell X I2 h = oiv X I2 h 0 n) (h0 : 0 ≤ i) (h1 : i < n) (hn : n < 2147483648) (hd : decode M.2.1 pc = .ok (.iastore, 1)) (k : Rn X D M K (pc + 1) lv st (up I h i z)) : Rn X D M K pc lv (iv z :: iv i :: rv X h :: st) I := by
  intro p e s m args below meth c H locs ls hx hb hml hr hlk hown hts hC hP hS hl
  refine va_iast hx hb hC.1 hP (wl_D hC.2.2.1) hS h 0 (by rw [wl_get hh, hc]; rfl) rfl (rg_in h0 h1 hn) hd (fun H1 locs1 hP1 _ hS1 => ?_)
  rw [rg_cl (by unfold rg; omega) h0, wl_set hh (by rw [hc]; unfold oiv; rw [upd_iI h0 rfl])] at hP1
  exact k p e s m args below meth c H1 locs1 ls hx hb hml hr hlk hown hts hC hP1 hS1 hl
theorem r_bast {X : XC} {D : Nat} {M : MR} {K : KP} {pc : Nat} {lv : List (Nat × Value)} {st : List Value} {I : HD} {h n : Nat} {i z : Int} (hh : h < NN) (hc : ∀ I2, cell X I2 h = oiv X I2 h 1 n) (h0 : 0 ≤ i) (h1 : i < n) (hn : n < 2147483648) (hnar : vp_nar .byte (iI z) = iI z) (hd : decode M.2.1 pc = .ok (.bastore, 1)) (k : Rn X D M K (pc + 1) lv st (up I h i z)) : Rn X D M K pc lv (iv z :: iv i :: rv X h :: st) I := by
  intro p e s m args below meth c H locs ls hx hb hml hr hlk hown hts hC hP hS hl
  refine va_bast hx hb hC.1 hP (wl_D hC.2.2.1) hS h 1 (by rw [wl_get hh, hc]; rfl) rfl (rg_in h0 h1 hn) hd (fun H1 locs1 hP1 _ hS1 => ?_)
  rw [rg_cl (by unfold rg; omega) h0, hnar, wl_set hh (by rw [hc]; unfold oiv; rw [upd_iI h0 rfl])] at hP1
  exact k p e s m args below meth c H1 locs1 ls hx hb hml hr hlk hown hts hC hP1 hS1 hl
theorem r_zast {X : XC} {D : Nat} {M : MR} {K : KP} {pc : Nat} {lv : List (Nat × Value)} {st : List Value} {I : HD} {h n : Nat} {i z : Int} (hh : h < NN) (hc : ∀ I2, cell X I2 h = oiv X I2 h 3 n) (h0 : 0 ≤ i) (h1 : i < n) (hn : n < 2147483648) (hnar : vp_nar .boolean (iI z) = iI z) (hd : decode M.2.1 pc = .ok (.bastore, 1)) (k : Rn X D M K (pc + 1) lv st (up I h i z)) : Rn X D M K pc lv (iv z :: iv i :: rv X h :: st) I := by
  intro p e s m args below meth c H locs ls hx hb hml hr hlk hown hts hC hP hS hl
  refine va_zast hx hb hC.1 hP (wl_D hC.2.2.1) hS h 3 (by rw [wl_get hh, hc]; rfl) rfl (rg_in h0 h1 hn) hd (fun H1 locs1 hP1 _ hS1 => ?_)
  rw [rg_cl (by unfold rg; omega) h0, hnar, wl_set hh (by rw [hc]; unfold oiv; rw [upd_iI h0 rfl])] at hP1
  exact k p e s m args below meth c H1 locs1 ls hx hb hml hr hlk hown hts hC hP1 hS1 hl
theorem r_lald {X : XC} {D : Nat} {M : MR} {K : KP} {pc : Nat} {lv : List (Nat × Value)} {st : List Value} {I : HD} {h n : Nat} {i : Int} (hh : h < NN) (hc : cell X I h = .inl (X.2.2.2.1 2, n, .inr (.inl (fun j => iL (I h j))))) {z : Int} (h0 : 0 ≤ i) (h1 : i < n) (hn : n < 2147483648) (hz : I h i = z) (hd : decode M.2.1 pc = .ok (.laload, 1)) (k : Rn X D M K (pc + 1) lv (jv z :: st) I) : Rn X D M K pc lv (iv i :: rv X h :: st) I := by
  intro p e s m args below meth c H locs ls hx hb hml hr hlk hown hts hC hP hS hl
  refine va_lald hx hb hC.1 hP h 2 (by rw [wl_get hh, hc]) rfl (rg_in h0 h1 hn) hd ?_
  rw [rg_cl (by unfold rg; omega) h0, Int.toNat_of_nonneg h0, hz]
  exact k p e s m args below meth c H locs ls hx hb hml hr hlk hown hts hC hP hS hl
theorem r_last {X : XC} {D : Nat} {M : MR} {K : KP} {pc : Nat} {lv : List (Nat × Value)} {st : List Value} {I : HD} {h n : Nat} {i z : Int} (hh : h < NN) (hc : ∀ I2, cell X I2 h = .inl (X.2.2.2.1 2, n, .inr (.inl (fun j => iL (I2 h j))))) (h0 : 0 ≤ i) (h1 : i < n) (hn : n < 2147483648) (hd : decode M.2.1 pc = .ok (.lastore, 1)) (k : Rn X D M K (pc + 1) lv st (up I h i z)) : Rn X D M K pc lv (jv z :: iv i :: rv X h :: st) I := by
  intro p e s m args below meth c H locs ls hx hb hml hr hlk hown hts hC hP hS hl
  refine va_last hx hb hC.1 hP (wl_D hC.2.2.1) hS h 2 (by rw [wl_get hh, hc]) rfl (rg_in h0 h1 hn) hd (fun H1 locs1 hP1 _ hS1 => ?_)
  rw [rg_cl (by unfold rg; omega) h0, wl_set hh (by rw [hc]; rw [upd_iL h0 rfl])] at hP1
  exact k p e s m args below meth c H1 locs1 ls hx hb hml hr hlk hown hts hC hP1 hS1 hl
theorem r_aald {X : XC} {D : Nat} {M : MR} {K : KP} {pc : Nat} {lv : List (Nat × Value)} {st : List Value} {I : HD} {h n t : Nat} {i : Int} {C : String} {g : Nat → Nat} (hh : h < NN) (hc : cell X I h = .inl (X.2.2.2.1 t, n, .inr (.inr (.inr (.inr (fun j => some (X.2.2.1 (g j)))))))) (ht : (tysX X)[t]? = some (X.2.2.2.1 t, .object C)) (h0 : 0 ≤ i) (h1 : i < n) (hn : n < 2147483648) (hd : decode M.2.1 pc = .ok (.aaload, 1)) (k : Rn X D M K (pc + 1) lv (rv X (g i.toNat) :: st) I) : Rn X D M K pc lv (iv i :: rv X h :: st) I := by
  intro p e s m args below meth c H locs ls hx hb hml hr hlk hown hts hC hP hS hl
  refine va_aldq hx hb hC.1 hP h t (by rw [wl_get hh, hc]) ht (rg_in h0 h1 hn) hd ?_
  rw [rg_cl (by unfold rg; omega) h0]
  exact k p e s m args below meth c H locs ls hx hb hml hr hlk hown hts hC hP hS hl
theorem r_vret {X : XC} {D : Nat} {M : MR} {K : KP} {pc : Nat} {lv : List (Nat × Value)} {st : List Value} {I : HD} (hr0 : M.2.2.2 = none) (hd : decode M.2.1 pc = .ok (.return_, 1)) (hk : K none I) : Rn X D M K pc lv [] I := by
  intro p e s m args below meth c H locs ls hx hb hml hr hlk hown hts hC hP hS hl
  exact W.vret hx hb (hr.trans hr0) (fun t ht hW => ⟨⟨none, I, rfl, hk, by rw [ht]; exact hP⟩, hS.F ht⟩) hS.2.2 hd
theorem r_iret {X : XC} {D : Nat} {M : MR} {K : KP} {pc : Nat} {lv : List (Nat × Value)} {st : List Value} {I : HD} {z : Int} (hr0 : M.2.2.2 = some .int) (hd : decode M.2.1 pc = .ok (.ireturn, 1)) (hk : K (some (iv z)) I) : Rn X D M K pc lv [iv z] I := by
  intro p e s m args below meth c H locs ls hx hb hml hr hlk hown hts hC hP hS hl
  exact W.iret hx hb (hr.trans hr0) (fun t ht hW => ⟨⟨_, I, rfl, hk, by rw [ht]; exact hP⟩, hS.F ht⟩) hS.2.2 hd
theorem r_zret {X : XC} {D : Nat} {M : MR} {K : KP} {pc : Nat} {lv : List (Nat × Value)} {st : List Value} {I : HD} {z : Int} {ty : FieldType} (hr0 : M.2.2.2 = some ty) (hn : narrow ty (iv z) = iv z) (hd : decode M.2.1 pc = .ok (.ireturn, 1)) (hk : K (some (iv z)) I) : Rn X D M K pc lv [iv z] I := by
  intro p e s m args below meth c H locs ls hx hb hml hr hlk hown hts hC hP hS hl
  exact W.zret hx hb (hr.trans hr0) hn (fun t ht hW => ⟨⟨_, I, rfl, hk, by rw [ht]; exact hP⟩, hS.F ht⟩) hS.2.2 hd
theorem r_lret {X : XC} {D : Nat} {M : MR} {K : KP} {pc : Nat} {lv : List (Nat × Value)} {st : List Value} {I : HD} {z : Int} (hr0 : M.2.2.2 = some .long) (hd : decode M.2.1 pc = .ok (.lreturn, 1)) (hk : K (some (jv z)) I) : Rn X D M K pc lv [jv z] I := by
  intro p e s m args below meth c H locs ls hx hb hml hr hlk hown hts hC hP hS hl
  exact W.lret hx hb (hr.trans hr0) (fun t ht hW => ⟨⟨_, I, rfl, hk, by rw [ht]; exact hP⟩, hS.F ht⟩) hS.2.2 hd
/-- behind a call: any answer -/
theorem r_back9 {p : Program} {l : Launch} {e : Env} {R : Room} {s : State} {m : MethodId} {args : Array Value} {below : List Frame} {meth : Method} {c : Code} {H : Heap} {locs : List Loc} {Q : State → Prop} {X : XC} {pc : Nat} {ls : Array Slot} {rest st0 : List Value} {a : Array Value} {H0 : Heap} {K1 : KP}
    (hr : va_Run p l e R s m args below meth c H locs 0 0 0 0 (F0 m pc ls st0) rest (QK X K1 a) (AA X)) (hS : va_S (AA X) H0 H locs)
    (kk : ∀ (r : Option Value) (I : HD) (H1 : Heap) (locs1 : List Loc), K1 r I → va_P X.2.1 vwCl (wl X I) H1 → va_S (AA X) H0 H1 locs1 → W p l e R s m args below meth c H1 locs1 0 0 Q (F0 m (pc + 3) ls (r.toList ++ rest))) : W p l e R s m args below meth c H locs 0 0 Q (F0 m pc ls st0) := by
  intro T hT XX
  obtain ⟨v, st₀, t, T', L, h0, X', hL, e1, e2, ⟨⟨r, I, hv, hp, hb⟩, hz, hk⟩, st⟩ := hr T hT XX
  cases hv
  rw [h0] at hz hk
  obtain ⟨t2, a1, b1⟩ := kk v I T'.heap (locs ++ L) hp (by rw [e1]; exact hb)
    ⟨Nat.le_trans hS.1 (by rw [e1]; exact hz), fun q h1 h2 => by rw [e1, hk q (Nat.lt_of_lt_of_le h1 hS.1) h2]; exact hS.2.1 q h1 h2, fun q hq => by
      rcases List.mem_append.mp hq with h | h
      · exact hS.2.2 q h
      · exact hL q h⟩ T' rfl X'
  exact ⟨t2, st t2 a1, b1⟩
/-- a method that can be called: what the tables say of it -/
def okC (M : MR) (n : Nat) : Prop := Cond.code M.1 M.2.1 M.2.2.1 M.2.2.2 ∈ lw_good ∧ Cond.initialized M.1.cls ∈ lw_good ∧ (M.1.cls ≠ "java/lang/invoke/MethodHandle" ∧ M.1.cls ≠ "java/lang/invoke/VarHandle" ∧ (parseMethodDescriptor M.1.desc).map (fun d => d.parameters.length) = some n) ∧ M.2.2.1 ≤ 21
def okV (M : MR) (n : Nat) : Prop := okC M n ∧ Cond.instanceMethod M.1 ∈ lw_good ∧ Cond.selects M.1.cls M.1 M.1 ∈ lw_good
def okS (M : MR) (n : Nat) : Prop := okC M n ∧ Cond.static M.1 ∈ lw_good
theorem Cl.blind {X : XC} {av : List Value} {I : HD} : FrameBlind (va_Pc av (fun U => va_P X.2.1 vwCl (wl X I) U.heap ∧ Cx X U)) := fun a U g mk h => ⟨h.1, h.2.1, h.2.2.blind⟩
theorem good_w {w : Cond} (h : w ∈ lw_good) : (w.onTables && w.keeps) = true ∨ ∃ ty, w = .arrayClass ty := good_of_word (List.mem_filter.mp h).2
theorem wsM_good {M M2 : MR} {n : Nat} (h : okC M2 n) : GoodIn (wsM M) (wsM M2) := by
  intro w hw
  rcases List.mem_cons.mp hw with rfl | hw
  · exact ⟨List.mem_cons_of_mem _ h.1, good_w h.1⟩
  · exact ⟨List.mem_cons_of_mem _ hw, good_w hw⟩
theorem cb_of {X : XC} {D D2 : Nat} {M M2 : MR} {n idx : Nat} {s : State} {args : Array Value} (ok : okC M2 n) (hD : D2 < D) (hts : ∀ w ∈ wsM M, w.before args s = true) (hk : Cond.methodLink M.1.cls idx M2.1 ∈ lw_good) :
    CallB (rmD D) s args M.1.cls idx M2.1 M2.2.1 M2.2.2.1 M2.2.2.2 (wsM M2) (rmD D2) 0 0 n := by
  have h8 : 8 + (M2.2.2.1 + 11) + 40 * D2 ≤ 40 * D := by have := ok.2.2.2; omega
  exact callB_of n hts (wsM_good ok) rfl rfl rfl (hts _ (List.mem_cons_of_mem _ ok.2.1)) (hts _ (List.mem_cons_of_mem _ hk)) ok.2.2.1 ⟨hD, h8⟩
theorem r_callV {X : XC} {D : Nat} {M : MR} {K : KP} {pc : Nat} {lv : List (Nat × Value)} {st : List Value} {I : HD} {D2 : Nat} {M2 : MR} {K2 : KP} {n idx h ci : Nat} {fs As : List Value} {T : u_T} {N : Nat} (ok : okV M2 n) (hD : D2 < D) (hh : h < NN) (hc : cell X I h = .inr (ci, fs)) (hcl : vwCl[ci]? = some (M2.1.cls, T, N)) (hn : As.length = n) (hst : (st.map fun v => v.category).sum ≤ 8) (hk : Cond.methodLink M.1.cls idx M2.1 ∈ lw_good) (hM : Cl X D2 M2 (rv X h :: As) I K2) (hd : decode M.2.1 pc = .ok (.invokevirtual idx, 3)) (k : ∀ (r : Option Value) (I2 : HD), K2 r I2 → Rn X D M K (pc + 3) lv (r.toList ++ st) I2) : Rn X D M K pc lv (As.reverse ++ rv X h :: st) I := by
  intro p e s m args below meth c H locs ls hx hb hml hr hlk hown hts hC hP hS hl
  refine r_back9 (va_runV (As := As) (rest := st) ⟨hx, hb, hml, hown, hts⟩ hM ⟨cb_of (X := X) ok.1 hD hts hk, hts _ (List.mem_cons_of_mem _ ok.2.1), hts _ (List.mem_cons_of_mem _ ok.2.2)⟩ ⟨Cl.blind, va_recv hC.1 hP hcl (q0 := h) (by rw [wl_get hh, hc]), fun U hU hW => ⟨rfl, by rw [hU]; exact hP, hC.next hS hU hW⟩⟩ rfl hn hl.1 rfl (lv_room hst) hd ⟨Nat.le_refl _, Nat.le_refl _⟩) hS (fun r I2 H1 locs1 h1 hP1 hS1 => ?_)
  exact k r I2 h1 p e s m args below meth c H1 locs1 ls hx hb hml hr hlk hown hts hC hP1 hS1 hl
theorem r_callS {X : XC} {D : Nat} {M : MR} {K : KP} {pc : Nat} {lv : List (Nat × Value)} {st : List Value} {I : HD} {D2 : Nat} {M2 : MR} {K2 : KP} {n idx : Nat} {As : List Value} (ok : okS M2 n) (hD : D2 < D) (hcl : True) (hn : As.length = n) (hst : (st.map fun v => v.category).sum ≤ 8) (hk : Cond.methodLink M.1.cls idx M2.1 ∈ lw_good) (hM : Cl X D2 M2 As I K2) (hd : decode M.2.1 pc = .ok (.invokestatic idx, 3)) (k : ∀ (r : Option Value) (I2 : HD), K2 r I2 → Rn X D M K (pc + 3) lv (r.toList ++ st) I2) : Rn X D M K pc lv (As.reverse ++ st) I := by
  intro p e s m args below meth c H locs ls hx hb hml hr hlk hown hts hC hP hS hl
  refine r_back9 (va_runS (As := As) (rest := st) ⟨hx, hb, hml, hown, hts⟩ hM ⟨cb_of (X := X) ok.1 hD hts hk, hts _ (List.mem_cons_of_mem _ ok.2)⟩ ⟨Cl.blind, fun U hU hW => ⟨rfl, by rw [hU]; exact hP, hC.next hS hU hW⟩⟩ rfl hn hl.1 rfl (lv_room hst) hd ⟨Nat.le_refl _, Nat.le_refl _⟩) hS (fun r I2 H1 locs1 h1 hP1 hS1 => ?_)
  exact k r I2 h1 p e s m args below meth c H1 locs1 ls hx hb hml hr hlk hown hts hC hP1 hS1 hl
/-- an answer and what the data are then -/
def Ki (z : Int) (J : HD) : KP := fun r I2 => r = some (iv z) ∧ I2 = J
def Kj (z : Int) (J : HD) : KP := fun r I2 => r = some (jv z) ∧ I2 = J
def Kv (J : HD) : KP := fun r I2 => r = none ∧ I2 = J
theorem r_callVi {X : XC} {D : Nat} {M : MR} {K : KP} {pc : Nat} {lv : List (Nat × Value)} {st : List Value} {I : HD} {D2 : Nat} {M2 : MR} {z : Int} {J : HD} {n idx h ci : Nat} {fs As : List Value} {T : u_T} {N : Nat} (ok : okV M2 n) (hD : D2 < D) (hh : h < NN) (hc : cell X I h = .inr (ci, fs)) (hcl : vwCl[ci]? = some (M2.1.cls, T, N)) (hn : As.length = n) (hst : (st.map fun v => v.category).sum ≤ 8) (hk : Cond.methodLink M.1.cls idx M2.1 ∈ lw_good) (hM : Cl X D2 M2 (rv X h :: As) I (Ki z J)) (hd : decode M.2.1 pc = .ok (.invokevirtual idx, 3)) (k : Rn X D M K (pc + 3) lv (iv z :: st) J) : Rn X D M K pc lv (As.reverse ++ rv X h :: st) I := by
  refine r_callV ok hD hh hc hcl hn hst hk hM hd ?_
  rintro _ _ ⟨rfl, rfl⟩
  exact k
theorem r_callSi {X : XC} {D : Nat} {M : MR} {K : KP} {pc : Nat} {lv : List (Nat × Value)} {st : List Value} {I : HD} {D2 : Nat} {M2 : MR} {z : Int} {J : HD} {n idx : Nat} {As : List Value} (ok : okS M2 n) (hD : D2 < D) (hcl : True) (hn : As.length = n) (hst : (st.map fun v => v.category).sum ≤ 8) (hk : Cond.methodLink M.1.cls idx M2.1 ∈ lw_good) (hM : Cl X D2 M2 As I (Ki z J)) (hd : decode M.2.1 pc = .ok (.invokestatic idx, 3)) (k : Rn X D M K (pc + 3) lv (iv z :: st) J) : Rn X D M K pc lv (As.reverse ++ st) I := by
  refine r_callS ok hD hcl hn hst hk hM hd ?_
  rintro _ _ ⟨rfl, rfl⟩
  exact k
theorem r_callVv {X : XC} {D : Nat} {M : MR} {K : KP} {pc : Nat} {lv : List (Nat × Value)} {st : List Value} {I : HD} {D2 : Nat} {M2 : MR} {J : HD} {n idx h ci : Nat} {fs As : List Value} {T : u_T} {N : Nat} (ok : okV M2 n) (hD : D2 < D) (hh : h < NN) (hc : cell X I h = .inr (ci, fs)) (hcl : vwCl[ci]? = some (M2.1.cls, T, N)) (hn : As.length = n) (hst : (st.map fun v => v.category).sum ≤ 8) (hk : Cond.methodLink M.1.cls idx M2.1 ∈ lw_good) (hM : Cl X D2 M2 (rv X h :: As) I (Kv J)) (hd : decode M.2.1 pc = .ok (.invokevirtual idx, 3)) (k : Rn X D M K (pc + 3) lv (st) J) : Rn X D M K pc lv (As.reverse ++ rv X h :: st) I := by
  refine r_callV ok hD hh hc hcl hn hst hk hM hd ?_
  rintro _ _ ⟨rfl, rfl⟩
  exact k
theorem r_callSv {X : XC} {D : Nat} {M : MR} {K : KP} {pc : Nat} {lv : List (Nat × Value)} {st : List Value} {I : HD} {D2 : Nat} {M2 : MR} {J : HD} {n idx : Nat} {As : List Value} (ok : okS M2 n) (hD : D2 < D) (hcl : True) (hn : As.length = n) (hst : (st.map fun v => v.category).sum ≤ 8) (hk : Cond.methodLink M.1.cls idx M2.1 ∈ lw_good) (hM : Cl X D2 M2 As I (Kv J)) (hd : decode M.2.1 pc = .ok (.invokestatic idx, 3)) (k : Rn X D M K (pc + 3) lv (st) J) : Rn X D M K pc lv (As.reverse ++ st) I := by
  refine r_callS ok hD hcl hn hst hk hM hd ?_
  rintro _ _ ⟨rfl, rfl⟩
  exact k
theorem r_callVj {X : XC} {D : Nat} {M : MR} {K : KP} {pc : Nat} {lv : List (Nat × Value)} {st : List Value} {I : HD} {D2 : Nat} {M2 : MR} {z : Int} {J : HD} {n idx h ci : Nat} {fs As : List Value} {T : u_T} {N : Nat} (ok : okV M2 n) (hD : D2 < D) (hh : h < NN) (hc : cell X I h = .inr (ci, fs)) (hcl : vwCl[ci]? = some (M2.1.cls, T, N)) (hn : As.length = n) (hst : (st.map fun v => v.category).sum ≤ 8) (hk : Cond.methodLink M.1.cls idx M2.1 ∈ lw_good) (hM : Cl X D2 M2 (rv X h :: As) I (Kj z J)) (hd : decode M.2.1 pc = .ok (.invokevirtual idx, 3)) (k : Rn X D M K (pc + 3) lv (jv z :: st) J) : Rn X D M K pc lv (As.reverse ++ rv X h :: st) I := by
  refine r_callV ok hD hh hc hcl hn hst hk hM hd ?_
  rintro _ _ ⟨rfl, rfl⟩
  exact k
theorem r_callSj {X : XC} {D : Nat} {M : MR} {K : KP} {pc : Nat} {lv : List (Nat × Value)} {st : List Value} {I : HD} {D2 : Nat} {M2 : MR} {z : Int} {J : HD} {n idx : Nat} {As : List Value} (ok : okS M2 n) (hD : D2 < D) (hcl : True) (hn : As.length = n) (hst : (st.map fun v => v.category).sum ≤ 8) (hk : Cond.methodLink M.1.cls idx M2.1 ∈ lw_good) (hM : Cl X D2 M2 As I (Kj z J)) (hd : decode M.2.1 pc = .ok (.invokestatic idx, 3)) (k : Rn X D M K (pc + 3) lv (jv z :: st) J) : Rn X D M K pc lv (As.reverse ++ st) I := by
  refine r_callS ok hD hcl hn hst hk hM hd ?_
  rintro _ _ ⟨rfl, rfl⟩
  exact k
theorem mo_max : Cond.static Lib.Math.max.name ∈ lw_good ∧ Cond.initialized "java/lang/Math" ∈ lw_good ∧ Cond.code Lib.Math.max.name Lib.Math.max.code 2 (some .int) ∈ lw_good := ⟨lw_gd (by decide +kernel) (by decide +kernel), lw_gd (by decide +kernel) (by decide +kernel), lw_gd (by decide +kernel) (by decide +kernel)⟩
theorem r_mmax {X : XC} {D : Nat} {M : MR} {K : KP} {pc : Nat} {lv : List (Nat × Value)} {st : List Value} {I : HD} {a b : Int} {idx : Nat} (ha : rg a) (hb0 : rg b) (hD : 0 < D) (hst : (st.map fun v => v.category).sum ≤ 8) (hk : Cond.methodLink M.1.cls idx Lib.Math.max.name ∈ lw_good) (hd : decode M.2.1 pc = .ok (.invokestatic idx, 3)) (k : Rn X D M K (pc + 3) lv (iv (max a b) :: st) I) : Rn X D M K pc lv (iv b :: iv a :: st) I := by
  intro p e s m args below meth c H locs ls hx hb hml hr hlk hown hts hC hP hS hl
  have hw : ∀ {w : Cond}, w ∈ lw_good → w.before args s = true := fun h => hts _ (List.mem_cons_of_mem _ h)
  refine va_mmax hx hb (hml.trans hl.1.symm) hown (hw hk) (hw mo_max.1) (hw mo_max.2.1) (hw mo_max.2.2) (by show 1 ≤ D; omega) (by show _ + 13 ≤ 40 * D; omega) (Nat.le_refl _) (Nat.le_refl _) hd ?_
  have e9 := rg_lt ha hb0
  by_cases q : a < b
  · rw [if_pos (e9.mpr q)]; rw [show max a b = b by omega] at k; exact k p e s m args below meth c H locs ls hx hb hml hr hlk hown hts hC hP hS hl
  · rw [if_neg (fun z => q (e9.mp z))]; rw [show max a b = a by omega] at k; exact k p e s m args below meth c H locs ls hx hb hml hr hlk hown hts hC hP hS hl
theorem mo_min : Cond.static Lib.Math.min.name ∈ lw_good ∧ Cond.initialized "java/lang/Math" ∈ lw_good ∧ Cond.code Lib.Math.min.name Lib.Math.min.code 2 (some .int) ∈ lw_good := ⟨lw_gd (by decide +kernel) (by decide +kernel), lw_gd (by decide +kernel) (by decide +kernel), lw_gd (by decide +kernel) (by decide +kernel)⟩
theorem r_mmin {X : XC} {D : Nat} {M : MR} {K : KP} {pc : Nat} {lv : List (Nat × Value)} {st : List Value} {I : HD} {a b : Int} {idx : Nat} (ha : rg a) (hb0 : rg b) (hD : 0 < D) (hst : (st.map fun v => v.category).sum ≤ 8) (hk : Cond.methodLink M.1.cls idx Lib.Math.min.name ∈ lw_good) (hd : decode M.2.1 pc = .ok (.invokestatic idx, 3)) (k : Rn X D M K (pc + 3) lv (iv (min a b) :: st) I) : Rn X D M K pc lv (iv b :: iv a :: st) I := by
  intro p e s m args below meth c H locs ls hx hb hml hr hlk hown hts hC hP hS hl
  have hw : ∀ {w : Cond}, w ∈ lw_good → w.before args s = true := fun h => hts _ (List.mem_cons_of_mem _ h)
  refine va_mmin hx hb (hml.trans hl.1.symm) hown (hw hk) (hw mo_min.1) (hw mo_min.2.1) (hw mo_min.2.2) (by show 1 ≤ D; omega) (by show _ + 13 ≤ 40 * D; omega) (Nat.le_refl _) (Nat.le_refl _) hd ?_
  have e9 := rg_lt hb0 ha
  by_cases q : b < a
  · rw [if_pos (e9.mpr q)]; rw [show min a b = b by omega] at k; exact k p e s m args below meth c H locs ls hx hb hml hr hlk hown hts hC hP hS hl
  · rw [if_neg (fun z => q (e9.mp z))]; rw [show min a b = a by omega] at k; exact k p e s m args below meth c H locs ls hx hb hml hr hlk hown hts hC hP hS hl
