/-! ===== 91: rows that make and fill ===== -/
section RB2
variable {X : XC} {D mc ms : Nat} {M : MR} {n2 : Nat} {F2 : FE} {pc : Nat} {lv : List (Nat × Value)} {st : List Value} {n : Nat} {F : FE} {cells slots : Nat}
theorem b_istore_n {z : Int} {a : Fin 4} {i : Nat} (ha : (a : Nat) = i) (lv2 : List (Nat × Value)) (hi : i < M.2.2.1) (hl2 : (i, iv z) :: lv.filter (fun q => !(q.1 == i) && !(q.1 + 1 == i && q.2.category == 2)) = lv2) (hd : decode M.2.1 pc = .ok (.istore_n a, 1)) (k : Rb X D mc ms M n2 F2 (pc + 1) lv2 st n F cells slots) : Rb X D mc ms M n2 F2 pc lv (iv z :: st) n F cells slots := by
  intro p e s m args below meth c H locs ls hx hb hml hr hlk hnm hown hts hC hO hP hS hl
  refine lv_istore_n hx hb hd ha hl hi hl2 (fun ls2 h2 => ?_)
  exact k p e s m args below meth c H locs ls2 hx hb hml hr hlk hnm hown hts hC hO hP hS h2
theorem b_iinc {z w : Int} {i : Nat} (q : Nat) (lv2 : List (Nat × Value)) (hq : lv[q]? = some (i, iv z)) (hi : i < M.2.2.1) (hl2 : (i, iv (z + w)) :: lv.filter (fun q => !(q.1 == i) && !(q.1 + 1 == i && q.2.category == 2)) = lv2) (hd : decode M.2.1 pc = .ok (.iinc i w, 3)) (k : Rb X D mc ms M n2 F2 (pc + 3) lv2 st n F cells slots) : Rb X D mc ms M n2 F2 pc lv st n F cells slots := by
  intro p e s m args below meth c H locs ls hx hb hml hr hlk hnm hown hts hC hO hP hS hl
  refine lv_iinc (v := iI (z + w)) hx hb hd hl hq (Int32.ofInt_add z w).symm hi hl2 (fun ls2 h2 => ?_)
  exact k p e s m args below meth c H locs ls2 hx hb hml hr hlk hnm hown hts hC hO hP hS h2
theorem b_icmp_ge {a b off : Int} (tgt : Nat) (ha : rg a) (hb0 : rg b) (hd : decode M.2.1 pc = .ok (.if_icmp .ge off, 3)) (ht : (pc : Int) + off = (tgt : Int)) (kt : b ≤ a → Rb X D mc ms M n2 F2 tgt lv st n F cells slots) (kf : a < b → Rb X D mc ms M n2 F2 (pc + 3) lv st n F cells slots) : Rb X D mc ms M n2 F2 pc lv (iv b :: iv a :: st) n F cells slots := by
  intro p e s m args below meth c H locs ls hx hb hml hr hlk hnm hown hts hC hO hP hS hl
  have e9 := rg_le hb0 ha
  exact lv_icmp_ge hx hb hd ht (fun h => kt (e9.mp h) p e s m args below meth c H locs ls hx hb hml hr hlk hnm hown hts hC hO hP hS hl) (fun h => kf (by have q : ¬ (b ≤ a) := fun z => h (e9.mpr z); omega) p e s m args below meth c H locs ls hx hb hml hr hlk hnm hown hts hC hO hP hS hl)
theorem b_get {h ci j N idx : Nat} {C : String} {T : u_T} {ty : Nat → FieldType} {fs : List Value} {v : Value} (ck : ckX ci C N T ty) (hh : h < NN) (hp : pos h < n) (hF : F h = .inr (ci, fs)) (hj : j < N) (hv : fs[j]? = some v) (hk : Cond.fieldLink M.1.cls idx (T j).1 (T j).2.1 (T j).2.2.1 ∈ lw_good) (hd : decode M.2.1 pc = .ok (.getfield idx, 3)) (k : Rb X D mc ms M n2 F2 (pc + 3) lv (v :: st) n F cells slots) : Rb X D mc ms M n2 F2 pc lv (rv X h :: st) n F cells slots := by
  intro p e s m args below meth c H locs ls hx hb hml hr hlk hnm hown hts hC hO hP hS hl
  have hP1 : va_P X.2.1 vwCl [(X.2.2.1 h, .inr (ci, fs))] H := by
    intro k q hk
    match k, hk with
    | 0, hk => cases hk; rw [← hF]; exact hP.2 h hh hp
    | k + 1, hk => simp at hk
  exact va_get hx hb hts (hinW ck.2.1) hown hC.1 hP1 0 rfl ck.1 j hj (hts _ (List.mem_cons_of_mem _ hk)) (fun _ h9 => h9) hv hd (k p e s m args below meth c H locs ls hx hb hml hr hlk hnm hown hts hC hO hP hS hl)
theorem b_put {h ci N idx : Nat} {C : String} {T : u_T} {ty : Nat → FieldType} {fs : List Value} {v : Value} {t : FieldType} (j : Nat) (ck : ckX ci C N T ty) (hh : h < NN) (hp : pos h < n) (hF : F h = .inr (ci, fs)) (hj : j < N) (hjl : j < fs.length) (hk : Cond.fieldLink M.1.cls idx (T j).1 (T j).2.1 (T j).2.2.1 ∈ lw_good) (hfin : (T j).2.2.2 = false) (hty : parseFieldDescriptor (T j).2.2.1 = some t) (hn : narrow t v = v) (hfit : fits t v = true) (hd : decode M.2.1 pc = .ok (.putfield idx, 3)) (k : Rb X D mc ms M n2 F2 (pc + 3) lv st n (uF F h (.inr (ci, fs.set j v))) cells slots) : Rb X D mc ms M n2 F2 pc lv (v :: rv X h :: st) n F cells slots := by
  intro p e s m args below meth c H locs ls hx hb hml hr hlk hnm hown hts hC hO hP hS hl
  have hin := hinW (M := M) ck.2.1
  have hap := va_apart (own := M.1.cls) hts hin ty ck.2.2.1 ck.2.2.2 hC.1 ck.1
  have h0 := hP.2 h hh hp
  rw [hF] at h0
  obtain ⟨r, h1, cell, q1, q2, q3, q4⟩ := h0
  have hr0 : r = (C, T, N) := Option.some.inj (h1.symm.trans ck.1)
  subst hr0
  obtain ⟨hSl, hfc, kC, hkC, hkind⟩ := hC.1.1 ci _ ck.1
  obtain ⟨cf, kf, fi, f, hi, hsl⟩ := hSl j hj
  have hlay := hts _ (hin _ (u_in_lay hj))
  unfold u_lay at hlay
  rw [if_neg (by rw [hfin]; decide)] at hlay
  have hst := (u_facts hfc hkC (u_lays hts hin hj) hi).1
  have h6 := u_store hfc hkC hkind hlay hi hty hn hfit
  refine W.putK hx hb (f := f) ⟨hown, hts _ (List.mem_cons_of_mem _ hk), ⟨_, _, _, hi⟩, hst⟩ (by rw [q2]; exact h6) q1 q3 (by rw [hsl]; exact k2_hasslot (q4 j hj)) rfl rfl hd fun H' e1 e2 e3 => ?_
  rw [hsl] at e1 ⊢
  exact k p e s m args below meth c H' _ ls hx hb hml hr hlk hnm hown hts hC hO (hP.set hC.2.2.1 hh e2 e3 ⟨_, ck.1, t_OB.to (V := updV (vp_V fs) j v) ⟨_, e1, q2, q3, t_set q4 hap hj v⟩ (fun i _ => vp_updV_set hjl v i)⟩) (hS.put e2 e3 ⟨h, hh, rfl⟩) hl
theorem b_putF {h ci N idx : Nat} {C : String} {T : u_T} {ty : Nat → FieldType} {fs : List Value} {v : Value} {t : FieldType} (j : Nat) (ck : ckX ci C N T ty) (hh : h < NN) (hp : pos h < n) (hF : F h = .inr (ci, fs)) (hj : j < N) (hjl : j < fs.length) (hk : Cond.fieldLink M.1.cls idx (T j).1 (T j).2.1 (T j).2.2.1 ∈ lw_good) (hfin : (T j).2.2.2 = true) (hin2 : M.1.name = "<init>") (hdecl : (T j).1 = M.1.cls) (hty : parseFieldDescriptor (T j).2.2.1 = some t) (hn : narrow t v = v) (hfit : fits t v = true) (hd : decode M.2.1 pc = .ok (.putfield idx, 3)) (k : Rb X D mc ms M n2 F2 (pc + 3) lv st n (uF F h (.inr (ci, fs.set j v))) cells slots) : Rb X D mc ms M n2 F2 pc lv (v :: rv X h :: st) n F cells slots := by
  intro p e s m args below meth c H locs ls hx hb hml hr hlk hnm hown hts hC hO hP hS hl
  have hin := hinW (M := M) ck.2.1
  have hap := va_apart (own := M.1.cls) hts hin ty ck.2.2.1 ck.2.2.2 hC.1 ck.1
  have h0 := hP.2 h hh hp
  rw [hF] at h0
  obtain ⟨r, h1, cell, q1, q2, q3, q4⟩ := h0
  have hr0 : r = (C, T, N) := Option.some.inj (h1.symm.trans ck.1)
  subst hr0
  obtain ⟨hSl, hfc, kC, hkC, hkind⟩ := hC.1.1 ci _ ck.1
  obtain ⟨cf, kf, fi, f, hi, hsl⟩ := hSl j hj
  have hlay := hts _ (hin _ (u_in_lay hj))
  unfold u_lay at hlay
  rw [if_pos hfin] at hlay
  have hst := (u_facts hfc hkC (u_lays hts hin hj) hi).1
  have hcf : m.cls = cf := by
    obtain ⟨_, _, c', _, _, _, -, -, hf', -, -, -, hown2, -⟩ := Cond.laysFinal_spec hlay
    have e1 : c' = cf := by have := hi.symm.trans hf'; simp at this; exact this.1.symm
    rw [hdecl] at hown2
    rw [← e1]; exact Option.some.inj (hown.symm.trans hown2)
  have h6 := u_fits hfc hkC hkind (Or.inr hlay) hi hty hn hfit
  refine W.putFinK hx hb hown (hts _ (List.mem_cons_of_mem _ hk)) hi hst hcf (hnm.trans hin2) (by rw [q2]; exact h6) q1 q3 (by rw [hsl]; exact k2_hasslot (q4 j hj)) rfl rfl hd fun H' e1 e2 e3 => ?_
  rw [hsl] at e1 ⊢
  exact k p e s m args below meth c H' _ ls hx hb hml hr hlk hnm hown hts hC hO (hP.set hC.2.2.1 hh e2 e3 ⟨_, ck.1, t_OB.to (V := updV (vp_V fs) j v) ⟨_, e1, q2, q3, t_set q4 hap hj v⟩ (fun i _ => vp_updV_set hjl v i)⟩) (hS.put e2 e3 ⟨h, hh, rfl⟩) hl
theorem b_new {h ci N idx : Nat} {C : String} {T : u_T} {ty : Nat → FieldType} {fs : List Value} (hX : PX X) (ck : ckX ci C N T ty) (hh : h < NN) (hp : pos h = n) (hfs : ∀ j, j < N → defaultValue (ty j) = vp_V fs j) (hkl : Cond.classLink M.1.cls idx C ∈ lw_good) (hki : Cond.instantiable C N ∈ lw_good) (hkn : Cond.initialized C ∈ lw_good) (h1 : cells + 1 ≤ mc) (h2 : slots + N ≤ ms) (hd : decode M.2.1 pc = .ok (.new idx, 3)) (k : Rb X D mc ms M n2 F2 (pc + 3) lv (rv X h :: st) (n + 1) (uF F h (.inr (ci, fs))) (cells + 1) (slots + N)) : Rb X D mc ms M n2 F2 pc lv st n F cells slots := by
  intro p e s m args below meth c H locs ls hx hb hml hr hlk hnm hown hts hC hO hP hS hl
  have hw : ∀ {w : Cond}, w ∈ lw_good → w.before args s = true := fun h => hts _ (List.mem_cons_of_mem _ h)
  have hKn := hC.1.1 ci _ ck.1
  have hsz : H.size = X.2.2.1 h := by rw [hP.1, hX h hh, hp]
  refine W.newcK hx hb hown (hw hkl) (hw hki) (hw hkn) rfl hd h1 h2 hKn.2.1 hsz fun H1 kC hkC e1 z1 o1 => ?_
  rw [← hsz] at z1 o1
  exact k p e s m args below meth c H1 locs ls hx hb hml hr hlk hnm hown hts hC hO (hP.push hh hp z1 o1 ⟨_, ck.1, (u_born ty hts (hinW ck.2.1) hKn hkC e1 ck.2.2.1).to hfs⟩) (S_push hS z1 o1) hl
theorem b_newa {h t N : Nat} {z : Int} {atype : ArrayType} {a0 : vp_A} (hX : PX X) (hh : h < NN) (hp : pos h = n) (ht : (tysX X)[t]? = some (X.2.2.2.1 t, newarray.typeOf atype)) (ha : ∀ cA : ClassId, vp_cell cA a0 = arrV cA N (fun _ => defaultValue (newarray.typeOf atype))) (hz : z = (N : Int)) (hN : N ≤ 60000) (hbytes : componentBytes (newarray.typeOf atype) ≤ 8) (hka : Cond.arrayClass (newarray.typeOf atype) ∈ lw_good) (h1 : cells + 1 ≤ mc) (h2 : slots + N ≤ ms) (hd : decode M.2.1 pc = .ok (.newarray atype, 2)) (k : Rb X D mc ms M n2 F2 (pc + 2) lv (rv X h :: st) (n + 1) (uF F h (.inl (X.2.2.2.1 t, a0))) (cells + 1) (slots + N)) : Rb X D mc ms M n2 F2 pc lv (iv z :: st) n F cells slots := by
  subst hz
  intro p e s m args below meth c H locs ls hx hb hml hr hlk hnm hown hts hC hO hP hS hl
  have hsz : H.size = X.2.2.1 h := by rw [hP.1, hX h hh, hp]
  have hrg : rg (N : Int) := by unfold rg; omega
  have hn0 : ¬ iI (N : Int) < 0 := by rw [iI_0, rg_lt hrg rg_0]; omega
  have hcl : (iI (N : Int)).toNatClampNeg = N := by rw [rg_cl hrg (by omega)]; omega
  refine va_newaK hx hb (hts _ (List.mem_cons_of_mem _ hka)) rfl hd rfl hn0 hcl (by
    have : N * componentBytes (newarray.typeOf atype) ≤ 60000 * 8 := Nat.mul_le_mul hN hbytes
    omega) h1 h2 hsz fun H1 cA e1 z1 o1 hAr hNm => ?_
  have hc0 : s.vm.findClass ("[" ++ (newarray.typeOf atype).toString) = some (X.2.2.2.1 t) := by
    have := (hC.1.2 t _ ht).2
    cases atype <;> exact this
  have hcA : cA = X.2.2.2.1 t := Option.some.inj (hNm.symm.trans hc0)
  subst hcA
  rw [← hsz] at z1 o1
  exact k p e s m args below meth c H1 locs ls hx hb hml hr hlk hnm hown hts hC hO (hP.push hh hp z1 o1 (by show H1[_]? = some (vp_cell _ _); rw [ha]; exact e1)) (S_push hS z1 o1) hl
theorem b_newq {h t N idx : Nat} {z : Int} {C : String} (hX : PX X) (hh : h < NN) (hp : pos h = n) (ht : (tysX X)[t]? = some (X.2.2.2.1 t, .object C)) (hz : z = (N : Int)) (hN : N ≤ 60000) (hkl : Cond.classLink M.1.cls idx C ∈ lw_good) (hka : ∀ U, Ao U → va_AO C U) (h1 : cells + 1 ≤ mc) (h2 : slots + N ≤ ms) (hd : decode M.2.1 pc = .ok (.anewarray idx, 3)) (k : Rb X D mc ms M n2 F2 (pc + 3) lv (rv X h :: st) (n + 1) (uF F h (.inl (X.2.2.2.1 t, N, .inr (.inr (.inr (.inr (fun _ => none))))))) (cells + 1) (slots + N)) : Rb X D mc ms M n2 F2 pc lv (iv z :: st) n F cells slots := by
  subst hz
  intro p e s m args below meth c H locs ls hx hb hml hr hlk hnm hown hts hC hO hP hS hl
  have hw : ∀ {w : Cond}, w ∈ lw_good → w.before args s = true := fun h => hts _ (List.mem_cons_of_mem _ h)
  have hsz : H.size = X.2.2.1 h := by rw [hP.1, hX h hh, hp]
  have hrg : rg (N : Int) := by unfold rg; omega
  have hn0 : ¬ iI (N : Int) < 0 := by rw [iI_0, rg_lt hrg rg_0]; omega
  have hcl : (iI (N : Int)).toNatClampNeg = N := by rw [rg_cl hrg (by omega)]; omega
  refine W.anew hx hb hown (hw hkl) (va_AO.use (hka s hO)) rfl hd rfl hn0 (by rw [hcl]; omega) h1 (by rw [hcl]; exact h2) fun cA kA comp f1 f2 f3 f4 => ?_
  rw [hcl]
  generalize hH1 : H.push ({ cls := cA, slots := Array.replicate N .null, vm := .none } : Cell) = H1
  have z1 : H1.size = H.size + 1 := by rw [← hH1, Array.size_push]
  have e1 : H1[H.size]? = some (arrV cA N (fun _ => .null)) := by rw [← hH1, Array.getElem?_push_size, ← arrV_new]
  have o1 : ∀ q : Nat, q < H.size → H1[q]? = H[q]? := fun q hq => by rw [← hH1, Array.getElem?_push, if_neg (Nat.ne_of_lt hq)]
  obtain ⟨kA', comp', g1, g2, g3, g4⟩ := (hC.1.2 t _ ht).2
  have hcA : cA = X.2.2.2.1 t := Option.some.inj (f1.symm.trans g4)
  subst hcA
  have hk := k p e s m args below meth c H1 locs ls hx hb hml hr hlk hnm hown hts hC hO (hP.push hh hp z1 o1 (by show H1[_]? = some (vp_cell _ _); rw [vp_cell_q, ← hsz]; exact e1)) (S_push hS z1 o1) hl
  rw [hsz]
  exact hk
theorem b_iast {h N : Nat} {i z : Int} {f : Nat → Int32} (hh : h < NN) (hp : pos h < n) (hF : F h = .inl (X.2.2.2.1 0, N, .inl f)) (h0 : 0 ≤ i) (h1 : i < N) (hN : N < 2147483648) (hd : decode M.2.1 pc = .ok (.iastore, 1)) (k : Rb X D mc ms M n2 F2 (pc + 1) lv st n (uF F h (.inl (X.2.2.2.1 0, N, .inl (upd f i.toNat (iI z))))) cells slots) : Rb X D mc ms M n2 F2 pc lv (iv z :: iv i :: rv X h :: st) n F cells slots := by
  intro p e s m args below meth c H locs ls hx hb hml hr hlk hnm hown hts hC hO hP hS hl
  have hP0 := hP.2 h hh hp
  rw [hF] at hP0
  have hin := rg_in h0 h1 hN
  refine W.iast hx hb hP0 ((hC.1.2 0 _ rfl).1 N (fun j => .int (f j))) (fun q => by cases q) (by show ¬ (iI i < 0 ∨ (arrV _ _ _).slots.size ≤ _); rw [arrV_size]; exact hin) rfl rfl hd fun H1 e z oq => ?_
  refine k p _ s m args below meth c H1 _ ls hx hb hml hr hlk hnm hown hts hC hO (hP.set hC.2.2.1 hh z oq ?_) (hS.put z oq ⟨h, hh, rfl⟩) hl
  show H1[_]? = some (vp_cell _ _)
  rw [e]
  rw [vp_cell_i, vp_cell_i, arrV_store, rg_cl (by unfold rg; omega) h0]
  congr 2
  funext q
  by_cases hq : q = i.toNat
  · subst hq
    simp [updV, upd]
  · simp [updV, upd, hq]
theorem b_aast {h hv t N ci : Nat} {i : Int} {f : Nat → Option Nat} {r : vw_C} {vs : List Value} (hh : h < NN) (hp : pos h < n) (hF : F h = .inl (X.2.2.2.1 t, N, .inr (.inr (.inr (.inr f))))) (ht : (tysX X)[t]? = some (X.2.2.2.1 t, .object r.1)) (hhv : hv < NN) (hpv : pos hv < n) (hFv : F hv = .inr (ci, vs)) (hc : vwCl[ci]? = some r) (h0 : 0 ≤ i) (h1 : i < N) (hN : N < 2147483648) (hd : decode M.2.1 pc = .ok (.aastore, 1)) (k : Rb X D mc ms M n2 F2 (pc + 1) lv st n (uF F h (.inl (X.2.2.2.1 t, N, .inr (.inr (.inr (.inr (va_up f i.toNat (some (X.2.2.1 hv))))))))) cells slots) : Rb X D mc ms M n2 F2 pc lv (rv X hv :: iv i :: rv X h :: st) n F cells slots := by
  intro p e s m args below meth c H locs ls hx hb hml hr hlk hnm hown hts hC hO hP hS hl
  have hP0 := hP.2 h hh hp
  rw [hF] at hP0
  have hPv := hP.2 hv hhv hpv
  rw [hFv] at hPv
  have hin := rg_in h0 h1 hN
  have hcl : (iI i).toNatClampNeg = i.toNat := rg_cl (by unfold rg; omega) h0
  have hlt : (iI i).toNatClampNeg < N := Nat.not_le.mp fun q => hin (Or.inr q)
  have h00 : ¬ iI i < 0 := fun q => hin (Or.inl q)
  obtain ⟨r', hr', cellV, g1, g2, g3, -⟩ := hPv
  have hcls := (hC.1.1 ci r hc).2
  obtain ⟨kA, comp, k1, k2, k3, -⟩ := (hC.1.2 t _ ht).2
  have hcomp : comp = X.2.1.1 ci := Option.some.inj (k3.symm.trans hcls.1)
  subst hcomp
  obtain ⟨kC, hkC, -⟩ := hcls.2
  refine W.aast hx hb hP0 (fun q h => by cases h) (fun h => by cases h) k1 k2 rfl hkC ⟨h00, by show _ < (arrV _ _ _).slots.size; rw [arrV_size]; exact hlt⟩ g1 (fun q h => by rw [g3] at h; cases h) (by rw [g2]; exact hkC) (by rw [g2]; exact va_assign hcls) rfl rfl hd fun H1 e z oq => ?_
  refine k p _ s m args below meth c H1 _ ls hx hb hml hr hlk hnm hown hts hC hO (hP.set hC.2.2.1 hh z oq ?_) (hS.put z oq ⟨h, hh, rfl⟩) hl
  show H1[_]? = some (vp_cell _ _)
  rw [e]
  rw [vp_cell_q, vp_cell_q, arrV_store, hcl]
  congr 2
  funext q
  by_cases hq : q = i.toNat
  · subst hq
    simp [updV, va_up, va_rf]
  · simp [updV, va_up, hq]
theorem CB.blind {av : List Value} : FrameBlind (va_Pc av (fun U => PW X n F U.heap ∧ Cx X U ∧ Ao U)) := fun a U g mk h => ⟨h.1, h.2.1, h.2.2.1.blind, h.2.2.2.blind⟩
theorem b_back {p : Program} {l : Launch} {e : Env} {R : Room} {s : State} {m : MethodId} {args : Array Value} {below : List Frame} {meth : Method} {c : Code} {H : Heap} {locs : List Loc} {Q : State → Prop} {ls : Array Slot} {rest st0 : List Value} {a : Array Value} {H0 : Heap} {mc2 ms2 : Nat}
    (hr : va_Run p l e R s m args below meth c H locs cells slots mc2 ms2 (F0 m pc ls st0) rest (QB X n2 F2 a) (AA X)) (hS : va_S (AA X) H0 H locs)
    (kk : ∀ (H1 : Heap) (locs1 : List Loc), PW X n2 F2 H1 → va_S (AA X) H0 H1 locs1 → W p l e R s m args below meth c H1 locs1 (cells + mc2) (slots + ms2) Q (F0 m (pc + 3) ls rest)) : W p l e R s m args below meth c H locs cells slots Q (F0 m pc ls st0) := by
  intro T hT XX
  obtain ⟨v, st₀, t, T', L, h0, X', hL, e1, e2, ⟨⟨hv, hb⟩, hz, hk⟩, st⟩ := hr T hT XX
  cases hv
  rw [h0] at hz hk
  obtain ⟨t2, a1, b1⟩ := kk T'.heap (locs ++ L) (by rw [e1]; exact hb)
    ⟨Nat.le_trans hS.1 (by rw [e1]; exact hz), fun q h1 h2 => by rw [e1, hk q (Nat.lt_of_lt_of_le h1 hS.1) h2]; exact hS.2.1 q h1 h2, fun q hq => by
      rcases List.mem_append.mp hq with h | h
      · exact hS.2.2 q h
      · exact hL q h⟩ T' rfl X'
  exact ⟨t2, st t2 a1, b1⟩
/-- a constructor that can be called -/
def okI (M : MR) : Prop := okC M 0 ∧ M.1.name = "<init>" ∧ Cond.instanceMethod M.1 ∈ lw_good ∧ M.2.2.2 = none
theorem b_new1 {D2 mc2 ms2 idx h n3 : Nat} {M2 : MR} {F3 : FE} (ok : okI M2) (hD : D2 < D) (hst : (st.map fun v => v.category).sum ≤ 8) (hk : Cond.methodLink M.1.cls idx M2.1 ∈ lw_good) (h1 : cells + mc2 ≤ mc) (h2 : slots + ms2 ≤ ms) (hM : CB X D2 mc2 ms2 M2 [rv X h] n F n3 F3) (hd : decode M.2.1 pc = .ok (.invokespecial idx, 3)) (k : Rb X D mc ms M n2 F2 (pc + 3) lv st n3 F3 (cells + mc2) (slots + ms2)) : Rb X D mc ms M n2 F2 pc lv (rv X h :: st) n F cells slots := by
  obtain ⟨y2, b2, l2, r2⟩ := M2
  obtain ⟨okc, oki, okm, okr⟩ := ok
  have okr2 : r2 = none := okr
  subst okr2
  intro p e s m args below meth c H locs ls hx hb hml hr hlk hnm hown hts hC hO hP hS hl
  have h8 : 8 + (l2 + 11) + 40 * D2 ≤ 40 * D := by have q : l2 ≤ 21 := okc.2.2.2; omega
  refine b_back (va_runI (As := []) (rest := st) ⟨hx, hb, hml, hown, hts⟩ hM ⟨callB_of 0 hts (wsM_good okc) rfl rfl rfl (hts _ (List.mem_cons_of_mem _ okc.2.1)) (hts _ (List.mem_cons_of_mem _ hk)) okc.2.2.1 ⟨hD, h8⟩, oki, hts _ (List.mem_cons_of_mem _ okm)⟩ ⟨CB.blind, fun U hU hW => ⟨rfl, by rw [hU]; exact hP, hC.next hS hU hW, hO.next hW⟩⟩ rfl rfl hl.1 rfl (lv_room hst) hd ⟨h1, h2⟩) hS (fun H1 locs1 hP1 hS1 => ?_)
  exact k p e s m args below meth c H1 locs1 ls hx hb hml hr hlk hnm hown hts hC hO hP1 hS1 hl
theorem b_newN {D2 mc2 ms2 idx h n3 : Nat} {M2 : MR} {F3 : FE} {host : String} (ok : okI M2) (hD : D2 < D) (hst : (st.map fun v => v.category).sum ≤ 8) (hk : Cond.methodLinkNest M.1.cls idx M2.1 host ∈ lw_nest) (h1 : cells + mc2 ≤ mc) (h2 : slots + ms2 ≤ ms) (hM : CB X D2 mc2 ms2 M2 [rv X h] n F n3 F3) (hd : decode M.2.1 pc = .ok (.invokespecial idx, 3)) (k : Rb X D mc ms M n2 F2 (pc + 3) lv st n3 F3 (cells + mc2) (slots + ms2)) : Rb X D mc ms M n2 F2 pc lv (rv X h :: st) n F cells slots := by
  obtain ⟨y2, b2, l2, r2⟩ := M2
  obtain ⟨okc, oki, okm, okr⟩ := ok
  have okr2 : r2 = none := okr
  subst okr2
  intro p e s m args below meth c H locs ls hx hb hml hr hlk hnm hown hts hC hO hP hS hl
  have h8 : 8 + (l2 + 11) + 40 * D2 ≤ 40 * D := by have q : l2 ≤ 21 := okc.2.2.2; omega
  refine b_back (va_runIN (As := []) (rest := st) ⟨hx, hb, hml, hown, hts⟩ hM ⟨va_cnB 0 hts (wsM_good okc) rfl rfl rfl (hC.2.1 _ hk) (hts _ (List.mem_cons_of_mem _ okc.2.1)) okc.2.2.1 ⟨hD, h8⟩, oki, hts _ (List.mem_cons_of_mem _ okm)⟩ ⟨CB.blind, fun U hU hW => ⟨rfl, by rw [hU]; exact hP, hC.next hS hU hW, hO.next hW⟩⟩ rfl rfl hl.1 rfl (lv_room hst) hd ⟨h1, h2⟩) hS (fun H1 locs1 hP1 hS1 => ?_)
  exact k p e s m args below meth c H1 locs1 ls hx hb hml hr hlk hnm hown hts hC hO hP1 hS1 hl
theorem ob_i : Cond.instanceMethod Lib.objectInit ∈ lw_good ∧ Cond.code Lib.objectInit ⟨#[0xb1]⟩ 1 none ∈ lw_good := ⟨lw_gd (List.mem_of_getElem? (i := 85) (by decide +kernel)) (by decide +kernel), lw_gd (List.mem_of_getElem? (i := 86) (by decide +kernel)) (by decide +kernel)⟩
theorem b_obj {idx a : Nat} (hk : Cond.methodLink M.1.cls idx Lib.objectInit ∈ lw_good) (hD : 1 ≤ D) (hst : (st.map fun v => v.category).sum ≤ 8) (hd : decode M.2.1 pc = .ok (.invokespecial idx, 3)) (k : Rb X D mc ms M n2 F2 (pc + 3) lv st n F cells slots) : Rb X D mc ms M n2 F2 pc lv (.ref a :: st) n F cells slots := by
  intro p e s m args below meth c H locs ls hx hb hml hr hlk hnm hown hts hC hO hP hS hl
  have hw : ∀ {w : Cond}, w ∈ lw_good → w.before args s = true := fun h => hts _ (List.mem_cons_of_mem _ h)
  have hroom := lv_room (rest := .ref a :: st) (m := m) (pc := pc) (ls := ls) hst
  refine W.objInit hx hb hown (hw hk) (hw ob_i.1) (hw ob_i.2) rfl (hl.1.trans hml.symm) rfl hd hD (by show _ ≤ 40 * D; omega) ?_
  exact k p e s m args below meth c H locs ls hx hb hml hr hlk hnm hown hts hC hO hP hS hl
end RB2
