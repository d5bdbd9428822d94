/-! ===== 90: making the cells: a world that grows in a known order ===== -/
/-- the place of a handle in the order of the making -/
def pos (h : Nat) : Nat := if h < 2 then h else if h < 10 then 244 + 2 * h else if h < 18 then 229 + 2 * h else if h < 21 then h - 16 else if h < 23 then h + 2 else if h < 30 then h + 218 else if h < 45 then h + 252 else if h < 54 then h - 31 else if h < 63 then h - 49 else if h < 81 then h + 201 else h - 56
def ordp (k : Nat) : Nat := if k < 2 then k else if k < 5 then k + 16 else if k < 14 then k + 49 else if k < 23 then k + 31 else if k < 25 then k - 2 else if k < 241 then k + 56 else if k < 248 then k - 218 else if k < 264 then (if k % 2 = 0 then (k - 244) / 2 else (k - 229) / 2) else if k < 282 then k - 201 else k - 252
theorem ordp_pos : ∀ h, h < 297 → ordp (pos h) = h := by decide +kernel
theorem pos_lt : ∀ h, h < 297 → pos h < 297 := by decide +kernel
theorem pos_inj {a b : Nat} (ha : a < 297) (hb : b < 297) (e : pos a = pos b) : a = b := by
  rw [← ordp_pos a ha, ← ordp_pos b hb, e]
def PX (X : XC) : Prop := ∀ h, h < NN → X.2.2.1 h = X.2.2.1 0 + pos h
theorem PX.inj {X : XC} (h : PX X) : ∀ i j, i < NN → j < NN → X.2.2.1 i = X.2.2.1 j → i = j := fun i j hi hj e => pos_inj hi hj (by have a := h i hi; have b := h j hj; omega)
abbrev FE : Type := Nat → va_E
def uF (F : FE) (h : Nat) (e : va_E) : FE := fun k => if k = h then e else F k
theorem uF_s {F : FE} {h : Nat} {e : va_E} : uF F h e h = e := by simp [uF]
theorem uF_n {F : FE} {h k : Nat} {e : va_E} (n : k ≠ h) : uF F h e k = F k := by simp [uF, n]
def PW (X : XC) (n : Nat) (F : FE) (H : Heap) : Prop := H.size = X.2.2.1 0 + n ∧ ∀ h, h < NN → pos h < n → va_at X.2.1 vwCl (X.2.2.1 h, F h) H
theorem PW.set {X : XC} {n h : Nat} {F : FE} {e : va_E} {H H1 : Heap} (hP : PW X n F H) (hi : ∀ i j, i < NN → j < NN → X.2.2.1 i = X.2.2.1 j → i = j) (hh : h < NN) (z : H1.size = H.size) (o : ∀ q, q ≠ X.2.2.1 h → H1[q]? = H[q]?) (he : va_at X.2.1 vwCl (X.2.2.1 h, e) H1) : PW X n (uF F h e) H1 := by
  refine ⟨z.trans hP.1, fun k hk hp => ?_⟩
  by_cases q : k = h
  · subst q; rw [uF_s]; exact he
  · rw [uF_n q]
    exact (hP.2 k hk hp).kept (o _ (fun e => q (hi _ _ hk hh e)))
theorem PW.push {X : XC} {n h : Nat} {F : FE} {e : va_E} {H H1 : Heap} (hP : PW X n F H) (hh : h < NN) (hp : pos h = n) (z : H1.size = H.size + 1) (o : ∀ q, q < H.size → H1[q]? = H[q]?) (he : va_at X.2.1 vwCl (X.2.2.1 h, e) H1) : PW X (n + 1) (uF F h e) H1 := by
  refine ⟨by rw [z, hP.1]; omega, fun k hk hp1 => ?_⟩
  by_cases q : k = h
  · subst q; rw [uF_s]; exact he
  · rw [uF_n q]
    have hq : pos k ≠ n := fun e => q (pos_inj hk hh (e.trans hp.symm))
    have hk0 := hP.2 k hk (by omega)
    exact hk0.kept (o _ hk0.lt)
/-- two data that make the same cell -/
def eqE (a b : va_E) : Prop := a = b ∨ ∃ (cA : ClassId) (N : Nat) (f g : Nat → Option Nat), a = .inl (cA, N, .inr (.inr (.inr (.inr f)))) ∧ b = .inl (cA, N, .inr (.inr (.inr (.inr g)))) ∧ ∀ i, i < N → f i = g i
theorem arrV_cg {cA : ClassId} {N : Nat} {f g : Nat → Value} (h : ∀ i, i < N → f i = g i) : arrV cA N f = arrV cA N g := by
  unfold arrV
  have e : (fun j : Fin N => f j.val) = (fun j : Fin N => g j.val) := funext fun j => h j.val j.isLt
  rw [e]
theorem eqE.at {D : va_G} {cl : List vw_C} {q : Nat} {a b : va_E} {H : Heap} (h : eqE a b) (ha : va_at D cl (q, a) H) : va_at D cl (q, b) H := by
  rcases h with rfl | ⟨cA, N, f, g, rfl, rfl, e⟩
  · exact ha
  · show H[q]? = some (vp_cell _ _)
    have ha : H[q]? = some (vp_cell cA (N, .inr (.inr (.inr (.inr f))))) := ha
    rw [vp_cell_q] at ha ⊢
    rw [ha, arrV_cg (fun i hi => by rw [e i hi])]
theorem PW.cong {X : XC} {n : Nat} {F F2 : FE} {H : Heap} (hP : PW X n F H) (e : ∀ h, h < NN → pos h < n → eqE (F h) (F2 h)) : PW X n F2 H := ⟨hP.1, fun h hh hp => (e h hh hp).at (hP.2 h hh hp)⟩
theorem S_push {A : Nat → Prop} {H0 H H1 : Heap} {locs : List Loc} (hS : va_S A H0 H locs) (z : H1.size = H.size + 1) (o : ∀ q, q < H.size → H1[q]? = H[q]?) : va_S A H0 H1 locs := ⟨Nat.le_trans hS.1 (by omega), fun x h1 h2 => (o x (Nat.lt_of_lt_of_le h1 hS.1)).trans (hS.2.1 x h1 h2), hS.2.2⟩
def Ao (U : State) : Prop := va_AO RX3 U ∧ va_AO RX5 U
theorem Ao.next {u U : State} (h : Ao u) (hW : u.WarmedH U.vm) : Ao U := ⟨va_AO.moved hW.alike h.1, va_AO.moved hW.alike h.2⟩
theorem Ao.blind {U : State} {g : JFrame} {mk : MethodId} {a : Array Value} (h : Ao U) : Ao (U.calling g mk a) := ⟨va_AO.moved (u := U) (U := U.calling g mk a) (Vm.Alike.refl U.vm) h.1, va_AO.moved (u := U) (U := U.calling g mk a) (Vm.Alike.refl U.vm) h.2⟩
abbrev rmB (D mc ms : Nat) : Room := { frames := D, cells := mc, slots := ms, locals := 40 * D }
def QB (X : XC) (n2 : Nat) (F2 : FE) : Array Value → State → Outcome → State → Prop := fun _ st oc t => (oc = .returned none ∧ PW X n2 F2 t.heap) ∧ va_F (AA X) st t
def CB (X : XC) (D mc ms : Nat) (M : MR) (av : List Value) (n : Nat) (F : FE) (n2 : Nat) (F2 : FE) : Prop :=
  Met X.1 M.1 (wsM M) (rmB D mc ms) (va_Pc av (fun U => PW X n F U.heap ∧ Cx X U ∧ Ao U)) (QB X n2 F2) mc ms (AA X)
def Rb (X : XC) (D mc ms : Nat) (M : MR) (n2 : Nat) (F2 : FE) (pc : Nat) (lv : List (Nat × Value)) (st : List Value) (n : Nat) (F : FE) (cells slots : Nat) : Prop :=
  ∀ (p : Program) (e : Env) (s : State) (m : MethodId) (args : Array Value) (below : List Frame) (meth : Method) (c : Code) (H : Heap) (locs : List Loc) (ls : Array Slot),
    p.tables.exec = Jvm.exec → c.code = M.2.1 → c.maxLocals = M.2.2.1 → meth.sig.returnType = M.2.2.2 → meth.locks = false → meth.name = M.1.name → s.vm.findClass M.1.cls = some m.cls → (∀ w ∈ wsM M, w.before args s = true) → Cx X s → Ao s → PW X n F H → va_S (AA X) s.heap H locs → lv_has ls M.2.2.1 lv →
    W p X.1 e (rmB D mc ms) s m args below meth c H locs cells slots (MQ below (QB X n2 F2) args s mc ms (AA X)) (F0 m pc ls st)
theorem CB.of {X : XC} {D mc ms : Nat} {M : MR} {av : List Value} {n : Nat} {F : FE} {n2 : Nat} {F2 : FE} (hy : plainName M.1.cls = true) (hl : (lg_sl av).length ≤ M.2.2.1) (h : Rb X D mc ms M n2 F2 0 (lv_args 0 av) [] n F 0 0) : CB X D mc ms M av n F n2 F2 := by
  refine Met.ofW (cc := M.2.1) (maxL := M.2.2.1) (ret := M.2.2.2) hy rfl ?_
  intro p e s m args below meth c s₁ B hml hv
  obtain ⟨rfl, hP, hC, hO⟩ := hv
  have hts := atoms_spec (ws := wsM M) B.pre
  have hl := lv_entry av (n := M.2.2.1) hl
  rw [lg_entry_eq]
  exact h p e s m _ below meth c s.heap [] _ B.exec B.bytes hml B.returns B.notSynchronized (name_of_methodNamed B.named B.method).1 (findClass_of_methodNamed B.named) hts hC hO hP va_S.rf hl
section RB
variable {X : XC} {D mc ms : Nat} {M : MR} {n2 : Nat} {F2 : FE} {pc : Nat} {lv : List (Nat × Value)} {st : List Value} {n : Nat} {F : FE} {cells slots : Nat}
theorem b_iconst {z : Int} (hd : decode M.2.1 pc = .ok (.iconst z, 1)) (k : Rb X D mc ms M n2 F2 (pc + 1) lv (iv z :: st) n F cells slots) : Rb X D mc ms M n2 F2 pc lv st n F cells slots := by
  intro p e s m args below meth c H locs ls hx hb hml hr hlk hnm hown hts hC hO hP hS hl
  exact lv_iconst hx hb hd rfl (k p e s m args below meth c H locs ls hx hb hml hr hlk hnm hown hts hC hO hP hS hl)
theorem b_bipush {z : Int} (hz : (Int8.ofInt z).toInt32 = iI z) (hd : decode M.2.1 pc = .ok (.bipush z, 2)) (k : Rb X D mc ms M n2 F2 (pc + 2) lv (iv z :: st) n F cells slots) : Rb X D mc ms M n2 F2 pc lv st n F cells slots := by
  intro p e s m args below meth c H locs ls hx hb hml hr hlk hnm hown hts hC hO hP hS hl
  exact lv_bipush hx hb hd hz (k p e s m args below meth c H locs ls hx hb hml hr hlk hnm hown hts hC hO hP hS hl)
theorem b_sipush {z : Int} (hz : (Int16.ofInt z).toInt32 = iI z) (hd : decode M.2.1 pc = .ok (.sipush z, 3)) (k : Rb X D mc ms M n2 F2 (pc + 3) lv (iv z :: st) n F cells slots) : Rb X D mc ms M n2 F2 pc lv st n F cells slots := by
  intro p e s m args below meth c H locs ls hx hb hml hr hlk hnm hown hts hC hO hP hS hl
  exact lv_sipush hx hb hd hz (k p e s m args below meth c H locs ls hx hb hml hr hlk hnm hown hts hC hO hP hS hl)
theorem b_iload_n {a : Fin 4} {i : Nat} {z : Int} (q : Nat) (hi : (a : Nat) = i) (hq : lv[q]? = some (i, iv z)) (hd : decode M.2.1 pc = .ok (.iload_n a, 1)) (k : Rb X D mc ms M n2 F2 (pc + 1) lv (iv z :: st) n F cells slots) : Rb X D mc ms M n2 F2 pc lv st n F cells slots := by
  intro p e s m args below meth c H locs ls hx hb hml hr hlk hnm hown hts hC hO hP hS hl
  exact lv_iload_n hx hb hd hi (lv_at hl q hq) (k p e s m args below meth c H locs ls hx hb hml hr hlk hnm hown hts hC hO hP hS hl)
theorem b_aload_n {a : Fin 4} {i : Nat} {x : Nat} (q : Nat) (hi : (a : Nat) = i) (hq : lv[q]? = some (i, .ref x)) (hd : decode M.2.1 pc = .ok (.aload_n a, 1)) (k : Rb X D mc ms M n2 F2 (pc + 1) lv (.ref x :: st) n F cells slots) : Rb X D mc ms M n2 F2 pc lv st n F cells slots := by
  intro p e s m args below meth c H locs ls hx hb hml hr hlk hnm hown hts hC hO hP hS hl
  exact lv_aload_n hx hb hd hi (lv_at hl q hq) (k p e s m args below meth c H locs ls hx hb hml hr hlk hnm hown hts hC hO hP hS hl)
theorem b_dup {x : Nat} (hd : decode M.2.1 pc = .ok (.dup, 1)) (k : Rb X D mc ms M n2 F2 (pc + 1) lv (.ref x :: .ref x :: st) n F cells slots) : Rb X D mc ms M n2 F2 pc lv (.ref x :: st) n F cells slots := by
  intro p e s m args below meth c H locs ls hx hb hml hr hlk hnm hown hts hC hO hP hS hl
  exact lv_dup hx hb hd rfl (k p e s m args below meth c H locs ls hx hb hml hr hlk hnm hown hts hC hO hP hS hl)
theorem b_goto {tgt : Nat} {off : Int} (hd : decode M.2.1 pc = .ok (.goto off, 3)) (ht : (pc : Int) + off = tgt) (k : Rb X D mc ms M n2 F2 tgt lv st n F cells slots) : Rb X D mc ms M n2 F2 pc lv st n F cells slots := by
  intro p e s m args below meth c H locs ls hx hb hml hr hlk hnm hown hts hC hO hP hS hl
  exact lv_goto (tgt := tgt) hx hb hd ht (k p e s m args below meth c H locs ls hx hb hml hr hlk hnm hown hts hC hO hP hS hl)
theorem b_widen {k l : Nat} (h1 : cells ≤ k) (h2 : slots ≤ l) (kk : Rb X D mc ms M n2 F2 pc lv st n F k l) : Rb X D mc ms M n2 F2 pc lv st n F cells slots := by
  intro p e s m args below meth c H locs ls hx hb hml hr hlk hnm hown hts hC hO hP hS hl
  exact W.widen h1 h2 (kk p e s m args below meth c H locs ls hx hb hml hr hlk hnm hown hts hC hO hP hS hl)
theorem b_vret (hr0 : M.2.2.2 = none) (hd : decode M.2.1 pc = .ok (.return_, 1)) (h1 : cells ≤ mc) (h2 : slots ≤ ms) (hn : n = n2) (hF : ∀ h, h < NN → pos h < n → eqE (F h) (F2 h)) : Rb X D mc ms M n2 F2 pc lv [] n F cells slots := by
  subst hn
  refine b_widen h1 h2 ?_
  intro p e s m args below meth c H locs ls hx hb hml hr hlk hnm hown hts hC hO hP hS hl
  exact W.vret hx hb (hr.trans hr0) (fun t ht hW => ⟨⟨rfl, by rw [ht]; exact hP.cong hF⟩, hS.F ht⟩) hS.2.2 hd
end RB
