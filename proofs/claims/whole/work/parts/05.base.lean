/-! ===== the base: data of all the cells by handles, a method's run and contract in words of them ===== -/
abbrev HD : Type := Nat → Int → Int
abbrev XC : Type := Launch × va_G × (Nat → Nat) × (Nat → ClassId) × (Nat → Nat)
abbrev MR : Type := MethodName × ByteArray × Nat × Option FieldType
abbrev iI (z : Int) : Int32 := Int32.ofInt z
abbrev iL (z : Int) : Int64 := Int64.ofInt z
abbrev iv (z : Int) : Value := .int (Int32.ofInt z)
abbrev jv (z : Int) : Value := .long (Int64.ofInt z)
abbrev rv (X : XC) (h : Nat) : Value := .ref (X.2.2.1 h)
def rg (z : Int) : Prop := -2147483648 ≤ z ∧ z < 2147483648
theorem rg_of {z : Int} (h : rg z) : (iI z).toInt = z := by
  rw [Int32.toInt_ofInt]
  unfold rg at h
  have e : (Int32.size : Int) = 4294967296 := rfl
  rw [Int.bmod_eq_of_le] <;> omega
theorem rg_le {a b : Int} (ha : rg a) (hb : rg b) : iI a ≤ iI b ↔ a ≤ b := by
  rw [Int32.le_iff_toInt_le, rg_of ha, rg_of hb]
theorem rg_lt {a b : Int} (ha : rg a) (hb : rg b) : iI a < iI b ↔ a < b := by
  rw [Int32.lt_iff_toInt_lt, rg_of ha, rg_of hb]
theorem rg_eq {a b : Int} (ha : rg a) (hb : rg b) : iI a = iI b ↔ a = b := by
  rw [← Int32.toInt_inj, rg_of ha, rg_of hb]
theorem rg_0 : rg 0 := by unfold rg; omega
theorem iI_0 : (0 : Int32) = iI 0 := rfl
theorem rg_cl {z : Int} (h : rg z) (h0 : 0 ≤ z) : (iI z).toNatClampNeg = z.toNat := by
  show (iI z).toInt.toNat = z.toNat
  rw [rg_of h]
theorem rg_in {z : Int} {n : Nat} (h0 : 0 ≤ z) (h1 : z < n) (hn : n < 2147483648) : vp_in (iI z) n := by
  have hr : rg z := by unfold rg; omega
  rw [vp_in_iff, rg_of hr]
  omega
theorem iI_to (x : Int32) : iI x.toInt = x := Int32.ofInt_toInt x
theorem rg_to (x : Int32) : rg x.toInt := ⟨Int32.le_toInt x, Int32.toInt_lt x⟩
def up (I : HD) (h : Nat) (i z : Int) : HD := fun a b => if a = h ∧ b = i then z else I a b
theorem up_s {I : HD} {h : Nat} {i z : Int} : up I h i z h i = z := by simp [up]
theorem up_h {I : HD} {h : Nat} {i z : Int} {a : Nat} {b : Int} (n : a ≠ h) : up I h i z a b = I a b := by simp [up, n]
theorem up_i {I : HD} {h : Nat} {i z : Int} {a : Nat} {b : Int} (n : b ≠ i) : up I h i z a b = I a b := by simp [up, n]
def lw_good : List Cond := lw_tbl.filter goodWord
def lw_nest : List Cond := lw_tbl.filter (fun w => match w with
  | .fieldLinkNest .. => true
  | .methodLinkNest .. => true
  | _ => false)
theorem lw_gd {w : Cond} (h : w ∈ lw_tbl) (g : goodWord w = true) : w ∈ lw_good := List.mem_filter.mpr ⟨h, g⟩
abbrev NN : Nat := 297
def oiv (X : XC) (I : HD) (h t n : Nat) : va_E := .inl (X.2.2.2.1 t, n, .inl (fun i => iI (I h i)))
/-- the cell of a handle: what it is, and what it holds -/
def cell (X : XC) (I : HD) (h : Nat) : va_E :=
  if h < 2 then
    if h = 0 then .inr (8, [rv X 1, rv X 18, rv X 45, rv X 21, rv X 23, rv X 24, rv X 26, rv X 28, iv (I 0 8), iv (I 0 9)])
    else .inl (X.2.2.2.1 5, 8, .inr (.inr (.inr (.inr (fun i => some (X.2.2.1 (2 + i)))))))
  else if h < 10 then .inr (5, [rv X (h + 8), iv (I h 1), iv (I h 2)])
  else if h < 18 then oiv X I h 0 40
  else if h < 45 then
    match h with
    | 18 => .inr (4, [rv X 19, rv X 54, iv (I 18 2), iv (I 18 3), iv (I 18 4), iv (I 18 5), iv (I 18 6), iv (I 18 7)])
    | 19 => .inr (7, [rv X 20, iv (I 19 1)])
    | 20 => oiv X I 20 1 500
    | 21 => .inr (0, [rv X 22, iv (I 21 1), iv (I 21 2)])
    | 22 => .inl (X.2.2.2.1 4, 24, .inr (.inr (.inr (.inr (fun i => some (X.2.2.1 (45 + 9 * (4 + i))))))))
    | 23 => .inl (X.2.2.2.1 4, 2, .inr (.inr (.inr (.inr (fun i => some (X.2.2.1 (45 + 9 * (2 + i))))))))
    | 24 => .inr (2, [rv X 25, iv (I 24 1), iv (I 24 2)])
    | 25 => .inl (X.2.2.2.1 2, 4, .inr (.inl (fun i => iL (I 25 i))))
    | 26 => .inr (6, [rv X 27, iv (I 26 1)])
    | 27 => oiv X I 27 0 7
    | 28 => .inr (1, [rv X 29, iv (I 28 1)])
    | 29 => oiv X I 29 0 16
    | 30 => .inr (9, [iv (I 30 0), iv (I 30 1), rv X 31, rv X 32, rv X 33, rv X 34, rv X 35, iv (I 30 7), rv X 36, iv (I 30 9), rv X 37, iv (I 30 11), iv (I 30 12), iv (I 30 13), iv (I 30 14), iv (I 30 15), iv (I 30 16), iv (I 30 17), iv (I 30 18), iv (I 30 19), rv X 38, rv X 39, rv X 40, rv X 41, rv X 42, rv X 43, rv X 44, iv (I 30 27)])
    | 31 => oiv X I 31 0 8
    | 32 => oiv X I 32 0 8
    | 33 => oiv X I 33 0 320
    | 34 => oiv X I 34 0 127
    | 35 => oiv X I 35 0 127
    | 36 => oiv X I 36 0 3048
    | 37 => oiv X I 37 0 500
    | 38 => oiv X I 38 0 4
    | 39 => .inl (X.2.2.2.1 2, 4, .inr (.inl (fun i => iL (I 39 i))))
    | 40 => oiv X I 40 0 7
    | 41 => oiv X I 41 0 7
    | 42 => oiv X I 42 3 2
    | 43 => oiv X I 43 0 254
    | _ => oiv X I h 0 16
  else match (h - 45) % 9 with
    | 0 => .inr (3, [rv X (h + 1), rv X (h + 2), rv X (h + 3), rv X (h + 4), rv X (h + 5), rv X (h + 6), rv X (h + 7), rv X (h + 8), iv (I h 8), iv (I h 9), iv (I h 10), iv (I h 11)])
    | 1 => oiv X I h 0 12
    | 2 => oiv X I h 0 4
    | 3 => oiv X I h 0 4
    | 4 => oiv X I h 0 4
    | 5 => oiv X I h 0 36
    | _ => oiv X I h 0 16
def wl (X : XC) (I : HD) : va_W := (List.range NN).map (fun h => (X.2.2.1 h, cell X I h))
abbrev tysX (X : XC) : List (ClassId × FieldType) := [(X.2.2.2.1 0, .int), (X.2.2.2.1 1, .byte), (X.2.2.2.1 2, .long), (X.2.2.2.1 3, .boolean), (X.2.2.2.1 4, .object RX3), (X.2.2.2.1 5, .object RX5)]
def AA (X : XC) : Nat → Prop := fun q => ∃ h, h < NN ∧ q = X.2.2.1 h
theorem cell_c {X : XC} {I I2 : HD} {h : Nat} (e : ∀ i, I2 h i = I h i) : cell X I2 h = cell X I h := by
  have e' : I2 h = I h := funext e
  unfold cell
  repeat' split
  all_goals first | rfl | (subst_vars; simp only [oiv, e']; done) | simp only [oiv, e']
theorem wl_get {X : XC} {I : HD} {h : Nat} (hh : h < NN) : (wl X I)[h]? = some (X.2.2.1 h, cell X I h) := by
  simp [wl, hh]
theorem wl_set {X : XC} {I : HD} {h : Nat} {i z : Int} {e : va_E} (hh : h < NN) (he : cell X (up I h i z) h = e) : (wl X I).set h (X.2.2.1 h, e) = wl X (up I h i z) := by
  apply List.ext_getElem?
  intro k
  rw [List.getElem?_set]
  by_cases hk : h = k
  · subst hk
    rw [if_pos rfl, wl_get hh, he]
    simp [wl, hh]
  · rw [if_neg hk]
    simp only [wl, List.getElem?_map]
    cases hr : (List.range NN)[k]? with
    | none => rfl
    | some v =>
      have hv : v = k := by
        rw [List.getElem?_range] at hr
        · exact (Option.some.inj hr).symm
        · by_cases q : k < NN
          · exact q
          · rw [List.getElem?_eq_none (by simp; omega)] at hr; cases hr
      subst hv
      simp only [Option.map_some, Option.some.injEq, Prod.mk.injEq, true_and]
      exact (cell_c (fun j => up_h (fun q => hk q.symm))).symm
/-- what a state has, as long as nothing but the cells of the handles is written -/
def roN (i : Nat) : String := match i with
  | 0 => "WIDER"
  | 1 => "SIZE_BODIES"
  | _ => "MARK_BODIES"
def roT (i j : Nat) : Int := (([[-1, 0, 1, 2, 1, 0], [10, 11, 11, 12, 14, 13], [20, 21, 22, 24, 21, 23]] : List (List Int)).getD i []).getD j 0
def stT (i : Nat) : String := match i with
  | 0 => "wind"
  | 1 => "desk"
  | 2 => "sheet"
  | 3 => "warrant"
  | 4 => "will"
  | 5 => "bill"
  | 6 => "blank"
  | _ => "slate"
def stK (i : Nat) : Nat := ([60, 80, 89, 111, 113, 115, 117, 119] : List Nat).getD i 0
def stL : List Nat := [4, 4, 5, 7, 4, 4, 5, 5]
def stB : List (List Int32) := [[119, 105, 110, 100], [100, 101, 115, 107], [115, 104, 101, 101, 116], [119, 97, 114, 114, 97, 110, 116], [119, 105, 108, 108], [98, 105, 108, 108], [98, 108, 97, 110, 107], [115, 108, 97, 116, 101]]
/-- what nobody writes: the class's tables, its texts, two statics of the JDK's -/
def Ro (X : XC) (U : State) : Prop := (∀ i, i < 3 → va_Z RX1 (roN i) "[I" (.ref (X.2.2.2.2 i)) (AA X) U U.heap ∧ va_T .int (X.2.2.2.2 i) 6 (fun j => .int (iI (roT i j))) (AA X) U U.heap) ∧ va_Z "java/lang/String" "COMPACT_STRINGS" "Z" (.int 1) (AA X) U U.heap ∧ va_Zq "jdk/internal/util/Preconditions" "SIOOBE_FORMATTER" "Ljava/util/function/BiFunction;" (AA X) U U.heap ∧ vk_S 8 stL stB (fun i => X.2.2.2.2 (10 + i)) (fun i => X.2.2.2.2 (20 + i)) (AA X) U U.heap ∧ ∀ i, i < 8 → vk_R RX4 (stK i) (stT i) (X.2.2.2.2 (10 + i)) U
def Cx (X : XC) (U : State) : Prop := va_K X.2.1 vwCl (tysX X) U ∧ (∀ w ∈ lw_nest, va_Nw w U) ∧ (∀ i j, i < NN → j < NN → X.2.2.1 i = X.2.2.1 j → i = j) ∧ Ro X U
theorem wl_D {X : XC} {I : HD} (h : ∀ i j, i < NN → j < NN → X.2.2.1 i = X.2.2.1 j → i = j) : va_D (AA X) (wl X I) := by
  have key : ∀ (k : Nat) (q : Nat × va_E), (wl X I)[k]? = some q → k < NN ∧ q.1 = X.2.2.1 k := by
    intro k q hk
    have hl : k < (wl X I).length := (List.getElem?_eq_some_iff.mp hk).1
    have hk2 : k < NN := by simpa [wl] using hl
    rw [wl_get hk2] at hk
    cases hk
    exact ⟨hk2, rfl⟩
  refine ⟨fun i j p q hi hj e => ?_, fun k q hk => ?_⟩
  · obtain ⟨a1, a2⟩ := key i p hi
    obtain ⟨b1, b2⟩ := key j q hj
    exact h i j a1 b1 (by rw [← a2, ← b2, e])
  · obtain ⟨a1, a2⟩ := key k q hk
    exact ⟨k, a1, a2⟩
/-! ===== a run inside a method, and a method's contract ===== -/
abbrev rmD (D : Nat) : Room := { frames := D, cells := 0, slots := 0, locals := 40 * D }
def wsM (M : MR) : List Cond := Cond.code M.1 M.2.1 M.2.2.1 M.2.2.2 :: lw_good
abbrev KP : Type := Option Value → HD → Prop
def QK (X : XC) (K : KP) : Array Value → State → Outcome → State → Prop := fun _ st oc t => (∃ (r : Option Value) (I : HD), oc = .returned r ∧ K r I ∧ va_P X.2.1 vwCl (wl X I) t.heap) ∧ va_F (AA X) st t
def Cl (X : XC) (D : Nat) (M : MR) (av : List Value) (I : HD) (K : KP) : Prop :=
  Met X.1 M.1 (wsM M) (rmD D) (va_Pc av (fun U => va_P X.2.1 vwCl (wl X I) U.heap ∧ Cx X U)) (QK X K) 0 0 (AA X)
def Rn (X : XC) (D : Nat) (M : MR) (K : KP) (pc : Nat) (lv : List (Nat × Value)) (st : List Value) (I : HD) : Prop :=
  ∀ (p : Program) (e : Env) (s : State) (m : MethodId) (args : Array Value) (below : List Frame) (meth : Method) (c : Code) (H : Heap) (locs : List Loc) (ls : Array Slot),
    p.tables.exec = Jvm.exec → c.code = M.2.1 → c.maxLocals = M.2.2.1 → meth.sig.returnType = M.2.2.2 → meth.locks = false → s.vm.findClass M.1.cls = some m.cls → (∀ w ∈ wsM M, w.before args s = true) → Cx X s → va_P X.2.1 vwCl (wl X I) H → va_S (AA X) s.heap H locs → lv_has ls M.2.2.1 lv →
    W p X.1 e (rmD D) s m args below meth c H locs 0 0 (MQ below (QK X K) args s 0 0 (AA X)) (F0 m pc ls st)
theorem Ro.next {X : XC} {s U : State} {H : Heap} {locs : List Loc} (h : Ro X s) (hS : va_S (AA X) s.heap H locs) (hU : U.heap = H) (hW : s.WarmedH U.vm) : Ro X U := by
  subst hU
  obtain ⟨h1, h2, h3, h4, h5⟩ := h
  exact ⟨fun i hi => ⟨va_Z.moved hW.alike ((h1 i hi).1.kept hS.2.1), va_T.moved hW.alike ((h1 i hi).2.kept hS.2.1)⟩, va_Z.moved hW.alike (h2.kept hS.2.1), va_Zq.moved hW.alike (va_Zq.kept h3 hS.2.1), vk_S.moved hW.alike (h4.kept hS.2.1), fun i hi => (h5 i hi).warm hW⟩
theorem Ro.blind {X : XC} {U : State} {g : JFrame} {mk : MethodId} {a : Array Value} (h : Ro X U) : Ro X (U.calling g mk a) := by
  obtain ⟨h1, h2, h3, h4, h5⟩ := h
  exact ⟨fun i hi => ⟨va_Z.moved (u := U) (U := U.calling g mk a) (Vm.Alike.refl U.vm) (h1 i hi).1, va_T.moved (u := U) (U := U.calling g mk a) (Vm.Alike.refl U.vm) (h1 i hi).2⟩, va_Z.moved (u := U) (U := U.calling g mk a) (Vm.Alike.refl U.vm) h2, va_Zq.moved (u := U) (U := U.calling g mk a) (Vm.Alike.refl U.vm) h3, vk_S.moved (u := U) (U := U.calling g mk a) (Vm.Alike.refl U.vm) h4, fun i hi => (h5 i hi).same rfl⟩
theorem Cx.next {X : XC} {u U : State} {H : Heap} {locs : List Loc} (h : Cx X u) (hS : va_S (AA X) u.heap H locs) (hU : U.heap = H) (hW : u.WarmedH U.vm) : Cx X U := by
  refine ⟨va_K.moved hW.alike h.1, fun w hw => ?_, h.2.2.1, h.2.2.2.next hS hU hW⟩
  have h2 := h.2.1 w hw
  have h3 := (List.mem_filter.mp hw).2
  cases w <;> first | (cases h3; done) | exact va_Nw.warmF hW h2 | exact va_Nw.warmM hW h2
theorem Cx.blind {X : XC} {U : State} {g : JFrame} {mk : MethodId} {a : Array Value} (h : Cx X U) : Cx X (U.calling g mk a) :=
  ⟨va_K.moved (u := U) (U := U.calling g mk a) (Vm.Alike.refl U.vm) h.1, fun w hw => va_Nw.same (by
    have h3 := (List.mem_filter.mp hw).2
    cases w <;> first | (cases h3; done) | rfl) (rfl : U.vm = (U.calling g mk a).vm) (h.2.1 w hw), h.2.2.1, h.2.2.2.blind⟩
theorem Cl.of {X : XC} {D : Nat} {M : MR} {av : List Value} {I : HD} {K : KP} (hy : plainName M.1.cls = true) (hl : (lg_sl av).length ≤ M.2.2.1) (h : Rn X D M K 0 (lv_args 0 av) [] I) : Cl X D M av I K := by
  refine Met.ofW (cc := M.2.1) (maxL := M.2.2.1) (ret := M.2.2.2) hy rfl ?_
  intro p e s m args below meth c s₁ B hml hv
  obtain ⟨rfl, hP, hC⟩ := hv
  have hts := atoms_spec (ws := wsM M) B.pre
  have hl := lv_entry av (n := M.2.2.1) hl
  rw [lg_entry_eq]
  exact h p e s m _ below meth c s.heap [] _ B.exec B.bytes hml B.returns B.notSynchronized (findClass_of_methodNamed B.named) hts hC hP va_S.rf hl
