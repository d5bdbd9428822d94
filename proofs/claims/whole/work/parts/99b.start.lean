/-! ===== 99b: the walk from the entry to the loop ===== -/
def Lp (X : XC) (p : Program) (e : Env) (s : State) (m : MethodId) (below : List Frame) (meth : Method) (c : Code) (b : Nat) (n : Nat) (F : FE) (cells slots pc : Nat) (lv : List (Nat × Value)) (st : List Value) : Prop := ∀ (H : Heap) (locs : List Loc) (ls : Array Slot), PW X n F H → va_S (AA X) s.heap H locs → lv_has ls 4 lv → W p X.1 e room_1 s m #[Value.ref b] below meth c H locs cells slots (lw_Z below #[Value.ref b] s) (F0 m pc ls st)
section LP
variable {X : XC} {p : Program} {e : Env} {s : State} {m : MethodId} {below : List Frame} {meth : Method} {c : Code} {b L : Nat} {xs : Nat → Int32} {n : Nat} {F : FE} {cells slots pc : Nat} {lv : List (Nat × Value)} {st : List Value}
theorem p_new {h ci N idx : Nat} {C9 : String} {T : u_T} {ty : Nat → FieldType} {fs : List Value} (C : LC X p s m c b L xs) (hX : PX X) (ck : ckX ci C9 N T ty) (hh : h < NN) (hp : pos h = n) (hfs : ∀ j, j < N → defaultValue (ty j) = vp_V fs j) (hkl : Cond.classLink R_law idx C9 ∈ lw_tbl) (hki : Cond.instantiable C9 N ∈ lw_good) (hkn : Cond.initialized C9 ∈ lw_good) (h1 : cells + 1 ≤ 600000) (h2 : slots + N ≤ 7302249) (hd : decode code pc = .ok (.new idx, 3)) (k : Lp X p e s m below meth c b (n + 1) (uF F h (.inr (ci, fs))) (cells + 1) (slots + N) (pc + 3) lv (rv X h :: st)) : Lp X p e s m below meth c b n F cells slots pc lv st := by
  obtain ⟨hx, hb, hml, hown, hts, hXs, hbl, hbA, hC, hL⟩ := C
  intro H locs ls hP hS hl
  have hKn := hC.1.1 ci _ ck.1
  have hsz : H.size = X.2.2.1 h := by rw [hP.1, hX h hh, hp]
  refine W.newcK hx hb hown (hts _ hkl) (hts _ (lw_in hki)) (hts _ (lw_in hkn)) rfl hd h1 h2 hKn.2.1 hsz fun H1 kC hkC e1 z1 o1 => ?_
  rw [← hsz] at z1 o1
  exact k H1 locs ls (hP.push hh hp z1 o1 ⟨_, ck.1, (u_born ty hts (fun w hw => lw_in (ck.2.1 w hw)) hKn hkC e1 ck.2.2.1).to hfs⟩) (S_push hS z1 o1) hl
theorem p_dup {x : Nat} (C : LC X p s m c b L xs) (hd : decode code pc = .ok (.dup, 1)) (k : Lp X p e s m below meth c b n F cells slots (pc + 1) lv (.ref x :: .ref x :: st)) : Lp X p e s m below meth c b n F cells slots pc lv (.ref x :: st) := by
  intro H locs ls hP hS hl
  exact lv_dup C.1 C.2.1 hd rfl (k H locs ls hP hS hl)
theorem p_init {D2 mc2 ms2 idx h n3 : Nat} {M2 : MR} {F3 : FE} (C : LC X p s m c b L xs) (hO : Ao s) (ok : okI M2) (hD : D2 < 40) (hst : (st.map fun v => v.category).sum ≤ 8) (hk : Cond.methodLink R_law idx M2.1 ∈ lw_tbl) (h1 : cells + mc2 ≤ 600000) (h2 : slots + ms2 ≤ 7302249) (hM : CB X D2 mc2 ms2 M2 [rv X h] n F n3 F3) (hd : decode code pc = .ok (.invokespecial idx, 3)) (k : Lp X p e s m below meth c b n3 F3 (cells + mc2) (slots + ms2) (pc + 3) lv st) : Lp X p e s m below meth c b n F cells slots pc lv (rv X h :: st) := by
  obtain ⟨y2, b2, l2, r2⟩ := M2
  obtain ⟨okc, oki, okm, okr⟩ := ok
  have okr2 : r2 = none := okr
  subst okr2
  obtain ⟨hx, hb, hml, hown, hts, hXs, hbl, hbA, hC, hL⟩ := C
  intro H locs ls hP hS hl
  have h8 : l2 ≤ 21 := okc.2.2.2
  refine b_back (va_runI (As := []) (rest := st) (own := R_law) (Ts := lw_tbl) ⟨hx, hb, hml, hown, hts⟩ hM ⟨callB_of 0 hts (lw_gin okc) rfl rfl rfl (hts _ (lw_in okc.2.1)) (hts _ hk) okc.2.2.1 ⟨by show D2 + 1 ≤ 2048; omega, by show 8 + (l2 + 11) + 40 * D2 ≤ 84000; omega⟩, oki, hts _ (lw_in okm)⟩ ⟨CB.blind, fun U hU hW => ⟨rfl, by rw [hU]; exact hP, hC.next hS hU hW, hO.next hW⟩⟩ rfl rfl hl.1 rfl (lv_room hst) hd ⟨h1, h2⟩) hS (fun H1 locs1 hP1 hS1 => ?_)
  exact k H1 locs1 ls hP1 hS1 hl
theorem p_ast {x : Nat} {a : Fin 4} {i : Nat} (C : LC X p s m c b L xs) (ha : (a : Nat) = i) (lv2 : List (Nat × Value)) (hi : i < 4) (hl2 : (i, .ref x) :: lv.filter (fun q => !(q.1 == i) && !(q.1 + 1 == i && q.2.category == 2)) = lv2) (hd : decode code pc = .ok (.astore_n a, 1)) (k : Lp X p e s m below meth c b n F cells slots (pc + 1) lv2 st) : Lp X p e s m below meth c b n F cells slots pc lv (.ref x :: st) := by
  intro H locs ls hP hS hl
  exact lv_astore_n C.1 C.2.1 hd ha hl hi hl2 (fun ls2 h2 => k H locs ls2 hP hS h2)
end LP
theorem pw_wl {X : XC} {F : FE} {H : Heap} (hP : PW X 297 F H) (hF : ∀ h, h < 297 → F h = cell X I0 h) : va_P X.2.1 vwCl (wl X I0) H := by
  intro k q hk
  have hl : k < (wl X I0).length := (List.getElem?_eq_some_iff.mp hk).1
  have hk2 : k < NN := by simpa [wl] using hl
  rw [wl_get hk2] at hk
  cases hk
  rw [← hF k hk2]
  exact hP.2 k hk2 (pos_lt k hk2)

set_option maxRecDepth 20000 in
set_option maxHeartbeats 1000000 in
theorem whole_start {p : Program} {e : Env} {s : State} {m : MethodId} {below : List Frame} {meth : Method} {c : Code} (l : Launch) (hflags : l.flags = flags0) {b L : Nat} {xs : Nat → Int32} (hL : L ≤ 384) (C0 : lw_At p s m meth c b L xs) : W p l e room_1 s m #[Value.ref b] below meth c s.heap [] 0 0 (lw_Z below #[Value.ref b] s) (entryFrame m ([Value.ref b] : List Value).toArray 4) := by
  obtain ⟨hx, hb, hr, hml, hown, hts, hXs, hbl, hlocks, hgv⟩ := C0
  obtain ⟨X, rfl, hX, h0, hC, hO⟩ := begin_x l hts hgv
  have hbs : ∀ q, AA X q → s.heap.size ≤ q := by
    rintro q ⟨h, hh, rfl⟩
    rw [hX h hh, h0]
    exact Nat.le_add_right _ _
  have hbA : ¬ AA X b := fun q => absurd (hbs b q) (Nat.not_le.mpr hbl)
  have C : LC X p s m c b L xs := ⟨hx, hb, hml, hown, hts, hXs, hbl, hbA, hC, hL⟩
  have hl := lv_entry ([.ref b]) (n := 4) (Nat.le_of_ble_eq_true rfl)
  rw [lg_entry_eq]
  generalize (lg_sl ([.ref b]) ++ List.replicate (4 - (lg_sl ([.ref b])).length) Slot.unset).toArray = ls at hl ⊢
  have hl : lv_has ls 4 [(0, .ref b)] := hl
  have hP0 : PW X 0 (fun h => cell X I0 h) s.heap := ⟨by rw [h0]; rfl, fun h hh hp => absurd hp (Nat.not_lt_zero _)⟩
  have main : Lp X p e s m below meth c b 0 (fun h => cell X I0 h) 0 0 0 [(0, .ref b)] [] := by
    refine p_new (h := 0) (fs := [.null, .null, .null, .null, .null, .null, .null, .null, iv 0, iv 0]) C hX ckX8 (by decide) (by decide) blX8 t_cl7 ki_X8 kn_X8 (Nat.le_of_ble_eq_true rfl) (Nat.le_of_ble_eq_true rfl) dL_law_0 ?_
    refine p_dup C dL_law_3 ?_
    refine p_init (h := 0) C hO okX8_init (by decide) (Nat.le_of_ble_eq_true rfl) t_ml9 (Nat.le_of_ble_eq_true rfl) (Nat.le_of_ble_eq_true rfl) (kiX8 hX uF_s) dL_law_4 ?_
    refine p_ast C rfl [(1, rv X 0), (0, .ref b)] (by decide) rfl dL_law_7 ?_
    refine p_new (h := 30) (fs := [iv 0, iv 0, .null, .null, .null, .null, .null, iv 0, .null, iv 0, .null, iv 0, iv 0, iv 0, iv 0, iv 0, iv 0, iv 0, iv 0, iv 0, .null, .null, .null, .null, .null, .null, .null, iv 0]) C hX ckX9 (by decide) (by decide) blX9 t_cl10 ki_X9 kn_X9 (Nat.le_of_ble_eq_true rfl) (Nat.le_of_ble_eq_true rfl) dL_law_8 ?_
    refine p_dup C dL_law_11 ?_
    refine p_init (h := 30) C hO okX9_init (by decide) (Nat.le_of_ble_eq_true rfl) t_ml12 (Nat.le_of_ble_eq_true rfl) (Nat.le_of_ble_eq_true rfl) (kiX9 hX uF_s) dL_law_12 ?_
    refine p_ast C rfl [(2, rv X 30), (1, rv X 0), (0, .ref b)] (by decide) rfl dL_law_15 ?_
    intro H locs ls hP hS hl
    refine lv_iconst (v := iI 0) hx hb dL_law_16 (by decide) ?_
    refine lv_istore_n (lv' := LV X b 0) hx hb dL_law_17 rfl hl (by decide) rfl (fun ls hl => ?_)
    refine W.widen (k := 600000) (n := 7302249) (Nat.le_of_ble_eq_true rfl) (Nat.le_of_ble_eq_true rfl) ?_
    refine law_loop C hr hlocks hbs (L + 1) 0 I0 (by omega) (by omega) RC0 H locs ls (pw_wl hP (fun h hh => ?_)) hS hl
    by_cases q : 30 ≤ h ∧ h < 45
    · exact fl_i q
    · rw [fl_o q, uF_n (by omega)]
  exact main s.heap [] ls hP0 va_S.rf hl
