/-! ===== 98: the law's loop ===== -/
def LC (X : XC) (p : Program) (s : State) (m : MethodId) (c : Code) (b L : Nat) (xs : Nat → Int32) : Prop := p.tables.exec = Jvm.exec ∧ c.code = code ∧ c.maxLocals = 4 ∧ s.vm.findClass R_law = some m.cls ∧ (∀ w ∈ lw_tbl, w.before #[Value.ref b] s = true) ∧ va_X b L xs s s.heap ∧ b < s.heap.size ∧ (¬ AA X b) ∧ Cx X s ∧ L ≤ 384
section LAW
variable {X : XC} {p : Program} {e : Env} {s : State} {m : MethodId} {below : List Frame} {meth : Method} {c : Code} {b L : Nat} {xs : Nat → Int32}
def Lw (X : XC) (p : Program) (e : Env) (s : State) (m : MethodId) (below : List Frame) (meth : Method) (c : Code) (b : Nat) (pc : Nat) (lv : List (Nat × Value)) (st : List Value) (I : HD) : Prop := ∀ (H : Heap) (locs : List Loc) (ls : Array Slot), va_P X.2.1 vwCl (wl X I) H → va_S (AA X) s.heap H locs → lv_has ls 4 lv → W p X.1 e room_1 s m #[Value.ref b] below meth c H locs 600000 7302249 (lw_Z below #[Value.ref b] s) (F0 m pc ls st)
abbrev LV (X : XC) (b i : Nat) : List (Nat × Value) := [(3, iv (i : Int)), (2, rv X 30), (1, rv X 0), (0, .ref b)]
abbrev ag (xs : Nat → Int32) (i j : Nat) : Int := (xs (i + j)).toInt
variable {pc i : Nat} {st : List Value} {I : HD}
theorem rg_sm {z : Int} (h0 : -100000 ≤ z) (h1 : z ≤ 100000) : rg z := by unfold rg; omega
theorem l_at {j : Nat} (C : LC X p s m c b L xs) (h : i + j < L) (d : decode code pc = .ok (.iaload, 1)) (k : Lw X p e s m below meth c b (pc + 1) (LV X b i) (iv (ag xs i j) :: st) I) : Lw X p e s m below meth c b pc (LV X b i) (iv ((i : Int) + (j : Int)) :: .ref b :: st) I := by
  obtain ⟨hx, hb, hml, hown, hts, hX, hbl, hbA, hC, hL⟩ := C
  intro H locs ls hP hS hl
  refine va_sld hx hb hX hbl hbA hS (rg_in (n := L) (by omega) (by omega) (by omega)) d ?_
  rw [rg_cl (rg_sm (by omega) (by omega)) (by omega), show ((i : Int) + (j : Int)).toNat = i + j by omega]
  have q := k H locs ls hP hS hl
  rw [show iv (ag xs i j) = Value.int (xs (i + j)) by show Value.int (Int32.ofInt (xs (i + j)).toInt) = _; rw [Int32.ofInt_toInt]] at q
  exact q
theorem l_arg {j : Nat} {jz : Int} (C : LC X p s m c b L xs) (hj : (j : Int) = jz) (h : i + j < L) (d0 : decode code pc = .ok (.aload_n 0, 1)) (d1 : decode code (pc + 1) = .ok (.iload_n 3, 1)) (d2 : decode code (pc + 2) = .ok (.iconst jz, 1)) (d3 : decode code (pc + 3) = .ok (.iadd, 1)) (d4 : decode code (pc + 4) = .ok (.iaload, 1)) (k : Lw X p e s m below meth c b (pc + 5) (LV X b i) (iv (ag xs i j) :: st) I) : Lw X p e s m below meth c b pc (LV X b i) st I := by
  subst hj
  have hx := C.1
  have hb := C.2.1
  intro H locs ls hP hS hl
  refine lv_aload_n hx hb d0 rfl (lv_at hl 3 rfl) ?_
  refine lv_iload_n hx hb d1 rfl (lv_at hl 0 rfl) ?_
  refine lv_iconst hx hb d2 rfl ?_
  refine lv_iadd hx hb d3 ?_
  rw [show iI (i : Int) + iI (j : Int) = iI ((i : Int) + (j : Int)) from (Int32.ofInt_add _ _).symm]
  exact l_at C h d4 k H locs ls hP hS hl
theorem l_rec1 (C : LC X p s m c b L xs) (d : decode code pc = .ok (.aload_n 1, 1)) (k : Lw X p e s m below meth c b (pc + 1) (LV X b i) (rv X 0 :: st) I) : Lw X p e s m below meth c b pc (LV X b i) st I := by
  intro H locs ls hP hS hl
  exact lv_aload_n C.1 C.2.1 d rfl (lv_at hl 2 rfl) (k H locs ls hP hS hl)
theorem l_rec2 (C : LC X p s m c b L xs) (d : decode code pc = .ok (.aload_n 2, 1)) (k : Lw X p e s m below meth c b (pc + 1) (LV X b i) (rv X 30 :: st) I) : Lw X p e s m below meth c b pc (LV X b i) st I := by
  intro H locs ls hP hS hl
  exact lv_aload_n C.1 C.2.1 d rfl (lv_at hl 1 rfl) (k H locs ls hP hS hl)
theorem l_back {p : Program} {l : Launch} {e : Env} {R : Room} {s : State} {m : MethodId} {args : Array Value} {below : List Frame} {meth : Method} {c : Code} {H : Heap} {locs : List Loc} {Q : State → Prop} {X : XC} {pc : Nat} {ls : Array Slot} {rest st0 : List Value} {a : Array Value} {H0 : Heap} {K1 : KP} {cells slots : Nat}
    (hr : va_Run p l e R s m args below meth c H locs cells slots 0 0 (F0 m pc ls st0) rest (QK X K1 a) (AA X)) (hS : va_S (AA X) H0 H locs)
    (kk : ∀ (r : Option Value) (I : HD) (H1 : Heap) (locs1 : List Loc), K1 r I → va_P X.2.1 vwCl (wl X I) H1 → va_S (AA X) H0 H1 locs1 → W p l e R s m args below meth c H1 locs1 cells slots Q (F0 m (pc + 3) ls (r.toList ++ rest))) : W p l e R s m args below meth c H locs cells slots Q (F0 m pc ls st0) := by
  intro T hT XX
  obtain ⟨v, st₀, t, T', L, h0, X', hL, e1, e2, ⟨⟨r, I, hv, hp, hb⟩, hz, hk⟩, st⟩ := hr T hT XX
  cases hv
  rw [h0] at hz hk
  obtain ⟨t2, a1, b1⟩ := kk v I T'.heap (locs ++ L) hp (by rw [e1]; exact hb)
    ⟨Nat.le_trans hS.1 (by rw [e1]; exact hz), fun q h1 h2 => by rw [e1, hk q (Nat.lt_of_lt_of_le h1 hS.1) h2]; exact hS.2.1 q h1 h2, fun q hq => by
      rcases List.mem_append.mp hq with h | h
      · exact hS.2.2 q h
      · exact hL q h⟩ T' rfl X'
  exact ⟨t2, st t2 a1, b1⟩
theorem lw_in {w : Cond} (h : w ∈ lw_good) : w ∈ lw_tbl := (List.mem_filter.mp h).1
theorem lw_gin {M2 : MR} {n : Nat} (h : okC M2 n) : GoodIn lw_tbl (wsM M2) := by
  intro w hw
  rcases List.mem_cons.mp hw with rfl | hw
  · exact ⟨lw_in h.1, good_w h.1⟩
  · exact ⟨lw_in hw, good_w hw⟩
theorem l_call {D2 n idx h ci N : Nat} {M2 : MR} {K2 : KP} {fs As : List Value} {T : u_T} {lv : List (Nat × Value)} (C : LC X p s m c b L xs) (ok : okV M2 n) (hD : D2 < 40) (hh : h < NN) (hc : cell X I h = .inr (ci, fs)) (hcl : vwCl[ci]? = some (M2.1.cls, T, N)) (hn : As.length = n) (hst : (st.map fun v => v.category).sum ≤ 8) (hk : Cond.methodLink R_law idx M2.1 ∈ lw_tbl) (hM : Cl X D2 M2 (rv X h :: As) I K2) (hd : decode code pc = .ok (.invokevirtual idx, 3)) (k : ∀ (r : Option Value) (J : HD), K2 r J → Lw X p e s m below meth c b (pc + 3) lv (r.toList ++ st) J) : Lw X p e s m below meth c b pc lv (As.reverse ++ rv X h :: st) I := by
  obtain ⟨hx, hb, hml, hown, hts, hX, hbl, hbA, hC, hL⟩ := C
  intro H locs ls hP hS hl
  have h9 : M2.2.2.1 ≤ 21 := ok.1.2.2.2
  refine l_back (va_runV (As := As) (rest := st) (own := R_law) (Ts := lw_tbl) ⟨hx, hb, hml, hown, hts⟩ hM ⟨callB_of n hts (lw_gin ok.1) rfl rfl rfl (hts _ (lw_in ok.1.2.1)) (hts _ hk) ok.1.2.2.1 ⟨by show D2 + 1 ≤ 2048; omega, by show 8 + (M2.2.2.1 + 11) + 40 * D2 ≤ 84000; omega⟩, hts _ (lw_in ok.2.1), hts _ (lw_in ok.2.2)⟩ ⟨Cl.blind, va_recv hC.1 hP hcl (q0 := h) (by rw [wl_get hh, hc]), fun U hU hW => ⟨rfl, by rw [hU]; exact hP, hC.next hS hU hW⟩⟩ rfl hn hl.1 rfl (lv_room hst) hd ⟨Nat.le_refl _, Nat.le_refl _⟩) hS (fun r I2 H1 locs1 h1 hP1 hS1 => ?_)
  exact k r I2 h1 H1 locs1 ls hP1 hS1 hl
theorem l_c1 {n idx : Nat} {mx mm : MR} {As : List Value} {lv : List (Nat × Value)} (C : LC X p s m c b L xs) (pr : Pair2 X mx mm As) (hR : RC I I) (ok : okV mx n) (hcls : mx.1.cls = RX8) (hn : As.length = n) (hk : Cond.methodLink R_law idx mx.1 ∈ lw_tbl) (hd : decode code pc = .ok (.invokevirtual idx, 3)) (k : ∀ (z : Int) (J : HD) (D2 : Nat), D2 < 40 → Cl X D2 mm (rv X 30 :: As) J (fun r2 J2 => r2 = some (iv z) ∧ RC J2 J2) → Lw X p e s m below meth c b (pc + 3) lv [iv z] J) : Lw X p e s m below meth c b pc lv (As.reverse ++ [rv X 0]) I := by
  obtain ⟨D, D2, hD, hD2, h⟩ := pr I hR
  refine l_call C ok hD (by decide) rfl (by rw [hcls]; exact ckX8.1) hn (by decide) hk h hd (fun r J hr => ?_)
  obtain ⟨z, rfl, h2⟩ := hr
  exact k z J D2 hD2 h2
theorem l_c2 {n idx D2 tgt : Nat} {off : Int} {mm : MR} {As : List Value} {lv : List (Nat × Value)} {z : Int} (C : LC X p s m c b L xs) (hD : D2 < 40) (h : Cl X D2 mm (rv X 30 :: As) I (fun r2 J2 => r2 = some (iv z) ∧ RC J2 J2)) (ok : okV mm n) (hcls : mm.1.cls = RX9) (hn : As.length = n) (hk : Cond.methodLink R_law idx mm.1 ∈ lw_tbl) (hd : decode code pc = .ok (.invokevirtual idx, 3)) (he : decode code (pc + 3) = .ok (.if_icmp .eq off, 3)) (ht : ((pc + 3 : Nat) : Int) + off = (tgt : Int)) (k : ∀ J, RC J J → Lw X p e s m below meth c b tgt lv [] J) : Lw X p e s m below meth c b pc lv (As.reverse ++ [rv X 30, iv z]) I := by
  refine l_call C ok hD (by decide) rfl (by rw [hcls]; exact ckX9.1) hn (Nat.le_of_ble_eq_true rfl) hk h hd (fun r J hr => ?_)
  obtain ⟨rfl, hJ⟩ := hr
  intro H locs ls hP hS hl
  exact lv_icmp_eq C.1 C.2.1 he ht (fun _ => k J hJ H locs ls hP hS hl) (fun q => absurd rfl q)
theorem l_fd (C : LC X p s m c b L xs) (h : i + 2 < L) (hkc : Cond.constantLong R_law 32 4294967295 ∈ lw_tbl) (d0 : decode code pc = .ok (.aload_n 0, 1)) (d1 : decode code (pc + 1) = .ok (.iload_n 3, 1)) (d2 : decode code (pc + 2) = .ok (.iconst 1, 1)) (d3 : decode code (pc + 3) = .ok (.iadd, 1)) (d4 : decode code (pc + 4) = .ok (.iaload, 1)) (d5 : decode code (pc + 5) = .ok (.i2l, 1)) (d6 : decode code (pc + 6) = .ok (.bipush 32, 2)) (d8 : decode code (pc + 8) = .ok (.lshl, 1)) (d9 : decode code (pc + 9) = .ok (.aload_n 0, 1)) (d10 : decode code (pc + 10) = .ok (.iload_n 3, 1)) (d11 : decode code (pc + 11) = .ok (.iconst 2, 1)) (d12 : decode code (pc + 12) = .ok (.iadd, 1)) (d13 : decode code (pc + 13) = .ok (.iaload, 1)) (d14 : decode code (pc + 14) = .ok (.i2l, 1)) (d15 : decode code (pc + 15) = .ok (.ldc2_w 32, 3)) (d18 : decode code (pc + 18) = .ok (.land, 1)) (d19 : decode code (pc + 19) = .ok (.lor, 1))
    (k : Lw X p e s m below meth c b (pc + 20) (LV X b i) (jv (((xs (i + 1)).toInt64 <<< ((32 : Int32).toInt64 &&& 63)) ||| ((xs (i + 2)).toInt64 &&& 4294967295)).toInt :: st) I) : Lw X p e s m below meth c b pc (LV X b i) st I := by
  have hx := C.1
  have hb := C.2.1
  have hown := C.2.2.2.1
  have hts := C.2.2.2.2.1
  refine l_arg C (j := 1) rfl (by omega) d0 d1 d2 d3 d4 ?_
  intro H locs ls hP hS hl
  refine lv_i2l (v := (xs (i + 1)).toInt64) hx hb d5 (congrArg Int32.toInt64 (Int32.ofInt_toInt _)) ?_
  refine lv_bipush (v := 32) hx hb d6 rfl ?_
  refine lv_lshl (v := (xs (i + 1)).toInt64 <<< ((32 : Int32).toInt64 &&& 63)) hx hb d8 rfl ?_
  refine l_arg (st := .long ((xs (i + 1)).toInt64 <<< ((32 : Int32).toInt64 &&& 63)) :: st) (I := I) C (j := 2) rfl (by omega) d9 d10 d11 d12 d13 ?_ H locs ls hP hS hl
  intro H locs ls hP hS hl
  refine lv_i2l (v := (xs (i + 2)).toInt64) hx hb d14 (congrArg Int32.toInt64 (Int32.ofInt_toInt _)) ?_
  refine lv_ldc2 hx hb hown (hts _ hkc) d15 ?_
  refine lv_land hx hb d18 ?_
  refine lv_lor hx hb d19 ?_
  have q := k H locs ls hP hS hl
  rw [show jv (((xs (i + 1)).toInt64 <<< ((32 : Int32).toInt64 &&& 63)) ||| ((xs (i + 2)).toInt64 &&& 4294967295)).toInt = Value.long (((xs (i + 1)).toInt64 <<< ((32 : Int32).toInt64 &&& 63)) ||| ((xs (i + 2)).toInt64 &&& 4294967295)) from congrArg Value.long (Int64.ofInt_toInt _)] at q
  exact q
theorem rl_to (x : Int64) : rl x.toInt := ⟨Int64.le_toInt x, Int64.toInt_lt x⟩
end LAW
theorem kmL_c : Cond.constantLong R_law 32 4294967295 ∈ lw_tbl := List.mem_of_getElem? (i := 1263) (by decide +kernel)
theorem kmL_13 : Cond.methodLink R_law 13 yX8_row ∈ lw_tbl := List.mem_of_getElem? (i := 327) (by decide +kernel)
theorem kmL_17 : Cond.methodLink R_law 17 yX9_row ∈ lw_tbl := List.mem_of_getElem? (i := 931) (by decide +kernel)
set_option maxRecDepth 20000 in
theorem ca0 {X : XC} {p : Program} {e : Env} {s : State} {m : MethodId} {below : List Frame} {meth : Method} {c : Code} {b L : Nat} {xs : Nat → Int32} {i : Nat} {I : HD} (C : LC X p s m c b L xs) (hi : i + 6 ≤ L) (hR : RC I I) (hk : ∀ J, RC J J → Lw X p e s m below meth c b 1068 (LV X b i) [] J) : Lw X p e s m below meth c b 168 (LV X b i) [] I := by
  refine l_rec1 C dL_law_168 ?_
  refine l_arg C (j := 1) rfl (by omega) dL_law_169 dL_law_170 dL_law_171 dL_law_172 dL_law_173 ?_
  refine l_arg C (j := 2) rfl (by omega) dL_law_174 dL_law_175 dL_law_176 dL_law_177 dL_law_178 ?_
  refine l_arg C (j := 3) rfl (by omega) dL_law_179 dL_law_180 dL_law_181 dL_law_182 dL_law_183 ?_
  refine l_c1 (As := [iv _, iv _, iv _]) C ((pr_row (rg_to _) (rg_to _) (rg_to _)).to2) hR okX8_row rfl rfl kmL_13 dL_law_184 (fun z J D2 hD2 hM => ?_)
  refine l_rec2 C dL_law_187 ?_
  refine l_arg C (j := 1) rfl (by omega) dL_law_188 dL_law_189 dL_law_190 dL_law_191 dL_law_192 ?_
  refine l_arg C (j := 2) rfl (by omega) dL_law_193 dL_law_194 dL_law_195 dL_law_196 dL_law_197 ?_
  refine l_arg C (j := 3) rfl (by omega) dL_law_198 dL_law_199 dL_law_200 dL_law_201 dL_law_202 ?_
  exact l_c2 (As := [iv _, iv _, iv _]) (tgt := 1068) C hD2 hM okX9_row rfl rfl kmL_17 dL_law_203 dL_law_206 rfl hk
theorem kmL_18 : Cond.methodLink R_law 18 yX8_set ∈ lw_tbl := List.mem_of_getElem? (i := 348) (by decide +kernel)
theorem kmL_21 : Cond.methodLink R_law 21 yX9_set ∈ lw_tbl := List.mem_of_getElem? (i := 949) (by decide +kernel)
set_option maxRecDepth 20000 in
theorem ca1 {X : XC} {p : Program} {e : Env} {s : State} {m : MethodId} {below : List Frame} {meth : Method} {c : Code} {b L : Nat} {xs : Nat → Int32} {i : Nat} {I : HD} (C : LC X p s m c b L xs) (hi : i + 6 ≤ L) (hR : RC I I) (hk : ∀ J, RC J J → Lw X p e s m below meth c b 1068 (LV X b i) [] J) : Lw X p e s m below meth c b 211 (LV X b i) [] I := by
  refine l_rec1 C dL_law_211 ?_
  refine l_arg C (j := 1) rfl (by omega) dL_law_212 dL_law_213 dL_law_214 dL_law_215 dL_law_216 ?_
  refine l_arg C (j := 2) rfl (by omega) dL_law_217 dL_law_218 dL_law_219 dL_law_220 dL_law_221 ?_
  refine l_arg C (j := 3) rfl (by omega) dL_law_222 dL_law_223 dL_law_224 dL_law_225 dL_law_226 ?_
  refine l_c1 (As := [iv _, iv _, iv _]) C ((pr_set (rg_to _) (rg_to _) (rg_to _)).to2) hR okX8_set rfl rfl kmL_18 dL_law_227 (fun z J D2 hD2 hM => ?_)
  refine l_rec2 C dL_law_230 ?_
  refine l_arg C (j := 1) rfl (by omega) dL_law_231 dL_law_232 dL_law_233 dL_law_234 dL_law_235 ?_
  refine l_arg C (j := 2) rfl (by omega) dL_law_236 dL_law_237 dL_law_238 dL_law_239 dL_law_240 ?_
  refine l_arg C (j := 3) rfl (by omega) dL_law_241 dL_law_242 dL_law_243 dL_law_244 dL_law_245 ?_
  exact l_c2 (As := [iv _, iv _, iv _]) (tgt := 1068) C hD2 hM okX9_set rfl rfl kmL_21 dL_law_246 dL_law_249 rfl hk
theorem kmL_22 : Cond.methodLink R_law 22 yX8_copy ∈ lw_tbl := List.mem_of_getElem? (i := 364) (by decide +kernel)
theorem kmL_26 : Cond.methodLink R_law 26 yX9_copy ∈ lw_tbl := List.mem_of_getElem? (i := 953) (by decide +kernel)
set_option maxRecDepth 20000 in
theorem ca2 {X : XC} {p : Program} {e : Env} {s : State} {m : MethodId} {below : List Frame} {meth : Method} {c : Code} {b L : Nat} {xs : Nat → Int32} {i : Nat} {I : HD} (C : LC X p s m c b L xs) (hi : i + 6 ≤ L) (hR : RC I I) (hk : ∀ J, RC J J → Lw X p e s m below meth c b 1068 (LV X b i) [] J) : Lw X p e s m below meth c b 254 (LV X b i) [] I := by
  refine l_rec1 C dL_law_254 ?_
  refine l_arg C (j := 1) rfl (by omega) dL_law_255 dL_law_256 dL_law_257 dL_law_258 dL_law_259 ?_
  refine l_arg C (j := 2) rfl (by omega) dL_law_260 dL_law_261 dL_law_262 dL_law_263 dL_law_264 ?_
  refine l_arg C (j := 3) rfl (by omega) dL_law_265 dL_law_266 dL_law_267 dL_law_268 dL_law_269 ?_
  refine l_arg C (j := 4) rfl (by omega) dL_law_270 dL_law_271 dL_law_272 dL_law_273 dL_law_274 ?_
  refine l_arg C (j := 5) rfl (by omega) dL_law_275 dL_law_276 dL_law_277 dL_law_278 dL_law_279 ?_
  refine l_c1 (As := [iv _, iv _, iv _, iv _, iv _]) C ((pr_copy (rg_to _) (rg_to _) (rg_to _) (rg_to _) (rg_to _)).to2) hR okX8_copy rfl rfl kmL_22 dL_law_280 (fun z J D2 hD2 hM => ?_)
  refine l_rec2 C dL_law_283 ?_
  refine l_arg C (j := 1) rfl (by omega) dL_law_284 dL_law_285 dL_law_286 dL_law_287 dL_law_288 ?_
  refine l_arg C (j := 2) rfl (by omega) dL_law_289 dL_law_290 dL_law_291 dL_law_292 dL_law_293 ?_
  refine l_arg C (j := 3) rfl (by omega) dL_law_294 dL_law_295 dL_law_296 dL_law_297 dL_law_298 ?_
  refine l_arg C (j := 4) rfl (by omega) dL_law_299 dL_law_300 dL_law_301 dL_law_302 dL_law_303 ?_
  refine l_arg C (j := 5) rfl (by omega) dL_law_304 dL_law_305 dL_law_306 dL_law_307 dL_law_308 ?_
  exact l_c2 (As := [iv _, iv _, iv _, iv _, iv _]) (tgt := 1068) C hD2 hM okX9_copy rfl rfl kmL_26 dL_law_309 dL_law_312 rfl hk
theorem kmL_27 : Cond.methodLink R_law 27 yX8_drop ∈ lw_tbl := List.mem_of_getElem? (i := 371) (by decide +kernel)
theorem kmL_31 : Cond.methodLink R_law 31 yX9_drop ∈ lw_tbl := List.mem_of_getElem? (i := 957) (by decide +kernel)
set_option maxRecDepth 20000 in
theorem ca3 {X : XC} {p : Program} {e : Env} {s : State} {m : MethodId} {below : List Frame} {meth : Method} {c : Code} {b L : Nat} {xs : Nat → Int32} {i : Nat} {I : HD} (C : LC X p s m c b L xs) (hi : i + 6 ≤ L) (hR : RC I I) (hk : ∀ J, RC J J → Lw X p e s m below meth c b 1068 (LV X b i) [] J) : Lw X p e s m below meth c b 317 (LV X b i) [] I := by
  refine l_rec1 C dL_law_317 ?_
  refine l_arg C (j := 1) rfl (by omega) dL_law_318 dL_law_319 dL_law_320 dL_law_321 dL_law_322 ?_
  refine l_c1 (As := [iv _]) C ((pr_drop (rg_to _)).to2) hR okX8_drop rfl rfl kmL_27 dL_law_323 (fun z J D2 hD2 hM => ?_)
  refine l_rec2 C dL_law_326 ?_
  refine l_arg C (j := 1) rfl (by omega) dL_law_327 dL_law_328 dL_law_329 dL_law_330 dL_law_331 ?_
  exact l_c2 (As := [iv _]) (tgt := 1068) C hD2 hM okX9_drop rfl rfl kmL_31 dL_law_332 dL_law_335 rfl hk
theorem kmL_34 : Cond.methodLink R_law 34 yX8_feed ∈ lw_tbl := List.mem_of_getElem? (i := 379) (by decide +kernel)
theorem kmL_38 : Cond.methodLink R_law 38 yX9_feed ∈ lw_tbl := List.mem_of_getElem? (i := 961) (by decide +kernel)
set_option maxRecDepth 20000 in
theorem ca4 {X : XC} {p : Program} {e : Env} {s : State} {m : MethodId} {below : List Frame} {meth : Method} {c : Code} {b L : Nat} {xs : Nat → Int32} {i : Nat} {I : HD} (C : LC X p s m c b L xs) (hi : i + 6 ≤ L) (hR : RC I I) (hk : ∀ J, RC J J → Lw X p e s m below meth c b 1068 (LV X b i) [] J) : Lw X p e s m below meth c b 340 (LV X b i) [] I := by
  refine l_rec1 C dL_law_340 ?_
  refine l_fd C (by omega) kmL_c dL_law_341 dL_law_342 dL_law_343 dL_law_344 dL_law_345 dL_law_346 dL_law_347 dL_law_349 dL_law_350 dL_law_351 dL_law_352 dL_law_353 dL_law_354 dL_law_355 dL_law_356 dL_law_359 dL_law_360 ?_
  refine l_arg C (j := 3) rfl (by omega) dL_law_361 dL_law_362 dL_law_363 dL_law_364 dL_law_365 ?_
  refine l_c1 (As := [jv _, iv _]) C ((pr_feed (rl_to _) (rg_to _)).to2) hR okX8_feed rfl rfl kmL_34 dL_law_366 (fun z J D2 hD2 hM => ?_)
  refine l_rec2 C dL_law_369 ?_
  refine l_fd C (by omega) kmL_c dL_law_370 dL_law_371 dL_law_372 dL_law_373 dL_law_374 dL_law_375 dL_law_376 dL_law_378 dL_law_379 dL_law_380 dL_law_381 dL_law_382 dL_law_383 dL_law_384 dL_law_385 dL_law_388 dL_law_389 ?_
  refine l_arg C (j := 3) rfl (by omega) dL_law_390 dL_law_391 dL_law_392 dL_law_393 dL_law_394 ?_
  exact l_c2 (As := [jv _, iv _]) (tgt := 1068) C hD2 hM okX9_feed rfl rfl kmL_38 dL_law_395 dL_law_398 rfl hk
theorem kmL_39 : Cond.methodLink R_law 39 yX8_office ∈ lw_tbl := List.mem_of_getElem? (i := 392) (by decide +kernel)
theorem kmL_43 : Cond.methodLink R_law 43 yX9_office ∈ lw_tbl := List.mem_of_getElem? (i := 968) (by decide +kernel)
set_option maxRecDepth 20000 in
theorem ca5 {X : XC} {p : Program} {e : Env} {s : State} {m : MethodId} {below : List Frame} {meth : Method} {c : Code} {b L : Nat} {xs : Nat → Int32} {i : Nat} {I : HD} (C : LC X p s m c b L xs) (hi : i + 6 ≤ L) (hR : RC I I) (hk : ∀ J, RC J J → Lw X p e s m below meth c b 1068 (LV X b i) [] J) : Lw X p e s m below meth c b 403 (LV X b i) [] I := by
  refine l_rec1 C dL_law_403 ?_
  refine l_c1 (As := []) C (pr_office) hR okX8_office rfl rfl kmL_39 dL_law_404 (fun z J D2 hD2 hM => ?_)
  refine l_rec2 C dL_law_407 ?_
  exact l_c2 (As := []) (tgt := 1068) C hD2 hM okX9_office rfl rfl kmL_43 dL_law_408 dL_law_411 rfl hk
theorem kmL_44 : Cond.methodLink R_law 44 yX8_fault ∈ lw_tbl := List.mem_of_getElem? (i := 548) (by decide +kernel)
theorem kmL_47 : Cond.methodLink R_law 47 yX9_fault ∈ lw_tbl := List.mem_of_getElem? (i := 1043) (by decide +kernel)
set_option maxRecDepth 20000 in
theorem ca6 {X : XC} {p : Program} {e : Env} {s : State} {m : MethodId} {below : List Frame} {meth : Method} {c : Code} {b L : Nat} {xs : Nat → Int32} {i : Nat} {I : HD} (C : LC X p s m c b L xs) (hi : i + 6 ≤ L) (hR : RC I I) (hk : ∀ J, RC J J → Lw X p e s m below meth c b 1068 (LV X b i) [] J) : Lw X p e s m below meth c b 416 (LV X b i) [] I := by
  refine l_rec1 C dL_law_416 ?_
  refine l_c1 (As := []) C (pr_fault.to2) hR okX8_fault rfl rfl kmL_44 dL_law_417 (fun z J D2 hD2 hM => ?_)
  refine l_rec2 C dL_law_420 ?_
  exact l_c2 (As := []) (tgt := 1068) C hD2 hM okX9_fault rfl rfl kmL_47 dL_law_421 dL_law_424 rfl hk
theorem kmL_48 : Cond.methodLink R_law 48 yX8_lift ∈ lw_tbl := List.mem_of_getElem? (i := 552) (by decide +kernel)
theorem kmL_51 : Cond.methodLink R_law 51 yX9_lift ∈ lw_tbl := List.mem_of_getElem? (i := 1047) (by decide +kernel)
set_option maxRecDepth 20000 in
theorem ca7 {X : XC} {p : Program} {e : Env} {s : State} {m : MethodId} {below : List Frame} {meth : Method} {c : Code} {b L : Nat} {xs : Nat → Int32} {i : Nat} {I : HD} (C : LC X p s m c b L xs) (hi : i + 6 ≤ L) (hR : RC I I) (hk : ∀ J, RC J J → Lw X p e s m below meth c b 1068 (LV X b i) [] J) : Lw X p e s m below meth c b 429 (LV X b i) [] I := by
  refine l_rec1 C dL_law_429 ?_
  refine l_arg C (j := 1) rfl (by omega) dL_law_430 dL_law_431 dL_law_432 dL_law_433 dL_law_434 ?_
  refine l_c1 (As := [iv _]) C ((pr_lift (rg_to _)).to2) hR okX8_lift rfl rfl kmL_48 dL_law_435 (fun z J D2 hD2 hM => ?_)
  refine l_rec2 C dL_law_438 ?_
  refine l_arg C (j := 1) rfl (by omega) dL_law_439 dL_law_440 dL_law_441 dL_law_442 dL_law_443 ?_
  exact l_c2 (As := [iv _]) (tgt := 1068) C hD2 hM okX9_lift rfl rfl kmL_51 dL_law_444 dL_law_447 rfl hk
theorem kmL_52 : Cond.methodLink R_law 52 yX8_lay ∈ lw_tbl := List.mem_of_getElem? (i := 589) (by decide +kernel)
theorem kmL_56 : Cond.methodLink R_law 56 yX9_lay ∈ lw_tbl := List.mem_of_getElem? (i := 1088) (by decide +kernel)
set_option maxRecDepth 20000 in
theorem ca8 {X : XC} {p : Program} {e : Env} {s : State} {m : MethodId} {below : List Frame} {meth : Method} {c : Code} {b L : Nat} {xs : Nat → Int32} {i : Nat} {I : HD} (C : LC X p s m c b L xs) (hi : i + 6 ≤ L) (hR : RC I I) (hk : ∀ J, RC J J → Lw X p e s m below meth c b 1068 (LV X b i) [] J) : Lw X p e s m below meth c b 452 (LV X b i) [] I := by
  refine l_rec1 C dL_law_452 ?_
  refine l_arg C (j := 1) rfl (by omega) dL_law_453 dL_law_454 dL_law_455 dL_law_456 dL_law_457 ?_
  refine l_arg C (j := 2) rfl (by omega) dL_law_458 dL_law_459 dL_law_460 dL_law_461 dL_law_462 ?_
  refine l_c1 (As := [iv _, iv _]) C ((pr_lay (rg_to _) (rg_to _)).to2) hR okX8_lay rfl rfl kmL_52 dL_law_463 (fun z J D2 hD2 hM => ?_)
  refine l_rec2 C dL_law_466 ?_
  refine l_arg C (j := 1) rfl (by omega) dL_law_467 dL_law_468 dL_law_469 dL_law_470 dL_law_471 ?_
  refine l_arg C (j := 2) rfl (by omega) dL_law_472 dL_law_473 dL_law_474 dL_law_475 dL_law_476 ?_
  exact l_c2 (As := [iv _, iv _]) (tgt := 1068) C hD2 hM okX9_lay rfl rfl kmL_56 dL_law_477 dL_law_480 rfl hk
theorem kmL_57 : Cond.methodLink R_law 57 yX8_blank ∈ lw_tbl := List.mem_of_getElem? (i := 595) (by decide +kernel)
theorem kmL_60 : Cond.methodLink R_law 60 yX9_blank ∈ lw_tbl := List.mem_of_getElem? (i := 1100) (by decide +kernel)
set_option maxRecDepth 20000 in
theorem ca9 {X : XC} {p : Program} {e : Env} {s : State} {m : MethodId} {below : List Frame} {meth : Method} {c : Code} {b L : Nat} {xs : Nat → Int32} {i : Nat} {I : HD} (C : LC X p s m c b L xs) (hi : i + 6 ≤ L) (hR : RC I I) (hk : ∀ J, RC J J → Lw X p e s m below meth c b 1068 (LV X b i) [] J) : Lw X p e s m below meth c b 485 (LV X b i) [] I := by
  refine l_rec1 C dL_law_485 ?_
  refine l_arg C (j := 1) rfl (by omega) dL_law_486 dL_law_487 dL_law_488 dL_law_489 dL_law_490 ?_
  refine l_c1 (As := [iv _]) C ((pr_blank (rg_to _)).to2) hR okX8_blank rfl rfl kmL_57 dL_law_491 (fun z J D2 hD2 hM => ?_)
  refine l_rec2 C dL_law_494 ?_
  refine l_arg C (j := 1) rfl (by omega) dL_law_495 dL_law_496 dL_law_497 dL_law_498 dL_law_499 ?_
  exact l_c2 (As := [iv _]) (tgt := 1068) C hD2 hM okX9_blank rfl rfl kmL_60 dL_law_500 dL_law_503 rfl hk
theorem kmL_61 : Cond.methodLink R_law 61 yX8_quarter ∈ lw_tbl := List.mem_of_getElem? (i := 600) (by decide +kernel)
theorem kmL_64 : Cond.methodLink R_law 64 yX9_quarter ∈ lw_tbl := List.mem_of_getElem? (i := 1104) (by decide +kernel)
set_option maxRecDepth 20000 in
theorem ca10 {X : XC} {p : Program} {e : Env} {s : State} {m : MethodId} {below : List Frame} {meth : Method} {c : Code} {b L : Nat} {xs : Nat → Int32} {i : Nat} {I : HD} (C : LC X p s m c b L xs) (hi : i + 6 ≤ L) (hR : RC I I) (hk : ∀ J, RC J J → Lw X p e s m below meth c b 1068 (LV X b i) [] J) : Lw X p e s m below meth c b 508 (LV X b i) [] I := by
  refine l_rec1 C dL_law_508 ?_
  refine l_arg C (j := 1) rfl (by omega) dL_law_509 dL_law_510 dL_law_511 dL_law_512 dL_law_513 ?_
  refine l_c1 (As := [iv _]) C ((pr_quarter (rg_to _)).to2) hR okX8_quarter rfl rfl kmL_61 dL_law_514 (fun z J D2 hD2 hM => ?_)
  refine l_rec2 C dL_law_517 ?_
  refine l_arg C (j := 1) rfl (by omega) dL_law_518 dL_law_519 dL_law_520 dL_law_521 dL_law_522 ?_
  exact l_c2 (As := [iv _]) (tgt := 1068) C hD2 hM okX9_quarter rfl rfl kmL_64 dL_law_523 dL_law_526 rfl hk
theorem kmL_65 : Cond.methodLink R_law 65 yX8_undo ∈ lw_tbl := List.mem_of_getElem? (i := 627) (by decide +kernel)
theorem kmL_68 : Cond.methodLink R_law 68 yX9_undo ∈ lw_tbl := List.mem_of_getElem? (i := 1124) (by decide +kernel)
set_option maxRecDepth 20000 in
theorem ca11 {X : XC} {p : Program} {e : Env} {s : State} {m : MethodId} {below : List Frame} {meth : Method} {c : Code} {b L : Nat} {xs : Nat → Int32} {i : Nat} {I : HD} (C : LC X p s m c b L xs) (hi : i + 6 ≤ L) (hR : RC I I) (hk : ∀ J, RC J J → Lw X p e s m below meth c b 1068 (LV X b i) [] J) : Lw X p e s m below meth c b 531 (LV X b i) [] I := by
  refine l_rec1 C dL_law_531 ?_
  refine l_c1 (As := []) C (pr_undo.to2) hR okX8_undo rfl rfl kmL_65 dL_law_532 (fun z J D2 hD2 hM => ?_)
  refine l_rec2 C dL_law_535 ?_
  exact l_c2 (As := []) (tgt := 1068) C hD2 hM okX9_undo rfl rfl kmL_68 dL_law_536 dL_law_539 rfl hk
theorem kmL_69 : Cond.methodLink R_law 69 yX8_sheet ∈ lw_tbl := List.mem_of_getElem? (i := 635) (by decide +kernel)
theorem kmL_72 : Cond.methodLink R_law 72 yX9_sheet ∈ lw_tbl := List.mem_of_getElem? (i := 1128) (by decide +kernel)
set_option maxRecDepth 20000 in
theorem ca12 {X : XC} {p : Program} {e : Env} {s : State} {m : MethodId} {below : List Frame} {meth : Method} {c : Code} {b L : Nat} {xs : Nat → Int32} {i : Nat} {I : HD} (C : LC X p s m c b L xs) (hi : i + 6 ≤ L) (hR : RC I I) (hk : ∀ J, RC J J → Lw X p e s m below meth c b 1068 (LV X b i) [] J) : Lw X p e s m below meth c b 544 (LV X b i) [] I := by
  refine l_rec1 C dL_law_544 ?_
  refine l_arg C (j := 1) rfl (by omega) dL_law_545 dL_law_546 dL_law_547 dL_law_548 dL_law_549 ?_
  refine l_arg C (j := 2) rfl (by omega) dL_law_550 dL_law_551 dL_law_552 dL_law_553 dL_law_554 ?_
  refine l_c1 (As := [iv _, iv _]) C ((pr_sheet (rg_to _) (rg_to _)).to2) hR okX8_sheet rfl rfl kmL_69 dL_law_555 (fun z J D2 hD2 hM => ?_)
  refine l_rec2 C dL_law_558 ?_
  refine l_arg C (j := 1) rfl (by omega) dL_law_559 dL_law_560 dL_law_561 dL_law_562 dL_law_563 ?_
  refine l_arg C (j := 2) rfl (by omega) dL_law_564 dL_law_565 dL_law_566 dL_law_567 dL_law_568 ?_
  exact l_c2 (As := [iv _, iv _]) (tgt := 1068) C hD2 hM okX9_sheet rfl rfl kmL_72 dL_law_569 dL_law_572 rfl hk
theorem kmL_73 : Cond.methodLink R_law 73 yX8_desk ∈ lw_tbl := List.mem_of_getElem? (i := 654) (by decide +kernel)
theorem kmL_76 : Cond.methodLink R_law 76 yX9_desk ∈ lw_tbl := List.mem_of_getElem? (i := 1137) (by decide +kernel)
set_option maxRecDepth 20000 in
theorem ca13 {X : XC} {p : Program} {e : Env} {s : State} {m : MethodId} {below : List Frame} {meth : Method} {c : Code} {b L : Nat} {xs : Nat → Int32} {i : Nat} {I : HD} (C : LC X p s m c b L xs) (hi : i + 6 ≤ L) (hR : RC I I) (hk : ∀ J, RC J J → Lw X p e s m below meth c b 1068 (LV X b i) [] J) : Lw X p e s m below meth c b 577 (LV X b i) [] I := by
  refine l_rec1 C dL_law_577 ?_
  refine l_arg C (j := 1) rfl (by omega) dL_law_578 dL_law_579 dL_law_580 dL_law_581 dL_law_582 ?_
  refine l_arg C (j := 2) rfl (by omega) dL_law_583 dL_law_584 dL_law_585 dL_law_586 dL_law_587 ?_
  refine l_c1 (As := [iv _, iv _]) C ((pr_desk (rg_to _) (rg_to _)).to2) hR okX8_desk rfl rfl kmL_73 dL_law_588 (fun z J D2 hD2 hM => ?_)
  refine l_rec2 C dL_law_591 ?_
  refine l_arg C (j := 1) rfl (by omega) dL_law_592 dL_law_593 dL_law_594 dL_law_595 dL_law_596 ?_
  refine l_arg C (j := 2) rfl (by omega) dL_law_597 dL_law_598 dL_law_599 dL_law_600 dL_law_601 ?_
  exact l_c2 (As := [iv _, iv _]) (tgt := 1068) C hD2 hM okX9_desk rfl rfl kmL_76 dL_law_602 dL_law_605 rfl hk
theorem kmL_77 : Cond.methodLink R_law 77 yX8_taken ∈ lw_tbl := List.mem_of_getElem? (i := 659) (by decide +kernel)
theorem kmL_80 : Cond.methodLink R_law 80 yX9_taken ∈ lw_tbl := List.mem_of_getElem? (i := 1141) (by decide +kernel)
set_option maxRecDepth 20000 in
theorem ca14 {X : XC} {p : Program} {e : Env} {s : State} {m : MethodId} {below : List Frame} {meth : Method} {c : Code} {b L : Nat} {xs : Nat → Int32} {i : Nat} {I : HD} (C : LC X p s m c b L xs) (hi : i + 6 ≤ L) (hR : RC I I) (hk : ∀ J, RC J J → Lw X p e s m below meth c b 1068 (LV X b i) [] J) : Lw X p e s m below meth c b 610 (LV X b i) [] I := by
  refine l_rec1 C dL_law_610 ?_
  refine l_arg C (j := 1) rfl (by omega) dL_law_611 dL_law_612 dL_law_613 dL_law_614 dL_law_615 ?_
  refine l_arg C (j := 2) rfl (by omega) dL_law_616 dL_law_617 dL_law_618 dL_law_619 dL_law_620 ?_
  refine l_c1 (As := [iv _, iv _]) C ((pr_taken (rg_to _) (rg_to _)).to2) hR okX8_taken rfl rfl kmL_77 dL_law_621 (fun z J D2 hD2 hM => ?_)
  refine l_rec2 C dL_law_624 ?_
  refine l_arg C (j := 1) rfl (by omega) dL_law_625 dL_law_626 dL_law_627 dL_law_628 dL_law_629 ?_
  refine l_arg C (j := 2) rfl (by omega) dL_law_630 dL_law_631 dL_law_632 dL_law_633 dL_law_634 ?_
  exact l_c2 (As := [iv _, iv _]) (tgt := 1068) C hD2 hM okX9_taken rfl rfl kmL_80 dL_law_635 dL_law_638 rfl hk
theorem kmL_81 : Cond.methodLink R_law 81 yX8_mean ∈ lw_tbl := List.mem_of_getElem? (i := 674) (by decide +kernel)
theorem kmL_84 : Cond.methodLink R_law 84 yX9_mean ∈ lw_tbl := List.mem_of_getElem? (i := 1154) (by decide +kernel)
set_option maxRecDepth 20000 in
theorem ca15 {X : XC} {p : Program} {e : Env} {s : State} {m : MethodId} {below : List Frame} {meth : Method} {c : Code} {b L : Nat} {xs : Nat → Int32} {i : Nat} {I : HD} (C : LC X p s m c b L xs) (hi : i + 6 ≤ L) (hR : RC I I) (hk : ∀ J, RC J J → Lw X p e s m below meth c b 1068 (LV X b i) [] J) : Lw X p e s m below meth c b 643 (LV X b i) [] I := by
  refine l_rec1 C dL_law_643 ?_
  refine l_arg C (j := 1) rfl (by omega) dL_law_644 dL_law_645 dL_law_646 dL_law_647 dL_law_648 ?_
  refine l_arg C (j := 2) rfl (by omega) dL_law_649 dL_law_650 dL_law_651 dL_law_652 dL_law_653 ?_
  refine l_c1 (As := [iv _, iv _]) C ((pr_mean (rg_to _) (rg_to _)).to2) hR okX8_mean rfl rfl kmL_81 dL_law_654 (fun z J D2 hD2 hM => ?_)
  refine l_rec2 C dL_law_657 ?_
  refine l_arg C (j := 1) rfl (by omega) dL_law_658 dL_law_659 dL_law_660 dL_law_661 dL_law_662 ?_
  refine l_arg C (j := 2) rfl (by omega) dL_law_663 dL_law_664 dL_law_665 dL_law_666 dL_law_667 ?_
  exact l_c2 (As := [iv _, iv _]) (tgt := 1068) C hD2 hM okX9_mean rfl rfl kmL_84 dL_law_668 dL_law_671 rfl hk
theorem kmL_85 : Cond.methodLink R_law 85 yX8_order ∈ lw_tbl := List.mem_of_getElem? (i := 692) (by decide +kernel)
theorem kmL_88 : Cond.methodLink R_law 88 yX9_order ∈ lw_tbl := List.mem_of_getElem? (i := 1159) (by decide +kernel)
set_option maxRecDepth 20000 in
theorem ca16 {X : XC} {p : Program} {e : Env} {s : State} {m : MethodId} {below : List Frame} {meth : Method} {c : Code} {b L : Nat} {xs : Nat → Int32} {i : Nat} {I : HD} (C : LC X p s m c b L xs) (hi : i + 6 ≤ L) (hR : RC I I) (hk : ∀ J, RC J J → Lw X p e s m below meth c b 1068 (LV X b i) [] J) : Lw X p e s m below meth c b 676 (LV X b i) [] I := by
  refine l_rec1 C dL_law_676 ?_
  refine l_arg C (j := 1) rfl (by omega) dL_law_677 dL_law_678 dL_law_679 dL_law_680 dL_law_681 ?_
  refine l_arg C (j := 2) rfl (by omega) dL_law_682 dL_law_683 dL_law_684 dL_law_685 dL_law_686 ?_
  refine l_arg C (j := 3) rfl (by omega) dL_law_687 dL_law_688 dL_law_689 dL_law_690 dL_law_691 ?_
  refine l_c1 (As := [iv _, iv _, iv _]) C ((pr_order (rg_to _) (rg_to _) (rg_to _)).to2) hR okX8_order rfl rfl kmL_85 dL_law_692 (fun z J D2 hD2 hM => ?_)
  refine l_rec2 C dL_law_695 ?_
  refine l_arg C (j := 1) rfl (by omega) dL_law_696 dL_law_697 dL_law_698 dL_law_699 dL_law_700 ?_
  refine l_arg C (j := 2) rfl (by omega) dL_law_701 dL_law_702 dL_law_703 dL_law_704 dL_law_705 ?_
  refine l_arg C (j := 3) rfl (by omega) dL_law_706 dL_law_707 dL_law_708 dL_law_709 dL_law_710 ?_
  exact l_c2 (As := [iv _, iv _, iv _]) (tgt := 1068) C hD2 hM okX9_order rfl rfl kmL_88 dL_law_711 dL_law_714 rfl hk
theorem kmL_89 : Cond.methodLink R_law 89 yX8_cover ∈ lw_tbl := List.mem_of_getElem? (i := 716) (by decide +kernel)
theorem kmL_92 : Cond.methodLink R_law 92 yX9_cover ∈ lw_tbl := List.mem_of_getElem? (i := 1175) (by decide +kernel)
set_option maxRecDepth 20000 in
theorem ca17 {X : XC} {p : Program} {e : Env} {s : State} {m : MethodId} {below : List Frame} {meth : Method} {c : Code} {b L : Nat} {xs : Nat → Int32} {i : Nat} {I : HD} (C : LC X p s m c b L xs) (hi : i + 6 ≤ L) (hR : RC I I) (hk : ∀ J, RC J J → Lw X p e s m below meth c b 1068 (LV X b i) [] J) : Lw X p e s m below meth c b 719 (LV X b i) [] I := by
  refine l_rec1 C dL_law_719 ?_
  refine l_arg C (j := 1) rfl (by omega) dL_law_720 dL_law_721 dL_law_722 dL_law_723 dL_law_724 ?_
  refine l_arg C (j := 2) rfl (by omega) dL_law_725 dL_law_726 dL_law_727 dL_law_728 dL_law_729 ?_
  refine l_c1 (As := [iv _, iv _]) C ((pr_cover (rg_to _) (rg_to _)).to2) hR okX8_cover rfl rfl kmL_89 dL_law_730 (fun z J D2 hD2 hM => ?_)
  refine l_rec2 C dL_law_733 ?_
  refine l_arg C (j := 1) rfl (by omega) dL_law_734 dL_law_735 dL_law_736 dL_law_737 dL_law_738 ?_
  refine l_arg C (j := 2) rfl (by omega) dL_law_739 dL_law_740 dL_law_741 dL_law_742 dL_law_743 ?_
  exact l_c2 (As := [iv _, iv _]) (tgt := 1068) C hD2 hM okX9_cover rfl rfl kmL_92 dL_law_744 dL_law_747 rfl hk
theorem kmL_93 : Cond.methodLink R_law 93 yX8_lend ∈ lw_tbl := List.mem_of_getElem? (i := 725) (by decide +kernel)
theorem kmL_96 : Cond.methodLink R_law 96 yX9_lend ∈ lw_tbl := List.mem_of_getElem? (i := 1183) (by decide +kernel)
set_option maxRecDepth 20000 in
theorem ca18 {X : XC} {p : Program} {e : Env} {s : State} {m : MethodId} {below : List Frame} {meth : Method} {c : Code} {b L : Nat} {xs : Nat → Int32} {i : Nat} {I : HD} (C : LC X p s m c b L xs) (hi : i + 6 ≤ L) (hR : RC I I) (hk : ∀ J, RC J J → Lw X p e s m below meth c b 1068 (LV X b i) [] J) : Lw X p e s m below meth c b 752 (LV X b i) [] I := by
  refine l_rec1 C dL_law_752 ?_
  refine l_arg C (j := 1) rfl (by omega) dL_law_753 dL_law_754 dL_law_755 dL_law_756 dL_law_757 ?_
  refine l_arg C (j := 2) rfl (by omega) dL_law_758 dL_law_759 dL_law_760 dL_law_761 dL_law_762 ?_
  refine l_c1 (As := [iv _, iv _]) C ((pr_lend (rg_to _) (rg_to _)).to2) hR okX8_lend rfl rfl kmL_93 dL_law_763 (fun z J D2 hD2 hM => ?_)
  refine l_rec2 C dL_law_766 ?_
  refine l_arg C (j := 1) rfl (by omega) dL_law_767 dL_law_768 dL_law_769 dL_law_770 dL_law_771 ?_
  refine l_arg C (j := 2) rfl (by omega) dL_law_772 dL_law_773 dL_law_774 dL_law_775 dL_law_776 ?_
  exact l_c2 (As := [iv _, iv _]) (tgt := 1068) C hD2 hM okX9_lend rfl rfl kmL_96 dL_law_777 dL_law_780 rfl hk
theorem kmL_97 : Cond.methodLink R_law 97 yX8_beach ∈ lw_tbl := List.mem_of_getElem? (i := 737) (by decide +kernel)
theorem kmL_101 : Cond.methodLink R_law 101 yX9_beach ∈ lw_tbl := List.mem_of_getElem? (i := 1195) (by decide +kernel)
set_option maxRecDepth 20000 in
theorem ca19 {X : XC} {p : Program} {e : Env} {s : State} {m : MethodId} {below : List Frame} {meth : Method} {c : Code} {b L : Nat} {xs : Nat → Int32} {i : Nat} {I : HD} (C : LC X p s m c b L xs) (hi : i + 6 ≤ L) (hR : RC I I) (hk : ∀ J, RC J J → Lw X p e s m below meth c b 1068 (LV X b i) [] J) : Lw X p e s m below meth c b 785 (LV X b i) [] I := by
  refine l_rec1 C dL_law_785 ?_
  refine l_arg C (j := 1) rfl (by omega) dL_law_786 dL_law_787 dL_law_788 dL_law_789 dL_law_790 ?_
  refine l_arg C (j := 2) rfl (by omega) dL_law_791 dL_law_792 dL_law_793 dL_law_794 dL_law_795 ?_
  refine l_arg C (j := 3) rfl (by omega) dL_law_796 dL_law_797 dL_law_798 dL_law_799 dL_law_800 ?_
  refine l_arg C (j := 4) rfl (by omega) dL_law_801 dL_law_802 dL_law_803 dL_law_804 dL_law_805 ?_
  refine l_c1 (As := [iv _, iv _, iv _, iv _]) C ((pr_beach (rg_to _) (rg_to _) (rg_to _) (rg_to _)).to2) hR okX8_beach rfl rfl kmL_97 dL_law_806 (fun z J D2 hD2 hM => ?_)
  refine l_rec2 C dL_law_809 ?_
  refine l_arg C (j := 1) rfl (by omega) dL_law_810 dL_law_811 dL_law_812 dL_law_813 dL_law_814 ?_
  refine l_arg C (j := 2) rfl (by omega) dL_law_815 dL_law_816 dL_law_817 dL_law_818 dL_law_819 ?_
  refine l_arg C (j := 3) rfl (by omega) dL_law_820 dL_law_821 dL_law_822 dL_law_823 dL_law_824 ?_
  refine l_arg C (j := 4) rfl (by omega) dL_law_825 dL_law_826 dL_law_827 dL_law_828 dL_law_829 ?_
  exact l_c2 (As := [iv _, iv _, iv _, iv _]) (tgt := 1068) C hD2 hM okX9_beach rfl rfl kmL_101 dL_law_830 dL_law_833 rfl hk
theorem kmL_102 : Cond.methodLink R_law 102 yX8_window ∈ lw_tbl := List.mem_of_getElem? (i := 752) (by decide +kernel)
theorem kmL_105 : Cond.methodLink R_law 105 yX9_window ∈ lw_tbl := List.mem_of_getElem? (i := 1200) (by decide +kernel)
set_option maxRecDepth 20000 in
theorem ca20 {X : XC} {p : Program} {e : Env} {s : State} {m : MethodId} {below : List Frame} {meth : Method} {c : Code} {b L : Nat} {xs : Nat → Int32} {i : Nat} {I : HD} (C : LC X p s m c b L xs) (hi : i + 6 ≤ L) (hR : RC I I) (hk : ∀ J, RC J J → Lw X p e s m below meth c b 1068 (LV X b i) [] J) : Lw X p e s m below meth c b 838 (LV X b i) [] I := by
  refine l_rec1 C dL_law_838 ?_
  refine l_c1 (As := []) C (pr_window.to2) hR okX8_window rfl rfl kmL_102 dL_law_839 (fun z J D2 hD2 hM => ?_)
  refine l_rec2 C dL_law_842 ?_
  exact l_c2 (As := []) (tgt := 1068) C hD2 hM okX9_window rfl rfl kmL_105 dL_law_843 dL_law_846 rfl hk
theorem kmL_106 : Cond.methodLink R_law 106 yX8_missed ∈ lw_tbl := List.mem_of_getElem? (i := 760) (by decide +kernel)
theorem kmL_109 : Cond.methodLink R_law 109 yX9_missed ∈ lw_tbl := List.mem_of_getElem? (i := 1204) (by decide +kernel)
set_option maxRecDepth 20000 in
theorem ca21 {X : XC} {p : Program} {e : Env} {s : State} {m : MethodId} {below : List Frame} {meth : Method} {c : Code} {b L : Nat} {xs : Nat → Int32} {i : Nat} {I : HD} (C : LC X p s m c b L xs) (hi : i + 6 ≤ L) (hR : RC I I) (hk : ∀ J, RC J J → Lw X p e s m below meth c b 1068 (LV X b i) [] J) : Lw X p e s m below meth c b 851 (LV X b i) [] I := by
  refine l_rec1 C dL_law_851 ?_
  refine l_arg C (j := 1) rfl (by omega) dL_law_852 dL_law_853 dL_law_854 dL_law_855 dL_law_856 ?_
  refine l_c1 (As := [iv _]) C ((pr_missed (rg_to _)).to2) hR okX8_missed rfl rfl kmL_106 dL_law_857 (fun z J D2 hD2 hM => ?_)
  refine l_rec2 C dL_law_860 ?_
  refine l_arg C (j := 1) rfl (by omega) dL_law_861 dL_law_862 dL_law_863 dL_law_864 dL_law_865 ?_
  exact l_c2 (As := [iv _]) (tgt := 1068) C hD2 hM okX9_missed rfl rfl kmL_109 dL_law_866 dL_law_869 rfl hk
theorem kmL_110 : Cond.methodLink R_law 110 yX8_image ∈ lw_tbl := List.mem_of_getElem? (i := 773) (by decide +kernel)
theorem kmL_113 : Cond.methodLink R_law 113 yX9_image ∈ lw_tbl := List.mem_of_getElem? (i := 1208) (by decide +kernel)
set_option maxRecDepth 20000 in
theorem ca22 {X : XC} {p : Program} {e : Env} {s : State} {m : MethodId} {below : List Frame} {meth : Method} {c : Code} {b L : Nat} {xs : Nat → Int32} {i : Nat} {I : HD} (C : LC X p s m c b L xs) (hi : i + 6 ≤ L) (hR : RC I I) (hk : ∀ J, RC J J → Lw X p e s m below meth c b 1068 (LV X b i) [] J) : Lw X p e s m below meth c b 874 (LV X b i) [] I := by
  refine l_rec1 C dL_law_874 ?_
  refine l_arg C (j := 1) rfl (by omega) dL_law_875 dL_law_876 dL_law_877 dL_law_878 dL_law_879 ?_
  refine l_c1 (As := [iv _]) C ((pr_image (rg_to _)).to2) hR okX8_image rfl rfl kmL_110 dL_law_880 (fun z J D2 hD2 hM => ?_)
  refine l_rec2 C dL_law_883 ?_
  refine l_arg C (j := 1) rfl (by omega) dL_law_884 dL_law_885 dL_law_886 dL_law_887 dL_law_888 ?_
  exact l_c2 (As := [iv _]) (tgt := 1068) C hD2 hM okX9_image rfl rfl kmL_113 dL_law_889 dL_law_892 rfl hk
theorem kmL_114 : Cond.methodLink R_law 114 yX8_restore ∈ lw_tbl := List.mem_of_getElem? (i := 780) (by decide +kernel)
theorem kmL_117 : Cond.methodLink R_law 117 yX9_restore ∈ lw_tbl := List.mem_of_getElem? (i := 1212) (by decide +kernel)
set_option maxRecDepth 20000 in
theorem ca23 {X : XC} {p : Program} {e : Env} {s : State} {m : MethodId} {below : List Frame} {meth : Method} {c : Code} {b L : Nat} {xs : Nat → Int32} {i : Nat} {I : HD} (C : LC X p s m c b L xs) (hi : i + 6 ≤ L) (hR : RC I I) (hk : ∀ J, RC J J → Lw X p e s m below meth c b 1068 (LV X b i) [] J) : Lw X p e s m below meth c b 897 (LV X b i) [] I := by
  refine l_rec1 C dL_law_897 ?_
  refine l_arg C (j := 1) rfl (by omega) dL_law_898 dL_law_899 dL_law_900 dL_law_901 dL_law_902 ?_
  refine l_c1 (As := [iv _]) C ((pr_restore (rg_to _)).to2) hR okX8_restore rfl rfl kmL_114 dL_law_903 (fun z J D2 hD2 hM => ?_)
  refine l_rec2 C dL_law_906 ?_
  refine l_arg C (j := 1) rfl (by omega) dL_law_907 dL_law_908 dL_law_909 dL_law_910 dL_law_911 ?_
  exact l_c2 (As := [iv _]) (tgt := 1068) C hD2 hM okX9_restore rfl rfl kmL_117 dL_law_912 dL_law_915 rfl hk
theorem kmL_118 : Cond.methodLink R_law 118 yX8_kind ∈ lw_tbl := List.mem_of_getElem? (i := 784) (by decide +kernel)
theorem kmL_121 : Cond.methodLink R_law 121 yX9_kind ∈ lw_tbl := List.mem_of_getElem? (i := 1216) (by decide +kernel)
set_option maxRecDepth 20000 in
theorem ca24 {X : XC} {p : Program} {e : Env} {s : State} {m : MethodId} {below : List Frame} {meth : Method} {c : Code} {b L : Nat} {xs : Nat → Int32} {i : Nat} {I : HD} (C : LC X p s m c b L xs) (hi : i + 6 ≤ L) (hR : RC I I) (hk : ∀ J, RC J J → Lw X p e s m below meth c b 1068 (LV X b i) [] J) : Lw X p e s m below meth c b 920 (LV X b i) [] I := by
  refine l_rec1 C dL_law_920 ?_
  refine l_arg C (j := 1) rfl (by omega) dL_law_921 dL_law_922 dL_law_923 dL_law_924 dL_law_925 ?_
  refine l_c1 (As := [iv _]) C ((pr_kind (rg_to _)).to2) hR okX8_kind rfl rfl kmL_118 dL_law_926 (fun z J D2 hD2 hM => ?_)
  refine l_rec2 C dL_law_929 ?_
  refine l_arg C (j := 1) rfl (by omega) dL_law_930 dL_law_931 dL_law_932 dL_law_933 dL_law_934 ?_
  exact l_c2 (As := [iv _]) (tgt := 1068) C hD2 hM okX9_kind rfl rfl kmL_121 dL_law_935 dL_law_938 rfl hk
theorem kmL_122 : Cond.methodLink R_law 122 yX8_as ∈ lw_tbl := List.mem_of_getElem? (i := 788) (by decide +kernel)
theorem kmL_125 : Cond.methodLink R_law 125 yX9_as ∈ lw_tbl := List.mem_of_getElem? (i := 1220) (by decide +kernel)
set_option maxRecDepth 20000 in
theorem ca25 {X : XC} {p : Program} {e : Env} {s : State} {m : MethodId} {below : List Frame} {meth : Method} {c : Code} {b L : Nat} {xs : Nat → Int32} {i : Nat} {I : HD} (C : LC X p s m c b L xs) (hi : i + 6 ≤ L) (hR : RC I I) (hk : ∀ J, RC J J → Lw X p e s m below meth c b 1068 (LV X b i) [] J) : Lw X p e s m below meth c b 943 (LV X b i) [] I := by
  refine l_rec1 C dL_law_943 ?_
  refine l_arg C (j := 1) rfl (by omega) dL_law_944 dL_law_945 dL_law_946 dL_law_947 dL_law_948 ?_
  refine l_arg C (j := 2) rfl (by omega) dL_law_949 dL_law_950 dL_law_951 dL_law_952 dL_law_953 ?_
  refine l_c1 (As := [iv _, iv _]) C ((pr_as (rg_to _) (rg_to _)).to2) hR okX8_as rfl rfl kmL_122 dL_law_954 (fun z J D2 hD2 hM => ?_)
  refine l_rec2 C dL_law_957 ?_
  refine l_arg C (j := 1) rfl (by omega) dL_law_958 dL_law_959 dL_law_960 dL_law_961 dL_law_962 ?_
  refine l_arg C (j := 2) rfl (by omega) dL_law_963 dL_law_964 dL_law_965 dL_law_966 dL_law_967 ?_
  exact l_c2 (As := [iv _, iv _]) (tgt := 1068) C hD2 hM okX9_as rfl rfl kmL_125 dL_law_968 dL_law_971 rfl hk
theorem kmL_126 : Cond.methodLink R_law 126 yX8_ask ∈ lw_tbl := List.mem_of_getElem? (i := 801) (by decide +kernel)
theorem kmL_129 : Cond.methodLink R_law 129 yX9_ask ∈ lw_tbl := List.mem_of_getElem? (i := 1227) (by decide +kernel)
set_option maxRecDepth 20000 in
theorem ca26 {X : XC} {p : Program} {e : Env} {s : State} {m : MethodId} {below : List Frame} {meth : Method} {c : Code} {b L : Nat} {xs : Nat → Int32} {i : Nat} {I : HD} (C : LC X p s m c b L xs) (hi : i + 6 ≤ L) (hR : RC I I) (hk : ∀ J, RC J J → Lw X p e s m below meth c b 1068 (LV X b i) [] J) : Lw X p e s m below meth c b 976 (LV X b i) [] I := by
  refine l_rec1 C dL_law_976 ?_
  refine l_arg C (j := 1) rfl (by omega) dL_law_977 dL_law_978 dL_law_979 dL_law_980 dL_law_981 ?_
  refine l_arg C (j := 2) rfl (by omega) dL_law_982 dL_law_983 dL_law_984 dL_law_985 dL_law_986 ?_
  refine l_c1 (As := [iv _, iv _]) C ((pr_ask (rg_to _) (rg_to _)).to2) hR okX8_ask rfl rfl kmL_126 dL_law_987 (fun z J D2 hD2 hM => ?_)
  refine l_rec2 C dL_law_990 ?_
  refine l_arg C (j := 1) rfl (by omega) dL_law_991 dL_law_992 dL_law_993 dL_law_994 dL_law_995 ?_
  refine l_arg C (j := 2) rfl (by omega) dL_law_996 dL_law_997 dL_law_998 dL_law_999 dL_law_1000 ?_
  exact l_c2 (As := [iv _, iv _]) (tgt := 1068) C hD2 hM okX9_ask rfl rfl kmL_129 dL_law_1001 dL_law_1004 rfl hk
theorem kmL_130 : Cond.methodLink R_law 130 yX8_trace ∈ lw_tbl := List.mem_of_getElem? (i := 823) (by decide +kernel)
theorem kmL_133 : Cond.methodLink R_law 133 yX9_trace ∈ lw_tbl := List.mem_of_getElem? (i := 1251) (by decide +kernel)
set_option maxRecDepth 20000 in
theorem ca27 {X : XC} {p : Program} {e : Env} {s : State} {m : MethodId} {below : List Frame} {meth : Method} {c : Code} {b L : Nat} {xs : Nat → Int32} {i : Nat} {I : HD} (C : LC X p s m c b L xs) (hi : i + 6 ≤ L) (hR : RC I I) (hk : ∀ J, RC J J → Lw X p e s m below meth c b 1068 (LV X b i) [] J) : Lw X p e s m below meth c b 1009 (LV X b i) [] I := by
  refine l_rec1 C dL_law_1009 ?_
  refine l_arg C (j := 1) rfl (by omega) dL_law_1010 dL_law_1011 dL_law_1012 dL_law_1013 dL_law_1014 ?_
  refine l_c1 (As := [iv _]) C ((pr_trace (rg_to _)).to2) hR okX8_trace rfl rfl kmL_130 dL_law_1015 (fun z J D2 hD2 hM => ?_)
  refine l_rec2 C dL_law_1018 ?_
  refine l_arg C (j := 1) rfl (by omega) dL_law_1019 dL_law_1020 dL_law_1021 dL_law_1022 dL_law_1023 ?_
  exact l_c2 (As := [iv _]) (tgt := 1068) C hD2 hM okX9_trace rfl rfl kmL_133 dL_law_1024 dL_law_1027 rfl hk
theorem kmL_134 : Cond.methodLink R_law 134 yX8_count ∈ lw_tbl := List.mem_of_getElem? (i := 827) (by decide +kernel)
theorem kmL_137 : Cond.methodLink R_law 137 yX9_count ∈ lw_tbl := List.mem_of_getElem? (i := 1255) (by decide +kernel)
set_option maxRecDepth 20000 in
theorem ca28 {X : XC} {p : Program} {e : Env} {s : State} {m : MethodId} {below : List Frame} {meth : Method} {c : Code} {b L : Nat} {xs : Nat → Int32} {i : Nat} {I : HD} (C : LC X p s m c b L xs) (hi : i + 6 ≤ L) (hR : RC I I) (hk : ∀ J, RC J J → Lw X p e s m below meth c b 1068 (LV X b i) [] J) : Lw X p e s m below meth c b 1032 (LV X b i) [] I := by
  refine l_rec1 C dL_law_1032 ?_
  refine l_arg C (j := 1) rfl (by omega) dL_law_1033 dL_law_1034 dL_law_1035 dL_law_1036 dL_law_1037 ?_
  refine l_c1 (As := [iv _]) C ((pr_count (rg_to _)).to2) hR okX8_count rfl rfl kmL_134 dL_law_1038 (fun z J D2 hD2 hM => ?_)
  refine l_rec2 C dL_law_1041 ?_
  refine l_arg C (j := 1) rfl (by omega) dL_law_1042 dL_law_1043 dL_law_1044 dL_law_1045 dL_law_1046 ?_
  exact l_c2 (As := [iv _]) (tgt := 1068) C hD2 hM okX9_count rfl rfl kmL_137 dL_law_1047 dL_law_1050 rfl hk
theorem kmL_138 : Cond.methodLink R_law 138 yX8_status ∈ lw_tbl := List.mem_of_getElem? (i := 835) (by decide +kernel)
theorem kmL_141 : Cond.methodLink R_law 141 yX9_status ∈ lw_tbl := List.mem_of_getElem? (i := 1259) (by decide +kernel)
set_option maxRecDepth 20000 in
theorem ca29 {X : XC} {p : Program} {e : Env} {s : State} {m : MethodId} {below : List Frame} {meth : Method} {c : Code} {b L : Nat} {xs : Nat → Int32} {i : Nat} {I : HD} (C : LC X p s m c b L xs) (hi : i + 6 ≤ L) (hR : RC I I) (hk : ∀ J, RC J J → Lw X p e s m below meth c b 1068 (LV X b i) [] J) : Lw X p e s m below meth c b 1055 (LV X b i) [] I := by
  refine l_rec1 C dL_law_1055 ?_
  refine l_c1 (As := []) C (pr_status.to2) hR okX8_status rfl rfl kmL_138 dL_law_1056 (fun z J D2 hD2 hM => ?_)
  refine l_rec2 C dL_law_1059 ?_
  exact l_c2 (As := []) (tgt := 1068) C hD2 hM okX9_status rfl rfl kmL_141 dL_law_1060 dL_law_1063 rfl hk
