/-! ===== 99a: what holds at the law's entry, in the words of the base ===== -/
theorem arrP {args : Array Value} {s : State} {ty : FieldType} (h : (Cond.arrayClass ty).before args s = true) : ∃ cA : ClassId, ArrOfT s cA ty ∧ s.vm.findClass ("[" ++ ty.toString) = some cA := by
  obtain ⟨c, k, comp, h1, h2, h3⟩ := Cond.arrayClass_spec h
  exact ⟨c, fun N z => ⟨fun k h => (by cases h), k, h2, comp, h3⟩, h1⟩
theorem arrO {s : State} {C : String} (h : va_AO C s) : ∃ cA : ClassId, ArrOfT s cA (.object C) ∧ va_RA s cA (.object C) := by
  obtain ⟨comp, c, k, h1, h2, h3, h4, h5⟩ := Cond.arrayOver_spec h
  exact ⟨c, fun N z => ⟨fun k h => (by cases h), k, h3, comp, h4⟩, k, comp, h3, h4, h1, h5⟩
theorem vk_S_cg {N : Nat} {len : List Nat} {byt : List (List Int32)} {a v a2 v2 : Nat → Nat} {A : Nat → Prop} {U : State} {H : Heap} (h : vk_S N len byt a v A U H) (ea : ∀ i, i < N → a2 i = a i) (ev : ∀ i, i < N → v2 i = v i) : vk_S N len byt a2 v2 A U H := by
  refine ⟨fun i hi => ?_, fun i j hi hj e => h.2 i j hi hj (by rw [← ea i hi, ← ea j hj]; exact e)⟩
  rw [ea i hi, ev i hi]
  exact h.1 i hi
abbrev gvn : List Cond := flatC (Jvm.Cond.and given_1 narrow_1)
theorem g_ar : ∀ i, i < 3 → Cond.arrayOf (.static RX1 (roN i) "[I") .int ∈ gvn := by decide +kernel
theorem g_le : ∀ i, i < 3 → Cond.eq (.length (.static RX1 (roN i) "[I")) (.int 6) ∈ gvn := by decide +kernel
theorem g_el : ∀ i, i < 3 → ∀ j, j < 6 → Cond.eq (.elem (.static RX1 (roN i) "[I") (.int (Int32.ofNat j))) (.int (iI (roT i j))) ∈ gvn := by decide +kernel
theorem g_cs : Cond.eq (.static "java/lang/String" "COMPACT_STRINGS" "Z") (.int 1) ∈ gvn := by decide +kernel
theorem g_si : Cond.isRef (.static "jdk/internal/util/Preconditions" "SIOOBE_FORMATTER" "Ljava/util/function/BiFunction;") ∈ gvn := by decide +kernel
abbrev stS (i : Nat) : Term := .string RX4 (stK i)
theorem g_sx : ∀ i, i < 8 → Cond.exactly (stS i) "java/lang/String" ∈ gvn := by decide +kernel
theorem g_sc : ∀ i, i < 8 → Cond.eq (.field (stS i) "java/lang/String" "coder" "B") (.int 0) ∈ gvn := by decide +kernel
theorem g_sa : ∀ i, i < 8 → Cond.arrayOf (.field (stS i) "java/lang/String" "value" "[B") .byte ∈ gvn := by decide +kernel
theorem g_sl : ∀ i, i < 8 → Cond.eq (.length (.field (stS i) "java/lang/String" "value" "[B")) (.int (Int32.ofNat (stL.getD i 0))) ∈ gvn := by decide +kernel
theorem g_se : ∀ i, i < 8 → ∀ j, j < stL.getD i 0 → Cond.eq (.elem (.field (stS i) "java/lang/String" "value" "[B") (.int (Int32.ofNat j))) (.int ((stB.getD i []).getD j 0)) ∈ gvn := by decide +kernel
theorem g_sn : ∀ j, j < 8 → ∀ i, i < j → Cond.not (Cond.eq (stS i) (stS j)) ∈ gvn := by decide +kernel
theorem t_sr0 : Cond.stringRef RX4 (stK 0) (stT 0) ∈ lw_tbl := List.mem_of_getElem? (i := 425) (by decide +kernel)
theorem t_sr1 : Cond.stringRef RX4 (stK 1) (stT 1) ∈ lw_tbl := List.mem_of_getElem? (i := 494) (by decide +kernel)
theorem t_sr2 : Cond.stringRef RX4 (stK 2) (stT 2) ∈ lw_tbl := List.mem_of_getElem? (i := 507) (by decide +kernel)
theorem t_sr3 : Cond.stringRef RX4 (stK 3) (stT 3) ∈ lw_tbl := List.mem_of_getElem? (i := 516) (by decide +kernel)
theorem t_sr4 : Cond.stringRef RX4 (stK 4) (stT 4) ∈ lw_tbl := List.mem_of_getElem? (i := 517) (by decide +kernel)
theorem t_sr5 : Cond.stringRef RX4 (stK 5) (stT 5) ∈ lw_tbl := List.mem_of_getElem? (i := 518) (by decide +kernel)
theorem t_sr6 : Cond.stringRef RX4 (stK 6) (stT 6) ∈ lw_tbl := List.mem_of_getElem? (i := 519) (by decide +kernel)
theorem t_sr7 : Cond.stringRef RX4 (stK 7) (stT 7) ∈ lw_tbl := List.mem_of_getElem? (i := 520) (by decide +kernel)
theorem t_sr : ∀ i, i < 8 → Cond.stringRef RX4 (stK i) (stT i) ∈ lw_tbl := by
  intro i hi
  rcases (show i = 0 ∨ i = 1 ∨ i = 2 ∨ i = 3 ∨ i = 4 ∨ i = 5 ∨ i = 6 ∨ i = 7 by omega) with rfl | rfl | rfl | rfl | rfl | rfl | rfl | rfl
  · exact t_sr0
  · exact t_sr1
  · exact t_sr2
  · exact t_sr3
  · exact t_sr4
  · exact t_sr5
  · exact t_sr6
  · exact t_sr7
theorem t_ls_cs : Cond.laysStatic "java/lang/String" "COMPACT_STRINGS" "Z" ∈ lw_tbl := List.mem_of_getElem? (i := 439) (by decide +kernel)
theorem t_li_cs : Cond.initialized "java/lang/String" ∈ lw_tbl := List.mem_of_getElem? (i := 73) (by decide +kernel)
theorem t_ls_si : Cond.laysStatic "jdk/internal/util/Preconditions" "SIOOBE_FORMATTER" "Ljava/util/function/BiFunction;" ∈ lw_tbl := List.mem_of_getElem? (i := 455) (by decide +kernel)
theorem t_li_si : Cond.initialized "jdk/internal/util/Preconditions" ∈ lw_tbl := List.mem_of_getElem? (i := 75) (by decide +kernel)
theorem t_lr0 : Cond.laysStatic RX1 (roN 0) "[I" ∈ lw_tbl := List.mem_of_getElem? (i := 800) (by decide +kernel)
theorem t_lr1 : Cond.laysStatic RX1 (roN 1) "[I" ∈ lw_tbl := List.mem_of_getElem? (i := 813) (by decide +kernel)
theorem t_lr2 : Cond.laysStatic RX1 (roN 2) "[I" ∈ lw_tbl := List.mem_of_getElem? (i := 815) (by decide +kernel)
theorem t_li1 : Cond.initialized RX1 ∈ lw_tbl := List.mem_of_getElem? (i := 69) (by decide +kernel)
theorem t_ao5 : Cond.arrayOver (.object RX5) ∈ lw_tbl := List.mem_of_getElem? (i := 88) (by decide +kernel)
theorem t_ao3 : Cond.arrayOver (.object RX3) ∈ lw_tbl := List.mem_of_getElem? (i := 216) (by decide +kernel)
theorem t_cl7 : Cond.classLink R_law 7 RX8 ∈ lw_tbl := List.mem_of_getElem? (i := 79) (by decide +kernel)
theorem t_cl10 : Cond.classLink R_law 10 RX9 ∈ lw_tbl := List.mem_of_getElem? (i := 839) (by decide +kernel)
theorem t_ml9 : Cond.methodLink R_law 9 yX8_init ∈ lw_tbl := List.mem_of_getElem? (i := 81) (by decide +kernel)
theorem t_ml12 : Cond.methodLink R_law 12 yX9_init ∈ lw_tbl := List.mem_of_getElem? (i := 841) (by decide +kernel)
theorem begin_ro {b : Nat} {s : State} (hts : ∀ w ∈ lw_tbl, w.before #[Value.ref b] s = true) (hgv : (Jvm.Cond.and given_1 narrow_1).before #[Value.ref b] s = true) {A : Nat → Prop} (hA : ∀ a : Nat, a < s.heap.size → ¬ A a) :
    ∃ sA : Nat → Nat, (∀ i, i < 3 → va_Z RX1 (roN i) "[I" (.ref (sA i)) A s s.heap ∧ va_T .int (sA i) 6 (fun j => .int (iI (roT i j))) A s s.heap) ∧ va_Z "java/lang/String" "COMPACT_STRINGS" "Z" (.int 1) A s s.heap ∧ va_Zq "jdk/internal/util/Preconditions" "SIOOBE_FORMATTER" "Ljava/util/function/BiFunction;" A s s.heap ∧ vk_S 8 stL stB (fun i => sA (10 + i)) (fun i => sA (20 + i)) A s s.heap ∧ ∀ i, i < 8 → vk_R RX4 (stK i) (stT i) (sA (10 + i)) s := by
  have hs := flat_of_before _ hgv
  have st : ∀ i, i < 3 → (Cond.laysStatic RX1 (roN i) "[I").before #[Value.ref b] s = true → ∃ t : Nat, va_Z RX1 (roN i) "[I" (.ref t) A s s.heap ∧ va_T .int t 6 (fun j => .int (iI (roT i j))) A s s.heap := by
    intro i hi hl
    obtain ⟨t, ht, hT⟩ := va_Tof (tm := .static RX1 (roN i) "[I") (ty := .int) (N := 6) (f := fun j => .int (iI (roT i j))) (A := A) (by decide) (hs _ (g_ar i hi)) (va_eqt (hs _ (g_le i hi))) (fun j hj => va_eqt (hs _ (g_el i hi j hj))) hA
    exact ⟨t, va_Zof hl (hts _ t_li1) ht hA, hT⟩
  obtain ⟨t0, z0⟩ := st 0 (by omega) (hts _ t_lr0)
  obtain ⟨t1, z1⟩ := st 1 (by omega) (hts _ t_lr1)
  obtain ⟨t2, z2⟩ := st 2 (by omega) (hts _ t_lr2)
  obtain ⟨adK, adV, hS, hE⟩ := vk_Sof (args := #[Value.ref b]) (s := s) (N := 8) (tm := stS) (len := stL) (byt := stB) (A := A) (by decide) (fun i hi => hs _ (g_sx i hi)) (fun i hi => hs _ (g_sc i hi)) (fun i hi => hs _ (g_sa i hi)) (fun i hi => hs _ (g_sl i hi)) (fun i hi j hj => hs _ (g_se i hi j hj)) (fun i j hi hj hne => by
    rcases Nat.lt_or_gt_of_ne hne with q | q
    · exact .inl (hs _ (g_sn j hj i q))
    · exact .inr (hs _ (g_sn i hi j q))) hA
  have eK : ∀ i, i < 8 → (fun n : Nat => if n = 0 then t0 else if n = 1 then t1 else if n = 2 then t2 else if n < 20 then adK (n - 10) else adV (n - 20)) (10 + i) = adK i := by
    intro i hi
    show (if 10 + i = 0 then t0 else if 10 + i = 1 then t1 else if 10 + i = 2 then t2 else if 10 + i < 20 then adK (10 + i - 10) else adV (10 + i - 20)) = adK i
    rw [if_neg (by omega), if_neg (by omega), if_neg (by omega), if_pos (by omega), show 10 + i - 10 = i by omega]
  have eV : ∀ i, i < 8 → (fun n : Nat => if n = 0 then t0 else if n = 1 then t1 else if n = 2 then t2 else if n < 20 then adK (n - 10) else adV (n - 20)) (20 + i) = adV i := by
    intro i hi
    show (if 20 + i = 0 then t0 else if 20 + i = 1 then t1 else if 20 + i = 2 then t2 else if 20 + i < 20 then adK (20 + i - 10) else adV (20 + i - 20)) = adV i
    rw [if_neg (by omega), if_neg (by omega), if_neg (by omega), if_neg (by omega), show 20 + i - 20 = i by omega]
  refine ⟨fun n => if n = 0 then t0 else if n = 1 then t1 else if n = 2 then t2 else if n < 20 then adK (n - 10) else adV (n - 20), fun i hi => ?_, va_Zof (hts _ t_ls_cs) (hts _ t_li_cs) (va_eqi (hs _ g_cs)) hA, va_Zqof (hts _ t_ls_si) (hts _ t_li_si) (hs _ g_si) hA, vk_S_cg hS eK eV, fun i hi => ?_⟩
  · rcases (show i = 0 ∨ i = 1 ∨ i = 2 by omega) with rfl | rfl | rfl
    · exact z0
    · exact z1
    · exact z2
  · have e := eK i hi
    dsimp only at e ⊢
    rw [e]
    exact vk_R.of (hts _ (t_sr i hi)) (hE i hi)
theorem begin_k {b : Nat} {s : State} (hts : ∀ w ∈ lw_tbl, w.before #[Value.ref b] s = true) : ∃ (D : va_G) (cA : Nat → ClassId), (∀ (c : Nat) (q : vw_C), vwCl[c]? = some q → u_Kn s q.1 q.2.1 q.2.2 (D.1 c) (D.2 c)) ∧ (∀ t, t < 6 → ∀ ty, ([.int, .byte, .long, .boolean, .object RX3, .object RX5] : List FieldType)[t]? = some ty → ArrOfT s (cA t) ty ∧ va_RA s (cA t) ty) := by
  have hw : ∀ {w : Cond}, w ∈ lw_good → w.before #[Value.ref b] s = true := fun h => hts _ (lw_in h)
  have kn : ∀ {ci : Nat} {C : String} {N : Nat} {T : u_T} {ty : Nat → FieldType}, ckX ci C N T ty → Cond.instantiable C N ∈ lw_good → ∃ (cC : ClassId) (iS : Nat → Nat), u_Kn s C T N cC iS := by
    intro ci C N T ty ck hi
    exact u_known hts (fun w h => lw_in (ck.2.1 w h)) (hw hi)
  obtain ⟨c0, i0, n0⟩ := kn ckX0 ki_X0
  obtain ⟨c1, i1, n1⟩ := kn ckX1 ki_X1
  obtain ⟨c2, i2, n2⟩ := kn ckX2 ki_X2
  obtain ⟨c3, i3, n3⟩ := kn ckX3 ki_X3
  obtain ⟨c4, i4, n4⟩ := kn ckX4 ki_X4
  obtain ⟨c5, i5, n5⟩ := kn ckX5 ki_X5
  obtain ⟨c6, i6, n6⟩ := kn ckX6 ki_X6
  obtain ⟨c7, i7, n7⟩ := kn ckX7 ki_X7
  obtain ⟨c8, i8, n8⟩ := kn ckX8 ki_X8
  obtain ⟨c9, i9, n9⟩ := kn ckX9 ki_X9
  obtain ⟨a0, p0, q0⟩ := arrP (hw kar_int)
  obtain ⟨a1, p1, q1⟩ := arrP (hw kar_byte)
  obtain ⟨a2, p2, q2⟩ := arrP (hw kar_long)
  obtain ⟨a3, p3, q3⟩ := arrP (hw kar_boolean)
  obtain ⟨a4, p4, q4⟩ := arrO (va_AO.of (hts _ t_ao3))
  obtain ⟨a5, p5, q5⟩ := arrO (va_AO.of (hts _ t_ao5))
  refine ⟨(fun k => if k = 0 then c0 else if k = 1 then c1 else if k = 2 then c2 else if k = 3 then c3 else if k = 4 then c4 else if k = 5 then c5 else if k = 6 then c6 else if k = 7 then c7 else if k = 8 then c8 else c9, fun k => if k = 0 then i0 else if k = 1 then i1 else if k = 2 then i2 else if k = 3 then i3 else if k = 4 then i4 else if k = 5 then i5 else if k = 6 then i6 else if k = 7 then i7 else if k = 8 then i8 else i9), fun t => if t = 0 then a0 else if t = 1 then a1 else if t = 2 then a2 else if t = 3 then a3 else if t = 4 then a4 else a5, ?_, ?_⟩
  · intro k q hq
    match k, hq with
    | 0, hq => cases hq; exact n0
    | 1, hq => cases hq; exact n1
    | 2, hq => cases hq; exact n2
    | 3, hq => cases hq; exact n3
    | 4, hq => cases hq; exact n4
    | 5, hq => cases hq; exact n5
    | 6, hq => cases hq; exact n6
    | 7, hq => cases hq; exact n7
    | 8, hq => cases hq; exact n8
    | 9, hq => cases hq; exact n9
    | k + 10, hq => simp at hq
  · intro t ht ty hq
    rcases (show t = 0 ∨ t = 1 ∨ t = 2 ∨ t = 3 ∨ t = 4 ∨ t = 5 by omega) with rfl | rfl | rfl | rfl | rfl | rfl <;> cases hq
    · exact ⟨p0, q0⟩
    · exact ⟨p1, q1⟩
    · exact ⟨p2, q2⟩
    · exact ⟨p3, q3⟩
    · exact ⟨p4, q4⟩
    · exact ⟨p5, q5⟩
theorem begin_x (l : Launch) {b : Nat} {s : State} (hts : ∀ w ∈ lw_tbl, w.before #[Value.ref b] s = true) (hgv : (Jvm.Cond.and given_1 narrow_1).before #[Value.ref b] s = true) : ∃ X : XC, X.1 = l ∧ PX X ∧ X.2.2.1 0 = s.heap.size ∧ Cx X s ∧ Ao s := by
  obtain ⟨D, cA, hKc, hKa⟩ := begin_k hts
  obtain ⟨sA, r1, r2, r3, r4, r5⟩ := begin_ro hts hgv (A := fun q => s.heap.size ≤ q) (fun a h => Nat.not_le.mpr h)
  have hpx : PX (l, D, fun h => s.heap.size + pos h, cA, sA) := fun h hh => rfl
  have hAB : ∀ q, AA (l, D, fun h => s.heap.size + pos h, cA, sA) q → s.heap.size ≤ q := by
    rintro q ⟨h, hh, rfl⟩
    exact Nat.le_add_right _ _
  refine ⟨(l, D, fun h => s.heap.size + pos h, cA, sA), rfl, hpx, rfl, ⟨⟨hKc, fun k q hk => ?_⟩, fun w hw => ?_, hpx.inj, ⟨fun i hi => ⟨(r1 i hi).1.narrow hAB, (r1 i hi).2.narrow hAB⟩, r2.narrow hAB, va_Zq.narrow r3 hAB, r4.narrow hAB, r5⟩⟩, va_AO.of (hts _ t_ao3), va_AO.of (hts _ t_ao5)⟩
  · have h6 : k < 6 := (List.getElem?_eq_some_iff.mp hk).1
    rcases (show k = 0 ∨ k = 1 ∨ k = 2 ∨ k = 3 ∨ k = 4 ∨ k = 5 by omega) with rfl | rfl | rfl | rfl | rfl | rfl <;> cases hk <;> exact hKa _ (by decide) _ rfl
  · have h1 := (List.mem_filter.mp hw).1
    have h3 := (List.mem_filter.mp hw).2
    cases w <;> first | (cases h3; done) | exact va_Nw.of rfl (hts _ h1)
