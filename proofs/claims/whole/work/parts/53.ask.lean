def askL (k w : Int) : List Int := if w = 0 then (if k = 1 then [11, 10, 21, 20] else if k = 2 then [11, 10, 22, 21, 20] else if k = 3 then [12, 11, 10, 24, 22, 21, 20] else if k = 4 then [14, 11, 10, 21, 20] else [13, 10]) else (if k = 1 then [21, 20] else if k = 2 then [22, 21, 20] else if k = 3 then [24, 22, 21, 20] else if k = 4 then [21, 20] else [23, 20, 13, 10])
def askZ (k w v p n : Int) : Int := if w = 0 then (if k = 1 then v + (p + n) else if k = 2 then v + (p + n - 1000) else if k = 3 then -(v + (2 * (p + n - 1000))) else if k = 4 then 2 * (v + (p + n)) else v - 100) else (if k = 1 then p + n else if k = 2 then p + n - 1000 else if k = 3 then 2 * (p + n - 1000) else if k = 4 then p + n else p - (v - 100))
def askV (O : OF) (p w : Int) : Int := askZ (O (63 + 4 * p)) w (O (64 + 4 * p)) p (O (65 + 4 * p))
theorem askL_le {k w : Int} : (askL k w).length ≤ 7 := by
  unfold askL
  repeat' split
  all_goals decide
theorem kbg (X : XC) {I : HD} {O : OF} {p w : Int} (hR : RepC O I 0) (hV : Val O) (hp0 : 0 ≤ p) (hp1 : p < O 1) (w0 : 0 ≤ w) (w1 : w ≤ 1) : Cl X 7 mX1_begin [rv X 28, rv X (oH 0), iv p, iv w] I (Ki (askV O p w) (psL (up I 28 1 0) 29 28 1 0 (askL (O (63 + 4 * p)) w))) := by
  have qp := hV.p hp0 hp1
  rcases (by omega : w = 0 ∨ w = 1) with rfl | rfl
  · rcases (by omega : O (63 + 4 * p) = 1 ∨ O (63 + 4 * p) = 2 ∨ O (63 + 4 * p) = 3 ∨ O (63 + 4 * p) = 4 ∨ O (63 + 4 * p) = 5) with hk | hk | hk | hk | hk
    · have h := kbg10 X hR hV hp0 hp1 hk; unfold askV; rw [hk]; exact h
    · have h := kbg20 X hR hV hp0 hp1 hk; unfold askV; rw [hk]; exact h
    · have h := kbg30 X hR hV hp0 hp1 hk; unfold askV; rw [hk]; exact h
    · have h := kbg40 X hR hV hp0 hp1 hk; unfold askV; rw [hk]; exact h
    · have h := kbg50 X hR hV hp0 hp1 hk; unfold askV; rw [hk]; exact h
  · rcases (by omega : O (63 + 4 * p) = 1 ∨ O (63 + 4 * p) = 2 ∨ O (63 + 4 * p) = 3 ∨ O (63 + 4 * p) = 4 ∨ O (63 + 4 * p) = 5) with hk | hk | hk | hk | hk
    · have h := kbg11 X hR hV hp0 hp1 hk; unfold askV; rw [hk]; exact h
    · have h := kbg21 X hR hV hp0 hp1 hk; unfold askV; rw [hk]; exact h
    · have h := kbg31 X hR hV hp0 hp1 hk; unfold askV; rw [hk]; exact h
    · have h := kbg41 X hR hV hp0 hp1 hk; unfold askV; rw [hk]; exact h
    · have h := kbg51 X hR hV hp0 hp1 hk; unfold askV; rw [hk]; exact h
theorem kmk9 (X : XC) {I : HD} {O : OF} {p w : Int} (hO : I 34 = O) (hV : Val O) (hp0 : 0 ≤ p) (hp1 : p < O 1) (ht : I 30 27 = 0) (hw : w = 1) : Cl X 3 mX9_markOf [rv X 30, iv p] I (Ki (askV O p w) (psL I 44 30 27 0 (askL (O (63 + 4 * p)) w))) := by
  have qp := hV.p hp0 hp1
  subst hw
  rcases (by omega : O (63 + 4 * p) = 1 ∨ O (63 + 4 * p) = 2 ∨ O (63 + 4 * p) = 3 ∨ O (63 + 4 * p) = 4 ∨ O (63 + 4 * p) = 5) with hk | hk | hk | hk | hk
  · have h := (kmk9_1 X hO hV hp0 hp1 ht (by omega) (by omega) hk); unfold askV; rw [hk]; exact h
  · have h := (kmk9_2 X hO hV hp0 hp1 ht (by omega) (by omega) hk); unfold askV; rw [hk]; exact h
  · have h := (kmk9_3 X hO hV hp0 hp1 ht (by omega) (by omega) hk); unfold askV; rw [hk]; exact h
  · have h := (kmk9_4 X hO hV hp0 hp1 ht (by omega) (by omega) hk); unfold askV; rw [hk]; exact h
  · have h := (kmk9_5 X hO hV hp0 hp1 ht (by omega) (by omega) hk); unfold askV; rw [hk]; exact h
theorem ksz9 (X : XC) {I : HD} {O : OF} {p w : Int} (hO : I 34 = O) (hV : Val O) (hp0 : 0 ≤ p) (hp1 : p < O 1) (ht : I 30 27 = 0) (hw : w = 0) : Cl X 4 mX9_sizeOf [rv X 30, iv p] I (Ki (askV O p w) (psL I 44 30 27 0 (askL (O (63 + 4 * p)) w))) := by
  have qp := hV.p hp0 hp1
  subst hw
  rcases (by omega : O (63 + 4 * p) = 1 ∨ O (63 + 4 * p) = 2 ∨ O (63 + 4 * p) = 3 ∨ O (63 + 4 * p) = 4 ∨ O (63 + 4 * p) = 5) with hk | hk | hk | hk | hk
  · have h := (ksz9_1 X hO hV hp0 hp1 ht (by omega) (by omega) hk); unfold askV; rw [hk]; exact h
  · have h := (ksz9_2 X hO hV hp0 hp1 ht (by omega) (by omega) hk); unfold askV; rw [hk]; exact h
  · have h := (ksz9_3 X hO hV hp0 hp1 ht (by omega) (by omega) hk); unfold askV; rw [hk]; exact h
  · have h := (ksz9_4 X hO hV hp0 hp1 ht (by omega) (by omega) hk); unfold askV; rw [hk]; exact h
  · have h := (ksz9_5 X hO hV hp0 hp1 ht (by omega) (by omega) hk); unfold askV; rw [hk]; exact h
set_option maxRecDepth 100000 in
set_option maxHeartbeats 4000000 in
theorem kX8_ask (X : XC) {I : HD} {O : OF} (hR : RepC O I 0) (hV : Val O) {p w : Int} (hp : rg p) (hw : rg w) : Cl X 8 mX8_ask [rv X 0, iv p, iv w] I (fun r J => (¬ (0 ≤ p ∧ p < O 1 ∧ 0 ≤ w ∧ w ≤ 1) → r = some (iv (-1000001)) ∧ J = I) ∧ (0 ≤ p ∧ p < O 1 ∧ 0 ≤ w ∧ w ≤ 1 → r = some (iv (askV O p w)) ∧ J = psL (up I 28 1 0) 29 28 1 0 (askL (O (63 + 4 * p)) w))) := by
  refine Cl.of (by decide) (Nat.le_of_ble_eq_true rfl) ?_
  show Rn X 8 mX8_ask _ 0 [(0, rv X 0), (1, iv p), (2, iv w)] [] I
  unfold rg at hp hw
  have q0 := hV.a
  refine r_aload_n (pc := 0) (a := 0) (i := 0) 0 rfl rfl dX8_ask_0 ?_
  refine r_get (pc := 1) ckX8 (by decide) rfl (j := 2) (by decide) rfl kf_X8_25 dX8_ask_1 ?_
  refine r_iload_n (pc := 4) (a := 1) (i := 1) 1 rfl rfl dX8_ask_4 ?_
  refine r_callVi (pc := 5) (st := []) (As := [iv p]) okX3_hasSheet (by decide) (oH_lt (show 0 < 28 by decide)) (cellO (show 0 < 28 by decide)) rfl rfl (Nat.le_of_ble_eq_true rfl) km_X8_154 (kX3_hasSheet X (by decide) hR hV (by unfold rg; omega)) dX8_ask_5 ?_
  refine r_if_eq (pc := 8) 20 rg_bI dX8_ask_8 (by decide) (fun h8 => ?_) (fun h8 => ?_)
  · skip
    have h8 := bI_0.mp h8
    refine r_ldc (pc := 20) kc_X8_73 dX8_ask_20 ?_
    refine r_iret (pc := 22) (st := []) rfl dX8_ask_22 ?_
    exact ⟨fun _ => ⟨rfl, rfl⟩, fun a => absurd a (by omega)⟩
  · skip
    have h8 := bI_n.mp h8
    refine r_iload_n (pc := 11) (a := 2) (i := 2) 2 rfl rfl dX8_ask_11 ?_
    refine r_if_lt (pc := 12) 20 (by unfold rg; omega) dX8_ask_12 (by decide) (fun h12 => ?_) (fun h12 => ?_)
    · skip
      refine r_ldc (pc := 20) kc_X8_73 dX8_ask_20 ?_
      refine r_iret (pc := 22) (st := []) rfl dX8_ask_22 ?_
      exact ⟨fun _ => ⟨rfl, rfl⟩, fun a => absurd a (by omega)⟩
    · skip
      refine r_iload_n (pc := 15) (a := 2) (i := 2) 2 rfl rfl dX8_ask_15 ?_
      refine r_iconst (pc := 16) dX8_ask_16 ?_
      refine r_icmp_le (pc := 17) 23 (by unfold rg; omega) (by unfold rg; omega) dX8_ask_17 (by decide) (fun h17 => ?_) (fun h17 => ?_)
      · skip
        refine r_aload_n (pc := 23) (a := 0) (i := 0) 0 rfl rfl dX8_ask_23 ?_
        refine r_get (pc := 24) ckX8 (by decide) rfl (j := 7) (by decide) rfl kf_X8_57 dX8_ask_24 ?_
        refine r_aload_n (pc := 27) (a := 0) (i := 0) 0 rfl rfl dX8_ask_27 ?_
        refine r_get (pc := 28) ckX8 (by decide) rfl (j := 2) (by decide) rfl kf_X8_25 dX8_ask_28 ?_
        refine r_iload_n (pc := 31) (a := 1) (i := 1) 1 rfl rfl dX8_ask_31 ?_
        refine r_iload_n (pc := 32) (a := 2) (i := 2) 2 rfl rfl dX8_ask_32 ?_
        refine r_callVi (pc := 33) (st := []) (As := [rv X (oH 0), iv p, iv w]) okX1_begin (by decide) (by decide) rfl rfl rfl (Nat.le_of_ble_eq_true rfl) km_X8_310 (kbg X hR hV h8.1 h8.2 (by omega) (by omega)) dX8_ask_33 ?_
        refine r_iret (pc := 36) (st := []) rfl dX8_ask_36 ?_
        exact ⟨fun a => absurd (show 0 ≤ p ∧ p < O 1 ∧ 0 ≤ w ∧ w ≤ 1 by omega) a, fun _ => ⟨rfl, rfl⟩⟩
      · skip
        refine r_ldc (pc := 20) kc_X8_73 dX8_ask_20 ?_
        refine r_iret (pc := 22) (st := []) rfl dX8_ask_22 ?_
        exact ⟨fun _ => ⟨rfl, rfl⟩, fun a => absurd a (by omega)⟩

set_option maxRecDepth 100000 in
set_option maxHeartbeats 4000000 in
theorem kX9_ask (X : XC) {I : HD} {O : OF} (hO : I 34 = O) (hT : I 30 7 = bI (0 < O 0)) (hV : Val O) {p w : Int} (hp : rg p) (hw : rg w) : Cl X 8 mX9_ask [rv X 30, iv p, iv w] I (fun r J => (¬ (0 ≤ p ∧ p < O 1 ∧ 0 ≤ w ∧ w ≤ 1) → r = some (iv (-1000001)) ∧ J = up I 30 0 0) ∧ (0 ≤ p ∧ p < O 1 ∧ 0 ≤ w ∧ w ≤ 1 → r = some (iv (askV O p w)) ∧ J = psL (up (up I 30 0 0) 30 27 0) 44 30 27 0 (askL (O (63 + 4 * p)) w))) := by
  refine Cl.of (by decide) (Nat.le_of_ble_eq_true rfl) ?_
  show Rn X 8 mX9_ask _ 0 [(0, rv X 30), (1, iv p), (2, iv w)] [] I
  have hO2 : (up I 30 0 0) 34 = O := (up_row (by decide)).trans hO
  have hT2 : (up I 30 0 0) 30 7 = bI (0 < O 0) := (up_i (by decide)).trans hT
  unfold rg at hp hw
  have q0 := hV.a
  refine r_aload_n (pc := 0) (a := 0) (i := 0) 0 rfl rfl dX9_ask_0 ?_
  refine r_iconst (pc := 1) dX9_ask_1 ?_
  refine r_put (pc := 2) 0 (ji := 0) rfl ckX9 (by decide) rfl rfl (by decide) (Nat.le_of_ble_eq_true rfl) kf_X9_54 rfl rfl rfl rfl dX9_ask_2 ?_
  refine r_aload_n (pc := 5) (a := 0) (i := 0) 0 rfl rfl dX9_ask_5 ?_
  refine r_iload_n (pc := 6) (a := 1) (i := 1) 1 rfl rfl dX9_ask_6 ?_
  refine r_callVi (pc := 7) (st := []) (As := [iv p]) okX9_isSheet (by decide) (by decide) rfl rfl rfl (Nat.le_of_ble_eq_true rfl) km_X9_200 (kX9_isSheet X hO2 hV (by unfold rg; omega)) dX9_ask_7 ?_
  refine r_if_eq (pc := 10) 23 rg_bI dX9_ask_10 (by decide) (fun h10 => ?_) (fun h10 => ?_)
  · skip
    have h10 := bI_0.mp h10
    refine r_ldc (pc := 23) kc_X9_74 dX9_ask_23 ?_
    refine r_iret (pc := 25) (st := []) rfl dX9_ask_25 ?_
    exact ⟨fun _ => ⟨rfl, rfl⟩, fun a => absurd a (by omega)⟩
  · skip
    have h10 := bI_n.mp h10
    refine r_iload_n (pc := 13) (a := 2) (i := 2) 2 rfl rfl dX9_ask_13 ?_
    refine r_i2l (pc := 14) (by unfold rg; omega) dX9_ask_14 ?_
    refine r_lconst (pc := 15) (z := 0) rfl dX9_ask_15 ?_
    refine r_lconst (pc := 16) (z := 1) rfl dX9_ask_16 ?_
    refine r_callSi (pc := 17) (st := []) (As := [jv w, jv 0, jv 1]) okX9_in (by decide) trivial rfl (Nat.le_of_ble_eq_true rfl) km_X9_64 (kX9_in X (by unfold rl; omega) (by unfold rl; omega) (by unfold rl; omega)) dX9_ask_17 ?_
    refine r_if_ne (pc := 20) 26 rg_bI dX9_ask_20 (by decide) (fun h20 => ?_) (fun h20 => ?_)
    · skip
      have h20 := bI_n.mp h20
      refine r_aload_n (pc := 26) (a := 0) (i := 0) 0 rfl rfl dX9_ask_26 ?_
      refine r_iconst (pc := 27) dX9_ask_27 ?_
      refine r_put (pc := 28) 27 (ji := 27) rfl ckX9 (by decide) rfl rfl (by decide) (Nat.le_of_ble_eq_true rfl) kf_X9_283 rfl rfl rfl rfl dX9_ask_28 ?_
      refine r_iload_n (pc := 31) (a := 2) (i := 2) 2 rfl rfl dX9_ask_31 ?_
      refine r_if_ne (pc := 32) 43 (by unfold rg; omega) dX9_ask_32 (by decide) (fun h32 => ?_) (fun h32 => ?_)
      · skip
        refine r_aload_n (pc := 43) (a := 0) (i := 0) 0 rfl rfl dX9_ask_43 ?_
        refine r_iload_n (pc := 44) (a := 1) (i := 1) 1 rfl rfl dX9_ask_44 ?_
        refine r_callVi (pc := 45) (st := []) (As := [iv p]) okX9_markOf (by decide) (by decide) rfl rfl rfl (Nat.le_of_ble_eq_true rfl) km_X9_295 (kmk9 X (w := w) ((up_row (by decide)).trans hO2) hV h10.1 h10.2 up_s (by omega)) dX9_ask_45 ?_
        refine r_iret (pc := 48) (st := []) rfl dX9_ask_48 ?_
        exact ⟨fun a => absurd (show 0 ≤ p ∧ p < O 1 ∧ 0 ≤ w ∧ w ≤ 1 by omega) a, fun _ => ⟨rfl, rfl⟩⟩
      · skip
        refine r_aload_n (pc := 35) (a := 0) (i := 0) 0 rfl rfl dX9_ask_35 ?_
        refine r_iload_n (pc := 36) (a := 1) (i := 1) 1 rfl rfl dX9_ask_36 ?_
        refine r_callVi (pc := 37) (st := []) (As := [iv p]) okX9_sizeOf (by decide) (by decide) rfl rfl rfl (Nat.le_of_ble_eq_true rfl) km_X9_298 (ksz9 X (w := w) ((up_row (by decide)).trans hO2) hV h10.1 h10.2 up_s (by omega)) dX9_ask_37 ?_
        refine r_goto (pc := 40) 48 dX9_ask_40 (by decide) ?_
        refine r_iret (pc := 48) (st := []) rfl dX9_ask_48 ?_
        exact ⟨fun a => absurd (show 0 ≤ p ∧ p < O 1 ∧ 0 ≤ w ∧ w ≤ 1 by omega) a, fun _ => ⟨rfl, rfl⟩⟩
    · skip
      have h20 := bI_0.mp h20
      refine r_ldc (pc := 23) kc_X9_74 dX9_ask_23 ?_
      refine r_iret (pc := 25) (st := []) rfl dX9_ask_25 ?_
      exact ⟨fun _ => ⟨rfl, rfl⟩, fun a => absurd a (by omega)⟩
theorem pr_ask {X : XC} {p w : Int} (hp : rg p) (hw : rg w) : Pair X mX8_ask mX9_ask [iv p, iv w] := by
  intro I hI
  have hV := hI.1.1
  have k8 := kX8_ask X (O := I 34) hI.1.2.1 hV hp hw
  by_cases h1 : 0 ≤ p ∧ p < I 34 1 ∧ 0 ≤ w ∧ w ≤ 1
  · refine ⟨askV (I 34) p w, 8, 8, by decide, by decide, k8.mono fun r J h => ?_⟩
    obtain ⟨rfl, eJ⟩ := h.2 h1
    have rJ : ∀ a, a ≠ 28 → a ≠ 29 → J a = I a := fun a x y => by rw [eJ, psL_row y x, up_row x]
    refine ⟨rfl, (kX9_ask X (I := J) (O := I 34) (rJ 34 (by decide) (by decide)) (by rw [rJ 30 (by decide) (by decide)]; exact hI.1.2.2) hV hp hw).mono fun r J2 h => ?_⟩
    obtain ⟨rfl, e2⟩ := h.2 h1
    refine ⟨rfl, ?_⟩
    have r2 : ∀ a, a ≠ 30 → a ≠ 44 → J2 a = J a := fun a x y => by rw [e2, psL_row y x, up_row x, up_row x]
    have f2 : ∀ j, j ≠ 0 → j ≠ 27 → J2 30 j = I 30 j := fun j x y => by rw [e2, psL_f (by decide) y, up_i y, up_i x, rJ 30 (by decide) (by decide)]
    have r3 : ∀ a, a ≠ 28 → a ≠ 29 → a ≠ 30 → a ≠ 44 → J2 a = I a := fun a x y z t => (r2 a z t).trans (rJ a x y)
    obtain ⟨a, b, c, d, e, f, g, n⟩ := hI
    refine ⟨a.cg (r3 34 (by decide) (by decide) (by decide) (by decide)) (f2 7 (by decide) (by decide)) (fun x p q => r3 x (by omega) (by omega) (by omega) (by omega)),
      b.cg (r3 36 (by decide) (by decide) (by decide) (by decide)) (f2 9 (by decide) (by decide)) (r3 21 (by decide) (by decide) (by decide) (by decide)) (fun x p q => r3 x (by omega) (by omega) (by omega) (by omega)),
      c.cg (r3 42 (by decide) (by decide) (by decide) (by decide)) (r3 43 (by decide) (by decide) (by decide) (by decide)) (fun x p q => r3 x (by omega) (by omega) (by omega) (by omega)),
      d.cg (r3 31 (by decide) (by decide) (by decide) (by decide)) (r3 32 (by decide) (by decide) (by decide) (by decide)) (r3 33 (by decide) (by decide) (by decide) (by decide)) (fun x p q => r3 x (by omega) (by omega) (by omega) (by omega)),
      e.cg (r3 37 (by decide) (by decide) (by decide) (by decide)) (f2 11 (by decide) (by decide)) (r3 19 (by decide) (by decide) (by decide) (by decide)) (r3 20 (by decide) (by decide) (by decide) (by decide)),
      f.cg (f2 12 (by decide) (by decide)) (f2 1 (by decide) (by decide)) (r3 0 (by decide) (by decide) (by decide) (by decide)), ?_, ?_⟩
    · have hl := askL_le (k := I 34 (63 + 4 * p)) (w := w)
      have c1 : J2 28 1 = ((askL (I 34 (63 + 4 * p)) w).length : Int) := by
        rw [r2 28 (by decide) (by decide), eJ]; exact psL_c (by decide) up_s (by omega)
      have c2 : J2 30 27 = ((askL (I 34 (63 + 4 * p)) w).length : Int) := by
        rw [e2]; exact psL_c (by decide) up_s (by omega)
      refine ⟨by rw [c1, c2], by omega, by omega, fun k a b => ?_⟩
      obtain ⟨m, rfl⟩ : ∃ m : Nat, k = m := ⟨k.toNat, by omega⟩
      have v1 := psL_v (a := 29) (c := 28) (j := 1) (by decide) (bs := askL (I 34 (63 + 4 * p)) w) (I := up I 28 1 0) (t := 0) (k := m) (by omega)
      have v2 := psL_v (a := 44) (c := 30) (j := 27) (by decide) (bs := askL (I 34 (63 + 4 * p)) w) (I := up (up J 30 0 0) 30 27 0) (t := 0) (k := m) (by omega)
      rw [Int.zero_add] at v1 v2
      rw [r2 29 (by decide) (by decide), eJ, v1, e2, v2]
    · unfold RN
      rw [f2 9 (by decide) (by decide), r3 34 (by decide) (by decide) (by decide) (by decide), r3 42 (by decide) (by decide) (by decide) (by decide)]
      exact n
  · refine ⟨-1000001, 8, 8, by decide, by decide, k8.mono fun r J h => ?_⟩
    obtain ⟨rfl, rfl⟩ := h.1 h1
    refine ⟨rfl, (kX9_ask X rfl hI.1.2.2 hV hp hw).mono fun r J h => ?_⟩
    obtain ⟨rfl, rfl⟩ := h.1 h1
    exact ⟨rfl, hI.thr2⟩
