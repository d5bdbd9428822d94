set_option maxRecDepth 100000 in
set_option maxHeartbeats 4000000 in
theorem kX9_lostBy (X : XC) {I : HD} {O : OF} (hO : I 34 = O) (hV : Val O) {d n : Int} {t : Int → Int} (ht : I 40 = t) (h0 : 0 ≤ d) (h1 : d < O 0) (h7 : O (23 + 10 * d) ≤ 7) (n0 : 0 ≤ n) (n9 : n ≤ 9) (hv : ∀ k, 0 ≤ k → k < O (23 + 10 * d) → 0 ≤ t k ∧ t k < O 1) : Cl X 1 mX9_lostBy [rv X 30, iv d, iv (O (23 + 10 * d)), iv n] I (Ki (dSb O d n t) I) := by
  refine Cl.of (by decide) (Nat.le_of_ble_eq_true rfl) ?_
  show Rn X 1 mX9_lostBy _ 0 [(0, rv X 30), (1, iv d), (2, iv (O (23 + 10 * d))), (3, iv n)] [] I
  have q0 := hV.a
  have q1 := hV.d h0 h1
  have hr : 0 ≤ rch O d n ∧ rch O d n ≤ 9 := by unfold rch; omega
  refine r_iconst (pc := 0) dX9_lostBy_0 ?_
  refine r_istore (pc := 1) [(4, iv 0), (0, rv X 30), (1, iv d), (2, iv (O (23 + 10 * d))), (3, iv n)] (by decide) rfl dX9_lostBy_1 ?_
  refine r_iload_n (pc := 3) (a := 2) (i := 2) 3 rfl rfl dX9_lostBy_3 ?_
  refine r_istore (pc := 4) [(5, iv (O (23 + 10 * d))), (4, iv 0), (0, rv X 30), (1, iv d), (2, iv (O (23 + 10 * d))), (3, iv n)] (by decide) rfl dX9_lostBy_4 ?_
  refine r_iconst (pc := 6) dX9_lostBy_6 ?_
  refine r_istore (pc := 7) [(6, iv 0), (5, iv (O (23 + 10 * d))), (4, iv 0), (0, rv X 30), (1, iv d), (2, iv (O (23 + 10 * d))), (3, iv n)] (by decide) rfl dX9_lostBy_7 ?_
  have at9 : ∀ (n9 : Nat) (s : Int) (p : Int) (k : Int), (10 - k).toNat < n9 → (hk0 : 0 ≤ k) → (hk1 : k ≤ rch O d n) → (hp : p = O (23 + 10 * d) - k) → (hs : s + dS O t p.toNat (rch O d n - k).toNat = dSb O d n t) → Rn X 1 mX9_lostBy (Ki (dSb O d n t) I) 9 [(0, rv X 30), (1, iv d), (2, iv (O (23 + 10 * d))), (3, iv n), (4, iv s), (5, iv p), (6, iv k)] [] I := by
    intro n9
    induction n9 with
    | zero => intro s p k hm; omega
    | succ n9 ih9 =>
      intro s p k hm9 hk0 hk1 hp hs
      have hmx := mx_m (O := O) (d := d) n0 hk0 hk1
      refine r_iload (pc := 9) 6 rfl dX9_lostBy_9 ?_
      refine r_iload_n (pc := 11) (a := 3) (i := 3) 3 rfl rfl dX9_lostBy_11 ?_
      refine r_icmp_ge (pc := 12) 79 (by unfold rg; omega) (by unfold rg; omega) dX9_lostBy_12 (by decide) (fun h12 => ?_) (fun h12 => ?_)
      · skip
        refine r_iload (pc := 79) 4 rfl dX9_lostBy_79 ?_
        refine r_iret (pc := 81) (st := []) rfl dX9_lostBy_81 ?_
        have hkr : ¬ k < rch O d n := fun q => by have := hmx.mpr q; omega
        rw [show (rch O d n - k).toNat = 0 by omega, dS_0] at hs
        exact ⟨congrArg (fun q => some (iv q)) (by omega), rfl⟩
      · skip
        refine r_iload (pc := 15) 5 rfl dX9_lostBy_15 ?_
        refine r_aload_n (pc := 17) (a := 0) (i := 0) 0 rfl rfl dX9_lostBy_17 ?_
        refine r_get (pc := 18) ckX9 (by decide) rfl (j := 5) (by decide) rfl kf_X9_19 dX9_lostBy_18 ?_
        refine r_bipush (pc := 21) rfl dX9_lostBy_21 ?_
        refine r_iconst (pc := 23) dX9_lostBy_23 ?_
        refine r_iload_n (pc := 24) (a := 1) (i := 1) 1 rfl rfl dX9_lostBy_24 ?_
        refine r_imul (pc := 25) dX9_lostBy_25 ?_
        refine r_iadd (pc := 26) dX9_lostBy_26 ?_
        refine r_iconst (pc := 27) dX9_lostBy_27 ?_
        refine r_iadd (pc := 28) dX9_lostBy_28 ?_
        refine r_iald (pc := 29) (z := O (16 + 2 * d)) (by decide) rfl (by omega) (by omega) (by decide) ((congrFun hO _).trans (congrArg O (by omega))) dX9_lostBy_29 ?_
        refine r_icmp_le (pc := 30) 79 (by unfold rg; omega) (by unfold rg; omega) dX9_lostBy_30 (by decide) (fun h30 => ?_) (fun h30 => ?_)
        · skip
          refine r_iload (pc := 79) 4 rfl dX9_lostBy_79 ?_
          refine r_iret (pc := 81) (st := []) rfl dX9_lostBy_81 ?_
          have hkr : ¬ k < rch O d n := fun q => by have := hmx.mpr q; omega
          rw [show (rch O d n - k).toNat = 0 by omega, dS_0] at hs
          exact ⟨congrArg (fun q => some (iv q)) (by omega), rfl⟩
        · skip
          have hx := hv (p - 1) (by omega) (by omega)
          have qp := hV.p hx.1 hx.2
          have hkr : k < rch O d n := hmx.mp ⟨by omega, by omega⟩
          refine r_aload_n (pc := 33) (a := 0) (i := 0) 0 rfl rfl dX9_lostBy_33 ?_
          refine r_get (pc := 34) ckX9 (by decide) rfl (j := 22) (by decide) rfl kf_X9_38 dX9_lostBy_34 ?_
          refine r_iload (pc := 37) 5 rfl dX9_lostBy_37 ?_
          refine r_iconst (pc := 39) dX9_lostBy_39 ?_
          refine r_isub (pc := 40) dX9_lostBy_40 ?_
          refine r_iald (pc := 41) (z := t (p - 1)) (by decide) rfl (by omega) (by omega) (by decide) (congrFun ht _) dX9_lostBy_41 ?_
          refine r_istore (pc := 42) [(7, iv (t (p - 1))), (0, rv X 30), (1, iv d), (2, iv (O (23 + 10 * d))), (3, iv n), (4, iv s), (5, iv p), (6, iv k)] (by decide) rfl dX9_lostBy_42 ?_
          refine r_aload_n (pc := 44) (a := 0) (i := 0) 1 rfl rfl dX9_lostBy_44 ?_
          refine r_iload (pc := 45) 0 rfl dX9_lostBy_45 ?_
          refine r_iconst (pc := 47) dX9_lostBy_47 ?_
          refine r_callVi (pc := 48) (st := []) (As := [iv (t (p - 1)), iv 0]) okX9_of (by decide) (by decide) rfl rfl rfl (Nat.le_of_ble_eq_true rfl) km_X9_216 (kX9_of X hO hV (z := O (63 + 4 * (t (p - 1)))) (by omega) (by omega) (by omega) (congrArg O (by omega))) dX9_lostBy_48 ?_
          refine r_iconst (pc := 51) dX9_lostBy_51 ?_
          refine r_icmp_ne (pc := 52) 58 (by unfold rg; omega) (by unfold rg; omega) dX9_lostBy_52 (by decide) (fun h52 => ?_) (fun h52 => ?_)
          · skip
            refine r_iload (pc := 58) 5 rfl dX9_lostBy_58 ?_
            refine r_aload_n (pc := 60) (a := 0) (i := 0) 1 rfl rfl dX9_lostBy_60 ?_
            refine r_iload (pc := 61) 0 rfl dX9_lostBy_61 ?_
            refine r_iconst (pc := 63) dX9_lostBy_63 ?_
            refine r_callVi (pc := 64) (st := [iv s]) (As := [iv (t (p - 1)), iv 1]) okX9_of (by decide) (by decide) rfl rfl rfl (Nat.le_of_ble_eq_true rfl) km_X9_216 (kX9_of X hO hV (z := O (64 + 4 * (t (p - 1)))) (by omega) (by omega) (by omega) (congrArg O (by omega))) dX9_lostBy_64 ?_
            refine r_iadd (pc := 67) dX9_lostBy_67 ?_
            refine r_istore (pc := 68) [(4, iv (s + (O (64 + 4 * (t (p - 1)))))), (7, iv (t (p - 1))), (0, rv X 30), (1, iv d), (2, iv (O (23 + 10 * d))), (3, iv n), (5, iv p), (6, iv k)] (by decide) rfl dX9_lostBy_68 ?_
            refine r_iinc (pc := 70) 6 [(5, iv (p + (-1))), (4, iv (s + (O (64 + 4 * (t (p - 1)))))), (7, iv (t (p - 1))), (0, rv X 30), (1, iv d), (2, iv (O (23 + 10 * d))), (3, iv n), (6, iv k)] rfl (by decide) rfl dX9_lostBy_70 ?_
            refine r_iinc (pc := 73) 7 [(6, iv (k + 1)), (5, iv (p + (-1))), (4, iv (s + (O (64 + 4 * (t (p - 1)))))), (7, iv (t (p - 1))), (0, rv X 30), (1, iv d), (2, iv (O (23 + 10 * d))), (3, iv n)] rfl (by decide) rfl dX9_lostBy_73 ?_
            refine r_goto (pc := 76) 9 dX9_lostBy_76 (by decide) ?_
            refine r_lv [4, 5, 6, 7, 2, 1, 0] [(0, rv X 30), (1, iv d), (2, iv (O (23 + 10 * d))), (3, iv n), (4, iv (s + (O (64 + 4 * (t (p - 1)))))), (5, iv (p + (-1))), (6, iv (k + 1))] rfl ?_
            exact ih9 (s + (O (64 + 4 * (t (p - 1))))) (p + (-1)) (k + 1) (by omega) (by omega) (by omega) (by omega) (by rw [dS_s (by omega) (by omega) h52] at hs; rw [show p + -1 = p - 1 by omega, show rch O d n - (k + 1) = rch O d n - k - 1 by omega]; omega)
          · skip
            refine r_iload (pc := 55) 5 rfl dX9_lostBy_55 ?_
            refine r_iret (pc := 57) (st := []) rfl dX9_lostBy_57 ?_
            rw [dS_t (by omega) (by omega) h52] at hs
            exact ⟨congrArg (fun q => some (iv q)) (by omega), rfl⟩
  refine r_lv [3, 4, 5, 6, 2, 1, 0] [(0, rv X 30), (1, iv d), (2, iv (O (23 + 10 * d))), (3, iv n), (4, iv 0), (5, iv (O (23 + 10 * d))), (6, iv 0)] rfl ?_
  exact at9 _ 0 (O (23 + 10 * d)) 0 (Nat.lt_succ_self _) (by omega) (by omega) (by omega) (by rw [Int.zero_add, show rch O d n - 0 = rch O d n by omega])

set_option maxRecDepth 100000 in
set_option maxHeartbeats 4000000 in
theorem kX9_layFirst (X : XC) {I : HD} {O : OF} (hO : I 34 = O) (hV : Val O) {d : Int} (h0 : 0 ≤ d) (h1 : d < O 0) (h7 : O (23 + 10 * d) ≤ 7) : Cl X 2 mX9_layFirst [rv X 30, iv d] I (fun r J => r = none ∧ ∃ t, J = upA I 40 t ∧ arr (onD O d) (O (23 + 10 * d)) t ∧ ∀ k m, 0 ≤ k → k < m → m < O (23 + 10 * d) → t k < t m) := by
  refine Cl.of (by decide) (Nat.le_of_ble_eq_true rfl) ?_
  show Rn X 2 mX9_layFirst _ 0 [(0, rv X 30), (1, iv d)] [] I
  have q0 := hV.a
  have q1 := hV.d h0 h1
  have hOg : ∀ g, (upA I 40 g) 34 = O := fun g => (upA_h (by decide)).trans hO
  have hcn := cnt_onD hV h0 h1
  have hf := sbs_on hV h0 h1
  refine r_iconst (pc := 0) dX9_layFirst_0 ?_
  refine r_istore_n (pc := 1) (a := 2) (i := 2) rfl [(2, iv 0), (0, rv X 30), (1, iv d)] (by decide) rfl dX9_layFirst_1 ?_
  refine r_I (J := upA I 40 (I 40)) (upA_z) ?_
  refine r_iconst (pc := 2) dX9_layFirst_2 ?_
  refine r_istore_n (pc := 3) (a := 3) (i := 3) rfl [(3, iv 0), (2, iv 0), (0, rv X 30), (1, iv d)] (by decide) rfl dX9_layFirst_3 ?_
  have at4 : ∀ (n4 : Nat) (t : Int → Int) (c : Int) (i : Int), (O 1 - i).toNat < n4 → (hi0 : 0 ≤ i) → (hi1 : i ≤ O 1) → (hc : c = cnt (onD O d) i.toNat) → (hc0 : 0 ≤ c) → (hS : ∀ k, 0 ≤ k → k < c → onD O d (t k) ∧ t k < i) → (hA : ∀ k m, 0 ≤ k → k < m → m < c → t k < t m) → (hX : ∀ x, 0 ≤ x → x < i → onD O d x → ∃ k, 0 ≤ k ∧ k < c ∧ t k = x) → Rn X 2 mX9_layFirst (fun r J => r = none ∧ ∃ t, J = upA I 40 t ∧ arr (onD O d) (O (23 + 10 * d)) t ∧ ∀ k m, 0 ≤ k → k < m → m < O (23 + 10 * d) → t k < t m) 4 [(0, rv X 30), (1, iv d), (2, iv c), (3, iv i)] [] (upA I 40 t) := by
    intro n4
    induction n4 with
    | zero => intro t c i hm; omega
    | succ n4 ih4 =>
      intro t c i hm4 hi0 hi1 hc hc0 hS hA hX
      refine r_iload_n (pc := 4) (a := 3) (i := 3) 3 rfl rfl dX9_layFirst_4 ?_
      refine r_aload_n (pc := 5) (a := 0) (i := 0) 0 rfl rfl dX9_layFirst_5 ?_
      refine r_get (pc := 6) ckX9 (by decide) rfl (j := 5) (by decide) rfl kf_X9_19 dX9_layFirst_6 ?_
      refine r_iconst (pc := 9) dX9_layFirst_9 ?_
      refine r_iald (pc := 10) (z := O 1) (by decide) rfl (by omega) (by omega) (by decide) (congrFun (hOg _) _) dX9_layFirst_10 ?_
      refine r_icmp_ge (pc := 11) 39 (by unfold rg; omega) (by unfold rg; omega) dX9_layFirst_11 (by decide) (fun h11 => ?_) (fun h11 => ?_)
      · skip
        refine r_vret (pc := 39) (st := []) rfl dX9_layFirst_39 ?_
        have ec : c = O (23 + 10 * d) := by rw [hc, ← hcn]; exact (cnt_up (fun p a => fun z => by have := hf p z; omega) (show i.toNat ≤ 16 by omega)).symm
        subst ec
        exact ⟨rfl, t, rfl, ⟨fun k a b => (hS k a b).1, fun k m a b c e z => by rcases Int.lt_trichotomy k m with y | y | y; (have := hA k m a y e; omega); exact y; (have := hA m k c y b; omega), fun x hx => hX x (hf x hx).1 (by have := hf x hx; omega) hx⟩, hA⟩
      · skip
        have ql := @dk_lt O i
        have qN := dkN_or O i
        refine r_aload_n (pc := 14) (a := 0) (i := 0) 0 rfl rfl dX9_layFirst_14 ?_
        refine r_iload_n (pc := 15) (a := 3) (i := 3) 3 rfl rfl dX9_layFirst_15 ?_
        refine r_callVi (pc := 16) (st := []) (As := [iv i]) okX9_deskOf (by decide) (by decide) rfl rfl rfl (Nat.le_of_ble_eq_true rfl) km_X9_203 (kX9_deskOf X (hOg _) hV (by omega) (by omega)) dX9_layFirst_16 ?_
        refine r_iload_n (pc := 19) (a := 1) (i := 1) 1 rfl rfl dX9_layFirst_19 ?_
        have at33 : ∀ (t2 : Int → Int) (c2 : Int), (gc : c2 = cnt (onD O d) (i + 1).toNat) → (gc0 : 0 ≤ c2) → (gS : ∀ k, 0 ≤ k → k < c2 → onD O d (t2 k) ∧ t2 k < i + 1) → (gA : ∀ k m, 0 ≤ k → k < m → m < c2 → t2 k < t2 m) → (gX : ∀ x, 0 ≤ x → x < i + 1 → onD O d x → ∃ k, 0 ≤ k ∧ k < c2 ∧ t2 k = x) → Rn X 2 mX9_layFirst (fun r J => r = none ∧ ∃ t, J = upA I 40 t ∧ arr (onD O d) (O (23 + 10 * d)) t ∧ ∀ k m, 0 ≤ k → k < m → m < O (23 + 10 * d) → t k < t m) 33 [(0, rv X 30), (1, iv d), (2, iv c2), (3, iv i)] [] (upA I 40 t2) := by
          intro t2 c2 gc gc0 gS gA gX
          refine r_iinc (pc := 33) 3 [(3, iv (i + 1)), (0, rv X 30), (1, iv d), (2, iv c2)] rfl (by decide) rfl dX9_layFirst_33 ?_
          refine r_goto (pc := 36) 4 dX9_layFirst_36 (by decide) ?_
          refine r_lv [1, 2, 3, 0] [(0, rv X 30), (1, iv d), (2, iv c2), (3, iv (i + 1))] rfl ?_
          exact ih4 _ c2 (i + 1) (by omega) (by omega) (by omega) (gc) (gc0) (gS) (gA) (gX)
        refine r_icmp_ne (pc := 20) 33 (by unfold rg; omega) (by unfold rg; omega) dX9_layFirst_20 (by decide) (fun h20 => ?_) (fun h20 => ?_)
        · skip
          refine r_lv [0, 1, 2, 3] [(0, rv X 30), (1, iv d), (2, iv c), (3, iv i)] rfl ?_
          exact at33 _ c (by rw [cnt_s hi0, bI_f (lf_no hV hi0 h0 h1 (by omega))]; omega) (by omega) (fun k a b => ⟨(hS k a b).1, by have := (hS k a b).2; omega⟩) (hA) (lf_X2 hX (lf_no hV hi0 h0 h1 (by omega)))
        · skip
          have hdk : dk O i = d := by omega
          have hon : onD O d i := by rw [← hdk]; exact (dk_on (by omega)).2
          have hcl : c < O (23 + 10 * d) := by have := cnt_m (onD O d) (m := 16) (show (i + 1).toNat ≤ 16 by omega); rw [cnt_s hi0, bI_t hon] at this; omega
          refine r_aload_n (pc := 23) (a := 0) (i := 0) 0 rfl rfl dX9_layFirst_23 ?_
          refine r_get (pc := 24) ckX9 (by decide) rfl (j := 22) (by decide) rfl kf_X9_38 dX9_layFirst_24 ?_
          refine r_iload_n (pc := 27) (a := 2) (i := 2) 2 rfl rfl dX9_layFirst_27 ?_
          refine r_iload_n (pc := 28) (a := 3) (i := 3) 3 rfl rfl dX9_layFirst_28 ?_
          refine r_iast (pc := 29) (by decide) (fun _ => rfl) (by omega) (by omega) (by decide) dX9_layFirst_29 ?_
          refine r_I (J := upA I 40 (stl t c i)) (upA_u) ?_
          refine r_iinc (pc := 30) 2 [(2, iv (c + 1)), (0, rv X 30), (1, iv d), (3, iv i)] rfl (by decide) rfl dX9_layFirst_30 ?_
          refine r_lv [1, 2, 0, 3] [(0, rv X 30), (1, iv d), (2, iv (c + 1)), (3, iv i)] rfl ?_
          exact at33 _ (c + 1) (by rw [cnt_s hi0, bI_t hon]; omega) (by omega) (lf_S hS hon) (lf_A hS hA) (lf_X hc0 hX)
  refine r_lv [2, 3, 1, 0] [(0, rv X 30), (1, iv d), (2, iv 0), (3, iv 0)] rfl ?_
  exact at4 _ (I 40) 0 0 (Nat.lt_succ_self _) (by omega) (by omega) (rfl) (by omega) (fun k a b => absurd b (by omega)) (fun k m a b c => absurd c (by omega)) (fun x a b => absurd b (by omega))
