set_option maxRecDepth 100000 in
set_option maxHeartbeats 4000000 in
theorem kX2_weigh (X : XC) {I : HD} {O : OF} (hR : RepC O I 0) (hV : Val O) {n : Int} (n0 : 0 ≤ n) (n3 : n ≤ 3) (nq : O 2 + n ≤ 12) : Cl X 0 mX2_weigh [rv X 24, rv X (oH 0), iv n] I (fun r J => r = none ∧ ∃ g, J = upA I 25 g ∧ ∀ k, 0 ≤ k → k ≤ n → g k = od O n.toNat k) := by
  refine Cl.of (by decide) (Nat.le_of_ble_eq_true rfl) ?_
  show Rn X 0 mX2_weigh _ 0 [(0, rv X 24), (1, rv X (oH 0)), (2, iv n)] [] I
  have hRg : ∀ g, RepC O (upA I 25 g) 0 := fun g => hR.fr (fun a x y => upA_h (by have : oH 0 = 45 := rfl; omega))
  have q0 := hV.a
  refine r_aload_n (pc := 0) (a := 0) (i := 0) 0 rfl rfl dX2_weigh_0 ?_
  refine r_get (pc := 1) ckX2 (by decide) rfl (j := 0) (by decide) rfl kf_X2_9 dX2_weigh_1 ?_
  refine r_iconst (pc := 4) dX2_weigh_4 ?_
  refine r_lconst (pc := 5) (z := 1) rfl dX2_weigh_5 ?_
  refine r_last (pc := 6) (by decide) (fun _ => rfl) (by omega) (by omega) (by decide) dX2_weigh_6 ?_
  refine r_I (J := upA I 25 (fun b => if b = 0 then 1 else I 25 b)) (upA_i) ?_
  refine r_iconst (pc := 7) dX2_weigh_7 ?_
  refine r_istore_n (pc := 8) (a := 3) (i := 3) rfl [(3, iv 0), (0, rv X 24), (1, rv X (oH 0)), (2, iv n)] (by decide) rfl dX2_weigh_8 ?_
  have at9 : ∀ (n9 : Nat) (g : Int → Int) (j : Int), (n - j).toNat < n9 → (hj0 : 0 ≤ j) → (hj1 : j ≤ n) → (hg : ∀ k, 0 ≤ k → k ≤ j → g k = od O j.toNat k) → Rn X 0 mX2_weigh (fun r J => r = none ∧ ∃ g, J = upA I 25 g ∧ ∀ k, 0 ≤ k → k ≤ n → g k = od O n.toNat k) 9 [(0, rv X 24), (1, rv X (oH 0)), (2, iv n), (3, iv j)] [] (upA I 25 g) := by
    intro n9
    induction n9 with
    | zero => intro g j hm; omega
    | succ n9 ih9 =>
      intro g j hm9 hj0 hj1 hg
      refine r_iload_n (pc := 9) (a := 3) (i := 3) 3 rfl rfl dX2_weigh_9 ?_
      refine r_iload_n (pc := 10) (a := 2) (i := 2) 2 rfl rfl dX2_weigh_10 ?_
      refine r_icmp_ge (pc := 11) 115 (by unfold rg; omega) (by unfold rg; omega) dX2_weigh_11 (by decide) (fun h11 => ?_) (fun h11 => ?_)
      · skip
        refine r_vret (pc := 115) (st := []) rfl dX2_weigh_115 ?_
        exact ⟨rfl, g, rfl, fun k a b => by rw [hg k a (by omega), show n = j by omega]⟩
      · skip
        have hw := hV.w (q := O 2 + j) (by omega) (by omega)
        refine r_aload_n (pc := 14) (a := 1) (i := 1) 1 rfl rfl dX2_weigh_14 ?_
        refine r_getN (pc := 15) ckX3 (oH_lt (show 0 < 28 by decide)) (cellO (show 0 < 28 by decide)) (j := 0) (by decide) rfl kf_X2_41 dX2_weigh_15 ?_
        refine r_aload_n (pc := 18) (a := 1) (i := 1) 1 rfl rfl dX2_weigh_18 ?_
        refine r_getN (pc := 19) ckX3 (oH_lt (show 0 < 28 by decide)) (cellO (show 0 < 28 by decide)) (j := 10) (by decide) (congrArg (fun q => some (iv q)) (hRg g).f2) kf_X2_45 dX2_weigh_19 ?_
        refine r_iload_n (pc := 22) (a := 3) (i := 3) 3 rfl rfl dX2_weigh_22 ?_
        refine r_iadd (pc := 23) dX2_weigh_23 ?_
        refine r_iald (pc := 24) (z := O (3 + ((O 2) + j))) (oH_lt1 (show 0 < 28 by decide)) ((cellO1 (show 0 < 28 by decide)) _) (by omega) (by omega) (by decide) ((hRg g).wind (by omega) (by omega)) dX2_weigh_24 ?_
        refine r_istore (pc := 25) [(4, iv (O (3 + ((O 2) + j)))), (0, rv X 24), (1, rv X (oH 0)), (2, iv n), (3, iv j)] (by decide) rfl dX2_weigh_25 ?_
        refine r_aload_n (pc := 27) (a := 0) (i := 0) 1 rfl rfl dX2_weigh_27 ?_
        refine r_get (pc := 28) ckX2 (by decide) rfl (j := 0) (by decide) rfl kf_X2_9 dX2_weigh_28 ?_
        refine r_iload_n (pc := 31) (a := 3) (i := 3) 4 rfl rfl dX2_weigh_31 ?_
        refine r_iconst (pc := 32) dX2_weigh_32 ?_
        refine r_iadd (pc := 33) dX2_weigh_33 ?_
        refine r_aload_n (pc := 34) (a := 0) (i := 0) 1 rfl rfl dX2_weigh_34 ?_
        refine r_get (pc := 35) ckX2 (by decide) rfl (j := 0) (by decide) rfl kf_X2_9 dX2_weigh_35 ?_
        refine r_iload_n (pc := 38) (a := 3) (i := 3) 4 rfl rfl dX2_weigh_38 ?_
        refine r_lald (pc := 39) (z := g j) (by decide) rfl (by omega) (by omega) (by decide) (congrFun upA_s _) dX2_weigh_39 ?_
        refine r_iload (pc := 40) 0 rfl dX2_weigh_40 ?_
        refine r_i2l (pc := 42) (by unfold rg; omega) dX2_weigh_42 ?_
        refine r_lmul (pc := 43) dX2_weigh_43 ?_
        refine r_last (pc := 44) (by decide) (fun _ => rfl) (by omega) (by omega) (by decide) dX2_weigh_44 ?_
        refine r_I (J := upA I 25 (fun b => if b = j + 1 then g j * O (3 + (O 2 + j)) else g b)) (upA_u) ?_
        refine r_iload_n (pc := 45) (a := 3) (i := 3) 4 rfl rfl dX2_weigh_45 ?_
        refine r_istore (pc := 46) [(5, iv j), (4, iv (O (3 + ((O 2) + j)))), (0, rv X 24), (1, rv X (oH 0)), (2, iv n), (3, iv j)] (by decide) rfl dX2_weigh_46 ?_
        have at48 : ∀ (n48 : Nat) (g2 : Int → Int) (c : Int), c.toNat < n48 → (hc0 : 0 ≤ c) → (hc1 : c ≤ j) → (hg2 : ∀ k, 0 ≤ k → k ≤ j + 1 → g2 k = if c < k then od O (j + 1).toNat k else od O j.toNat k) → Rn X 0 mX2_weigh (fun r J => r = none ∧ ∃ g, J = upA I 25 g ∧ ∀ k, 0 ≤ k → k ≤ n → g k = od O n.toNat k) 48 [(0, rv X 24), (1, rv X (oH 0)), (2, iv n), (3, iv j), (4, iv (O (3 + (O 2 + j)))), (5, iv c)] [] (upA I 25 g2) := by
          intro n48
          induction n48 with
          | zero => intro g2 c hm; omega
          | succ n48 ih48 =>
            intro g2 c hm48 hc0 hc1 hg2
            refine r_iload (pc := 48) 5 rfl dX2_weigh_48 ?_
            refine r_if_le (pc := 50) 94 (by unfold rg; omega) dX2_weigh_50 (by decide) (fun h50 => ?_) (fun h50 => ?_)
            · skip
              refine r_aload_n (pc := 94) (a := 0) (i := 0) 0 rfl rfl dX2_weigh_94 ?_
              refine r_get (pc := 95) ckX2 (by decide) rfl (j := 0) (by decide) rfl kf_X2_9 dX2_weigh_95 ?_
              refine r_iconst (pc := 98) dX2_weigh_98 ?_
              refine r_dup2 (pc := 99) rfl rfl dX2_weigh_99 ?_
              refine r_lald (pc := 100) (z := g2 0) (by decide) rfl (by omega) (by omega) (by decide) (congrFun upA_s _) dX2_weigh_100 ?_
              refine r_bipush (pc := 101) rfl dX2_weigh_101 ?_
              refine r_iload (pc := 103) 4 rfl dX2_weigh_103 ?_
              refine r_isub (pc := 105) dX2_weigh_105 ?_
              refine r_i2l (pc := 106) (by unfold rg; omega) dX2_weigh_106 ?_
              refine r_lmul (pc := 107) dX2_weigh_107 ?_
              refine r_last (pc := 108) (by decide) (fun _ => rfl) (by omega) (by omega) (by decide) dX2_weigh_108 ?_
              refine r_I (J := upA I 25 (fun b => if b = 0 then g2 0 * (100 - O (3 + (O 2 + j))) else g2 b)) (upA_u) ?_
              refine r_iinc (pc := 109) 3 [(3, iv (j + 1)), (0, rv X 24), (1, rv X (oH 0)), (2, iv n), (4, iv (O (3 + (O 2 + j)))), (5, iv c)] rfl (by decide) rfl dX2_weigh_109 ?_
              refine r_goto (pc := 112) 9 dX2_weigh_112 (by decide) ?_
              refine r_lv [1, 2, 3, 0] [(0, rv X 24), (1, rv X (oH 0)), (2, iv n), (3, iv (j + 1))] rfl ?_
              exact ih9 _ (j + 1) (by omega) (by omega) (by omega) (fun k a b => od_z hj0 (by omega) hg2 a b)
            · skip
              refine r_aload_n (pc := 53) (a := 0) (i := 0) 0 rfl rfl dX2_weigh_53 ?_
              refine r_get (pc := 54) ckX2 (by decide) rfl (j := 0) (by decide) rfl kf_X2_9 dX2_weigh_54 ?_
              refine r_iload (pc := 57) 5 rfl dX2_weigh_57 ?_
              refine r_aload_n (pc := 59) (a := 0) (i := 0) 0 rfl rfl dX2_weigh_59 ?_
              refine r_get (pc := 60) ckX2 (by decide) rfl (j := 0) (by decide) rfl kf_X2_9 dX2_weigh_60 ?_
              refine r_iload (pc := 63) 5 rfl dX2_weigh_63 ?_
              refine r_lald (pc := 65) (z := g2 c) (by decide) rfl (by omega) (by omega) (by decide) (congrFun upA_s _) dX2_weigh_65 ?_
              refine r_bipush (pc := 66) rfl dX2_weigh_66 ?_
              refine r_iload (pc := 68) 4 rfl dX2_weigh_68 ?_
              refine r_isub (pc := 70) dX2_weigh_70 ?_
              refine r_i2l (pc := 71) (by unfold rg; omega) dX2_weigh_71 ?_
              refine r_lmul (pc := 72) dX2_weigh_72 ?_
              refine r_aload_n (pc := 73) (a := 0) (i := 0) 0 rfl rfl dX2_weigh_73 ?_
              refine r_get (pc := 74) ckX2 (by decide) rfl (j := 0) (by decide) rfl kf_X2_9 dX2_weigh_74 ?_
              refine r_iload (pc := 77) 5 rfl dX2_weigh_77 ?_
              refine r_iconst (pc := 79) dX2_weigh_79 ?_
              refine r_isub (pc := 80) dX2_weigh_80 ?_
              refine r_lald (pc := 81) (z := g2 (c - 1)) (by decide) rfl (by omega) (by omega) (by decide) (congrFun upA_s _) dX2_weigh_81 ?_
              refine r_iload (pc := 82) 4 rfl dX2_weigh_82 ?_
              refine r_i2l (pc := 84) (by unfold rg; omega) dX2_weigh_84 ?_
              refine r_lmul (pc := 85) dX2_weigh_85 ?_
              refine r_ladd (pc := 86) dX2_weigh_86 ?_
              refine r_last (pc := 87) (by decide) (fun _ => rfl) (by omega) (by omega) (by decide) dX2_weigh_87 ?_
              refine r_I (J := upA I 25 (fun b => if b = c then g2 c * (100 - O (3 + (O 2 + j))) + g2 (c - 1) * O (3 + (O 2 + j)) else g2 b)) (upA_u) ?_
              refine r_iinc (pc := 88) 5 [(5, iv (c + (-1))), (0, rv X 24), (1, rv X (oH 0)), (2, iv n), (3, iv j), (4, iv (O (3 + (O 2 + j))))] rfl (by decide) rfl dX2_weigh_88 ?_
              refine r_goto (pc := 91) 48 dX2_weigh_91 (by decide) ?_
              refine r_lv [1, 2, 3, 4, 5, 0] [(0, rv X 24), (1, rv X (oH 0)), (2, iv n), (3, iv j), (4, iv (O (3 + (O 2 + j)))), (5, iv (c + (-1)))] rfl ?_
              exact ih48 _ (c + (-1)) (by omega) (by omega) (by omega) (fun k a b => od_n hj0 (by omega) hc1 hg2 (by omega) a b)
        refine r_lv [2, 3, 4, 5, 1, 0] [(0, rv X 24), (1, rv X (oH 0)), (2, iv n), (3, iv j), (4, iv (O (3 + ((O 2) + j)))), (5, iv j)] rfl ?_
        exact at48 _ _ j (Nat.lt_succ_self _) (by omega) (by omega) (fun k a b => od_i hj0 hg a b)
  refine r_lv [1, 2, 3, 0] [(0, rv X 24), (1, rv X (oH 0)), (2, iv n), (3, iv 0)] rfl ?_
  exact at9 _ _ 0 (Nat.lt_succ_self _) (by omega) (by omega) (fun k a b => by rw [show k = 0 by omega, if_pos rfl]; rfl)

set_option maxRecDepth 100000 in
set_option maxHeartbeats 4000000 in
theorem kX2_commonDivisor (X : XC) {I : HD} {a b : Int} (a0 : 0 ≤ a) (a1 : a < 10000000000) (b0 : 0 < b) (b1 : b ≤ 1000000) : Cl X 0 mX2_commonDivisor [jv a, jv b] I (Kj ((Int.gcd a b : Nat) : Int) I) := by
  refine Cl.of (by decide) (Nat.le_of_ble_eq_true rfl) ?_
  show Rn X 0 mX2_commonDivisor _ 0 [(0, jv a), (2, jv b)] [] I
  refine r_lload_n (pc := 0) (a := 0) (i := 0) 0 rfl rfl dX2_commonDivisor_0 ?_
  refine r_lstore (pc := 1) [(4, jv a), (0, jv a), (2, jv b)] (by decide) rfl dX2_commonDivisor_1 ?_
  refine r_lload_n (pc := 3) (a := 2) (i := 2) 2 rfl rfl dX2_commonDivisor_3 ?_
  refine r_lstore (pc := 4) [(6, jv b), (4, jv a), (0, jv a), (2, jv b)] (by decide) rfl dX2_commonDivisor_4 ?_
  refine r_iconst (pc := 6) dX2_commonDivisor_6 ?_
  refine r_istore (pc := 7) [(8, iv 0), (6, jv b), (4, jv a), (0, jv a), (2, jv b)] (by decide) rfl dX2_commonDivisor_7 ?_
  have at9 : ∀ (n9 : Nat) (d : Int) (r : Int) (s : Int), (100 - s).toNat < n9 → (hs0 : 0 ≤ s) → (hs1 : s ≤ 100) → (hG : gdI a b d r s) → Rn X 0 mX2_commonDivisor (Kj ((Int.gcd a b : Nat) : Int) I) 9 [(0, jv a), (2, jv b), (4, jv d), (6, jv r), (8, iv s)] [] I := by
    intro n9
    induction n9 with
    | zero => intro d r s hm; omega
    | succ n9 ih9 =>
      intro d r s hm9 hs0 hs1 hG
      obtain ⟨g1, g2, g3, g4, g5, _⟩ := id hG
      refine r_iload (pc := 9) 4 rfl dX2_commonDivisor_9 ?_
      refine r_bipush (pc := 11) rfl dX2_commonDivisor_11 ?_
      refine r_icmp_ge (pc := 13) 44 (by unfold rg; omega) (by unfold rg; omega) dX2_commonDivisor_13 (by decide) (fun h13 => ?_) (fun h13 => ?_)
      · skip
        refine r_lload (pc := 44) 2 rfl dX2_commonDivisor_44 ?_
        refine r_lret (pc := 46) (st := []) rfl dX2_commonDivisor_46 ?_
        exact ⟨by rw [← g5, gcd_z g1 (by first | exact h19 | exact gdI_e hG (by omega))], rfl⟩
      · skip
        refine r_lload (pc := 16) 3 rfl dX2_commonDivisor_16 ?_
        refine r_lconst (pc := 18) (z := 0) rfl dX2_commonDivisor_18 ?_
        refine r_lcif_eq (pc := 19) 44 (by unfold rl; omega) (by unfold rl; omega) dX2_commonDivisor_19 dX2_commonDivisor_20 (by decide) (fun h19 => ?_) (fun h19 => ?_)
        · skip
          refine r_lload (pc := 44) 2 rfl dX2_commonDivisor_44 ?_
          refine r_lret (pc := 46) (st := []) rfl dX2_commonDivisor_46 ?_
          exact ⟨by rw [← g5, gcd_z g1 (by first | exact h19 | exact gdI_e hG (by omega))], rfl⟩
        · skip
          refine r_lload (pc := 23) 2 rfl dX2_commonDivisor_23 ?_
          refine r_lload (pc := 25) 3 rfl dX2_commonDivisor_25 ?_
          refine r_lrem (pc := 27) (z := d % r) (iL_ne (by omega) (by omega)) (lrem_i (by omega) (by omega) (by omega) (by omega)) dX2_commonDivisor_27 ?_
          refine r_lstore (pc := 28) [(9, jv (d % r)), (0, jv a), (2, jv b), (4, jv d), (6, jv r), (8, iv s)] (by decide) rfl dX2_commonDivisor_28 ?_
          refine r_lload (pc := 30) 4 rfl dX2_commonDivisor_30 ?_
          refine r_lstore (pc := 32) [(4, jv r), (9, jv (d % r)), (0, jv a), (2, jv b), (6, jv r), (8, iv s)] (by decide) rfl dX2_commonDivisor_32 ?_
          refine r_lload (pc := 34) 1 rfl dX2_commonDivisor_34 ?_
          refine r_lstore (pc := 36) [(6, jv (d % r)), (4, jv r), (9, jv (d % r)), (0, jv a), (2, jv b), (8, iv s)] (by decide) rfl dX2_commonDivisor_36 ?_
          refine r_iinc (pc := 38) 5 [(8, iv (s + 1)), (6, jv (d % r)), (4, jv r), (9, jv (d % r)), (0, jv a), (2, jv b)] rfl (by decide) rfl dX2_commonDivisor_38 ?_
          refine r_goto (pc := 41) 9 dX2_commonDivisor_41 (by decide) ?_
          refine r_lv [4, 5, 2, 1, 0] [(0, jv a), (2, jv b), (4, jv r), (6, jv (d % r)), (8, iv (s + 1))] rfl ?_
          exact ih9 r (d % r) (s + 1) (by omega) (by omega) (by omega) (gdI_s hG (by omega) hs0)
  refine r_lv [3, 4, 2, 1, 0] [(0, jv a), (2, jv b), (4, jv a), (6, jv b), (8, iv 0)] rfl ?_
  exact at9 _ a b 0 (Nat.lt_succ_self _) (by omega) (by omega) (⟨a0, a1, by omega, b1, rfl, Or.inl ⟨rfl, rfl, rfl⟩⟩)

set_option maxRecDepth 100000 in
set_option maxHeartbeats 4000000 in
theorem kX2_foresee (X : XC) {I : HD} {O : OF} (hR : RepC O I 0) (hV : Val O) {n : Int} (n0 : 1 ≤ n) (n3 : n ≤ 3) (nq : O 2 + n ≤ 12) : Cl X 5 mX2_foresee [rv X 24, rv X (oH 0), iv n] I (fun r J => r = none ∧ ∃ g, J = up (up (upA I 25 g) 24 1 (mnA O n / ((Int.gcd (mnA O n) (BL n) : Nat) : Int))) 24 2 (BL n / ((Int.gcd (mnA O n) (BL n) : Nat) : Int))) := by
  refine Cl.of (by decide) (Nat.le_of_ble_eq_true rfl) ?_
  show Rn X 5 mX2_foresee _ 0 [(0, rv X 24), (1, rv X (oH 0)), (2, iv n)] [] I
  have hRg : ∀ g, RepC O (upA I 25 g) 0 := fun g => hR.fr (fun a x y => upA_h (by have : oH 0 = 45 := rfl; omega))
  have q0 := hV.a
  refine r_aload_n (pc := 0) (a := 0) (i := 0) 0 rfl rfl dX2_foresee_0 ?_
  refine r_aload_n (pc := 1) (a := 1) (i := 1) 1 rfl rfl dX2_foresee_1 ?_
  refine r_iload_n (pc := 2) (a := 2) (i := 2) 2 rfl rfl dX2_foresee_2 ?_
  refine r_callV (pc := 3) (st := []) (As := [rv X (oH 0), iv n]) (D2 := 0) okX2_weigh (by decide) (by decide) rfl rfl rfl (Nat.le_of_ble_eq_true rfl) km_X2_22 (kX2_weigh X hR hV (by omega) n3 nq) dX2_foresee_3 ?_
  rintro _ _ ⟨rfl, g, rfl, hg⟩
  refine r_lconst (pc := 6) (z := 0) rfl dX2_foresee_6 ?_
  refine r_lstore_n (pc := 7) (a := 3) (i := 3) rfl [(3, jv 0), (0, rv X 24), (1, rv X (oH 0)), (2, iv n)] (by decide) rfl dX2_foresee_7 ?_
  refine r_lconst (pc := 8) (z := 1) rfl dX2_foresee_8 ?_
  refine r_lstore (pc := 9) [(5, jv 1), (3, jv 0), (0, rv X 24), (1, rv X (oH 0)), (2, iv n)] (by decide) rfl dX2_foresee_9 ?_
  refine r_iconst (pc := 11) dX2_foresee_11 ?_
  refine r_istore (pc := 12) [(7, iv 0), (5, jv 1), (3, jv 0), (0, rv X 24), (1, rv X (oH 0)), (2, iv n)] (by decide) rfl dX2_foresee_12 ?_
  have at14 : ∀ (n14 : Nat) (a : Int) (k : Int), (n + 1 - k).toNat < n14 → (hk0 : 0 ≤ k) → (hk1 : k ≤ n + 1) → (ha : a = sm O n.toNat k.toNat) → Rn X 5 mX2_foresee (fun r J => r = none ∧ ∃ g, J = up (up (upA I 25 g) 24 1 (mnA O n / ((Int.gcd (mnA O n) (BL n) : Nat) : Int))) 24 2 (BL n / ((Int.gcd (mnA O n) (BL n) : Nat) : Int))) 14 [(0, rv X 24), (1, rv X (oH 0)), (2, iv n), (3, jv a), (5, jv 1), (7, iv k)] [] (upA I 25 g) := by
    intro n14
    induction n14 with
    | zero => intro a k hm; omega
    | succ n14 ih14 =>
      intro a k hm14 hk0 hk1 ha
      refine r_iload (pc := 14) 5 rfl dX2_foresee_14 ?_
      refine r_iload_n (pc := 16) (a := 2) (i := 2) 2 rfl rfl dX2_foresee_16 ?_
      refine r_icmp_gt (pc := 17) 48 (by unfold rg; omega) (by unfold rg; omega) dX2_foresee_17 (by decide) (fun h17 => ?_) (fun h17 => ?_)
      · skip
        refine r_iconst (pc := 48) dX2_foresee_48 ?_
        refine r_istore (pc := 49) [(7, iv 0), (0, rv X 24), (1, rv X (oH 0)), (2, iv n), (3, jv a), (5, jv 1)] (by decide) rfl dX2_foresee_49 ?_
        have at51 : ∀ (n51 : Nat) (b : Int) (i : Int), (n - i).toNat < n51 → (hi0 : 0 ≤ i) → (hi1 : i ≤ n) → (hb : (i = 0 ∧ b = 1) ∨ (i = 1 ∧ b = 100) ∨ (i = 2 ∧ b = 10000) ∨ (i = 3 ∧ b = 1000000)) → Rn X 5 mX2_foresee (fun r J => r = none ∧ ∃ g, J = up (up (upA I 25 g) 24 1 (mnA O n / ((Int.gcd (mnA O n) (BL n) : Nat) : Int))) 24 2 (BL n / ((Int.gcd (mnA O n) (BL n) : Nat) : Int))) 51 [(0, rv X 24), (1, rv X (oH 0)), (2, iv n), (3, jv a), (5, jv b), (7, iv i)] [] (upA I 25 g) := by
          intro n51
          induction n51 with
          | zero => intro b i hm; omega
          | succ n51 ih51 =>
            intro b i hm51 hi0 hi1 hb
            refine r_iload (pc := 51) 5 rfl dX2_foresee_51 ?_
            refine r_iload_n (pc := 53) (a := 2) (i := 2) 2 rfl rfl dX2_foresee_53 ?_
            refine r_icmp_ge (pc := 54) 71 (by unfold rg; omega) (by unfold rg; omega) dX2_foresee_54 (by decide) (fun h54 => ?_) (fun h54 => ?_)
            · skip
              have hA := sm_le hV (n := n.toNat) (by omega) (by omega) (m := (n + 1).toNat)
              have e1 : a = mnA O n := by rw [ha]; unfold mnA; rw [show k = n + 1 by omega]
              have e2 : b = BL n := by unfold BL; omega
              have hA2 : 0 ≤ mnA O n ∧ mnA O n < 10000000000 := by unfold mnA; omega
              have hB2 : 0 < BL n ∧ BL n ≤ 1000000 := by unfold BL; omega
              have hp := gcd_p (a := mnA O n) hB2.1
              have hl := gcd_lt (a := mnA O n) hB2.1
              refine r_lve (lv2 := [(0, rv X 24), (1, rv X (oH 0)), (2, iv n), (3, jv (mnA O n)), (5, jv (BL n)), (7, iv i)]) (by rw [e1, e2]) ?_
              refine r_lload_n (pc := 71) (a := 3) (i := 3) 3 rfl rfl dX2_foresee_71 ?_
              refine r_lload (pc := 72) 4 rfl dX2_foresee_72 ?_
              refine r_callSj (pc := 74) (st := []) (As := [jv (mnA O n), jv (BL n)]) (D2 := 0) okX2_commonDivisor (by decide) trivial rfl (Nat.le_of_ble_eq_true rfl) km_X2_37 (kX2_commonDivisor X (by omega) (by omega) (by omega) (by omega)) dX2_foresee_74 ?_
              refine r_lstore (pc := 77) [(7, jv ((Int.gcd (mnA O n) (BL n) : Nat) : Int)), (0, rv X 24), (1, rv X (oH 0)), (2, iv n), (3, jv (mnA O n)), (5, jv (BL n))] (by decide) rfl dX2_foresee_77 ?_
              refine r_lload (pc := 79) 0 rfl dX2_foresee_79 ?_
              refine r_lconst (pc := 81) (z := 0) rfl dX2_foresee_81 ?_
              refine r_lcif_le (pc := 82) 105 (by unfold rl; omega) (by unfold rl; omega) dX2_foresee_82 dX2_foresee_83 (by decide) (fun h82 => ?_) (fun h82 => ?_)
              · skip
                refine r_vret (pc := 105) (st := []) rfl dX2_foresee_105 ?_
                omega
              · skip
                refine r_aload_n (pc := 86) (a := 0) (i := 0) 1 rfl rfl dX2_foresee_86 ?_
                refine r_lload_n (pc := 87) (a := 3) (i := 3) 4 rfl rfl dX2_foresee_87 ?_
                refine r_lload (pc := 88) 0 rfl dX2_foresee_88 ?_
                refine r_ldiv (pc := 90) (z := mnA O n / ((Int.gcd (mnA O n) (BL n) : Nat) : Int)) (iL_ne (by omega) (by omega)) (ldiv_i (by omega) (by omega) (by omega) (by omega)) dX2_foresee_90 ?_
                refine r_l2i (pc := 91) dX2_foresee_91 ?_
                refine r_put (pc := 92) 1 (ji := 1) rfl ckX2 (by decide) rfl rfl (by decide) (Nat.le_of_ble_eq_true rfl) kf_X2_15 rfl rfl rfl rfl dX2_foresee_92 ?_
                refine r_aload_n (pc := 95) (a := 0) (i := 0) 1 rfl rfl dX2_foresee_95 ?_
                refine r_lload (pc := 96) 5 rfl dX2_foresee_96 ?_
                refine r_lload (pc := 98) 0 rfl dX2_foresee_98 ?_
                refine r_ldiv (pc := 100) (z := BL n / ((Int.gcd (mnA O n) (BL n) : Nat) : Int)) (iL_ne (by omega) (by omega)) (ldiv_i (by omega) (by omega) (by omega) (by omega)) dX2_foresee_100 ?_
                refine r_l2i (pc := 101) dX2_foresee_101 ?_
                refine r_put (pc := 102) 2 (ji := 2) rfl ckX2 (by decide) rfl rfl (by decide) (Nat.le_of_ble_eq_true rfl) kf_X2_19 rfl rfl rfl rfl dX2_foresee_102 ?_
                refine r_vret (pc := 105) (st := []) rfl dX2_foresee_105 ?_
                exact ⟨rfl, g, rfl⟩
            · skip
              refine r_lload (pc := 57) 4 rfl dX2_foresee_57 ?_
              refine r_ldc2 (pc := 59) kc_X2_35 dX2_foresee_59 ?_
              refine r_lmul (pc := 62) dX2_foresee_62 ?_
              refine r_lstore (pc := 63) [(5, jv (b * 100)), (0, rv X 24), (1, rv X (oH 0)), (2, iv n), (3, jv a), (7, iv i)] (by decide) rfl dX2_foresee_63 ?_
              refine r_iinc (pc := 65) 5 [(7, iv (i + 1)), (5, jv (b * 100)), (0, rv X 24), (1, rv X (oH 0)), (2, iv n), (3, jv a)] rfl (by decide) rfl dX2_foresee_65 ?_
              refine r_goto (pc := 68) 51 dX2_foresee_68 (by decide) ?_
              refine r_lv [2, 3, 4, 5, 1, 0] [(0, rv X 24), (1, rv X (oH 0)), (2, iv n), (3, jv a), (5, jv (b * 100)), (7, iv (i + 1))] rfl ?_
              exact ih51 (b * 100) (i + 1) (by omega) (by omega) (by omega) (by omega)
        refine r_lv [1, 2, 3, 4, 5, 0] [(0, rv X 24), (1, rv X (oH 0)), (2, iv n), (3, jv a), (5, jv 1), (7, iv 0)] rfl ?_
        exact at51 _ 1 0 (Nat.lt_succ_self _) (by omega) (by omega) (by omega)
      · skip
        refine r_lload_n (pc := 20) (a := 3) (i := 3) 3 rfl rfl dX2_foresee_20 ?_
        refine r_aload_n (pc := 21) (a := 0) (i := 0) 0 rfl rfl dX2_foresee_21 ?_
        refine r_get (pc := 22) ckX2 (by decide) rfl (j := 0) (by decide) rfl kf_X2_9 dX2_foresee_22 ?_
        refine r_iload (pc := 25) 5 rfl dX2_foresee_25 ?_
        refine r_lald (pc := 27) (z := od O n.toNat k) (by decide) rfl (by omega) (by omega) (by decide) ((congrFun upA_s _).trans (hg k (by omega) (by omega))) dX2_foresee_27 ?_
        have hws := wsum_le (f := tkn O k) hV (n := (O 1).toNat) (by omega)
        refine r_aload_n (pc := 28) (a := 1) (i := 1) 1 rfl rfl dX2_foresee_28 ?_
        refine r_aload_n (pc := 29) (a := 1) (i := 1) 1 rfl rfl dX2_foresee_29 ?_
        refine r_iload (pc := 30) 5 rfl dX2_foresee_30 ?_
        refine r_callVi (pc := 32) (st := [rv X (oH 0), jv (od O n.toNat k), jv a]) (As := [iv k]) okX3_takenBy (by decide) (oH_lt (show 0 < 28 by decide)) (cellO (show 0 < 28 by decide)) rfl rfl (Nat.le_of_ble_eq_true rfl) km_X2_26 (kX3_takenBy X (by decide) (hRg g) hV (by omega) (by omega)) dX2_foresee_32 ?_
        refine r_callVi (pc := 35) (st := [jv (od O n.toNat k), jv a]) (As := [iv ((bset (tkn O k) 16 : Nat) : Int)]) okX3_worthOf (by decide) (oH_lt (show 0 < 28 by decide)) (cellO (show 0 < 28 by decide)) rfl rfl (Nat.le_of_ble_eq_true rfl) km_X2_32 (kX3_worthOf X (by decide) (hRg g) hV (tkn O k)) dX2_foresee_35 ?_
        refine r_i2l (pc := 38) (by unfold rg; omega) dX2_foresee_38 ?_
        refine r_lmul (pc := 39) dX2_foresee_39 ?_
        refine r_ladd (pc := 40) dX2_foresee_40 ?_
        refine r_lstore_n (pc := 41) (a := 3) (i := 3) rfl [(3, jv (a + ((od O n.toNat k) * (wsum O (tkn O k) (O 1).toNat)))), (0, rv X 24), (1, rv X (oH 0)), (2, iv n), (5, jv 1), (7, iv k)] (by decide) rfl dX2_foresee_41 ?_
        refine r_iinc (pc := 42) 5 [(7, iv (k + 1)), (3, jv (a + ((od O n.toNat k) * (wsum O (tkn O k) (O 1).toNat)))), (0, rv X 24), (1, rv X (oH 0)), (2, iv n), (5, jv 1)] rfl (by decide) rfl dX2_foresee_42 ?_
        refine r_goto (pc := 45) 14 dX2_foresee_45 (by decide) ?_
        refine r_lv [2, 3, 4, 1, 5, 0] [(0, rv X 24), (1, rv X (oH 0)), (2, iv n), (3, jv (a + ((od O n.toNat k) * (wsum O (tkn O k) (O 1).toNat)))), (5, jv 1), (7, iv (k + 1))] rfl ?_
        exact ih14 (a + ((od O n.toNat k) * (wsum O (tkn O k) (O 1).toNat))) (k + 1) (by omega) (by omega) (by omega) (by rw [sm_s hk0, ha])
  refine r_lv [3, 4, 5, 2, 1, 0] [(0, rv X 24), (1, rv X (oH 0)), (2, iv n), (3, jv 0), (5, jv 1), (7, iv 0)] rfl ?_
  exact at14 _ 0 0 (Nat.lt_succ_self _) (by omega) (by omega) (rfl)

set_option maxRecDepth 100000 in
set_option maxHeartbeats 4000000 in
theorem kX8_mean (X : XC) {I : HD} {O : OF} (hR : RepC O I 0) (hV : Val O) {n w : Int} (hn : rg n) (hw : rg w) : Cl X 6 mX8_mean [rv X 0, iv n, iv w] I (fun q J => q = some (iv (zMean O n w)) ∧ ∀ a, a ≠ 24 → a ≠ 25 → J a = I a) := by
  refine Cl.of (by decide) (Nat.le_of_ble_eq_true rfl) ?_
  show Rn X 6 mX8_mean _ 0 [(0, rv X 0), (1, iv n), (2, iv w)] [] I
  unfold rg at hn hw
  have q0 := hV.a
  refine r_aload_n (pc := 0) (a := 0) (i := 0) 0 rfl rfl dX8_mean_0 ?_
  refine r_get (pc := 1) ckX8 (by decide) rfl (j := 2) (by decide) rfl kf_X8_25 dX8_mean_1 ?_
  refine r_callVi (pc := 4) (st := []) (As := []) okX3_isThere (by decide) (oH_lt (show 0 < 28 by decide)) (cellO (show 0 < 28 by decide)) rfl rfl (Nat.le_of_ble_eq_true rfl) km_X8_197 (kX3_isThere X (by decide) hR hV ) dX8_mean_4 ?_
  refine r_if_ne (pc := 7) 13 rg_bI dX8_mean_7 (by decide) (fun h7 => ?_) (fun h7 => ?_)
  · skip
    have h7 := bI_n.mp h7
    refine r_iload_n (pc := 13) (a := 1) (i := 1) 1 rfl rfl dX8_mean_13 ?_
    refine r_iconst (pc := 14) dX8_mean_14 ?_
    refine r_icmp_lt (pc := 15) 46 (by unfold rg; omega) (by unfold rg; omega) dX8_mean_15 (by decide) (fun h15 => ?_) (fun h15 => ?_)
    · skip
      refine r_ldc (pc := 46) kc_X8_73 dX8_mean_46 ?_
      refine r_iret (pc := 48) (st := []) rfl dX8_mean_48 ?_
      exact ⟨by unfold zMean; rw [if_pos (by omega), if_neg (by omega)], fun _ _ _ => rfl⟩
    · skip
      refine r_iload_n (pc := 18) (a := 1) (i := 1) 1 rfl rfl dX8_mean_18 ?_
      refine r_iconst (pc := 19) dX8_mean_19 ?_
      refine r_icmp_gt (pc := 20) 46 (by unfold rg; omega) (by unfold rg; omega) dX8_mean_20 (by decide) (fun h20 => ?_) (fun h20 => ?_)
      · skip
        refine r_ldc (pc := 46) kc_X8_73 dX8_mean_46 ?_
        refine r_iret (pc := 48) (st := []) rfl dX8_mean_48 ?_
        exact ⟨by unfold zMean; rw [if_pos (by omega), if_neg (by omega)], fun _ _ _ => rfl⟩
      · skip
        refine r_iload_n (pc := 23) (a := 1) (i := 1) 1 rfl rfl dX8_mean_23 ?_
        refine r_bipush (pc := 24) rfl dX8_mean_24 ?_
        refine r_aload_n (pc := 26) (a := 0) (i := 0) 0 rfl rfl dX8_mean_26 ?_
        refine r_get (pc := 27) ckX8 (by decide) rfl (j := 2) (by decide) rfl kf_X8_25 dX8_mean_27 ?_
        refine r_getN (pc := 30) ckX3 (oH_lt (show 0 < 28 by decide)) (cellO (show 0 < 28 by decide)) (j := 10) (by decide) (congrArg (fun q => some (iv q)) hR.f2) kf_X8_174 dX8_mean_30 ?_
        refine r_isub (pc := 33) dX8_mean_33 ?_
        refine r_icmp_gt (pc := 34) 46 (by unfold rg; omega) (by unfold rg; omega) dX8_mean_34 (by decide) (fun h34 => ?_) (fun h34 => ?_)
        · skip
          refine r_ldc (pc := 46) kc_X8_73 dX8_mean_46 ?_
          refine r_iret (pc := 48) (st := []) rfl dX8_mean_48 ?_
          exact ⟨by unfold zMean; rw [if_pos (by omega), if_neg (by omega)], fun _ _ _ => rfl⟩
        · skip
          refine r_iload_n (pc := 37) (a := 2) (i := 2) 2 rfl rfl dX8_mean_37 ?_
          refine r_if_lt (pc := 38) 46 (by unfold rg; omega) dX8_mean_38 (by decide) (fun h38 => ?_) (fun h38 => ?_)
          · skip
            refine r_ldc (pc := 46) kc_X8_73 dX8_mean_46 ?_
            refine r_iret (pc := 48) (st := []) rfl dX8_mean_48 ?_
            exact ⟨by unfold zMean; rw [if_pos (by omega), if_neg (by omega)], fun _ _ _ => rfl⟩
          · skip
            refine r_iload_n (pc := 41) (a := 2) (i := 2) 2 rfl rfl dX8_mean_41 ?_
            refine r_iconst (pc := 42) dX8_mean_42 ?_
            refine r_icmp_le (pc := 43) 49 (by unfold rg; omega) (by unfold rg; omega) dX8_mean_43 (by decide) (fun h43 => ?_) (fun h43 => ?_)
            · skip
              refine r_aload_n (pc := 49) (a := 0) (i := 0) 0 rfl rfl dX8_mean_49 ?_
              refine r_get (pc := 50) ckX8 (by decide) rfl (j := 5) (by decide) rfl kf_X8_43 dX8_mean_50 ?_
              refine r_aload_n (pc := 53) (a := 0) (i := 0) 0 rfl rfl dX8_mean_53 ?_
              refine r_get (pc := 54) ckX8 (by decide) rfl (j := 2) (by decide) rfl kf_X8_25 dX8_mean_54 ?_
              refine r_iload_n (pc := 57) (a := 1) (i := 1) 1 rfl rfl dX8_mean_57 ?_
              refine r_callV (pc := 58) (st := []) (As := [rv X (oH 0), iv n]) (D2 := 5) okX2_foresee (by decide) (by decide) rfl rfl rfl (Nat.le_of_ble_eq_true rfl) km_X8_251 (kX2_foresee X hR hV (by omega) (by omega) (by omega)) dX8_mean_58 ?_
              rintro _ _ ⟨rfl, g, rfl⟩
              refine r_iload_n (pc := 61) (a := 2) (i := 2) 2 rfl rfl dX8_mean_61 ?_
              refine r_if_ne (pc := 62) 75 (by unfold rg; omega) dX8_mean_62 (by decide) (fun h62 => ?_) (fun h62 => ?_)
              · skip
                refine r_aload_n (pc := 75) (a := 0) (i := 0) 0 rfl rfl dX8_mean_75 ?_
                refine r_get (pc := 76) ckX8 (by decide) rfl (j := 5) (by decide) rfl kf_X8_43 dX8_mean_76 ?_
                refine r_getN (pc := 79) ckX2 (by decide) rfl (j := 2) (by decide) (congrArg (fun q => some (iv q)) up_s) kf_X8_258 dX8_mean_79 ?_
                refine r_iret (pc := 82) (st := []) rfl dX8_mean_82 ?_
                exact ⟨by unfold zMean mnV; rw [if_pos (by omega), if_pos (by omega), if_neg (by omega)], fun a x y => (up_row x).trans ((up_row x).trans (upA_h y))⟩
              · skip
                refine r_aload_n (pc := 65) (a := 0) (i := 0) 0 rfl rfl dX8_mean_65 ?_
                refine r_get (pc := 66) ckX8 (by decide) rfl (j := 5) (by decide) rfl kf_X8_43 dX8_mean_66 ?_
                refine r_getN (pc := 69) ckX2 (by decide) rfl (j := 1) (by decide) (congrArg (fun q => some (iv q)) ((up_i (by decide)).trans up_s)) kf_X8_255 dX8_mean_69 ?_
                refine r_goto (pc := 72) 82 dX8_mean_72 (by decide) ?_
                refine r_iret (pc := 82) (st := []) rfl dX8_mean_82 ?_
                exact ⟨by unfold zMean mnV; rw [if_pos (by omega), if_pos (by omega), if_pos (by omega)], fun a x y => (up_row x).trans ((up_row x).trans (upA_h y))⟩
            · skip
              refine r_ldc (pc := 46) kc_X8_73 dX8_mean_46 ?_
              refine r_iret (pc := 48) (st := []) rfl dX8_mean_48 ?_
              exact ⟨by unfold zMean; rw [if_pos (by omega), if_neg (by omega)], fun _ _ _ => rfl⟩
  · skip
    have h7 := bI_0.mp h7
    refine r_ldc (pc := 10) kc_X8_160 dX8_mean_10 ?_
    refine r_iret (pc := 12) (st := []) rfl dX8_mean_12 ?_
    exact ⟨by unfold zMean; rw [if_neg (by omega)], fun _ _ _ => rfl⟩

set_option maxRecDepth 100000 in
set_option maxHeartbeats 4000000 in
theorem kX9_mean (X : XC) {I : HD} {O : OF} (hO : I 34 = O) (hT : I 30 7 = bI (0 < O 0)) (hV : Val O) {n w : Int} (hn : rg n) (hw : rg w) : Cl X 5 mX9_mean [rv X 30, iv n, iv w] I (fun q J => q = some (iv (zMean O n w)) ∧ ∃ g f, J = upA (upA (up I 30 0 0) 39 g) 38 f) := by
  refine Cl.of (by decide) (Nat.le_of_ble_eq_true rfl) ?_
  show Rn X 5 mX9_mean _ 0 [(0, rv X 30), (1, iv n), (2, iv w)] [] I
  have hO2 : (up I 30 0 0) 34 = O := (up_row (by decide)).trans hO
  have hT2 : (up I 30 0 0) 30 7 = bI (0 < O 0) := (up_i (by decide)).trans hT
  unfold rg at hn hw
  have q0 := hV.a
  have hOg : ∀ g, (upA (up I 30 0 0) 39 g) 34 = O := fun g => (upA_h (by decide)).trans hO2
  have hOf : ∀ g f, (upA (upA (up I 30 0 0) 39 g) 38 f) 34 = O := fun g f => (upA_h (by decide)).trans (hOg g)
  refine r_aload_n (pc := 0) (a := 0) (i := 0) 0 rfl rfl dX9_mean_0 ?_
  refine r_iconst (pc := 1) dX9_mean_1 ?_
  refine r_put (pc := 2) 0 (ji := 0) rfl ckX9 (by decide) rfl rfl (by decide) (Nat.le_of_ble_eq_true rfl) kf_X9_54 rfl rfl rfl rfl dX9_mean_2 ?_
  refine r_aload_n (pc := 5) (a := 0) (i := 0) 0 rfl rfl dX9_mean_5 ?_
  refine r_get (pc := 6) ckX9 (by decide) rfl (j := 7) (by decide) (congrArg (fun q => some (iv q)) hT2) kf_X9_184 dX9_mean_6 ?_
  refine r_if_ne (pc := 9) 15 rg_bI dX9_mean_9 (by decide) (fun h9 => ?_) (fun h9 => ?_)
  · skip
    have h9 := bI_n.mp h9
    refine r_iload_n (pc := 15) (a := 1) (i := 1) 1 rfl rfl dX9_mean_15 ?_
    refine r_i2l (pc := 16) (by unfold rg; omega) dX9_mean_16 ?_
    refine r_lconst (pc := 17) (z := 1) rfl dX9_mean_17 ?_
    refine r_ldc2 (pc := 18) kc_X9_255 dX9_mean_18 ?_
    refine r_callSi (pc := 21) (st := []) (As := [jv n, jv 1, jv 3]) okX9_in (by decide) trivial rfl (Nat.le_of_ble_eq_true rfl) km_X9_64 (kX9_in X (by unfold rl; omega) (by unfold rl; omega) (by unfold rl; omega)) dX9_mean_21 ?_
    refine r_if_eq (pc := 24) 50 rg_bI dX9_mean_24 (by decide) (fun h24 => ?_) (fun h24 => ?_)
    · skip
      have h24 := bI_0.mp h24
      refine r_ldc (pc := 50) kc_X9_74 dX9_mean_50 ?_
      refine r_iret (pc := 52) (st := []) rfl dX9_mean_52 ?_
      exact ⟨by unfold zMean; rw [if_pos (by omega), if_neg (by omega)], _, _, by rw [upA_id, upA_id]⟩
    · skip
      have h24 := bI_n.mp h24
      refine r_aload_n (pc := 27) (a := 0) (i := 0) 0 rfl rfl dX9_mean_27 ?_
      refine r_get (pc := 28) ckX9 (by decide) rfl (j := 5) (by decide) rfl kf_X9_19 dX9_mean_28 ?_
      refine r_iconst (pc := 31) dX9_mean_31 ?_
      refine r_iald (pc := 32) (z := O 2) (by decide) rfl (by omega) (by omega) (by decide) (congrFun hO2 _) dX9_mean_32 ?_
      refine r_iload_n (pc := 33) (a := 1) (i := 1) 1 rfl rfl dX9_mean_33 ?_
      refine r_iadd (pc := 34) dX9_mean_34 ?_
      refine r_bipush (pc := 35) rfl dX9_mean_35 ?_
      refine r_icmp_gt (pc := 37) 50 (by unfold rg; omega) (by unfold rg; omega) dX9_mean_37 (by decide) (fun h37 => ?_) (fun h37 => ?_)
      · skip
        refine r_ldc (pc := 50) kc_X9_74 dX9_mean_50 ?_
        refine r_iret (pc := 52) (st := []) rfl dX9_mean_52 ?_
        exact ⟨by unfold zMean; rw [if_pos (by omega), if_neg (by omega)], _, _, by rw [upA_id, upA_id]⟩
      · skip
        refine r_iload_n (pc := 40) (a := 2) (i := 2) 2 rfl rfl dX9_mean_40 ?_
        refine r_i2l (pc := 41) (by unfold rg; omega) dX9_mean_41 ?_
        refine r_lconst (pc := 42) (z := 0) rfl dX9_mean_42 ?_
        refine r_lconst (pc := 43) (z := 1) rfl dX9_mean_43 ?_
        refine r_callSi (pc := 44) (st := []) (As := [jv w, jv 0, jv 1]) okX9_in (by decide) trivial rfl (Nat.le_of_ble_eq_true rfl) km_X9_64 (kX9_in X (by unfold rl; omega) (by unfold rl; omega) (by unfold rl; omega)) dX9_mean_44 ?_
        refine r_if_ne (pc := 47) 53 rg_bI dX9_mean_47 (by decide) (fun h47 => ?_) (fun h47 => ?_)
        · skip
          have h47 := bI_n.mp h47
          refine r_iconst (pc := 53) dX9_mean_53 ?_
          refine r_istore_n (pc := 54) (a := 3) (i := 3) rfl [(3, iv 0), (0, rv X 30), (1, iv n), (2, iv w)] (by decide) rfl dX9_mean_54 ?_
          refine r_I (J := upA (up I 30 0 0) 39 ((up I 30 0 0) 39)) (upA_id.symm) ?_
          have at55 : ∀ (n55 : Nat) (g : Int → Int) (k : Int), (4 - k).toNat < n55 → (hk0 : 0 ≤ k) → (hk1 : k ≤ 4) → (hg : ∀ i, 0 ≤ i → i < k → g i = od O 0 i) → Rn X 5 mX9_mean (fun q J => q = some (iv (zMean O n w)) ∧ ∃ g f, J = upA (upA (up I 30 0 0) 39 g) 38 f) 55 [(0, rv X 30), (1, iv n), (2, iv w), (3, iv k)] [] (upA (up I 30 0 0) 39 g) := by
            intro n55
            induction n55 with
            | zero => intro g k hm; omega
            | succ n55 ih55 =>
              intro g k hm55 hk0 hk1 hg
              refine r_iload_n (pc := 55) (a := 3) (i := 3) 3 rfl rfl dX9_mean_55 ?_
              refine r_iconst (pc := 56) dX9_mean_56 ?_
              refine r_icmp_ge (pc := 57) 81 (by unfold rg; omega) (by unfold rg; omega) dX9_mean_57 (by decide) (fun h57 => ?_) (fun h57 => ?_)
              · skip
                refine r_lconst (pc := 81) (z := 1) rfl dX9_mean_81 ?_
                refine r_lstore_n (pc := 82) (a := 3) (i := 3) rfl [(3, jv 1), (0, rv X 30), (1, iv n), (2, iv w)] (by decide) rfl dX9_mean_82 ?_
                refine r_iconst (pc := 83) dX9_mean_83 ?_
                refine r_istore (pc := 84) [(5, iv 0), (3, jv 1), (0, rv X 30), (1, iv n), (2, iv w)] (by decide) rfl dX9_mean_84 ?_
                have at86 : ∀ (n86 : Nat) (g : Int → Int) (y : Int) (j : Int), (n - j).toNat < n86 → (hj0 : 0 ≤ j) → (hj1 : j ≤ n) → (hg : ∀ i, 0 ≤ i → i < 4 → g i = od O j.toNat i) → (hy : (j = 0 ∧ y = 1) ∨ (j = 1 ∧ y = 100) ∨ (j = 2 ∧ y = 10000) ∨ (j = 3 ∧ y = 1000000)) → Rn X 5 mX9_mean (fun q J => q = some (iv (zMean O n w)) ∧ ∃ g f, J = upA (upA (up I 30 0 0) 39 g) 38 f) 86 [(0, rv X 30), (1, iv n), (2, iv w), (3, jv y), (5, iv j)] [] (upA (up I 30 0 0) 39 g) := by
                  intro n86
                  induction n86 with
                  | zero => intro g y j hm; omega
                  | succ n86 ih86 =>
                    intro g y j hm86 hj0 hj1 hg hy
                    refine r_iload (pc := 86) 4 rfl dX9_mean_86 ?_
                    refine r_iload_n (pc := 88) (a := 1) (i := 1) 1 rfl rfl dX9_mean_88 ?_
                    refine r_icmp_ge (pc := 89) 180 (by unfold rg; omega) (by unfold rg; omega) dX9_mean_89 (by decide) (fun h89 => ?_) (fun h89 => ?_)
                    · skip
                      have hg4 : ∀ k, 0 ≤ k → k < 4 → g k = od O n.toNat k := fun k a b => by rw [hg k a b, show n = j by omega]
                      have e2 : y = BL n := by unfold BL; omega
                      refine r_lconst (pc := 180) (z := 0) rfl dX9_mean_180 ?_
                      refine r_lstore (pc := 181) [(5, jv 0), (0, rv X 30), (1, iv n), (2, iv w), (3, jv y)] (by decide) rfl dX9_mean_181 ?_
                      refine r_iconst (pc := 183) dX9_mean_183 ?_
                      refine r_istore (pc := 184) [(7, iv 0), (5, jv 0), (0, rv X 30), (1, iv n), (2, iv w), (3, jv y)] (by decide) rfl dX9_mean_184 ?_
                      refine r_I (J := upA (upA (up I 30 0 0) 39 g) 38 ((upA (up I 30 0 0) 39 g) 38)) (upA_id.symm) ?_
                      have at186 : ∀ (n186 : Nat) (f : Int → Int) (s : Int) (k : Int), (4 - k).toNat < n186 → (hk0 : 0 ≤ k) → (hk1 : k ≤ 4) → (hs : s = sm O n.toNat k.toNat) → Rn X 5 mX9_mean (fun q J => q = some (iv (zMean O n w)) ∧ ∃ g f, J = upA (upA (up I 30 0 0) 39 g) 38 f) 186 [(0, rv X 30), (1, iv n), (2, iv w), (3, jv y), (5, jv s), (7, iv k)] [] (upA (upA (up I 30 0 0) 39 g) 38 f) := by
                        intro n186
                        induction n186 with
                        | zero => intro f s k hm; omega
                        | succ n186 ih186 =>
                          intro f s k hm186 hk0 hk1 hs
                          refine r_iload (pc := 186) 5 rfl dX9_mean_186 ?_
                          refine r_iconst (pc := 188) dX9_mean_188 ?_
                          refine r_icmp_ge (pc := 189) 222 (by unfold rg; omega) (by unfold rg; omega) dX9_mean_189 (by decide) (fun h189 => ?_) (fun h189 => ?_)
                          · skip
                            have hA := sm_le hV (n := n.toNat) (by omega) (by omega) (m := (4 : Int).toNat)
                            have e1 : s = mnA O n := by rw [hs, show k = 4 by omega]; exact mnA_4 (by omega) (by omega)
                            rw [mnA_4 (by omega) (by omega)] at hA
                            have hB2 : 0 < BL n ∧ BL n ≤ 1000000 := by unfold BL; omega
                            have hp := gcd_p (a := mnA O n) hB2.1
                            have hl := gcd_lt (a := mnA O n) hB2.1
                            refine r_lve (lv2 := [(0, rv X 30), (1, iv n), (2, iv w), (3, jv (BL n)), (5, jv (mnA O n)), (7, iv k)]) (by rw [e1, e2]) ?_
                            refine r_lload (pc := 222) 4 rfl dX9_mean_222 ?_
                            refine r_lstore (pc := 224) [(7, jv (mnA O n)), (0, rv X 30), (1, iv n), (2, iv w), (3, jv (BL n)), (5, jv (mnA O n))] (by decide) rfl dX9_mean_224 ?_
                            refine r_lload_n (pc := 226) (a := 3) (i := 3) 4 rfl rfl dX9_mean_226 ?_
                            refine r_lstore (pc := 227) [(9, jv (BL n)), (7, jv (mnA O n)), (0, rv X 30), (1, iv n), (2, iv w), (3, jv (BL n)), (5, jv (mnA O n))] (by decide) rfl dX9_mean_227 ?_
                            have at229 : ∀ (n229 : Nat) (x : Int) (y : Int) (t : Int), y.toNat < n229 → (ht0 : 0 ≤ t) → (hG : gdI (mnA O n) (BL n) x y t) → Rn X 5 mX9_mean (fun q J => q = some (iv (zMean O n w)) ∧ ∃ g f, J = upA (upA (up I 30 0 0) 39 g) 38 f) 229 [(0, rv X 30), (1, iv n), (2, iv w), (3, jv (BL n)), (5, jv (mnA O n)), (7, jv x), (9, jv y)] [] (upA (upA (up I 30 0 0) 39 g) 38 f) := by
                              intro n229
                              induction n229 with
                              | zero => intro x y t hm; omega
                              | succ n229 ih229 =>
                                intro x y t hm229 ht0 hG
                                obtain ⟨g1, g2, g3, g4, g5, _⟩ := id hG
                                refine r_lload (pc := 229) 6 rfl dX9_mean_229 ?_
                                refine r_lconst (pc := 231) (z := 0) rfl dX9_mean_231 ?_
                                refine r_lcif_eq (pc := 232) 254 (by unfold rl; omega) (by unfold rl; omega) dX9_mean_232 dX9_mean_233 (by decide) (fun h232 => ?_) (fun h232 => ?_)
                                · skip
                                  have ex : x = ((Int.gcd (mnA O n) (BL n) : Nat) : Int) := by rw [← g5, gcd_z g1 h232]
                                  refine r_iload_n (pc := 254) (a := 2) (i := 2) 2 rfl rfl dX9_mean_254 ?_
                                  refine r_if_ne (pc := 255) 263 (by unfold rg; omega) dX9_mean_255 (by decide) (fun h255 => ?_) (fun h255 => ?_)
                                  · skip
                                    refine r_lload_n (pc := 263) (a := 3) (i := 3) 3 rfl rfl dX9_mean_263 ?_
                                    refine r_lload (pc := 264) 5 rfl dX9_mean_264 ?_
                                    refine r_ldiv (pc := 266) (z := BL n / x) (iL_ne (by omega) (by omega)) (ldiv_i (by omega) (by omega) (by omega) (by omega)) dX9_mean_266 ?_
                                    refine r_l2i (pc := 267) dX9_mean_267 ?_
                                    refine r_iret (pc := 268) (st := []) rfl dX9_mean_268 ?_
                                    exact ⟨by unfold zMean mnV; rw [if_pos (by omega), if_pos (by omega), if_neg (by omega), ex], g, f, rfl⟩
                                  · skip
                                    refine r_lload (pc := 258) 4 rfl dX9_mean_258 ?_
                                    refine r_goto (pc := 260) 264 dX9_mean_260 (by decide) ?_
                                    refine r_lload (pc := 264) 5 rfl dX9_mean_264 ?_
                                    refine r_ldiv (pc := 266) (z := mnA O n / x) (iL_ne (by omega) (by omega)) (ldiv_i (by omega) (by omega) (by omega) (by omega)) dX9_mean_266 ?_
                                    refine r_l2i (pc := 267) dX9_mean_267 ?_
                                    refine r_iret (pc := 268) (st := []) rfl dX9_mean_268 ?_
                                    exact ⟨by unfold zMean mnV; rw [if_pos (by omega), if_pos (by omega), if_pos (by omega), ex], g, f, rfl⟩
                                · skip
                                  refine r_lload (pc := 236) 5 rfl dX9_mean_236 ?_
                                  refine r_lload (pc := 238) 6 rfl dX9_mean_238 ?_
                                  refine r_lrem (pc := 240) (z := x % y) (iL_ne (by omega) (by omega)) (lrem_i (by omega) (by omega) (by omega) (by omega)) dX9_mean_240 ?_
                                  refine r_lstore (pc := 241) [(11, jv (x % y)), (0, rv X 30), (1, iv n), (2, iv w), (3, jv (BL n)), (5, jv (mnA O n)), (7, jv x), (9, jv y)] (by decide) rfl dX9_mean_241 ?_
                                  refine r_lload (pc := 243) 7 rfl dX9_mean_243 ?_
                                  refine r_lstore (pc := 245) [(7, jv y), (11, jv (x % y)), (0, rv X 30), (1, iv n), (2, iv w), (3, jv (BL n)), (5, jv (mnA O n)), (9, jv y)] (by decide) rfl dX9_mean_245 ?_
                                  refine r_lload (pc := 247) 1 rfl dX9_mean_247 ?_
                                  refine r_lstore (pc := 249) [(9, jv (x % y)), (7, jv y), (11, jv (x % y)), (0, rv X 30), (1, iv n), (2, iv w), (3, jv (BL n)), (5, jv (mnA O n))] (by decide) rfl dX9_mean_249 ?_
                                  refine r_goto (pc := 251) 229 dX9_mean_251 (by decide) ?_
                                  refine r_lv [3, 4, 5, 6, 7, 1, 0] [(0, rv X 30), (1, iv n), (2, iv w), (3, jv (BL n)), (5, jv (mnA O n)), (7, jv y), (9, jv (x % y))] rfl ?_
                                  exact ih229 y (x % y) (t + 1) (by have := Int.emod_lt_of_pos x (show 0 < y by omega); have := Int.emod_nonneg x (show y ≠ 0 by omega); omega) (by omega) (gdI_s hG (by omega) ht0)
                            refine r_lv [2, 3, 4, 5, 6, 1, 0] [(0, rv X 30), (1, iv n), (2, iv w), (3, jv (BL n)), (5, jv (mnA O n)), (7, jv (mnA O n)), (9, jv (BL n))] rfl ?_
                            exact at229 _ (mnA O n) (BL n) 0 (Nat.lt_succ_self _) (by omega) (⟨hA.1, by omega, by omega, hB2.2, rfl, Or.inl ⟨rfl, rfl, rfl⟩⟩)
                          · skip
                            refine r_lload (pc := 192) 4 rfl dX9_mean_192 ?_
                            refine r_aload_n (pc := 194) (a := 0) (i := 0) 0 rfl rfl dX9_mean_194 ?_
                            refine r_get (pc := 195) ckX9 (by decide) rfl (j := 21) (by decide) rfl kf_X9_34 dX9_mean_195 ?_
                            refine r_iload (pc := 198) 5 rfl dX9_mean_198 ?_
                            refine r_lald (pc := 200) (z := od O n.toNat k) (by decide) rfl (by omega) (by omega) (by decide) ((congrFun (upA_h (by decide)) _).trans ((congrFun upA_s _).trans (hg4 k (by omega) (by omega)))) dX9_mean_200 ?_
                            refine r_aload_n (pc := 201) (a := 0) (i := 0) 0 rfl rfl dX9_mean_201 ?_
                            refine r_aload_n (pc := 202) (a := 0) (i := 0) 0 rfl rfl dX9_mean_202 ?_
                            refine r_iload (pc := 203) 5 rfl dX9_mean_203 ?_
                            refine r_callV (pc := 205) (st := [rv X 30, jv (od O n.toNat k), jv s]) (As := [iv k]) (D2 := 3) okX9_takenBy (by decide) (by decide) rfl rfl rfl (Nat.le_of_ble_eq_true rfl) km_X9_249 (kX9_takenBy X (hOf g f) hV (n := k) (by omega) (by omega)) dX9_mean_205 ?_
                            rintro _ _ ⟨rfl, f2, rfl⟩
                            refine r_I (J := upA (upA (up I 30 0 0) 39 g) 38 f2) (upA_A) ?_
                            refine r_callVi (pc := 208) (st := [jv (od O n.toNat k), jv s]) (As := [iv ((bset (tkn O k) 16 : Nat) : Int)]) okX9_worthOf (by decide) (by decide) rfl rfl rfl (Nat.le_of_ble_eq_true rfl) km_X9_252 (kX9_worthOf X (hOf g f2) hV (tkn O k)) dX9_mean_208 ?_
                            have hws := wsum_le (f := tkn O k) hV (n := (O 1).toNat) (by omega)
                            refine r_i2l (pc := 211) (by unfold rg; omega) dX9_mean_211 ?_
                            refine r_lmul (pc := 212) dX9_mean_212 ?_
                            refine r_ladd (pc := 213) dX9_mean_213 ?_
                            refine r_lstore (pc := 214) [(5, jv (s + ((od O n.toNat k) * (wsum O (tkn O k) (O 1).toNat)))), (0, rv X 30), (1, iv n), (2, iv w), (3, jv y), (7, iv k)] (by decide) rfl dX9_mean_214 ?_
                            refine r_iinc (pc := 216) 5 [(7, iv (k + 1)), (5, jv (s + ((od O n.toNat k) * (wsum O (tkn O k) (O 1).toNat)))), (0, rv X 30), (1, iv n), (2, iv w), (3, jv y)] rfl (by decide) rfl dX9_mean_216 ?_
                            refine r_goto (pc := 219) 186 dX9_mean_219 (by decide) ?_
                            refine r_lv [2, 3, 4, 5, 1, 0] [(0, rv X 30), (1, iv n), (2, iv w), (3, jv y), (5, jv (s + ((od O n.toNat k) * (wsum O (tkn O k) (O 1).toNat)))), (7, iv (k + 1))] rfl ?_
                            exact ih186 _ (s + ((od O n.toNat k) * (wsum O (tkn O k) (O 1).toNat))) (k + 1) (by omega) (by omega) (by omega) (by rw [sm_s hk0, hs])
                      refine r_lv [2, 3, 4, 5, 1, 0] [(0, rv X 30), (1, iv n), (2, iv w), (3, jv y), (5, jv 0), (7, iv 0)] rfl ?_
                      exact at186 _ _ 0 0 (Nat.lt_succ_self _) (by omega) (by omega) (rfl)
                    · skip
                      have hw3 := hV.w (q := O 2 + j) (by omega) (by omega)
                      refine r_aload_n (pc := 92) (a := 0) (i := 0) 0 rfl rfl dX9_mean_92 ?_
                      refine r_get (pc := 93) ckX9 (by decide) rfl (j := 5) (by decide) rfl kf_X9_19 dX9_mean_93 ?_
                      refine r_iconst (pc := 96) dX9_mean_96 ?_
                      refine r_aload_n (pc := 97) (a := 0) (i := 0) 0 rfl rfl dX9_mean_97 ?_
                      refine r_get (pc := 98) ckX9 (by decide) rfl (j := 5) (by decide) rfl kf_X9_19 dX9_mean_98 ?_
                      refine r_iconst (pc := 101) dX9_mean_101 ?_
                      refine r_iald (pc := 102) (z := O 2) (by decide) rfl (by omega) (by omega) (by decide) (congrFun (hOg _) _) dX9_mean_102 ?_
                      refine r_iadd (pc := 103) dX9_mean_103 ?_
                      refine r_iload (pc := 104) 4 rfl dX9_mean_104 ?_
                      refine r_iadd (pc := 106) dX9_mean_106 ?_
                      refine r_iald (pc := 107) (z := O (3 + (O 2 + j))) (by decide) rfl (by omega) (by omega) (by decide) ((congrFun (hOg _) _).trans (congrArg O (by omega))) dX9_mean_107 ?_
                      refine r_istore (pc := 108) [(6, iv (O (3 + (O 2 + j)))), (0, rv X 30), (1, iv n), (2, iv w), (3, jv y), (5, iv j)] (by decide) rfl dX9_mean_108 ?_
                      refine r_iconst (pc := 110) dX9_mean_110 ?_
                      refine r_istore (pc := 111) [(7, iv 3), (6, iv (O (3 + (O 2 + j)))), (0, rv X 30), (1, iv n), (2, iv w), (3, jv y), (5, iv j)] (by decide) rfl dX9_mean_111 ?_
                      have at113 : ∀ (n113 : Nat) (g : Int → Int) (c : Int), (c + 1).toNat < n113 → (hc0 : -1 ≤ c) → (hc1 : c ≤ 3) → (hg3 : ∀ i, 0 ≤ i → i < 4 → g i = if c < i then od O (j + 1).toNat i else od O j.toNat i) → Rn X 5 mX9_mean (fun q J => q = some (iv (zMean O n w)) ∧ ∃ g f, J = upA (upA (up I 30 0 0) 39 g) 38 f) 113 [(0, rv X 30), (1, iv n), (2, iv w), (3, jv y), (5, iv j), (6, iv (O (3 + (O 2 + j)))), (7, iv c)] [] (upA (up I 30 0 0) 39 g) := by
                        intro n113
                        induction n113 with
                        | zero => intro g c hm; omega
                        | succ n113 ih113 =>
                          intro g c hm113 hc0 hc1 hg3
                          refine r_iload (pc := 113) 6 rfl dX9_mean_113 ?_
                          refine r_if_lt (pc := 115) 168 (by unfold rg; omega) dX9_mean_115 (by decide) (fun h115 => ?_) (fun h115 => ?_)
                          · skip
                            refine r_lload_n (pc := 168) (a := 3) (i := 3) 3 rfl rfl dX9_mean_168 ?_
                            refine r_ldc2 (pc := 169) kc_X9_234 dX9_mean_169 ?_
                            refine r_lmul (pc := 172) dX9_mean_172 ?_
                            refine r_lstore_n (pc := 173) (a := 3) (i := 3) rfl [(3, jv (y * 100)), (0, rv X 30), (1, iv n), (2, iv w), (5, iv j), (6, iv (O (3 + (O 2 + j)))), (7, iv c)] (by decide) rfl dX9_mean_173 ?_
                            refine r_iinc (pc := 174) 4 [(5, iv (j + 1)), (3, jv (y * 100)), (0, rv X 30), (1, iv n), (2, iv w), (6, iv (O (3 + (O 2 + j)))), (7, iv c)] rfl (by decide) rfl dX9_mean_174 ?_
                            refine r_goto (pc := 177) 86 dX9_mean_177 (by decide) ?_
                            refine r_lv [2, 3, 4, 1, 0] [(0, rv X 30), (1, iv n), (2, iv w), (3, jv (y * 100)), (5, iv (j + 1))] rfl ?_
                            exact ih86 _ (y * 100) (j + 1) (by omega) (by omega) (by omega) (fun i a b => by rw [hg3 i a b, if_pos (by omega)]) (by omega)
                          · skip
                            refine r_aload_n (pc := 118) (a := 0) (i := 0) 0 rfl rfl dX9_mean_118 ?_
                            refine r_get (pc := 119) ckX9 (by decide) rfl (j := 21) (by decide) rfl kf_X9_34 dX9_mean_119 ?_
                            refine r_iload (pc := 122) 6 rfl dX9_mean_122 ?_
                            refine r_aload_n (pc := 124) (a := 0) (i := 0) 0 rfl rfl dX9_mean_124 ?_
                            refine r_get (pc := 125) ckX9 (by decide) rfl (j := 21) (by decide) rfl kf_X9_34 dX9_mean_125 ?_
                            refine r_iload (pc := 128) 6 rfl dX9_mean_128 ?_
                            refine r_lald (pc := 130) (z := g c) (by decide) rfl (by omega) (by omega) (by decide) (congrFun upA_s _) dX9_mean_130 ?_
                            refine r_bipush (pc := 131) rfl dX9_mean_131 ?_
                            refine r_iload (pc := 133) 5 rfl dX9_mean_133 ?_
                            refine r_isub (pc := 135) dX9_mean_135 ?_
                            refine r_i2l (pc := 136) (by unfold rg; omega) dX9_mean_136 ?_
                            refine r_lmul (pc := 137) dX9_mean_137 ?_
                            refine r_iload (pc := 138) 6 rfl dX9_mean_138 ?_
                            refine r_if_le (pc := 140) 159 (by unfold rg; omega) dX9_mean_140 (by decide) (fun h140 => ?_) (fun h140 => ?_)
                            · skip
                              refine r_lconst (pc := 159) (z := 0) rfl dX9_mean_159 ?_
                              refine r_ladd (pc := 160) dX9_mean_160 ?_
                              refine r_last (pc := 161) (by decide) (fun _ => rfl) (by omega) (by omega) (by decide) dX9_mean_161 ?_
                              refine r_I (J := upA (up I 30 0 0) 39 (fun b => if b = c then _ else g b)) (upA_u) ?_
                              refine r_iinc (pc := 162) 6 [(7, iv (c + (-1))), (0, rv X 30), (1, iv n), (2, iv w), (3, jv y), (5, iv j), (6, iv (O (3 + (O 2 + j))))] rfl (by decide) rfl dX9_mean_162 ?_
                              refine r_goto (pc := 165) 113 dX9_mean_165 (by decide) ?_
                              refine r_lv [1, 2, 3, 4, 5, 6, 0] [(0, rv X 30), (1, iv n), (2, iv w), (3, jv y), (5, iv j), (6, iv (O (3 + (O 2 + j)))), (7, iv (c + (-1)))] rfl ?_
                              exact ih113 _ (c + (-1)) (by omega) (by omega) (by omega) (fun i a b => by first | exact od_r hj0 (by omega) hg3 (by omega) a b | exact od_r0 hj0 (by omega) hg3 (by omega) a b)
                            · skip
                              refine r_aload_n (pc := 143) (a := 0) (i := 0) 0 rfl rfl dX9_mean_143 ?_
                              refine r_get (pc := 144) ckX9 (by decide) rfl (j := 21) (by decide) rfl kf_X9_34 dX9_mean_144 ?_
                              refine r_iload (pc := 147) 6 rfl dX9_mean_147 ?_
                              refine r_iconst (pc := 149) dX9_mean_149 ?_
                              refine r_isub (pc := 150) dX9_mean_150 ?_
                              refine r_lald (pc := 151) (z := g (c - 1)) (by decide) rfl (by omega) (by omega) (by decide) (congrFun upA_s _) dX9_mean_151 ?_
                              refine r_iload (pc := 152) 5 rfl dX9_mean_152 ?_
                              refine r_i2l (pc := 154) (by unfold rg; omega) dX9_mean_154 ?_
                              refine r_lmul (pc := 155) dX9_mean_155 ?_
                              refine r_goto (pc := 156) 160 dX9_mean_156 (by decide) ?_
                              refine r_ladd (pc := 160) dX9_mean_160 ?_
                              refine r_last (pc := 161) (by decide) (fun _ => rfl) (by omega) (by omega) (by decide) dX9_mean_161 ?_
                              refine r_I (J := upA (up I 30 0 0) 39 (fun b => if b = c then _ else g b)) (upA_u) ?_
                              refine r_iinc (pc := 162) 6 [(7, iv (c + (-1))), (0, rv X 30), (1, iv n), (2, iv w), (3, jv y), (5, iv j), (6, iv (O (3 + (O 2 + j))))] rfl (by decide) rfl dX9_mean_162 ?_
                              refine r_goto (pc := 165) 113 dX9_mean_165 (by decide) ?_
                              refine r_lv [1, 2, 3, 4, 5, 6, 0] [(0, rv X 30), (1, iv n), (2, iv w), (3, jv y), (5, iv j), (6, iv (O (3 + (O 2 + j)))), (7, iv (c + (-1)))] rfl ?_
                              exact ih113 _ (c + (-1)) (by omega) (by omega) (by omega) (fun i a b => by first | exact od_r hj0 (by omega) hg3 (by omega) a b | exact od_r0 hj0 (by omega) hg3 (by omega) a b)
                      refine r_lv [2, 3, 4, 5, 6, 1, 0] [(0, rv X 30), (1, iv n), (2, iv w), (3, jv y), (5, iv j), (6, iv (O (3 + (O 2 + j)))), (7, iv 3)] rfl ?_
                      exact at113 _ g 3 (Nat.lt_succ_self _) (by omega) (by omega) (fun i a b => by rw [if_neg (by omega)]; exact hg i a b)
                refine r_lv [2, 3, 4, 1, 0] [(0, rv X 30), (1, iv n), (2, iv w), (3, jv 1), (5, iv 0)] rfl ?_
                exact at86 _ _ 1 0 (Nat.lt_succ_self _) (by omega) (by omega) (fun i a b => hg i a (by omega)) (by omega)
              · skip
                refine r_aload_n (pc := 60) (a := 0) (i := 0) 0 rfl rfl dX9_mean_60 ?_
                refine r_get (pc := 61) ckX9 (by decide) rfl (j := 21) (by decide) rfl kf_X9_34 dX9_mean_61 ?_
                refine r_iload_n (pc := 64) (a := 3) (i := 3) 3 rfl rfl dX9_mean_64 ?_
                refine r_iload_n (pc := 65) (a := 3) (i := 3) 3 rfl rfl dX9_mean_65 ?_
                refine r_if_ne (pc := 66) 73 (by unfold rg; omega) dX9_mean_66 (by decide) (fun h66 => ?_) (fun h66 => ?_)
                · skip
                  refine r_lconst (pc := 73) (z := 0) rfl dX9_mean_73 ?_
                  refine r_last (pc := 74) (by decide) (fun _ => rfl) (by omega) (by omega) (by decide) dX9_mean_74 ?_
                  refine r_I (J := upA (up I 30 0 0) 39 (fun b => if b = k then _ else g b)) (upA_u) ?_
                  refine r_iinc (pc := 75) 3 [(3, iv (k + 1)), (0, rv X 30), (1, iv n), (2, iv w)] rfl (by decide) rfl dX9_mean_75 ?_
                  refine r_goto (pc := 78) 55 dX9_mean_78 (by decide) ?_
                  refine r_lv [1, 2, 3, 0] [(0, rv X 30), (1, iv n), (2, iv w), (3, iv (k + 1))] rfl ?_
                  exact ih55 _ (k + 1) (by omega) (by omega) (by omega) (fun i a b => by
        by_cases e : i = k
        · rw [if_pos e]; show _ = if i = 0 then (1 : Int) else 0; first | (rw [if_pos (by omega)]) | (rw [if_neg (by omega)])
        · rw [if_neg e]; exact hg i a (by omega))
                · skip
                  refine r_lconst (pc := 69) (z := 1) rfl dX9_mean_69 ?_
                  refine r_goto (pc := 70) 74 dX9_mean_70 (by decide) ?_
                  refine r_last (pc := 74) (by decide) (fun _ => rfl) (by omega) (by omega) (by decide) dX9_mean_74 ?_
                  refine r_I (J := upA (up I 30 0 0) 39 (fun b => if b = k then _ else g b)) (upA_u) ?_
                  refine r_iinc (pc := 75) 3 [(3, iv (k + 1)), (0, rv X 30), (1, iv n), (2, iv w)] rfl (by decide) rfl dX9_mean_75 ?_
                  refine r_goto (pc := 78) 55 dX9_mean_78 (by decide) ?_
                  refine r_lv [1, 2, 3, 0] [(0, rv X 30), (1, iv n), (2, iv w), (3, iv (k + 1))] rfl ?_
                  exact ih55 _ (k + 1) (by omega) (by omega) (by omega) (fun i a b => by
        by_cases e : i = k
        · rw [if_pos e]; show _ = if i = 0 then (1 : Int) else 0; first | (rw [if_pos (by omega)]) | (rw [if_neg (by omega)])
        · rw [if_neg e]; exact hg i a (by omega))
          refine r_lv [1, 2, 3, 0] [(0, rv X 30), (1, iv n), (2, iv w), (3, iv 0)] rfl ?_
          exact at55 _ _ 0 (Nat.lt_succ_self _) (by omega) (by omega) (fun i a b => absurd b (by omega))
        · skip
          have h47 := bI_0.mp h47
          refine r_ldc (pc := 50) kc_X9_74 dX9_mean_50 ?_
          refine r_iret (pc := 52) (st := []) rfl dX9_mean_52 ?_
          exact ⟨by unfold zMean; rw [if_pos (by omega), if_neg (by omega)], _, _, by rw [upA_id, upA_id]⟩
  · skip
    have h9 := bI_0.mp h9
    refine r_ldc (pc := 12) kc_X9_206 dX9_mean_12 ?_
    refine r_iret (pc := 14) (st := []) rfl dX9_mean_14 ?_
    exact ⟨by unfold zMean; rw [if_neg (by omega)], _, _, by rw [upA_id, upA_id]⟩
theorem pr_mean {X : XC} {n w : Int} (hn : rg n) (hw : rg w) : Pair X mX8_mean mX9_mean [iv n, iv w] := by
  intro I hI
  have hV := hI.1.1
  refine ⟨zMean (I 34) n w, 6, 5, by decide, by decide, (kX8_mean X hI.1.2.1 hV hn hw).mono fun r J h => ?_⟩
  obtain ⟨rfl, hJ⟩ := h
  refine ⟨rfl, (kX9_mean X (O := I 34) (hJ 34 (by decide) (by decide)) (by rw [hJ 30 (by decide) (by decide)]; exact hI.1.2.2) hV hn hw).mono fun r J2 h => ?_⟩
  obtain ⟨rfl, g, f, rfl⟩ := h
  refine ⟨rfl, hI.cg (fun a x y _ z t _ _ => ?_) (fun j q => ?_) (fun a q => ?_)⟩
  · rw [upA_h z, upA_h t, up_row (by omega), hJ a (by omega) (by omega)]
  · rw [upA_h (show (30 : Nat) ≠ 38 by decide), upA_h (show (30 : Nat) ≠ 39 by decide), up_i (by omega), hJ 30 (by decide) (by decide)]
  · rw [upA_h (by omega), upA_h (by omega), up_row (by omega), hJ a (by omega) (by omega)]
