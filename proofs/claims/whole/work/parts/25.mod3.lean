set_option maxRecDepth 100000 in
set_option maxHeartbeats 4000000 in
theorem kX9_layLeft (X : XC) {I : HD} {O : OF} (hO : I 34 = O) (hV : Val O) : Cl X 1 mX9_layLeft [rv X 30] I (fun r J => r = none ∧ ∃ f, J = upA I 38 f ∧ lftE O 0 f) := by
  refine Cl.of (by decide) (Nat.le_of_ble_eq_true rfl) ?_
  show Rn X 1 mX9_layLeft _ 0 [(0, rv X 30)] [] I
  have q0 := hV.a
  have hO3 : ∀ f, (upA I 38 f) 34 = O := fun f => (upA_h (by decide)).trans hO
  refine r_iconst (pc := 0) dX9_layLeft_0 ?_
  refine r_istore_n (pc := 1) (a := 1) (i := 1) rfl [(1, iv 0), (0, rv X 30)] (by decide) rfl dX9_layLeft_1 ?_
  refine r_I (J := upA I 38 (I 38)) (upA_z) ?_
  have at2 : ∀ (n2 : Nat) (f : Int → Int) (d : Int), (O 0 - d).toNat < n2 → (hd0 : 0 ≤ d) → (hd1 : d ≤ O 0) → (hf : ∀ c, 0 ≤ c → c < d → f c = O (23 + 10 * c)) → Rn X 1 mX9_layLeft (fun r J => r = none ∧ ∃ f, J = upA I 38 f ∧ lftE O 0 f) 2 [(0, rv X 30), (1, iv d)] [] (upA I 38 f) := by
    intro n2
    induction n2 with
    | zero => intro f d hm; omega
    | succ n2 ih2 =>
      intro f d hm2 hd0 hd1 hf
      refine r_iload_n (pc := 2) (a := 1) (i := 1) 1 rfl rfl dX9_layLeft_2 ?_
      refine r_aload_n (pc := 3) (a := 0) (i := 0) 0 rfl rfl dX9_layLeft_3 ?_
      refine r_get (pc := 4) ckX9 (by decide) rfl (j := 5) (by decide) rfl kf_X9_19 dX9_layLeft_4 ?_
      refine r_iconst (pc := 7) dX9_layLeft_7 ?_
      refine r_iald (pc := 8) (z := O 0) (by decide) rfl (by omega) (by omega) (by decide) (congrFun (hO3 f) _) dX9_layLeft_8 ?_
      refine r_icmp_ge (pc := 9) 29 (by unfold rg; omega) (by unfold rg; omega) dX9_layLeft_9 (by decide) (fun h9 => ?_) (fun h9 => ?_)
      · skip
        refine r_vret (pc := 29) (st := []) rfl dX9_layLeft_29 ?_
        exact ⟨rfl, f, rfl, lft_0 (fun c a b => hf c a (by omega))⟩
      · skip
        have h1 : d < O 0 := by omega
        have q1 := hV.d hd0 h1
        refine r_aload_n (pc := 12) (a := 0) (i := 0) 0 rfl rfl dX9_layLeft_12 ?_
        refine r_get (pc := 13) ckX9 (by decide) rfl (j := 20) (by decide) rfl kf_X9_31 dX9_layLeft_13 ?_
        refine r_iload_n (pc := 16) (a := 1) (i := 1) 1 rfl rfl dX9_layLeft_16 ?_
        refine r_aload_n (pc := 17) (a := 0) (i := 0) 0 rfl rfl dX9_layLeft_17 ?_
        refine r_iload_n (pc := 18) (a := 1) (i := 1) 1 rfl rfl dX9_layLeft_18 ?_
        refine r_callVi (pc := 19) (st := [iv d, rv X 38]) (As := [iv d]) okX9_manyOn (by decide) (by decide) rfl rfl rfl (Nat.le_of_ble_eq_true rfl) km_X9_191 (kX9_manyOn X (hO3 f) hV (by omega) (by omega)) dX9_layLeft_19 ?_
        refine r_iast (pc := 22) (by decide) (fun _ => rfl) (by omega) (by omega) (by decide) dX9_layLeft_22 ?_
        refine r_I (J := upA I 38 (fun b => if b = d then O (23 + 10 * d) else f b)) (upA_u) ?_
        refine r_iinc (pc := 23) 1 [(1, iv (d + 1)), (0, rv X 30)] rfl (by decide) rfl dX9_layLeft_23 ?_
        refine r_goto (pc := 26) 2 dX9_layLeft_26 (by decide) ?_
        refine r_lv [1, 0] [(0, rv X 30), (1, iv (d + 1))] rfl ?_
        exact ih2 _ (d + 1) (by omega) (by omega) (by omega) (fun c a b => (Classical.em (c = d)).elim (fun q => by subst q; exact if_pos rfl) (fun q => by show (if c = d then _ else f c) = _; rw [if_neg q]; exact hf c a (by omega)))
  refine r_lv [1, 0] [(0, rv X 30), (1, iv 0)] rfl ?_
  exact at2 _ _ 0 (Nat.lt_succ_self _) (by omega) (by omega) (fun c a b => absurd b (by omega))

set_option maxRecDepth 100000 in
set_option maxHeartbeats 4000000 in
theorem kX9_topOf (X : XC) {I : HD} {O : OF} (hO : I 34 = O) (hV : Val O) {d : Int} (h0 : 0 ≤ d) (h1 : d < O 0) {e : Int} (he0 : 0 ≤ e) (hL : I 38 d = O (23 + 10 * d) - tfv O d e.toNat) : Cl X 1 mX9_topOf [rv X 30, iv d] I (Ki (tpN O d e) I) := by
  refine Cl.of (by decide) (Nat.le_of_ble_eq_true rfl) ?_
  show Rn X 1 mX9_topOf _ 0 [(0, rv X 30), (1, iv d)] [] I
  have q0 := hV.a
  have q1 := hV.d h0 h1
  have qt := tfv_le e.toNat hV h0 h1
  have qi := tfv_i (O := O) (d := d) he0
  have vs := hV.d h0 h1
  refine r_aload_n (pc := 0) (a := 0) (i := 0) 0 rfl rfl dX9_topOf_0 ?_
  refine r_get (pc := 1) ckX9 (by decide) rfl (j := 20) (by decide) rfl kf_X9_31 dX9_topOf_1 ?_
  refine r_iload_n (pc := 4) (a := 1) (i := 1) 1 rfl rfl dX9_topOf_4 ?_
  refine r_iald (pc := 5) (z := O (23 + 10 * d) - tfv O d e.toNat) (by decide) rfl (by omega) (by omega) (by decide) (hL) dX9_topOf_5 ?_
  refine r_aload_n (pc := 6) (a := 0) (i := 0) 0 rfl rfl dX9_topOf_6 ?_
  refine r_get (pc := 7) ckX9 (by decide) rfl (j := 5) (by decide) rfl kf_X9_19 dX9_topOf_7 ?_
  refine r_bipush (pc := 10) rfl dX9_topOf_10 ?_
  refine r_iconst (pc := 12) dX9_topOf_12 ?_
  refine r_iload_n (pc := 13) (a := 1) (i := 1) 1 rfl rfl dX9_topOf_13 ?_
  refine r_imul (pc := 14) dX9_topOf_14 ?_
  refine r_iadd (pc := 15) dX9_topOf_15 ?_
  refine r_iconst (pc := 16) dX9_topOf_16 ?_
  refine r_iadd (pc := 17) dX9_topOf_17 ?_
  refine r_iald (pc := 18) (z := O (16 + 2 * d)) (by decide) rfl (by omega) (by omega) (by decide) ((congrFun hO _).trans (congrArg O (by omega))) dX9_topOf_18 ?_
  refine r_icmp_le (pc := 19) 26 (by unfold rg; omega) (by unfold rg; omega) dX9_topOf_19 (by decide) (fun h19 => ?_) (fun h19 => ?_)
  · skip
    refine r_iconst (pc := 26) dX9_topOf_26 ?_
    refine r_istore_n (pc := 27) (a := 2) (i := 2) rfl [(2, iv 0), (0, rv X 30), (1, iv d)] (by decide) rfl dX9_topOf_27 ?_
    refine r_iload_n (pc := 28) (a := 2) (i := 2) 0 rfl rfl dX9_topOf_28 ?_
    refine r_if_eq (pc := 29) 48 (by unfold rg; omega) dX9_topOf_29 (by decide) (fun h29 => ?_) (fun h29 => ?_)
    · skip
      refine r_ldc (pc := 48) kc_X9_90 dX9_topOf_48 ?_
      refine r_istore_n (pc := 50) (a := 3) (i := 3) rfl [(3, iv (-1000000)), (2, iv 0), (0, rv X 30), (1, iv d)] (by decide) rfl dX9_topOf_50 ?_
      refine r_iload_n (pc := 51) (a := 2) (i := 2) 1 rfl rfl dX9_topOf_51 ?_
      refine r_if_eq (pc := 52) 69 (by unfold rg; omega) dX9_topOf_52 (by decide) (fun h52 => ?_) (fun h52 => ?_)
      · skip
        refine r_ldc (pc := 69) kc_X9_90 dX9_topOf_69 ?_
        refine r_iret (pc := 71) (st := []) rfl dX9_topOf_71 ?_
        exact ⟨congrArg (fun q => some (iv q)) (tpN_b (fun q => by have q2 := qi.mp q; first | omega | (have q3 := q2.2; unfold slat tp at q3; rw [show O (23 + 10 * d) - 1 - tfv O d e.toNat = O (23 + 10 * d) - tfv O d e.toNat - 1 by omega] at q3; omega))).symm, rfl⟩
      · exact absurd h52 (by decide)
    · exact absurd h29 (by decide)
  · skip
    refine r_iconst (pc := 22) dX9_topOf_22 ?_
    refine r_goto (pc := 23) 27 dX9_topOf_23 (by decide) ?_
    refine r_istore_n (pc := 27) (a := 2) (i := 2) rfl [(2, iv 1), (0, rv X 30), (1, iv d)] (by decide) rfl dX9_topOf_27 ?_
    refine r_iload_n (pc := 28) (a := 2) (i := 2) 0 rfl rfl dX9_topOf_28 ?_
    refine r_if_eq (pc := 29) 48 (by unfold rg; omega) dX9_topOf_29 (by decide) (fun h29 => ?_) (fun h29 => ?_)
    · exact absurd h29 (by decide)
    · skip
      refine r_aload_n (pc := 32) (a := 0) (i := 0) 1 rfl rfl dX9_topOf_32 ?_
      refine r_iload_n (pc := 33) (a := 1) (i := 1) 2 rfl rfl dX9_topOf_33 ?_
      refine r_aload_n (pc := 34) (a := 0) (i := 0) 1 rfl rfl dX9_topOf_34 ?_
      refine r_get (pc := 35) ckX9 (by decide) rfl (j := 20) (by decide) rfl kf_X9_31 dX9_topOf_35 ?_
      refine r_iload_n (pc := 38) (a := 1) (i := 1) 2 rfl rfl dX9_topOf_38 ?_
      refine r_iald (pc := 39) (z := O (23 + 10 * d) - tfv O d e.toNat) (by decide) rfl (by omega) (by omega) (by decide) (hL) dX9_topOf_39 ?_
      refine r_iconst (pc := 40) dX9_topOf_40 ?_
      refine r_isub (pc := 41) dX9_topOf_41 ?_
      refine r_callVi (pc := 42) (st := []) (As := [iv d, iv ((O (23 + 10 * d) - tfv O d e.toNat) - 1)]) okX9_lies (by decide) (by decide) rfl rfl rfl (Nat.le_of_ble_eq_true rfl) km_X9_194 (kX9_lies X hO hV (by omega) (by omega) (by omega) (by omega)) dX9_topOf_42 ?_
      refine r_goto (pc := 45) 50 dX9_topOf_45 (by decide) ?_
      refine r_istore_n (pc := 50) (a := 3) (i := 3) rfl [(3, iv (O (24 + 10 * d + ((O (23 + 10 * d) - tfv O d e.toNat) - 1)))), (2, iv 1), (0, rv X 30), (1, iv d)] (by decide) rfl dX9_topOf_50 ?_
      refine r_iload_n (pc := 51) (a := 2) (i := 2) 1 rfl rfl dX9_topOf_51 ?_
      refine r_if_eq (pc := 52) 69 (by unfold rg; omega) dX9_topOf_52 (by decide) (fun h52 => ?_) (fun h52 => ?_)
      · exact absurd h52 (by decide)
      · skip
        have qk := hV.k (k := O (23 + 10 * d) - tfv O d e.toNat - 1) h0 h1 (by omega) (by omega)
        have qp := hV.p qk.1 qk.2
        refine r_aload_n (pc := 55) (a := 0) (i := 0) 2 rfl rfl dX9_topOf_55 ?_
        refine r_iload_n (pc := 56) (a := 3) (i := 3) 0 rfl rfl dX9_topOf_56 ?_
        refine r_iconst (pc := 57) dX9_topOf_57 ?_
        refine r_callVi (pc := 58) (st := []) (As := [iv (O (24 + 10 * d + ((O (23 + 10 * d) - tfv O d e.toNat) - 1))), iv 0]) okX9_of (by decide) (by decide) rfl rfl rfl (Nat.le_of_ble_eq_true rfl) km_X9_216 (kX9_of X hO hV (z := O (63 + 4 * (O (24 + 10 * d + ((O (23 + 10 * d) - tfv O d e.toNat) - 1))))) (by omega) (by omega) (by omega) (congrArg O (by omega))) dX9_topOf_58 ?_
        refine r_iconst (pc := 61) dX9_topOf_61 ?_
        refine r_icmp_eq (pc := 62) 69 (by unfold rg; omega) (by unfold rg; omega) dX9_topOf_62 (by decide) (fun h62 => ?_) (fun h62 => ?_)
        · skip
          refine r_ldc (pc := 69) kc_X9_90 dX9_topOf_69 ?_
          refine r_iret (pc := 71) (st := []) rfl dX9_topOf_71 ?_
          exact ⟨congrArg (fun q => some (iv q)) (tpN_b (fun q => by have q2 := qi.mp q; first | omega | (have q3 := q2.2; unfold slat tp at q3; rw [show O (23 + 10 * d) - 1 - tfv O d e.toNat = O (23 + 10 * d) - tfv O d e.toNat - 1 by omega] at q3; omega))).symm, rfl⟩
        · skip
          refine r_iload_n (pc := 65) (a := 3) (i := 3) 0 rfl rfl dX9_topOf_65 ?_
          refine r_goto (pc := 66) 71 dX9_topOf_66 (by decide) ?_
          refine r_iret (pc := 71) (st := []) rfl dX9_topOf_71 ?_
          have ht : e < tfv O d (e + 1).toNat := qi.mpr ⟨by omega, by unfold slat tp; rw [show O (23 + 10 * d) - 1 - tfv O d e.toNat = O (23 + 10 * d) - tfv O d e.toNat - 1 by omega]; exact h62⟩
          exact ⟨congrArg (fun q => some (iv q)) (by rw [tpN_a ht]; unfold tp; rw [tfv_e he0 ht]; exact congrArg O (by omega)), rfl⟩

set_option maxRecDepth 100000 in
set_option maxHeartbeats 4000000 in
theorem kX9_gust (X : XC) {I : HD} {O : OF} (hO : I 34 = O) (hV : Val O) {e : Int} (he0 : 0 ≤ e) (hL : lftE O e (I 38)) : Cl X 2 mX9_gust [rv X 30] I (fun r J => r = some (iv ((bset (tbg O e) 16 : Nat) : Int)) ∧ ∃ f, J = upA I 38 f ∧ lftE O (e + 1) f) := by
  refine Cl.of (by decide) (Nat.le_of_ble_eq_true rfl) ?_
  show Rn X 2 mX9_gust _ 0 [(0, rv X 30)] [] I
  have q0 := hV.a
  have hO3 : ∀ f, (upA I 38 f) 34 = O := fun f => (upA_h (by decide)).trans hO
  refine r_iconst (pc := 0) dX9_gust_0 ?_
  refine r_istore_n (pc := 1) (a := 1) (i := 1) rfl [(1, iv 0), (0, rv X 30)] (by decide) rfl dX9_gust_1 ?_
  refine r_I (J := upA I 38 (I 38)) (upA_z) ?_
  refine r_iconst (pc := 2) dX9_gust_2 ?_
  refine r_istore_n (pc := 3) (a := 2) (i := 2) rfl [(2, iv 0), (1, iv 0), (0, rv X 30)] (by decide) rfl dX9_gust_3 ?_
  have at4 : ∀ (n4 : Nat) (f : Int → Int) (s : Int) (d : Int), (O 0 - d).toNat < n4 → (hd0 : 0 ≤ d) → (hd1 : d ≤ O 0) → (hs : s = ((bset (tbn O d e) 16 : Nat) : Int)) → (hf1 : ∀ c, 0 ≤ c → c < d → f c = O (23 + 10 * c) - tfv O c (e + 1).toNat) → (hf2 : ∀ c, d ≤ c → c < O 0 → f c = O (23 + 10 * c) - tfv O c e.toNat) → Rn X 2 mX9_gust (fun r J => r = some (iv ((bset (tbg O e) 16 : Nat) : Int)) ∧ ∃ f, J = upA I 38 f ∧ lftE O (e + 1) f) 4 [(0, rv X 30), (1, iv s), (2, iv d)] [] (upA I 38 f) := by
    intro n4
    induction n4 with
    | zero => intro f s d hm; omega
    | succ n4 ih4 =>
      intro f s d hm4 hd0 hd1 hs hf1 hf2
      refine r_iload_n (pc := 4) (a := 2) (i := 2) 2 rfl rfl dX9_gust_4 ?_
      refine r_aload_n (pc := 5) (a := 0) (i := 0) 0 rfl rfl dX9_gust_5 ?_
      refine r_get (pc := 6) ckX9 (by decide) rfl (j := 5) (by decide) rfl kf_X9_19 dX9_gust_6 ?_
      refine r_iconst (pc := 9) dX9_gust_9 ?_
      refine r_iald (pc := 10) (z := O 0) (by decide) rfl (by omega) (by omega) (by decide) (congrFun (hO3 f) _) dX9_gust_10 ?_
      refine r_icmp_ge (pc := 11) 48 (by unfold rg; omega) (by unfold rg; omega) dX9_gust_11 (by decide) (fun h11 => ?_) (fun h11 => ?_)
      · skip
        refine r_iload_n (pc := 48) (a := 1) (i := 1) 1 rfl rfl dX9_gust_48 ?_
        refine r_iret (pc := 49) (st := []) rfl dX9_gust_49 ?_
        exact ⟨by rw [hs, show d = O 0 by omega]; rfl, f, rfl, fun c a b => hf1 c a (by omega)⟩
      · skip
        have h1 : d < O 0 := by omega
        have q1 := hV.d hd0 h1
        have hfd := hf2 d (by omega) h1
        have qt := tfv_le (e + 1).toNat hV hd0 h1
        have qt0 := tfv_le e.toNat hV hd0 h1
        have hfd : (upA I 38 f) 38 d = O (23 + 10 * d) - tfv O d e.toNat := (congrFun upA_s _).trans hfd
        refine r_aload_n (pc := 14) (a := 0) (i := 0) 0 rfl rfl dX9_gust_14 ?_
        refine r_iload_n (pc := 15) (a := 2) (i := 2) 2 rfl rfl dX9_gust_15 ?_
        refine r_callVi (pc := 16) (st := []) (As := [iv d]) okX9_topOf (by decide) (by decide) rfl rfl rfl (Nat.le_of_ble_eq_true rfl) km_X9_225 (kX9_topOf X (hO3 f) hV hd0 h1 he0 hfd) dX9_gust_16 ?_
        refine r_istore_n (pc := 19) (a := 3) (i := 3) rfl [(3, iv (tpN O d e)), (0, rv X 30), (1, iv s), (2, iv d)] (by decide) rfl dX9_gust_19 ?_
        have at42 : ∀ (g : Int → Int) (s2 : Int), (hs2 : s2 = ((bset (tbn O (d + 1) e) 16 : Nat) : Int)) → (hg1 : ∀ c, 0 ≤ c → c < d + 1 → g c = O (23 + 10 * c) - tfv O c (e + 1).toNat) → (hg2 : ∀ c, d + 1 ≤ c → c < O 0 → g c = O (23 + 10 * c) - tfv O c e.toNat) → Rn X 2 mX9_gust (fun r J => r = some (iv ((bset (tbg O e) 16 : Nat) : Int)) ∧ ∃ f, J = upA I 38 f ∧ lftE O (e + 1) f) 42 [(0, rv X 30), (1, iv s2), (2, iv d)] [] (upA I 38 g) := by
          intro g s2 hs2 hg1 hg2
          refine r_iinc (pc := 42) 2 [(2, iv (d + 1)), (0, rv X 30), (1, iv s2)] rfl (by decide) rfl dX9_gust_42 ?_
          refine r_goto (pc := 45) 4 dX9_gust_45 (by decide) ?_
          refine r_lv [1, 2, 0] [(0, rv X 30), (1, iv s2), (2, iv (d + 1))] rfl ?_
          exact ih4 _ s2 (d + 1) (by omega) (by omega) (by omega) (hs2) (hg1) (hg2)
        have hfd := hf2 d (by omega) h1
        have qz : (tpN O d e = -1000000 ∧ ¬ e < tfv O d (e + 1).toNat) ∨ (0 ≤ tpN O d e ∧ tpN O d e < 16 ∧ e < tfv O d (e + 1).toNat ∧ tpN O d e = tp O d e) := tpN_or hV hd0 h1 he0
        refine r_iload_n (pc := 20) (a := 3) (i := 3) 0 rfl rfl dX9_gust_20 ?_
        refine r_ldc (pc := 21) kc_X9_90 dX9_gust_21 ?_
        refine r_icmp_eq (pc := 23) 42 (by unfold rg; omega) (by unfold rg; omega) dX9_gust_23 (by decide) (fun h23 => ?_) (fun h23 => ?_)
        · skip
          refine r_lv [1, 2, 3] [(0, rv X 30), (1, iv s), (2, iv d)] rfl ?_
          exact at42 _ s (by rw [hs]; exact bs_c' fun p _ _ => ⟨fun q => (tbn_s hd0).mpr (Or.inl q), fun q => ((tbn_s hd0).mp q).elim id (fun z => absurd z.1 (by omega))⟩) (fun c a b => (Classical.em (c = d)).elim (fun q => by subst q; rw [hfd, tfv_s he0, if_neg (by omega)]) (fun q => hf1 c a (by omega))) (fun c a b => hf2 c (by omega) b)
        · skip
          have hyt : e < tfv O d (e + 1).toNat := by omega
          have hy2 : tpN O d e = tp O d e := by omega
          refine r_iload_n (pc := 26) (a := 1) (i := 1) 2 rfl rfl dX9_gust_26 ?_
          refine r_iconst (pc := 27) dX9_gust_27 ?_
          refine r_iload_n (pc := 28) (a := 3) (i := 3) 0 rfl rfl dX9_gust_28 ?_
          refine r_ishl (pc := 29) (z := ((2 ^ (tpN O d e).toNat : Nat) : Int)) (sh_1 (by omega) (by omega)) dX9_gust_29 ?_
          refine r_ior (pc := 30) (z := ((bset (tbn O (d + 1) e) 16 : Nat) : Int)) (by rw [hs, bs_add (by omega) (by omega)]; exact bs_c fun p _ _ => ⟨fun q => (tbn_s hd0).mpr (q.elim Or.inl (fun z => Or.inr ⟨hyt, by omega⟩)), fun q => ((tbn_s hd0).mp q).elim Or.inl (fun z => Or.inr (by omega))⟩) dX9_gust_30 ?_
          refine r_istore_n (pc := 31) (a := 1) (i := 1) rfl [(1, iv ((bset (tbn O (d + 1) e) 16 : Nat) : Int)), (3, iv (tpN O d e)), (0, rv X 30), (2, iv d)] (by decide) rfl dX9_gust_31 ?_
          refine r_aload_n (pc := 32) (a := 0) (i := 0) 2 rfl rfl dX9_gust_32 ?_
          refine r_get (pc := 33) ckX9 (by decide) rfl (j := 20) (by decide) rfl kf_X9_31 dX9_gust_33 ?_
          refine r_iload_n (pc := 36) (a := 2) (i := 2) 3 rfl rfl dX9_gust_36 ?_
          refine r_dup2 (pc := 37) rfl rfl dX9_gust_37 ?_
          refine r_iald (pc := 38) (z := f d) (by decide) rfl (by omega) (by omega) (by decide) (congrFun upA_s _) dX9_gust_38 ?_
          refine r_iconst (pc := 39) dX9_gust_39 ?_
          refine r_isub (pc := 40) dX9_gust_40 ?_
          refine r_iast (pc := 41) (by decide) (fun _ => rfl) (by omega) (by omega) (by decide) dX9_gust_41 ?_
          refine r_I (J := upA I 38 (fun b => if b = d then f d - 1 else f b)) (upA_u) ?_
          refine r_lv [2, 0, 3] [(0, rv X 30), (1, iv ((bset (tbn O (d + 1) e) 16 : Nat) : Int)), (2, iv d)] rfl ?_
          exact at42 _ ((bset (tbn O (d + 1) e) 16 : Nat) : Int) (rfl) (fun c a b => (Classical.em (c = d)).elim (fun q => by subst q; show (if c = c then _ else _) = _; rw [if_pos rfl, hfd, tfv_s he0, if_pos hyt]; omega) (fun q => by show (if c = d then _ else f c) = _; rw [if_neg q]; exact hf1 c a (by omega))) (fun c a b => by show (if c = d then _ else f c) = _; rw [if_neg (by omega)]; exact hf2 c (by omega) b)
  refine r_lv [2, 1, 0] [(0, rv X 30), (1, iv 0), (2, iv 0)] rfl ?_
  exact at4 _ _ 0 0 (Nat.lt_succ_self _) (by omega) (by omega) (bs_0 (fun p _ _ q => by obtain ⟨d2, a, b, _⟩ := q; omega)) (fun c a b => absurd b (by omega)) (fun c a b => hL c a b)

set_option maxRecDepth 100000 in
set_option maxHeartbeats 4000000 in
theorem kX9_takenBy (X : XC) {I : HD} {O : OF} (hO : I 34 = O) (hV : Val O) {n : Int} (hn0 : 0 ≤ n) (hn1 : n < 900) : Cl X 3 mX9_takenBy [rv X 30, iv n] I (fun r J => r = some (iv ((bset (tkn O n) 16 : Nat) : Int)) ∧ ∃ f, J = upA I 38 f) := by
  refine Cl.of (by decide) (Nat.le_of_ble_eq_true rfl) ?_
  show Rn X 3 mX9_takenBy _ 0 [(0, rv X 30), (1, iv n)] [] I
  have q0 := hV.a
  have hO3 : ∀ f, (upA I 38 f) 34 = O := fun f => (upA_h (by decide)).trans hO
  refine r_iconst (pc := 0) dX9_takenBy_0 ?_
  refine r_istore_n (pc := 1) (a := 2) (i := 2) rfl [(2, iv 0), (0, rv X 30), (1, iv n)] (by decide) rfl dX9_takenBy_1 ?_
  refine r_aload_n (pc := 2) (a := 0) (i := 0) 1 rfl rfl dX9_takenBy_2 ?_
  refine r_callV (pc := 3) (st := []) (As := []) okX9_layLeft (by decide) (by decide) rfl rfl rfl (Nat.le_of_ble_eq_true rfl) km_X9_236 (kX9_layLeft X hO hV) dX9_takenBy_3 ?_
  rintro _ _ ⟨rfl, f, rfl, hf⟩
  refine r_iconst (pc := 6) dX9_takenBy_6 ?_
  refine r_istore_n (pc := 7) (a := 3) (i := 3) rfl [(3, iv 0), (2, iv 0), (0, rv X 30), (1, iv n)] (by decide) rfl dX9_takenBy_7 ?_
  have at8 : ∀ (n8 : Nat) (f : Int → Int) (s : Int) (e : Int), (n - e).toNat < n8 → (he0 : 0 ≤ e) → (he1 : e ≤ n) → (hs : s = ((bset (tkn O e) 16 : Nat) : Int)) → (hf : lftE O e f) → Rn X 3 mX9_takenBy (fun r J => r = some (iv ((bset (tkn O n) 16 : Nat) : Int)) ∧ ∃ f, J = upA I 38 f) 8 [(0, rv X 30), (1, iv n), (2, iv s), (3, iv e)] [] (upA I 38 f) := by
    intro n8
    induction n8 with
    | zero => intro f s e hm; omega
    | succ n8 ih8 =>
      intro f s e hm8 he0 he1 hs hf
      refine r_iload_n (pc := 8) (a := 3) (i := 3) 3 rfl rfl dX9_takenBy_8 ?_
      refine r_iload_n (pc := 9) (a := 1) (i := 1) 1 rfl rfl dX9_takenBy_9 ?_
      refine r_icmp_ge (pc := 10) 26 (by unfold rg; omega) (by unfold rg; omega) dX9_takenBy_10 (by decide) (fun h10 => ?_) (fun h10 => ?_)
      · skip
        refine r_iload_n (pc := 26) (a := 2) (i := 2) 2 rfl rfl dX9_takenBy_26 ?_
        refine r_iret (pc := 27) (st := []) rfl dX9_takenBy_27 ?_
        exact ⟨by rw [hs, show e = n by omega], f, rfl⟩
      · skip
        refine r_iload_n (pc := 13) (a := 2) (i := 2) 2 rfl rfl dX9_takenBy_13 ?_
        refine r_aload_n (pc := 14) (a := 0) (i := 0) 0 rfl rfl dX9_takenBy_14 ?_
        refine r_callV (pc := 15) (st := [iv s]) (As := []) okX9_gust (by decide) (by decide) rfl rfl rfl (Nat.le_of_ble_eq_true rfl) km_X9_239 (kX9_gust X (hO3 f) hV he0 (by rw [upA_s]; exact hf)) dX9_takenBy_15 ?_
        rintro _ _ ⟨rfl, g, rfl, hg⟩
        rw [upA_A]
        refine r_ior (pc := 18) (z := ((bset (tkn O (e + 1)) 16 : Nat) : Int)) (by rw [hs, bs_or]; exact bs_c fun p _ _ => (tkn_s he0).symm) dX9_takenBy_18 ?_
        refine r_istore_n (pc := 19) (a := 2) (i := 2) rfl [(2, iv ((bset (tkn O (e + 1)) 16 : Nat) : Int)), (0, rv X 30), (1, iv n), (3, iv e)] (by decide) rfl dX9_takenBy_19 ?_
        refine r_iinc (pc := 20) 3 [(3, iv (e + 1)), (2, iv ((bset (tkn O (e + 1)) 16 : Nat) : Int)), (0, rv X 30), (1, iv n)] rfl (by decide) rfl dX9_takenBy_20 ?_
        refine r_goto (pc := 23) 8 dX9_takenBy_23 (by decide) ?_
        refine r_lv [2, 3, 1, 0] [(0, rv X 30), (1, iv n), (2, iv ((bset (tkn O (e + 1)) 16 : Nat) : Int)), (3, iv (e + 1))] rfl ?_
        exact ih8 _ ((bset (tkn O (e + 1)) 16 : Nat) : Int) (e + 1) (by omega) (by omega) (by omega) (rfl) (hg)
  refine r_lv [2, 3, 1, 0] [(0, rv X 30), (1, iv n), (2, iv 0), (3, iv 0)] rfl ?_
  exact at8 _ _ 0 0 (Nat.lt_succ_self _) (by omega) (by omega) (bs_0 (fun p _ _ => tkn_0)) (hf)
