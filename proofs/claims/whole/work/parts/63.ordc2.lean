set_option maxRecDepth 100000 in
set_option maxHeartbeats 4000000 in
theorem kX6_firstThatKeepsLost (X : XC) {I : HD} {O : OF} (hR : RepC O I 0) (hV : Val O) {l : Int → Int} (hl : I 27 = l) {p m L0 : Int} {f : Int → Prop} (hL0 : I 26 1 = L0) (rL : 0 ≤ L0 ∧ L0 ≤ 900) (p0 : 0 ≤ p) (p7 : p < 7) (hv : ∀ k, 0 ≤ k → k < p → 0 ≤ l k ∧ l k < O 1) (hf : sbs O f) (m0 : 0 ≤ m) (m9 : m ≤ 9) {s0 : Int} (hs0 : f s0) (hs1 : lL O (stl l p s0) (p + 1).toNat (dl f s0) m.toNat = L0) : Cl X 3 mX6_firstThatKeepsLost [rv X 26, rv X (oH 0), iv p, iv ((bset (f) 16 : Nat) : Int), iv m] I (fun r J => ∃ s, r = some (iv s) ∧ f s ∧ J = upA I 27 (stl l p s) ∧ lL O (stl l p s) (p + 1).toNat (dl f s) m.toNat = L0 ∧ ∀ x, 0 ≤ x → x < s → f x → ¬ lL O (stl l p x) (p + 1).toNat (dl f x) m.toNat = L0) := by
  refine Cl.of (by decide) (Nat.le_of_ble_eq_true rfl) ?_
  show Rn X 3 mX6_firstThatKeepsLost _ 0 [(0, rv X 26), (1, rv X (oH 0)), (2, iv p), (3, iv ((bset (f) 16 : Nat) : Int)), (4, iv m)] [] I
  have q0 := hV.a
  have hs2 := hf s0 hs0
  have hRl : ∀ g, RepC O (upA I 27 g) 0 := fun g => hR.fr (fun a x y => upA_h (by have : oH 0 = 45 := rfl; omega))
  refine r_iconst (pc := 0) dX6_firstThatKeepsLost_0 ?_
  refine r_istore (pc := 1) [(5, iv 0), (0, rv X 26), (1, rv X (oH 0)), (2, iv p), (3, iv ((bset (f) 16 : Nat) : Int)), (4, iv m)] (by decide) rfl dX6_firstThatKeepsLost_1 ?_
  refine r_I (J := upA I 27 l) (by subst hl; exact upA_z) ?_
  have at3 : ∀ (n3 : Nat) (l2 : Int → Int) (i : Int), (O 1 - i).toNat < n3 → (hi0 : 0 ≤ i) → (hi1 : i ≤ s0) → (hl2 : ∀ b, b ≠ p → l2 b = l b) → (hno : ∀ x, 0 ≤ x → x < i → f x → ¬ lL O (stl l p x) (p + 1).toNat (dl f x) m.toNat = L0) → Rn X 3 mX6_firstThatKeepsLost (fun r J => ∃ s, r = some (iv s) ∧ f s ∧ J = upA I 27 (stl l p s) ∧ lL O (stl l p s) (p + 1).toNat (dl f s) m.toNat = L0 ∧ ∀ x, 0 ≤ x → x < s → f x → ¬ lL O (stl l p x) (p + 1).toNat (dl f x) m.toNat = L0) 3 [(0, rv X 26), (1, rv X (oH 0)), (2, iv p), (3, iv ((bset (f) 16 : Nat) : Int)), (4, iv m), (5, iv i)] [] (upA I 27 l2) := by
    intro n3
    induction n3 with
    | zero => intro l2 i hm; omega
    | succ n3 ih3 =>
      intro l2 i hm3 hi0 hi1 hl2 hno
      refine r_iload (pc := 3) 5 rfl dX6_firstThatKeepsLost_3 ?_
      refine r_aload_n (pc := 5) (a := 1) (i := 1) 1 rfl rfl dX6_firstThatKeepsLost_5 ?_
      refine r_getN (pc := 6) ckX3 (oH_lt (show 0 < 28 by decide)) (cellO (show 0 < 28 by decide)) (j := 9) (by decide) (congrArg (fun q => some (iv q)) (hRl _).f1) kf_X6_47 dX6_firstThatKeepsLost_6 ?_
      refine r_icmp_ge (pc := 9) 63 (by unfold rg; omega) (by unfold rg; omega) dX6_firstThatKeepsLost_9 (by decide) (fun h9 => ?_) (fun h9 => ?_)
      · skip
        refine r_iconst (pc := 63) dX6_firstThatKeepsLost_63 ?_
        refine r_iret (pc := 64) (st := []) rfl dX6_firstThatKeepsLost_64 ?_
        exact absurd hi1 (by omega)
      · skip
        refine r_iload_n (pc := 12) (a := 3) (i := 3) 3 rfl rfl dX6_firstThatKeepsLost_12 ?_
        refine r_iload (pc := 13) 5 rfl dX6_firstThatKeepsLost_13 ?_
        refine r_ishr (pc := 15) (z := ((bset (f) 16 >>> (i).toNat : Nat) : Int)) (bs_shr (by omega) (by omega)) dX6_firstThatKeepsLost_15 ?_
        refine r_iconst (pc := 16) dX6_firstThatKeepsLost_16 ?_
        refine r_iand (pc := 17) (z := bI (f i)) (bs_bit (by omega) (by omega)) dX6_firstThatKeepsLost_17 ?_
        refine r_if_eq (pc := 18) 57 rg_bI dX6_firstThatKeepsLost_18 (by decide) (fun h18 => ?_) (fun h18 => ?_)
        · skip
          have h18 := bI_0.mp h18
          refine r_iinc (pc := 57) 5 [(5, iv (i + 1)), (0, rv X 26), (1, rv X (oH 0)), (2, iv p), (3, iv ((bset (f) 16 : Nat) : Int)), (4, iv m)] rfl (by decide) rfl dX6_firstThatKeepsLost_57 ?_
          refine r_goto (pc := 60) 3 dX6_firstThatKeepsLost_60 (by decide) ?_
          refine r_lv [1, 2, 3, 4, 5, 0] [(0, rv X 26), (1, rv X (oH 0)), (2, iv p), (3, iv ((bset (f) 16 : Nat) : Int)), (4, iv m), (5, iv (i + 1))] rfl ?_
          exact ih3 _ (i + 1) (by omega) (by omega) (by first | (have := ne_p h18 hs0; omega) | (have := ne_p (f := fun x => lL O (stl l p x) (p + 1).toNat (dl f x) m.toNat = L0) h51 hs1; omega)) (by first | exact hl2 | exact fun b q => stl_n q) (by first | exact fun x a b c => (Classical.em (x = i)).elim (fun q => absurd (q ▸ c) h18) (fun q => hno x a (by omega) c) | exact fun x a b c => (Classical.em (x = i)).elim (fun q => by rw [q]; exact h51) (fun q => hno x a (by omega) c))
        · skip
          have h18 := bI_n.mp h18
          refine r_aload_n (pc := 21) (a := 0) (i := 0) 0 rfl rfl dX6_firstThatKeepsLost_21 ?_
          refine r_get (pc := 22) ckX6 (by decide) rfl (j := 0) (by decide) rfl kf_X6_9 dX6_firstThatKeepsLost_22 ?_
          refine r_iload_n (pc := 25) (a := 2) (i := 2) 2 rfl rfl dX6_firstThatKeepsLost_25 ?_
          refine r_iload (pc := 26) 5 rfl dX6_firstThatKeepsLost_26 ?_
          refine r_iast (pc := 28) (by decide) (fun _ => rfl) (by omega) (by omega) (by decide) dX6_firstThatKeepsLost_28 ?_
          refine r_I (J := upA I 27 (stl l p i)) (by rw [upA_u]; congr 1; funext b; unfold stl; by_cases e : b = p; (rw [if_pos e, if_pos e]); (rw [if_neg e, if_neg e, hl2 b e])) ?_
          have hv2 := stl_v (i := i) hv (by omega)
          have hr := lL_r (l := stl l p i) (p := (p + 1).toNat) (m := m.toNat) (f := dl f i) hV hf.dl (fun k a b => hv2 k a (by omega))
          refine r_aload_n (pc := 29) (a := 0) (i := 0) 0 rfl rfl dX6_firstThatKeepsLost_29 ?_
          refine r_aload_n (pc := 30) (a := 1) (i := 1) 1 rfl rfl dX6_firstThatKeepsLost_30 ?_
          refine r_iload_n (pc := 31) (a := 2) (i := 2) 2 rfl rfl dX6_firstThatKeepsLost_31 ?_
          refine r_iconst (pc := 32) dX6_firstThatKeepsLost_32 ?_
          refine r_iadd (pc := 33) dX6_firstThatKeepsLost_33 ?_
          refine r_iload_n (pc := 34) (a := 3) (i := 3) 3 rfl rfl dX6_firstThatKeepsLost_34 ?_
          refine r_iconst (pc := 35) dX6_firstThatKeepsLost_35 ?_
          refine r_iload (pc := 36) 5 rfl dX6_firstThatKeepsLost_36 ?_
          refine r_ishl (pc := 38) (z := ((bset (fun x => x = i) 16 : Nat) : Int)) (bs_1 (by omega) (by omega)) dX6_firstThatKeepsLost_38 ?_
          refine r_iconst (pc := 39) dX6_firstThatKeepsLost_39 ?_
          refine r_ixor (pc := 40) (z := -1 - ((bset (fun x => x = i) 16 : Nat) : Int)) (iI_not _) dX6_firstThatKeepsLost_40 ?_
          refine r_iand (pc := 41) (z := ((bset (dl f i) 16 : Nat) : Int)) (bs_andn) dX6_firstThatKeepsLost_41 ?_
          refine r_iload (pc := 42) 4 rfl dX6_firstThatKeepsLost_42 ?_
          refine r_callVi (pc := 44) (st := []) (As := [rv X (oH 0), iv (p + 1), iv ((bset (dl f i) 16 : Nat) : Int), iv m]) (D2 := 2) okX6_leastLost (by decide) (by decide) rfl rfl rfl (Nat.le_of_ble_eq_true rfl) km_X6_40 (kX6_lL X (hRl _) hV upA_s (p := p + 1) (f := dl f i) (by omega) (by omega) hv2 hf.dl m0 m9) dX6_firstThatKeepsLost_44 ?_
          refine r_aload_n (pc := 47) (a := 0) (i := 0) 0 rfl rfl dX6_firstThatKeepsLost_47 ?_
          refine r_get (pc := 48) ckX6 (by decide) rfl (j := 1) (by decide) (congrArg (fun q => some (iv q)) ((congrFun (upA_h (by decide)) _).trans hL0)) kf_X6_15 dX6_firstThatKeepsLost_48 ?_
          refine r_icmp_ne (pc := 51) 57 (by unfold rg; omega) (by unfold rg; omega) dX6_firstThatKeepsLost_51 (by decide) (fun h51 => ?_) (fun h51 => ?_)
          · skip
            refine r_iinc (pc := 57) 5 [(5, iv (i + 1)), (0, rv X 26), (1, rv X (oH 0)), (2, iv p), (3, iv ((bset (f) 16 : Nat) : Int)), (4, iv m)] rfl (by decide) rfl dX6_firstThatKeepsLost_57 ?_
            refine r_goto (pc := 60) 3 dX6_firstThatKeepsLost_60 (by decide) ?_
            refine r_lv [1, 2, 3, 4, 5, 0] [(0, rv X 26), (1, rv X (oH 0)), (2, iv p), (3, iv ((bset (f) 16 : Nat) : Int)), (4, iv m), (5, iv (i + 1))] rfl ?_
            exact ih3 _ (i + 1) (by omega) (by omega) (by first | (have := ne_p h18 hs0; omega) | (have := ne_p (f := fun x => lL O (stl l p x) (p + 1).toNat (dl f x) m.toNat = L0) h51 hs1; omega)) (by first | exact hl2 | exact fun b q => stl_n q) (by first | exact fun x a b c => (Classical.em (x = i)).elim (fun q => absurd (q ▸ c) h18) (fun q => hno x a (by omega) c) | exact fun x a b c => (Classical.em (x = i)).elim (fun q => by rw [q]; exact h51) (fun q => hno x a (by omega) c))
          · skip
            refine r_iload (pc := 54) 5 rfl dX6_firstThatKeepsLost_54 ?_
            refine r_iret (pc := 56) (st := []) rfl dX6_firstThatKeepsLost_56 ?_
            exact ⟨i, rfl, h18, rfl, h51, hno⟩
  refine r_lv [1, 2, 3, 4, 5, 0] [(0, rv X 26), (1, rv X (oH 0)), (2, iv p), (3, iv ((bset (f) 16 : Nat) : Int)), (4, iv m), (5, iv 0)] rfl ?_
  exact at3 _ _ 0 (Nat.lt_succ_self _) (by omega) (by omega) (fun _ _ => rfl) (fun x a b => absurd b (by omega))

set_option maxRecDepth 100000 in
set_option maxHeartbeats 4000000 in
theorem kX6_arrange (X : XC) {I : HD} {O : OF} (hR : RepC O I 0) (hV : Val O) {d n : Int} (h0 : 0 ≤ d) (h1 : d < O 0) (h7 : O (23 + 10 * d) ≤ 7) (n0 : 0 ≤ n) (n9 : n ≤ 9) : Cl X 4 mX6_arrange [rv X 26, rv X (oH 0), iv d, iv n] I (fun r J => r = none ∧ ∃ b, isB O d n b ∧ J = upA (up I 26 1 (dSb O d n b)) 27 b) := by
  refine Cl.of (by decide) (Nat.le_of_ble_eq_true rfl) ?_
  show Rn X 4 mX6_arrange _ 0 [(0, rv X 26), (1, rv X (oH 0)), (2, iv d), (3, iv n)] [] I
  have q0 := hV.a
  have q1 := hV.d h0 h1
  have hm : 0 ≤ rch O d n ∧ rch O d n ≤ 9 := by unfold rch; omega
  have hf := sbs_on hV h0 h1
  have hRl : ∀ g z, RepC O (upA (up I 26 1 z) 27 g) 0 := fun g z => hR.fr (fun a x y => (upA_h (by have : oH 0 = 45 := rfl; omega)).trans (up_row (by have : oH 0 = 45 := rfl; omega)))
  have rL0 := lL_r (l := I 27) (p := (0 : Int).toNat) (m := (rch O d n).toNat) hV hf (fun k a b => by omega)
  have hlow : ∀ B, arr (onD O d) (O (23 + 10 * d)) B → lL O (I 27) (0 : Int).toNat (onD O d) (rch O d n).toNat ≤ dSb O d n B := fun B hB => by
    have := lL_chp hV hf q1.2.2.2.2.1 hB (m := (rch O d n).toNat) (p := 0) (by omega) (by omega)
    rw [rst_0] at this
    exact this
  obtain ⟨L0, hL0⟩ : ∃ z, z = lL O (I 27) (0 : Int).toNat (onD O d) (rch O d n).toNat := ⟨_, rfl⟩
  rw [← hL0] at rL0 hlow
  have hcn := cnt_onD hV h0 h1
  refine r_bipush (pc := 0) rfl dX6_arrange_0 ?_
  refine r_aload_n (pc := 2) (a := 1) (i := 1) 1 rfl rfl dX6_arrange_2 ?_
  refine r_getN (pc := 3) ckX3 (oH_lt (show 0 < 28 by decide)) (cellO (show 0 < 28 by decide)) (j := 3) (by decide) rfl kf_X6_19 dX6_arrange_3 ?_
  refine r_iload_n (pc := 6) (a := 2) (i := 2) 2 rfl rfl dX6_arrange_6 ?_
  refine r_iald (pc := 7) (z := O (23 + 10 * d)) (oH_lt4 (show 0 < 28 by decide)) ((cellO4 (show 0 < 28 by decide)) _) (by omega) (by omega) (by decide) (hR.hgt (by omega) (by omega)) dX6_arrange_7 ?_
  refine r_mmin (pc := 8) (by unfold rg; omega) (by unfold rg; omega) (by decide) (Nat.le_of_ble_eq_true rfl) (kmmin_X6) dX6_arrange_8 ?_
  refine r_istore (pc := 11) [(4, iv (min 7 (O (23 + 10 * d)))), (0, rv X 26), (1, rv X (oH 0)), (2, iv d), (3, iv n)] (by decide) rfl dX6_arrange_11 ?_
  refine r_iconst (pc := 13) dX6_arrange_13 ?_
  refine r_iload_n (pc := 14) (a := 3) (i := 3) 4 rfl rfl dX6_arrange_14 ?_
  refine r_iload (pc := 15) 0 rfl dX6_arrange_15 ?_
  refine r_aload_n (pc := 17) (a := 1) (i := 1) 2 rfl rfl dX6_arrange_17 ?_
  refine r_getN (pc := 18) ckX3 (oH_lt (show 0 < 28 by decide)) (cellO (show 0 < 28 by decide)) (j := 2) (by decide) rfl kf_X6_30 dX6_arrange_18 ?_
  refine r_iload_n (pc := 21) (a := 2) (i := 2) 3 rfl rfl dX6_arrange_21 ?_
  refine r_iald (pc := 22) (z := O (16 + 2 * d)) (oH_lt3 (show 0 < 28 by decide)) ((cellO3 (show 0 < 28 by decide)) _) (by omega) (by omega) (by decide) (hR.ston (by omega) (by omega)) dX6_arrange_22 ?_
  refine r_isub (pc := 23) dX6_arrange_23 ?_
  refine r_mmin (pc := 24) (by unfold rg; omega) (by unfold rg; omega) (by decide) (Nat.le_of_ble_eq_true rfl) (kmmin_X6) dX6_arrange_24 ?_
  refine r_mmax (pc := 27) (by unfold rg; omega) (by unfold rg; omega) (by decide) (Nat.le_of_ble_eq_true rfl) (kmmax_X6) dX6_arrange_27 ?_
  refine r_istore (pc := 30) [(5, iv (max 0 (min n ((min 7 (O (23 + 10 * d))) - (O (16 + 2 * d)))))), (4, iv (min 7 (O (23 + 10 * d)))), (0, rv X 26), (1, rv X (oH 0)), (2, iv d), (3, iv n)] (by decide) rfl dX6_arrange_30 ?_
  refine r_aload_n (pc := 32) (a := 1) (i := 1) 3 rfl rfl dX6_arrange_32 ?_
  refine r_iload_n (pc := 33) (a := 2) (i := 2) 4 rfl rfl dX6_arrange_33 ?_
  refine r_callVi (pc := 34) (st := []) (As := [iv d]) okX3_setOn (by decide) (oH_lt (show 0 < 28 by decide)) (cellO (show 0 < 28 by decide)) rfl rfl (Nat.le_of_ble_eq_true rfl) km_X6_36 (kX3_setOn X (by decide) hR hV (by omega) (by omega)) dX6_arrange_34 ?_
  refine r_istore (pc := 37) [(6, iv ((bset (onD O d) 16 : Nat) : Int)), (5, iv (max 0 (min n ((min 7 (O (23 + 10 * d))) - (O (16 + 2 * d)))))), (4, iv (min 7 (O (23 + 10 * d)))), (0, rv X 26), (1, rv X (oH 0)), (2, iv d), (3, iv n)] (by decide) rfl dX6_arrange_37 ?_
  refine r_lve (lv2 := [(6, iv ((bset (onD O d) 16 : Nat) : Int)), (5, iv (rch O d n)), (4, iv (O (23 + 10 * d))), (0, rv X 26), (1, rv X (oH 0)), (2, iv d), (3, iv n)]) (by unfold rch; rw [show min 7 (O (23 + 10 * d)) = O (23 + 10 * d) by omega]) ?_
  refine r_aload_n (pc := 39) (a := 0) (i := 0) 3 rfl rfl dX6_arrange_39 ?_
  refine r_aload_n (pc := 40) (a := 0) (i := 0) 3 rfl rfl dX6_arrange_40 ?_
  refine r_aload_n (pc := 41) (a := 1) (i := 1) 4 rfl rfl dX6_arrange_41 ?_
  refine r_iconst (pc := 42) dX6_arrange_42 ?_
  refine r_iload (pc := 43) 0 rfl dX6_arrange_43 ?_
  refine r_iload (pc := 45) 1 rfl dX6_arrange_45 ?_
  refine r_callVi (pc := 47) (st := [rv X 26]) (As := [rv X (oH 0), iv 0, iv ((bset (onD O d) 16 : Nat) : Int), iv (rch O d n)]) (D2 := 2) okX6_leastLost (by decide) (by decide) rfl rfl rfl (Nat.le_of_ble_eq_true rfl) km_X6_40 ((by have := kX6_lL X hR hV rfl (p := 0) (m := rch O d n) (f := onD O d) (by omega) (by omega) (fun k a b => by omega) hf hm.1 hm.2; rw [← hL0] at this; exact this)) dX6_arrange_47 ?_
  refine r_put (pc := 50) 1 (ji := 1) rfl ckX6 (by decide) rfl rfl (by decide) (Nat.le_of_ble_eq_true rfl) kf_X6_15 rfl rfl rfl rfl dX6_arrange_50 ?_
  refine r_iconst (pc := 53) dX6_arrange_53 ?_
  refine r_istore (pc := 54) [(7, iv 0), (6, iv ((bset (onD O d) 16 : Nat) : Int)), (5, iv (rch O d n)), (4, iv (O (23 + 10 * d))), (0, rv X 26), (1, rv X (oH 0)), (2, iv d), (3, iv n)] (by decide) rfl dX6_arrange_54 ?_
  refine r_I (J := upA (up I 26 1 L0) 27 (I 27)) (upA_e (up_row (by decide))) ?_
  refine r_lve (lv2 := [(7, iv 0), (6, iv ((bset (rst (onD O d) (I 27) 0) 16 : Nat) : Int)), (5, iv (rch O d n)), (4, iv (O (23 + 10 * d))), (0, rv X 26), (1, rv X (oH 0)), (2, iv d), (3, iv n)]) (by rw [rst_0]) ?_
  have at56 : ∀ (n56 : Nat) (l : Int → Int) (p : Int), (O (23 + 10 * d) - p).toNat < n56 → (hp0 : 0 ≤ p) → (hp1 : p ≤ O (23 + 10 * d)) → (hS : ∀ k, 0 ≤ k → k < p → onD O d (l k)) → (hI : ∀ k m, 0 ≤ k → k < p → 0 ≤ m → m < p → l k = l m → k = m) → (hct : cnt (rst (onD O d) l p) 16 = O (23 + 10 * d) - p) → (hLL : lL O l p.toNat (rst (onD O d) l p) (rch O d n).toNat = L0) → (hlx : ∀ B, arr (onD O d) (O (23 + 10 * d)) B → dSb O d n B = L0 → lle p l B) → Rn X 4 mX6_arrange (fun r J => r = none ∧ ∃ b, isB O d n b ∧ J = upA (up I 26 1 (dSb O d n b)) 27 b) 56 [(0, rv X 26), (1, rv X (oH 0)), (2, iv d), (3, iv n), (4, iv (O (23 + 10 * d))), (5, iv (rch O d n)), (6, iv ((bset (rst (onD O d) l p) 16 : Nat) : Int)), (7, iv p)] [] (upA (up I 26 1 L0) 27 l) := by
    intro n56
    induction n56 with
    | zero => intro l p hm; omega
    | succ n56 ih56 =>
      intro l p hm56 hp0 hp1 hS hI hct hLL hlx
      refine r_iload (pc := 56) 7 rfl dX6_arrange_56 ?_
      refine r_iload (pc := 58) 4 rfl dX6_arrange_58 ?_
      refine r_icmp_ge (pc := 60) 103 (by unfold rg; omega) (by unfold rg; omega) dX6_arrange_60 (by decide) (fun h60 => ?_) (fun h60 => ?_)
      · skip
        refine r_vret (pc := 103) (st := []) rfl dX6_arrange_103 ?_
        have ep : p = O (23 + 10 * d) := by omega
        subst ep
        have hno : ∀ x, ¬ rst (onD O d) l (O (23 + 10 * d)) x := fun x z => by have := cnt_p hV (f := rst (onD O d) l (O (23 + 10 * d))) (fun x z => hf x z.1) z; omega
        have hA : arr (onD O d) (O (23 + 10 * d)) l := ⟨hS, hI, fun x z => Classical.byContradiction fun y => hno x ⟨z, fun k a b e => y ⟨k, a, b, e.symm⟩⟩⟩
        rw [lL_0 hno] at hLL
        exact ⟨rfl, l, ⟨hA, fun B hB => by rw [show dSb O d n l = L0 from hLL]; exact hlow B hB, fun B hB hd => hlx B hB (hd.trans hLL)⟩, by rw [← hLL]⟩
      · skip
        have hrs : sbs O (rst (onD O d) l p) := fun x z => hf x z.1
        obtain ⟨s0, hx1, hx2⟩ := lL_ex (O := O) (l := l) (p := p.toNat) (m := (rch O d n).toNat) hV hrs (by omega)
        rw [hLL, show p.toNat + 1 = (p + 1).toNat by omega] at hx2
        refine r_aload_n (pc := 63) (a := 0) (i := 0) 0 rfl rfl dX6_arrange_63 ?_
        refine r_get (pc := 64) ckX6 (by decide) rfl (j := 0) (by decide) rfl kf_X6_9 dX6_arrange_64 ?_
        refine r_iload (pc := 67) 7 rfl dX6_arrange_67 ?_
        refine r_aload_n (pc := 69) (a := 0) (i := 0) 0 rfl rfl dX6_arrange_69 ?_
        refine r_aload_n (pc := 70) (a := 1) (i := 1) 1 rfl rfl dX6_arrange_70 ?_
        refine r_iload (pc := 71) 7 rfl dX6_arrange_71 ?_
        refine r_iload (pc := 73) 6 rfl dX6_arrange_73 ?_
        refine r_iload (pc := 75) 5 rfl dX6_arrange_75 ?_
        refine r_callV (pc := 77) (st := [iv p, rv X 27]) (As := [rv X (oH 0), iv p, iv ((bset (rst (onD O d) l p) 16 : Nat) : Int), iv (rch O d n)]) (D2 := 3) okX6_firstThatKeepsLost (by decide) (by decide) rfl rfl rfl (Nat.le_of_ble_eq_true rfl) km_X6_44 (kX6_firstThatKeepsLost X (hRl _ _) hV upA_s (L0 := L0) ((congrFun (upA_h (by decide)) _).trans up_s) (by omega) hp0 (by omega) (fun k a b => hf _ (hS k a b)) hrs hm.1 hm.2 hx1 (hx2 _ (by rw [Int.toNat_of_nonneg hp0]; exact stl_a) (by rw [Int.toNat_of_nonneg hp0]; exact stl_s))) dX6_arrange_77 ?_
        rintro _ _ ⟨s, rfl, hs1, rfl, hs2, hs3⟩
        refine r_iast (pc := 80) (by decide) (fun _ => rfl) (by omega) (by omega) (by decide) dX6_arrange_80 ?_
        refine r_I (J := upA (up I 26 1 L0) 27 (stl l p s)) (by rw [upA_A, upA_u, stl_2]) ?_
        have hsr := hf _ hs1.1
        refine r_iload (pc := 81) 6 rfl dX6_arrange_81 ?_
        refine r_iconst (pc := 83) dX6_arrange_83 ?_
        refine r_aload_n (pc := 84) (a := 0) (i := 0) 0 rfl rfl dX6_arrange_84 ?_
        refine r_get (pc := 85) ckX6 (by decide) rfl (j := 0) (by decide) rfl kf_X6_9 dX6_arrange_85 ?_
        refine r_iload (pc := 88) 7 rfl dX6_arrange_88 ?_
        refine r_iald (pc := 90) (z := s) (by decide) rfl (by omega) (by omega) (by decide) ((congrFun upA_s _).trans stl_s) dX6_arrange_90 ?_
        refine r_ishl (pc := 91) (z := ((bset (fun x => x = s) 16 : Nat) : Int)) (bs_1 (by omega) (by omega)) dX6_arrange_91 ?_
        refine r_iconst (pc := 92) dX6_arrange_92 ?_
        refine r_ixor (pc := 93) (z := -1 - ((bset (fun x => x = s) 16 : Nat) : Int)) (iI_not _) dX6_arrange_93 ?_
        refine r_iand (pc := 94) (z := ((bset (rst (onD O d) (stl l p s) (p + 1)) 16 : Nat) : Int)) (by rw [bs_andn, rst_m hp0]) dX6_arrange_94 ?_
        refine r_istore (pc := 95) [(6, iv ((bset (rst (onD O d) (stl l p s) (p + 1)) 16 : Nat) : Int)), (0, rv X 26), (1, rv X (oH 0)), (2, iv d), (3, iv n), (4, iv (O (23 + 10 * d))), (5, iv (rch O d n)), (7, iv p)] (by decide) rfl dX6_arrange_95 ?_
        refine r_iinc (pc := 97) 7 [(7, iv (p + 1)), (6, iv ((bset (rst (onD O d) (stl l p s) (p + 1)) 16 : Nat) : Int)), (0, rv X 26), (1, rv X (oH 0)), (2, iv d), (3, iv n), (4, iv (O (23 + 10 * d))), (5, iv (rch O d n))] rfl (by decide) rfl dX6_arrange_97 ?_
        refine r_goto (pc := 100) 56 dX6_arrange_100 (by decide) ?_
        refine r_lv [2, 3, 4, 5, 6, 7, 1, 0] [(0, rv X 26), (1, rv X (oH 0)), (2, iv d), (3, iv n), (4, iv (O (23 + 10 * d))), (5, iv (rch O d n)), (6, iv ((bset (rst (onD O d) (stl l p s) (p + 1)) 16 : Nat) : Int)), (7, iv (p + 1))] rfl ?_
        exact ih56 (stl l p s) (p + 1) (by omega) (by omega) (by omega) (stl_S hS hs1.1) (stl_I hI hs1.2) (by rw [rst_m hp0, cnt_dl hV hrs hs1]; omega) (by rw [rst_m hp0]; exact hs2) (fun B hB hd => greedy_lex hV hf q1.2.2.2.2.1 hp0 (by omega) hB hd (hlx B hB hd) hLL hs3)
  refine r_lv [4, 5, 6, 7, 3, 2, 1, 0] [(0, rv X 26), (1, rv X (oH 0)), (2, iv d), (3, iv n), (4, iv (O (23 + 10 * d))), (5, iv (rch O d n)), (6, iv ((bset (rst (onD O d) (I 27) 0) 16 : Nat) : Int)), (7, iv 0)] rfl ?_
  exact at56 _ (I 27) 0 (Nat.lt_succ_self _) (by omega) (by omega) (fun k a b => absurd b (by omega)) (fun k m a b => absurd b (by omega)) (by rw [rst_0]; omega) (by rw [rst_0, hL0]) (fun B _ _ => Or.inl (fun k a b => absurd b (by omega)))

set_option maxRecDepth 100000 in
set_option maxHeartbeats 4000000 in
theorem kX8_order (X : XC) {I : HD} {O : OF} (hR : RepC O I 0) (hV : Val O) {d n k : Int} (hd : rg d) (hn : rg n) (hk : rg k) : Cl X 5 mX8_order [rv X 0, iv d, iv n, iv k] I (fun r J => r = some (iv (zOrd O d n k)) ∧ ∀ a, a ≠ 26 → a ≠ 27 → J a = I a) := by
  refine Cl.of (by decide) (Nat.le_of_ble_eq_true rfl) ?_
  show Rn X 5 mX8_order _ 0 [(0, rv X 0), (1, iv d), (2, iv n), (3, iv k)] [] I
  unfold rg at hd hn hk
  have q0 := hV.a
  refine r_aload_n (pc := 0) (a := 0) (i := 0) 0 rfl rfl dX8_order_0 ?_
  refine r_get (pc := 1) ckX8 (by decide) rfl (j := 2) (by decide) rfl kf_X8_25 dX8_order_1 ?_
  refine r_iload_n (pc := 4) (a := 1) (i := 1) 1 rfl rfl dX8_order_4 ?_
  refine r_callVi (pc := 5) (st := []) (As := [iv d]) okX3_hasDesk (by decide) (oH_lt (show 0 < 28 by decide)) (cellO (show 0 < 28 by decide)) rfl rfl (Nat.le_of_ble_eq_true rfl) km_X8_183 (kX3_hasDesk X (by decide) hR hV (by unfold rg; omega)) dX8_order_5 ?_
  refine r_if_eq (pc := 8) 23 rg_bI dX8_order_8 (by decide) (fun h8 => ?_) (fun h8 => ?_)
  · skip
    have h8 := bI_0.mp h8
    refine r_ldc (pc := 23) kc_X8_73 dX8_order_23 ?_
    refine r_iret (pc := 25) (st := []) rfl dX8_order_25 ?_
    exact ⟨by unfold zOrd; rw [if_neg (by omega)], fun _ _ _ => rfl⟩
  · skip
    have h8 := bI_n.mp h8
    refine r_iload_n (pc := 11) (a := 2) (i := 2) 2 rfl rfl dX8_order_11 ?_
    refine r_callSi (pc := 12) (st := []) (As := [iv n]) okX8_isGusts (by decide) trivial rfl (Nat.le_of_ble_eq_true rfl) km_X8_242 (kX8_isGusts X (by unfold rg; omega)) dX8_order_12 ?_
    refine r_if_eq (pc := 15) 23 rg_bI dX8_order_15 (by decide) (fun h15 => ?_) (fun h15 => ?_)
    · skip
      have h15 := bI_0.mp h15
      refine r_ldc (pc := 23) kc_X8_73 dX8_order_23 ?_
      refine r_iret (pc := 25) (st := []) rfl dX8_order_25 ?_
      exact ⟨by unfold zOrd; rw [if_neg (by omega)], fun _ _ _ => rfl⟩
    · skip
      have h15 := bI_n.mp h15
      refine r_iload_n (pc := 18) (a := 3) (i := 3) 3 rfl rfl dX8_order_18 ?_
      refine r_iconst (pc := 19) dX8_order_19 ?_
      refine r_icmp_ge (pc := 20) 26 (by unfold rg; omega) (by unfold rg; omega) dX8_order_20 (by decide) (fun h20 => ?_) (fun h20 => ?_)
      · skip
        have q1 := hV.d h8.1 h8.2
        refine r_aload_n (pc := 26) (a := 0) (i := 0) 0 rfl rfl dX8_order_26 ?_
        refine r_get (pc := 27) ckX8 (by decide) rfl (j := 2) (by decide) rfl kf_X8_25 dX8_order_27 ?_
        refine r_getN (pc := 30) ckX3 (oH_lt (show 0 < 28 by decide)) (cellO (show 0 < 28 by decide)) (j := 3) (by decide) rfl kf_X8_187 dX8_order_30 ?_
        refine r_iload_n (pc := 33) (a := 1) (i := 1) 1 rfl rfl dX8_order_33 ?_
        refine r_iald (pc := 34) (z := O (23 + 10 * d)) (oH_lt4 (show 0 < 28 by decide)) ((cellO4 (show 0 < 28 by decide)) _) (by omega) (by omega) (by decide) (hR.hgt (by omega) (by omega)) dX8_order_34 ?_
        refine r_istore (pc := 35) [(4, iv (O (23 + 10 * d))), (0, rv X 0), (1, iv d), (2, iv n), (3, iv k)] (by decide) rfl dX8_order_35 ?_
        refine r_iload (pc := 37) 0 rfl dX8_order_37 ?_
        refine r_bipush (pc := 39) rfl dX8_order_39 ?_
        refine r_icmp_gt (pc := 41) 50 (by unfold rg; omega) (by unfold rg; omega) dX8_order_41 (by decide) (fun h41 => ?_) (fun h41 => ?_)
        · skip
          refine r_ldc (pc := 50) kc_X8_226 dX8_order_50 ?_
          refine r_iret (pc := 52) (st := []) rfl dX8_order_52 ?_
          exact ⟨by unfold zOrd; rw [if_pos (by omega), if_pos (by omega)], fun _ _ _ => rfl⟩
        · skip
          refine r_iload_n (pc := 44) (a := 3) (i := 3) 4 rfl rfl dX8_order_44 ?_
          refine r_iload (pc := 45) 0 rfl dX8_order_45 ?_
          refine r_icmp_lt (pc := 47) 53 (by unfold rg; omega) (by unfold rg; omega) dX8_order_47 (by decide) (fun h47 => ?_) (fun h47 => ?_)
          · skip
            refine r_aload_n (pc := 53) (a := 0) (i := 0) 1 rfl rfl dX8_order_53 ?_
            refine r_get (pc := 54) ckX8 (by decide) rfl (j := 6) (by decide) rfl kf_X8_50 dX8_order_54 ?_
            refine r_aload_n (pc := 57) (a := 0) (i := 0) 1 rfl rfl dX8_order_57 ?_
            refine r_get (pc := 58) ckX8 (by decide) rfl (j := 2) (by decide) rfl kf_X8_25 dX8_order_58 ?_
            refine r_iload_n (pc := 61) (a := 1) (i := 1) 2 rfl rfl dX8_order_61 ?_
            refine r_iload_n (pc := 62) (a := 2) (i := 2) 3 rfl rfl dX8_order_62 ?_
            refine r_callV (pc := 63) (st := []) (As := [rv X (oH 0), iv d, iv n]) (D2 := 4) okX6_arrange (by decide) (by decide) rfl rfl rfl (Nat.le_of_ble_eq_true rfl) km_X8_261 (kX6_arrange X hR hV h8.1 h8.2 (by omega) (by omega) (by omega)) dX8_order_63 ?_
            rintro _ _ ⟨rfl, b, hb, rfl⟩
            refine r_iload_n (pc := 66) (a := 3) (i := 3) 4 rfl rfl dX8_order_66 ?_
            refine r_if_ge (pc := 67) 80 (by unfold rg; omega) dX8_order_67 (by decide) (fun h67 => ?_) (fun h67 => ?_)
            · skip
              refine r_aload_n (pc := 80) (a := 0) (i := 0) 1 rfl rfl dX8_order_80 ?_
              refine r_get (pc := 81) ckX8 (by decide) rfl (j := 6) (by decide) rfl kf_X8_50 dX8_order_81 ?_
              refine r_getN (pc := 84) ckX6 (by decide) rfl (j := 0) (by decide) rfl kf_X8_268 dX8_order_84 ?_
              refine r_iload_n (pc := 87) (a := 3) (i := 3) 4 rfl rfl dX8_order_87 ?_
              refine r_iald (pc := 88) (z := b k) (by decide) rfl (by omega) (by omega) (by decide) (congrFun upA_s _) dX8_order_88 ?_
              refine r_iret (pc := 89) (st := []) rfl dX8_order_89 ?_
              exact ⟨by unfold zOrd; rw [if_pos (by omega), if_neg (by omega), zOr_b hb (by omega) (by omega)], fun a x y => (upA_h y).trans (up_row x)⟩
            · skip
              refine r_aload_n (pc := 70) (a := 0) (i := 0) 1 rfl rfl dX8_order_70 ?_
              refine r_get (pc := 71) ckX8 (by decide) rfl (j := 6) (by decide) rfl kf_X8_50 dX8_order_71 ?_
              refine r_getN (pc := 74) ckX6 (by decide) rfl (j := 1) (by decide) (congrArg (fun q => some (iv q)) ((congrFun (upA_h (by decide)) _).trans up_s)) kf_X8_265 dX8_order_74 ?_
              refine r_goto (pc := 77) 89 dX8_order_77 (by decide) ?_
              refine r_iret (pc := 89) (st := []) rfl dX8_order_89 ?_
              exact ⟨by unfold zOrd; rw [if_pos (by omega), if_neg (by omega), zOr_a hb (by omega)], fun a x y => (upA_h y).trans (up_row x)⟩
          · skip
            refine r_ldc (pc := 50) kc_X8_226 dX8_order_50 ?_
            refine r_iret (pc := 52) (st := []) rfl dX8_order_52 ?_
            exact ⟨by unfold zOrd; rw [if_pos (by omega), if_pos (by omega)], fun _ _ _ => rfl⟩
      · skip
        refine r_ldc (pc := 23) kc_X8_73 dX8_order_23 ?_
        refine r_iret (pc := 25) (st := []) rfl dX8_order_25 ?_
        exact ⟨by unfold zOrd; rw [if_neg (by omega)], fun _ _ _ => rfl⟩
