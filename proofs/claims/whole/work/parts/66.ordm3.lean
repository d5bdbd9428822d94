set_option maxRecDepth 100000 in
set_option maxHeartbeats 4000000 in
theorem kX9_nextOrder (X : XC) {I : HD} {S : Int → Prop} {h : Int} {t : Int → Int} (ht : I 40 = t) (hA : arr S h t) (h7 : h ≤ 7) (h0 : 0 ≤ h) (hS : ∀ x, S x → 0 ≤ x ∧ x < 16) : Cl X 0 mX9_nextOrder [rv X 30, iv h] I (fun r J => ∃ c u, r = some (iv c) ∧ J = upA I 40 u ∧ ((c = 1 ∧ arr S h u ∧ llt h t u ∧ ∀ B, arr S h B → llt h t B → lle h u B) ∨ (c = 0 ∧ ∀ B, arr S h B → ¬ llt h t B))) := by
  refine Cl.of (by decide) (Nat.le_of_ble_eq_true rfl) ?_
  show Rn X 0 mX9_nextOrder _ 0 [(0, rv X 30), (1, iv h)] [] I
  have hv : ∀ k, 0 ≤ k → k < h → 0 ≤ t k ∧ t k < 16 := fun k a b => hS _ (hA.1 k a b)
  refine r_iload_n (pc := 0) (a := 1) (i := 1) 1 rfl rfl dX9_nextOrder_0 ?_
  refine r_iconst (pc := 1) dX9_nextOrder_1 ?_
  refine r_isub (pc := 2) dX9_nextOrder_2 ?_
  refine r_istore_n (pc := 3) (a := 2) (i := 2) rfl [(2, iv (h - 2)), (0, rv X 30), (1, iv h)] (by decide) rfl dX9_nextOrder_3 ?_
  have at4 : ∀ (n4 : Nat) (i : Int), (i + 2).toNat < n4 → (hi1 : i ≤ h - 2) → (him : -2 ≤ i) → (hd : ∀ a b, i < a → 0 ≤ a → a < b → b < h → t b < t a) → Rn X 0 mX9_nextOrder (fun r J => ∃ c u, r = some (iv c) ∧ J = upA I 40 u ∧ ((c = 1 ∧ arr S h u ∧ llt h t u ∧ ∀ B, arr S h B → llt h t B → lle h u B) ∨ (c = 0 ∧ ∀ B, arr S h B → ¬ llt h t B))) 4 [(0, rv X 30), (1, iv h), (2, iv i)] [] I := by
    intro n4
    induction n4 with
    | zero => intro i hm; omega
    | succ n4 ih4 =>
      intro i hm4 hi1 him hd
      refine r_iload_n (pc := 4) (a := 2) (i := 2) 2 rfl rfl dX9_nextOrder_4 ?_
      have at31 : (hex : i < 0 ∨ (0 ≤ i ∧ t i ≤ t (i + 1))) → Rn X 0 mX9_nextOrder (fun r J => ∃ c u, r = some (iv c) ∧ J = upA I 40 u ∧ ((c = 1 ∧ arr S h u ∧ llt h t u ∧ ∀ B, arr S h B → llt h t B → lle h u B) ∨ (c = 0 ∧ ∀ B, arr S h B → ¬ llt h t B))) 31 [(0, rv X 30), (1, iv h), (2, iv i)] [] I := by
        intro hex
        refine r_iload_n (pc := 31) (a := 2) (i := 2) 2 rfl rfl dX9_nextOrder_31 ?_
        refine r_if_ge (pc := 32) 37 (by unfold rg; omega) dX9_nextOrder_32 (by decide) (fun h32 => ?_) (fun h32 => ?_)
        · skip
          have hv1 := hv i (by omega) (by omega)
          have hv2 := hv (i + 1) (by omega) (by omega)
          have hup : t i < t (i + 1) := nx_up hA (by omega) (by omega) (by omega)
          refine r_iload_n (pc := 37) (a := 1) (i := 1) 1 rfl rfl dX9_nextOrder_37 ?_
          refine r_iconst (pc := 38) dX9_nextOrder_38 ?_
          refine r_isub (pc := 39) dX9_nextOrder_39 ?_
          refine r_istore_n (pc := 40) (a := 3) (i := 3) rfl [(3, iv (h - 1)), (0, rv X 30), (1, iv h), (2, iv i)] (by decide) rfl dX9_nextOrder_40 ?_
          have at41 : ∀ (n41 : Nat) (j : Int), j.toNat < n41 → (hj0 : i < j) → (hj1 : j < h) → (hj2 : ∀ k, j < k → k < h → t k < t i) → Rn X 0 mX9_nextOrder (fun r J => ∃ c u, r = some (iv c) ∧ J = upA I 40 u ∧ ((c = 1 ∧ arr S h u ∧ llt h t u ∧ ∀ B, arr S h B → llt h t B → lle h u B) ∨ (c = 0 ∧ ∀ B, arr S h B → ¬ llt h t B))) 41 [(0, rv X 30), (1, iv h), (2, iv i), (3, iv j)] [] I := by
            intro n41
            induction n41 with
            | zero => intro j hm; omega
            | succ n41 ih41 =>
              intro j hm41 hj0 hj1 hj2
              have hvj := hv j (by omega) hj1
              refine r_aload_n (pc := 41) (a := 0) (i := 0) 0 rfl rfl dX9_nextOrder_41 ?_
              refine r_get (pc := 42) ckX9 (by decide) rfl (j := 22) (by decide) rfl kf_X9_38 dX9_nextOrder_42 ?_
              refine r_iload_n (pc := 45) (a := 3) (i := 3) 3 rfl rfl dX9_nextOrder_45 ?_
              refine r_iald (pc := 46) (z := t j) (by decide) rfl (by omega) (by omega) (by decide) (congrFun ht _) dX9_nextOrder_46 ?_
              refine r_aload_n (pc := 47) (a := 0) (i := 0) 0 rfl rfl dX9_nextOrder_47 ?_
              refine r_get (pc := 48) ckX9 (by decide) rfl (j := 22) (by decide) rfl kf_X9_38 dX9_nextOrder_48 ?_
              refine r_iload_n (pc := 51) (a := 2) (i := 2) 2 rfl rfl dX9_nextOrder_51 ?_
              refine r_iald (pc := 52) (z := t i) (by decide) rfl (by omega) (by omega) (by decide) (congrFun ht _) dX9_nextOrder_52 ?_
              refine r_icmp_ge (pc := 53) 62 (by unfold rg; omega) (by unfold rg; omega) dX9_nextOrder_53 (by decide) (fun h53 => ?_) (fun h53 => ?_)
              · skip
                have hjl : t i < t j := nx_lt hA (by omega) (by omega) (by omega) (by omega) h53
                refine r_aload_n (pc := 62) (a := 0) (i := 0) 0 rfl rfl dX9_nextOrder_62 ?_
                refine r_get (pc := 63) ckX9 (by decide) rfl (j := 22) (by decide) rfl kf_X9_38 dX9_nextOrder_63 ?_
                refine r_iload_n (pc := 66) (a := 2) (i := 2) 2 rfl rfl dX9_nextOrder_66 ?_
                refine r_iald (pc := 67) (z := t i) (by decide) rfl (by omega) (by omega) (by decide) (congrFun ht _) dX9_nextOrder_67 ?_
                refine r_istore (pc := 68) [(4, iv (t i)), (0, rv X 30), (1, iv h), (2, iv i), (3, iv j)] (by decide) rfl dX9_nextOrder_68 ?_
                refine r_aload_n (pc := 70) (a := 0) (i := 0) 1 rfl rfl dX9_nextOrder_70 ?_
                refine r_get (pc := 71) ckX9 (by decide) rfl (j := 22) (by decide) rfl kf_X9_38 dX9_nextOrder_71 ?_
                refine r_iload_n (pc := 74) (a := 2) (i := 2) 3 rfl rfl dX9_nextOrder_74 ?_
                refine r_aload_n (pc := 75) (a := 0) (i := 0) 1 rfl rfl dX9_nextOrder_75 ?_
                refine r_get (pc := 76) ckX9 (by decide) rfl (j := 22) (by decide) rfl kf_X9_38 dX9_nextOrder_76 ?_
                refine r_iload_n (pc := 79) (a := 3) (i := 3) 4 rfl rfl dX9_nextOrder_79 ?_
                refine r_iald (pc := 80) (z := t j) (by decide) rfl (by omega) (by omega) (by decide) (congrFun ht _) dX9_nextOrder_80 ?_
                refine r_iast (pc := 81) (by decide) (fun _ => rfl) (by omega) (by omega) (by decide) dX9_nextOrder_81 ?_
                refine r_I (J := upA I 40 (fun b => if b = i then t j else t b)) (by rw [upA_i, ht]) ?_
                refine r_aload_n (pc := 82) (a := 0) (i := 0) 1 rfl rfl dX9_nextOrder_82 ?_
                refine r_get (pc := 83) ckX9 (by decide) rfl (j := 22) (by decide) rfl kf_X9_38 dX9_nextOrder_83 ?_
                refine r_iload_n (pc := 86) (a := 3) (i := 3) 4 rfl rfl dX9_nextOrder_86 ?_
                refine r_iload (pc := 87) 0 rfl dX9_nextOrder_87 ?_
                refine r_iast (pc := 89) (by decide) (fun _ => rfl) (by omega) (by omega) (by decide) dX9_nextOrder_89 ?_
                refine r_I (J := upA I 40 (swp t i j)) (upA_u) ?_
                refine r_iload_n (pc := 90) (a := 1) (i := 1) 2 rfl rfl dX9_nextOrder_90 ?_
                refine r_iconst (pc := 91) dX9_nextOrder_91 ?_
                refine r_isub (pc := 92) dX9_nextOrder_92 ?_
                refine r_istore (pc := 93) [(5, iv (h - 1)), (4, iv (t i)), (0, rv X 30), (1, iv h), (2, iv i), (3, iv j)] (by decide) rfl dX9_nextOrder_93 ?_
                refine r_iload_n (pc := 95) (a := 2) (i := 2) 4 rfl rfl dX9_nextOrder_95 ?_
                refine r_iconst (pc := 96) dX9_nextOrder_96 ?_
                refine r_iadd (pc := 97) dX9_nextOrder_97 ?_
                refine r_istore (pc := 98) [(6, iv (i + 1)), (5, iv (h - 1)), (4, iv (t i)), (0, rv X 30), (1, iv h), (2, iv i), (3, iv j)] (by decide) rfl dX9_nextOrder_98 ?_
                have at100 : ∀ (n100 : Nat) (u : Int → Int) (e : Int) (k : Int), (e - k + 1).toNat < n100 → (hk : i < k) → (hkb : k ≤ h) → (he : e < h) → (hke : k + e = h + i) → (hu : ∀ x, 0 ≤ x → x < h → u x = if i < x ∧ (x < k ∨ e < x) then swp t i j (h + i - x) else swp t i j x) → Rn X 0 mX9_nextOrder (fun r J => ∃ c u, r = some (iv c) ∧ J = upA I 40 u ∧ ((c = 1 ∧ arr S h u ∧ llt h t u ∧ ∀ B, arr S h B → llt h t B → lle h u B) ∨ (c = 0 ∧ ∀ B, arr S h B → ¬ llt h t B))) 100 [(0, rv X 30), (1, iv h), (2, iv i), (3, iv j), (5, iv e), (6, iv k)] [] (upA I 40 u) := by
                  intro n100
                  induction n100 with
                  | zero => intro u e k hm; omega
                  | succ n100 ih100 =>
                    intro u e k hm100 hk hkb he hke hu
                    refine r_iload (pc := 100) 5 rfl dX9_nextOrder_100 ?_
                    refine r_iload (pc := 102) 4 rfl dX9_nextOrder_102 ?_
                    refine r_icmp_ge (pc := 104) 148 (by unfold rg; omega) (by unfold rg; omega) dX9_nextOrder_104 (by decide) (fun h104 => ?_) (fun h104 => ?_)
                    · skip
                      refine r_iconst (pc := 148) dX9_nextOrder_148 ?_
                      refine r_zret (pc := 149) (st := []) rfl (rfl) dX9_nextOrder_149 ?_
                      have hN := nx hA (u := u) (show 0 ≤ i by omega) (fun a b x y w => hd a b x (by omega) y w) hj0 hj1 hjl hj2 (fun x a b => by rw [hu x a b]; exact (rev_e h104 hke).trans (swp_e hj0 hj1 a b (by omega)))
                      exact ⟨1, u, rfl, rfl, Or.inl ⟨rfl, hN⟩⟩
                    · skip
                      refine r_aload_n (pc := 107) (a := 0) (i := 0) 0 rfl rfl dX9_nextOrder_107 ?_
                      refine r_get (pc := 108) ckX9 (by decide) rfl (j := 22) (by decide) rfl kf_X9_38 dX9_nextOrder_108 ?_
                      refine r_iload (pc := 111) 5 rfl dX9_nextOrder_111 ?_
                      refine r_iald (pc := 113) (z := u k) (by decide) rfl (by omega) (by omega) (by decide) (congrFun upA_s _) dX9_nextOrder_113 ?_
                      refine r_istore (pc := 114) [(4, iv (u k)), (0, rv X 30), (1, iv h), (2, iv i), (3, iv j), (5, iv e), (6, iv k)] (by decide) rfl dX9_nextOrder_114 ?_
                      refine r_aload_n (pc := 116) (a := 0) (i := 0) 1 rfl rfl dX9_nextOrder_116 ?_
                      refine r_get (pc := 117) ckX9 (by decide) rfl (j := 22) (by decide) rfl kf_X9_38 dX9_nextOrder_117 ?_
                      refine r_iload (pc := 120) 6 rfl dX9_nextOrder_120 ?_
                      refine r_aload_n (pc := 122) (a := 0) (i := 0) 1 rfl rfl dX9_nextOrder_122 ?_
                      refine r_get (pc := 123) ckX9 (by decide) rfl (j := 22) (by decide) rfl kf_X9_38 dX9_nextOrder_123 ?_
                      refine r_iload (pc := 126) 5 rfl dX9_nextOrder_126 ?_
                      refine r_iald (pc := 128) (z := u e) (by decide) rfl (by omega) (by omega) (by decide) (congrFun upA_s _) dX9_nextOrder_128 ?_
                      refine r_iast (pc := 129) (by decide) (fun _ => rfl) (by omega) (by omega) (by decide) dX9_nextOrder_129 ?_
                      refine r_I (J := upA I 40 (fun b => if b = k then u e else u b)) (upA_u) ?_
                      refine r_aload_n (pc := 130) (a := 0) (i := 0) 1 rfl rfl dX9_nextOrder_130 ?_
                      refine r_get (pc := 131) ckX9 (by decide) rfl (j := 22) (by decide) rfl kf_X9_38 dX9_nextOrder_131 ?_
                      refine r_iload (pc := 134) 5 rfl dX9_nextOrder_134 ?_
                      refine r_iload (pc := 136) 0 rfl dX9_nextOrder_136 ?_
                      refine r_iast (pc := 138) (by decide) (fun _ => rfl) (by omega) (by omega) (by decide) dX9_nextOrder_138 ?_
                      refine r_I (J := upA I 40 (fun b => if b = e then u k else if b = k then u e else u b)) (upA_u) ?_
                      refine r_iinc (pc := 139) 5 [(5, iv (e + (-1))), (4, iv (u k)), (0, rv X 30), (1, iv h), (2, iv i), (3, iv j), (6, iv k)] rfl (by decide) rfl dX9_nextOrder_139 ?_
                      refine r_iinc (pc := 142) 6 [(6, iv (k + 1)), (5, iv (e + (-1))), (4, iv (u k)), (0, rv X 30), (1, iv h), (2, iv i), (3, iv j)] rfl (by decide) rfl dX9_nextOrder_142 ?_
                      refine r_goto (pc := 145) 100 dX9_nextOrder_145 (by decide) ?_
                      refine r_lv [3, 4, 5, 6, 1, 0] [(0, rv X 30), (1, iv h), (2, iv i), (3, iv j), (5, iv (e + (-1))), (6, iv (k + 1))] rfl ?_
                      exact ih100 _ (e + (-1)) (k + 1) (by omega) (by omega) (by omega) (by omega) (by omega) (fun x a b => rev_s hu hk he hke h104 a b (by omega))
                refine r_lv [3, 4, 5, 6, 1, 0] [(0, rv X 30), (1, iv h), (2, iv i), (3, iv j), (5, iv (h - 1)), (6, iv (i + 1))] rfl ?_
                exact at100 _ (swp t i j) (h - 1) (i + 1) (Nat.lt_succ_self _) (by omega) (by omega) (by omega) (by omega) (fun x a b => by rw [if_neg (by omega)])
              · skip
                refine r_iinc (pc := 56) 3 [(3, iv (j + (-1))), (0, rv X 30), (1, iv h), (2, iv i)] rfl (by decide) rfl dX9_nextOrder_56 ?_
                refine r_goto (pc := 59) 41 dX9_nextOrder_59 (by decide) ?_
                refine r_lv [1, 2, 3, 0] [(0, rv X 30), (1, iv h), (2, iv i), (3, iv (j + (-1)))] rfl ?_
                exact ih41 (j + (-1)) (by omega) (by rcases (by omega : j = i + 1 ∨ i < j - 1) with q | q; (rw [q] at h53; omega); omega) (by omega) (fun k a b => (Classical.em (k = j)).elim (fun q => by rw [q]; exact h53) (fun q => hj2 k (by omega) b))
          refine r_lv [1, 2, 3, 0] [(0, rv X 30), (1, iv h), (2, iv i), (3, iv (h - 1))] rfl ?_
          exact at41 _ (h - 1) (Nat.lt_succ_self _) (by omega) (by omega) (fun k a b => by omega)
        · skip
          refine r_iconst (pc := 35) dX9_nextOrder_35 ?_
          refine r_zret (pc := 36) (st := []) rfl (rfl) dX9_nextOrder_36 ?_
          refine ⟨0, t, rfl, by rw [← ht]; exact upA_z, Or.inr ⟨rfl, fun B hB => desc_max hA hB (fun k m a b c => hd k m (by omega) a b c)⟩⟩
      refine r_if_lt (pc := 5) 31 (by unfold rg; omega) dX9_nextOrder_5 (by decide) (fun h5 => ?_) (fun h5 => ?_)
      · skip
        refine r_lv [0, 1, 2] [(0, rv X 30), (1, iv h), (2, iv i)] rfl ?_
        exact at31 (Or.inl h5)
      · skip
        have hv1 := hv i (by omega) (by omega)
        have hv2 := hv (i + 1) (by omega) (by omega)
        refine r_aload_n (pc := 8) (a := 0) (i := 0) 0 rfl rfl dX9_nextOrder_8 ?_
        refine r_get (pc := 9) ckX9 (by decide) rfl (j := 22) (by decide) rfl kf_X9_38 dX9_nextOrder_9 ?_
        refine r_iload_n (pc := 12) (a := 2) (i := 2) 2 rfl rfl dX9_nextOrder_12 ?_
        refine r_iald (pc := 13) (z := t i) (by decide) rfl (by omega) (by omega) (by decide) (congrFun ht _) dX9_nextOrder_13 ?_
        refine r_aload_n (pc := 14) (a := 0) (i := 0) 0 rfl rfl dX9_nextOrder_14 ?_
        refine r_get (pc := 15) ckX9 (by decide) rfl (j := 22) (by decide) rfl kf_X9_38 dX9_nextOrder_15 ?_
        refine r_iload_n (pc := 18) (a := 2) (i := 2) 2 rfl rfl dX9_nextOrder_18 ?_
        refine r_iconst (pc := 19) dX9_nextOrder_19 ?_
        refine r_iadd (pc := 20) dX9_nextOrder_20 ?_
        refine r_iald (pc := 21) (z := t (i + 1)) (by decide) rfl (by omega) (by omega) (by decide) (congrFun ht _) dX9_nextOrder_21 ?_
        refine r_icmp_le (pc := 22) 31 (by unfold rg; omega) (by unfold rg; omega) dX9_nextOrder_22 (by decide) (fun h22 => ?_) (fun h22 => ?_)
        · skip
          refine r_lv [0, 1, 2] [(0, rv X 30), (1, iv h), (2, iv i)] rfl ?_
          exact at31 (Or.inr ⟨by omega, h22⟩)
        · skip
          have hlt : t (i + 1) < t i := h22
          refine r_iinc (pc := 25) 2 [(2, iv (i + (-1))), (0, rv X 30), (1, iv h)] rfl (by decide) rfl dX9_nextOrder_25 ?_
          refine r_goto (pc := 28) 4 dX9_nextOrder_28 (by decide) ?_
          refine r_lv [1, 2, 0] [(0, rv X 30), (1, iv h), (2, iv (i + (-1)))] rfl ?_
          exact ih4 (i + (-1)) (by omega) (by omega) (by omega) (nx_d hd (by omega) hlt)
  refine r_lv [1, 2, 0] [(0, rv X 30), (1, iv h), (2, iv (h - 2))] rfl ?_
  exact at4 _ (h - 2) (Nat.lt_succ_self _) (by omega) (by omega) (fun a b x y z w => by omega)
