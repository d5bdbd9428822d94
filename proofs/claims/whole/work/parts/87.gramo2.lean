set_option maxRecDepth 100000 in
set_option maxHeartbeats 800000 in
theorem kX9_office (X : XC) {I : HD} {c : Int → Int} {L : Int} (hl : I 30 11 = L) (L0 : 0 ≤ L) (L5 : L ≤ 500) (hS : ∀ k, 0 ≤ k → k < L → 0 ≤ c k ∧ c k < 256 ∧ I 37 k = c k) : Cl X 5 mX9_office [rv X 30] I (fun r J => J 30 11 = 0 ∧ (¬ (pAll c L).2.2 = 0 → r = some (iv (-1000100 - (pAll c L).1)) ∧ J 30 12 = (pAll c L).2.2 ∧ (∀ j, (j = 1 ∨ j = 7 ∨ j = 9 ∨ j = 27) → J 30 j = I 30 j) ∧ ∀ a, a ≠ 30 → a ≠ 35 → J a = I a) ∧ ((pAll c L).2.2 = 0 → r = some (iv ((pAll c L).2.1 0)) ∧ J 30 7 = 1 ∧ J 30 9 = 0 ∧ (∀ j, (j = 1 ∨ j = 12 ∨ j = 27) → J 30 j = I 30 j) ∧ (∀ k, 0 ≤ k → k < 127 → J 34 k = (pAll c L).2.1 k) ∧ ∀ a, a ≠ 30 → a ≠ 34 → a ≠ 35 → J a = I a)) := by
  refine Cl.of (by decide) (Nat.le_of_ble_eq_true rfl) ?_
  show Rn X 5 mX9_office _ 0 [(0, rv X 30)] [] I
  have w1 : ∀ s : Ps, nmS c L s = 1684370283 ↔ (s.2.2 = 0 ∧ isW c L 1 s.1) := fun s => nmS_is (i := 1) (by decide)
  have w2 : ∀ s : Ps, nmS c L s = 495672714612 ↔ (s.2.2 = 0 ∧ isW c L 2 s.1) := fun s => nmS_is (i := 2) (by decide)
  refine r_aload_n (pc := 0) (a := 0) (i := 0) 0 rfl rfl dX9_office_0 ?_
  refine r_iconst (pc := 1) dX9_office_1 ?_
  refine r_put (pc := 2) 0 (ji := 0) rfl ckX9 (by decide) rfl rfl (by decide) (Nat.le_of_ble_eq_true rfl) kf_X9_54 rfl rfl rfl rfl dX9_office_2 ?_
  refine r_aload_n (pc := 5) (a := 0) (i := 0) 0 rfl rfl dX9_office_5 ?_
  refine r_callV (pc := 6) (st := []) (As := []) (D2 := 2) okX9_begin (by decide) (by decide) rfl rfl rfl (Nat.le_of_ble_eq_true rfl) km_X9_164 (kX9_begin X ((up_i (by decide)).trans hl) L0 L5 (fun k a b => ⟨(hS k a b).1, (hS k a b).2.1, (congrFun (up_row (by decide)) _).trans (hS k a b).2.2⟩)) dX9_office_6 ?_
  rintro _ J1 ⟨rfl, g2, g3, g4, g5⟩
  refine r_iconst (pc := 9) dX9_office_9 ?_
  refine r_istore_n (pc := 10) (a := 1) (i := 1) rfl [(1, iv 0), (0, rv X 30)] (by decide) rfl dX9_office_10 ?_
  have at11 : ∀ (n11 : Nat) (J2 : HD) (k : Int), (127 - k).toNat < n11 → (hk0 : 0 ≤ k) → (hk1 : k ≤ 127) → (hMz : MS J2 c L (tkF c L 0, zF, 0)) → (hz : ∀ x, 0 ≤ x → x < k → J2 35 x = zF x) → (hfr : fO I J2) → Rn X 5 mX9_office (fun r J => J 30 11 = 0 ∧ (¬ (pAll c L).2.2 = 0 → r = some (iv (-1000100 - (pAll c L).1)) ∧ J 30 12 = (pAll c L).2.2 ∧ (∀ j, (j = 1 ∨ j = 7 ∨ j = 9 ∨ j = 27) → J 30 j = I 30 j) ∧ ∀ a, a ≠ 30 → a ≠ 35 → J a = I a) ∧ ((pAll c L).2.2 = 0 → r = some (iv ((pAll c L).2.1 0)) ∧ J 30 7 = 1 ∧ J 30 9 = 0 ∧ (∀ j, (j = 1 ∨ j = 12 ∨ j = 27) → J 30 j = I 30 j) ∧ (∀ k, 0 ≤ k → k < 127 → J 34 k = (pAll c L).2.1 k) ∧ ∀ a, a ≠ 30 → a ≠ 34 → a ≠ 35 → J a = I a)) 11 [(0, rv X 30), (1, iv k)] [] J2 := by
    intro n11
    induction n11 with
    | zero => intro J2 k hm; omega
    | succ n11 ih11 =>
      intro J2 k hm11 hk0 hk1 hMz hz hfr
      refine r_iload_n (pc := 11) (a := 1) (i := 1) 1 rfl rfl dX9_office_11 ?_
      refine r_bipush (pc := 12) rfl dX9_office_12 ?_
      refine r_icmp_ge (pc := 14) 30 (by unfold rg; omega) (by unfold rg; omega) dX9_office_14 (by decide) (fun h14 => ?_) (fun h14 => ?_)
      · skip
        refine r_aload_n (pc := 30) (a := 0) (i := 0) 0 rfl rfl dX9_office_30 ?_
        refine r_callV (pc := 31) (st := []) (As := []) (D2 := 4) okX9_readWind (by decide) (by decide) rfl rfl rfl (Nat.le_of_ble_eq_true rfl) km_X9_167 (kX9_readWind X hMz rfl (fun x a b => hz x a (by omega))) dX9_office_31 ?_
        rintro _ J3 ⟨rfl, m2, m3, m4⟩
        have m3 : MS J3 c L (pA1 c L) := m3
        have m4 : (pA1 c L).2.2 = 0 → eqF J3 (pA1 c L).2.1 := m4
        have hfr3 := hfr.w m2
        refine r_aload_n (pc := 34) (a := 0) (i := 0) 0 rfl rfl dX9_office_34 ?_
        have at50 : ∀ (n50 : Nat) (J5 : HD) (t : Ps) (n : Int), n.toNat < n50 → (hM5 : MS J5 c L t) → (hE : t.2.2 = 0 → eqF J5 t.2.1 ∧ GD t.2.1 ∧ n = 5 - t.2.1 0 ∧ t.2.1 1 = 0) → (hP : pDs c L n.toNat t = pA2 c L (pA1 c L)) → (hfr5 : fO I J5) → Rn X 5 mX9_office (fun r J => J 30 11 = 0 ∧ (¬ (pAll c L).2.2 = 0 → r = some (iv (-1000100 - (pAll c L).1)) ∧ J 30 12 = (pAll c L).2.2 ∧ (∀ j, (j = 1 ∨ j = 7 ∨ j = 9 ∨ j = 27) → J 30 j = I 30 j) ∧ ∀ a, a ≠ 30 → a ≠ 35 → J a = I a) ∧ ((pAll c L).2.2 = 0 → r = some (iv ((pAll c L).2.1 0)) ∧ J 30 7 = 1 ∧ J 30 9 = 0 ∧ (∀ j, (j = 1 ∨ j = 12 ∨ j = 27) → J 30 j = I 30 j) ∧ (∀ k, 0 ≤ k → k < 127 → J 34 k = (pAll c L).2.1 k) ∧ ∀ a, a ≠ 30 → a ≠ 34 → a ≠ 35 → J a = I a)) 50 [(0, rv X 30)] [] J5 := by
          intro n50
          induction n50 with
          | zero => intro J5 t n hm; omega
          | succ n50 ih50 =>
            intro J5 t n hm50 hM5 hE hP hfr5
            refine r_aload_n (pc := 50) (a := 0) (i := 0) 0 rfl rfl dX9_office_50 ?_
            refine r_callVj (pc := 51) (st := []) (As := []) (D2 := 0) okX9_name (by decide) (by decide) rfl rfl rfl (Nat.le_of_ble_eq_true rfl) km_X9_143 (kNam X hM5) dX9_office_51 ?_
            refine r_ldc2 (pc := 54) kc_X9_170 dX9_office_54 ?_
            refine r_lcif_ne (pc := 57) 68 (by have := nmS_r (c := c) (L := L) hM5.1.2.1; unfold rl; omega) (by unfold rl; omega) dX9_office_57 dX9_office_58 (by decide) (fun h57 => ?_) (fun h57 => ?_)
            · skip
              have at68 : ∀ (n68 : Nat) (J6 : HD) (t : Ps) (n : Int), n.toNat < n68 → (hM6 : MS J6 c L t) → (hE6 : t.2.2 = 0 → eqF J6 t.2.1 ∧ GD t.2.1 ∧ n = 13 - t.2.1 1 ∧ t.2.1 1 ≤ 12 ∧ 1 ≤ t.2.1 0) → (hP6 : pSh c L n.toNat t = pSh c L (13 : Int).toNat (pA2 c L (pA1 c L))) → (hfr6 : fO I J6) → Rn X 5 mX9_office (fun r J => J 30 11 = 0 ∧ (¬ (pAll c L).2.2 = 0 → r = some (iv (-1000100 - (pAll c L).1)) ∧ J 30 12 = (pAll c L).2.2 ∧ (∀ j, (j = 1 ∨ j = 7 ∨ j = 9 ∨ j = 27) → J 30 j = I 30 j) ∧ ∀ a, a ≠ 30 → a ≠ 35 → J a = I a) ∧ ((pAll c L).2.2 = 0 → r = some (iv ((pAll c L).2.1 0)) ∧ J 30 7 = 1 ∧ J 30 9 = 0 ∧ (∀ j, (j = 1 ∨ j = 12 ∨ j = 27) → J 30 j = I 30 j) ∧ (∀ k, 0 ≤ k → k < 127 → J 34 k = (pAll c L).2.1 k) ∧ ∀ a, a ≠ 30 → a ≠ 34 → a ≠ 35 → J a = I a)) 68 [(0, rv X 30)] [] J6 := by
                intro n68
                induction n68 with
                | zero => intro J6 t n hm; omega
                | succ n68 ih68 =>
                  intro J6 t n hm68 hM6 hE6 hP6 hfr6
                  refine r_aload_n (pc := 68) (a := 0) (i := 0) 0 rfl rfl dX9_office_68 ?_
                  refine r_callVj (pc := 69) (st := []) (As := []) (D2 := 0) okX9_name (by decide) (by decide) rfl rfl rfl (Nat.le_of_ble_eq_true rfl) km_X9_143 (kNam X hM6) dX9_office_69 ?_
                  refine r_ldc2 (pc := 72) kc_X9_175 dX9_office_72 ?_
                  refine r_lcif_ne (pc := 75) 86 (by have := nmS_r (c := c) (L := L) hM6.1.2.1; unfold rl; omega) (by unfold rl; omega) dX9_office_75 dX9_office_76 (by decide) (fun h75 => ?_) (fun h75 => ?_)
                  · skip
                    have at106 : ∀ (J8 : HD), (hM8 : MS J8 c L (pAll c L)) → (hE8 : (pAll c L).2.2 = 0 → eqF J8 (pAll c L).2.1) → (hfr8 : fO I J8) → Rn X 5 mX9_office (fun r J => J 30 11 = 0 ∧ (¬ (pAll c L).2.2 = 0 → r = some (iv (-1000100 - (pAll c L).1)) ∧ J 30 12 = (pAll c L).2.2 ∧ (∀ j, (j = 1 ∨ j = 7 ∨ j = 9 ∨ j = 27) → J 30 j = I 30 j) ∧ ∀ a, a ≠ 30 → a ≠ 35 → J a = I a) ∧ ((pAll c L).2.2 = 0 → r = some (iv ((pAll c L).2.1 0)) ∧ J 30 7 = 1 ∧ J 30 9 = 0 ∧ (∀ j, (j = 1 ∨ j = 12 ∨ j = 27) → J 30 j = I 30 j) ∧ (∀ k, 0 ≤ k → k < 127 → J 34 k = (pAll c L).2.1 k) ∧ ∀ a, a ≠ 30 → a ≠ 34 → a ≠ 35 → J a = I a)) 106 [(0, rv X 30)] [] J8 := by
                      intro J8 hM8 hE8 hfr8
                      have hM8r := hM8.2.2.2
                      refine r_aload_n (pc := 106) (a := 0) (i := 0) 0 rfl rfl dX9_office_106 ?_
                      refine r_get (pc := 107) ckX9 (by decide) rfl (j := 18) (by decide) (congrArg (fun q => some (iv q)) hM8.2.1) kf_X9_112 dX9_office_107 ?_
                      refine r_if_le (pc := 110) 129 (by unfold rg; omega) dX9_office_110 (by decide) (fun h110 => ?_) (fun h110 => ?_)
                      · skip
                        refine r_aload_n (pc := 129) (a := 0) (i := 0) 0 rfl rfl dX9_office_129 ?_
                        refine r_iconst (pc := 130) dX9_office_130 ?_
                        refine r_put (pc := 131) 7 (ji := 7) rfl ckX9 (by decide) rfl rfl (by decide) (Nat.le_of_ble_eq_true rfl) kf_X9_184 rfl rfl (rfl) rfl dX9_office_131 ?_
                        refine r_aload_n (pc := 134) (a := 0) (i := 0) 0 rfl rfl dX9_office_134 ?_
                        refine r_iconst (pc := 135) dX9_office_135 ?_
                        refine r_put (pc := 136) 9 (ji := 9) rfl ckX9 (by decide) rfl rfl (by decide) (Nat.le_of_ble_eq_true rfl) kf_X9_188 rfl rfl rfl rfl dX9_office_136 ?_
                        obtain ⟨J9, eJ9⟩ : ∃ zJ, zJ = up (up J8 30 7 1) 30 9 0 := ⟨_, rfl⟩
                        refine r_I (J := J9) eJ9.symm ?_
                        have e8 : (pAll c L).2.2 = 0 := by omega
                        have hF9 : eqF J9 (pAll c L).2.1 := (hE8 e8).fr (by rw [eJ9]; exact (up_row (by decide)).trans (up_row (by decide)))
                        refine r_iconst (pc := 139) dX9_office_139 ?_
                        refine r_istore_n (pc := 140) (a := 1) (i := 1) rfl [(1, iv 0), (0, rv X 30)] (by decide) rfl dX9_office_140 ?_
                        have at141 : ∀ (n141 : Nat) (K : HD) (k : Int), (127 - k).toNat < n141 → (hk0 : 0 ≤ k) → (hk1 : k ≤ 127) → (hKc : ∀ x, 0 ≤ x → x < k → K 34 x = (pAll c L).2.1 x) → (hKr : ∀ a, a ≠ 34 → K a = J9 a) → Rn X 5 mX9_office (fun r J => J 30 11 = 0 ∧ (¬ (pAll c L).2.2 = 0 → r = some (iv (-1000100 - (pAll c L).1)) ∧ J 30 12 = (pAll c L).2.2 ∧ (∀ j, (j = 1 ∨ j = 7 ∨ j = 9 ∨ j = 27) → J 30 j = I 30 j) ∧ ∀ a, a ≠ 30 → a ≠ 35 → J a = I a) ∧ ((pAll c L).2.2 = 0 → r = some (iv ((pAll c L).2.1 0)) ∧ J 30 7 = 1 ∧ J 30 9 = 0 ∧ (∀ j, (j = 1 ∨ j = 12 ∨ j = 27) → J 30 j = I 30 j) ∧ (∀ k, 0 ≤ k → k < 127 → J 34 k = (pAll c L).2.1 k) ∧ ∀ a, a ≠ 30 → a ≠ 34 → a ≠ 35 → J a = I a)) 141 [(0, rv X 30), (1, iv k)] [] K := by
                          intro n141
                          induction n141 with
                          | zero => intro K k hm; omega
                          | succ n141 ih141 =>
                            intro K k hm141 hk0 hk1 hKc hKr
                            refine r_iload_n (pc := 141) (a := 1) (i := 1) 1 rfl rfl dX9_office_141 ?_
                            refine r_bipush (pc := 142) rfl dX9_office_142 ?_
                            refine r_icmp_ge (pc := 144) 165 (by unfold rg; omega) (by unfold rg; omega) dX9_office_144 (by decide) (fun h144 => ?_) (fun h144 => ?_)
                            · skip
                              refine r_aload_n (pc := 165) (a := 0) (i := 0) 0 rfl rfl dX9_office_165 ?_
                              refine r_get (pc := 166) ckX9 (by decide) rfl (j := 5) (by decide) rfl kf_X9_19 dX9_office_166 ?_
                              refine r_iconst (pc := 169) dX9_office_169 ?_
                              refine r_iald (pc := 170) (z := (pAll c L).2.1 0) (by decide) rfl (by omega) (by omega) (by decide) (hKc 0 (by omega) (by omega)) dX9_office_170 ?_
                              refine r_iret (pc := 171) (st := []) rfl dX9_office_171 ?_
                              have j9 : ∀ j, j ≠ 7 → j ≠ 9 → K 30 j = J8 30 j := fun j x y => by rw [hKr 30 (by decide), eJ9]; exact (up_i y).trans (up_i x)
                              refine ⟨(j9 11 (by decide) (by decide)).trans hfr8.2.2, fun e => absurd e8 e, fun _ => ⟨rfl, by rw [hKr 30 (by decide), eJ9]; exact (up_i (by decide)).trans up_s, by rw [hKr 30 (by decide), eJ9]; exact up_s, fun j q => (j9 j (by omega) (by omega)).trans (hfr8.2.1 j (by omega) (by omega) (by omega)), fun x a b => hKc x a (by omega), fun a x y w => (hKr a y).trans (by rw [eJ9]; exact (up_row x).trans ((up_row x).trans (hfr8.1 a x w)))⟩⟩
                            · skip
                              refine r_aload_n (pc := 147) (a := 0) (i := 0) 0 rfl rfl dX9_office_147 ?_
                              refine r_get (pc := 148) ckX9 (by decide) rfl (j := 5) (by decide) rfl kf_X9_19 dX9_office_148 ?_
                              refine r_iload_n (pc := 151) (a := 1) (i := 1) 1 rfl rfl dX9_office_151 ?_
                              refine r_aload_n (pc := 152) (a := 0) (i := 0) 0 rfl rfl dX9_office_152 ?_
                              refine r_get (pc := 153) ckX9 (by decide) rfl (j := 6) (by decide) rfl kf_X9_22 dX9_office_153 ?_
                              refine r_iload_n (pc := 156) (a := 1) (i := 1) 1 rfl rfl dX9_office_156 ?_
                              refine r_iald (pc := 157) (z := (pAll c L).2.1 k) (by decide) rfl (by omega) (by omega) (by decide) ((congrFun (hKr 35 (by decide)) _).trans (hF9 k (by omega) (by omega))) dX9_office_157 ?_
                              refine r_iast (pc := 158) (by decide) (fun _ => rfl) (by omega) (by omega) (by decide) dX9_office_158 ?_
                              refine r_iinc (pc := 159) 1 [(1, iv (k + 1)), (0, rv X 30)] rfl (by decide) rfl dX9_office_159 ?_
                              refine r_goto (pc := 162) 141 dX9_office_162 (by decide) ?_
                              refine r_lv [1, 0] [(0, rv X 30), (1, iv (k + 1))] rfl ?_
                              exact ih141 (up K 34 k ((pAll c L).2.1 k)) (k + 1) (by omega) (by omega) (by omega) (fun x a b => by rw [up_at]; exact zr_s hKc a b) (fun a x => (up_row x).trans (hKr a x))
                        refine r_lv [1, 0] [(0, rv X 30), (1, iv 0)] rfl ?_
                        exact at141 _ J9 0 (Nat.lt_succ_self _) (by omega) (by omega) (fun x a b => by omega) (fun _ _ => rfl)
                      · skip
                        refine r_aload_n (pc := 113) (a := 0) (i := 0) 0 rfl rfl dX9_office_113 ?_
                        refine r_aload_n (pc := 114) (a := 0) (i := 0) 0 rfl rfl dX9_office_114 ?_
                        refine r_get (pc := 115) ckX9 (by decide) rfl (j := 18) (by decide) (congrArg (fun q => some (iv q)) hM8.2.1) kf_X9_112 dX9_office_115 ?_
                        refine r_put (pc := 118) 12 (ji := 12) rfl ckX9 (by decide) rfl rfl (by decide) (Nat.le_of_ble_eq_true rfl) kf_X9_180 rfl rfl rfl rfl dX9_office_118 ?_
                        refine r_ldc (pc := 121) kc_X9_183 dX9_office_121 ?_
                        refine r_aload_n (pc := 123) (a := 0) (i := 0) 0 rfl rfl dX9_office_123 ?_
                        refine r_get (pc := 124) ckX9 (by decide) rfl (j := 19) (by decide) (congrArg (fun q => some (iv q)) ((up_i (by decide)).trans (hM8.2.2.1 (by omega)))) kf_X9_118 dX9_office_124 ?_
                        refine r_isub (pc := 127) dX9_office_127 ?_
                        refine r_iret (pc := 128) (st := []) rfl dX9_office_128 ?_
                        have hn : ¬ (pAll c L).2.2 = 0 := by omega
                        refine ⟨(up_i (by decide)).trans hfr8.2.2, fun _ => ⟨rfl, up_s, fun j q => (up_i (by omega)).trans (hfr8.2.1 j (by omega) (by omega) (by omega)), fun a x y => (up_row x).trans (hfr8.1 a x y)⟩, fun e => absurd e hn⟩
                    have hT : pAll c L = pA3 c L t := by unfold pAll; rw [← hP6, pSh_f (fun q => h75 ((w2 t).mpr q))]
                    have hkr6 := rt_r (tkK_r (c := c) (L := L) (f := t.1))
                    have hM6r := hM6.2.2.2
                    refine r_aload_n (pc := 86) (a := 0) (i := 0) 0 rfl rfl dX9_office_86 ?_
                    refine r_get (pc := 87) ckX9 (by decide) rfl (j := 18) (by decide) (congrArg (fun q => some (iv q)) hM6.2.1) kf_X9_112 dX9_office_87 ?_
                    refine r_if_ne (pc := 90) 106 (by unfold rg; omega) dX9_office_90 (by decide) (fun h90 => ?_) (fun h90 => ?_)
                    · skip
                      refine r_lv [0] [(0, rv X 30)] rfl ?_
                      exact at106 J6 (by rw [hT, pA3_x h90]; exact hM6) (fun e => by rw [hT, pA3_x h90] at e; exact absurd e h90) (hfr6)
                    · skip
                      refine r_aload_n (pc := 93) (a := 0) (i := 0) 0 rfl rfl dX9_office_93 ?_
                      refine r_get (pc := 94) ckX9 (by decide) rfl (j := 15) (by decide) (congrArg (fun q => some (iv q)) hM6.1.2.2.2.1) kf_X9_100 dX9_office_94 ?_
                      refine r_iconst (pc := 97) dX9_office_97 ?_
                      refine r_icmp_eq (pc := 98) 106 (by unfold rg; omega) (by unfold rg; omega) dX9_office_98 (by decide) (fun h98 => ?_) (fun h98 => ?_)
                      · skip
                        refine r_lv [0] [(0, rv X 30)] rfl ?_
                        exact at106 J6 (by rw [hT, pA3_t (by omega)]; exact hM6) (fun e => by rw [hT, pA3_t (by omega)]; exact (hE6 (by omega)).1) (hfr6)
                      · skip
                        refine r_aload_n (pc := 101) (a := 0) (i := 0) 0 rfl rfl dX9_office_101 ?_
                        refine r_iconst (pc := 102) dX9_office_102 ?_
                        refine r_callV (pc := 103) (st := []) (As := [iv 1]) (D2 := 0) okX9_bad (by decide) (by decide) rfl rfl rfl (Nat.le_of_ble_eq_true rfl) km_X9_121 (kBad X hM6 (by decide) (by decide)) dX9_office_103 ?_
                        rintro _ J9 ⟨rfl, b2, b3, b4⟩
                        refine r_lv [0] [(0, rv X 30)] rfl ?_
                        exact at106 J9 (by rw [hT, pA3_f (by omega) (by omega)]; rw [pBad_t (by omega)] at b3; exact b3) (fun e => by rw [hT, pA3_f (by omega) (by omega)] at e; exact absurd (show (1 : Int) = 0 from e) (by decide)) (hfr6.w b2.w)
                  · skip
                    have hw := (w2 t).mp h75
                    refine r_aload_n (pc := 79) (a := 0) (i := 0) 0 rfl rfl dX9_office_79 ?_
                    refine r_callV (pc := 80) (st := []) (As := []) (D2 := 4) okX9_readSheet (by decide) (by decide) rfl rfl rfl (Nat.le_of_ble_eq_true rfl) km_X9_177 (kX9_readSheet X (f := t.1) (F := t.2.1) (by rw [ps_eta hw.1]; exact hM6) (hE6 hw.1).1 (hE6 hw.1).2.1 (hE6 hw.1).2.2.2.1 (hE6 hw.1).2.2.2.2) dX9_office_80 ?_
                    rintro _ J7 ⟨rfl, d2, d3, d4⟩
                    rw [ps_eta hw.1] at d3 d4
                    refine r_goto (pc := 83) 68 dX9_office_83 (by decide) ?_
                    refine r_lv [0] [(0, rv X 30)] rfl ?_
                    exact ih68 J7 (pSheet c L t) (n - 1) (by have q := hE6 hw.1; omega) (d3) (fun e => by have q := hE6 hw.1; have k := pSheet_e (c := c) (L := L) (f := t.1) q.2.1 q.2.2.2.1 (by rw [ps_eta hw.1]; exact e); have nq := sh_n12 (c := c) (L := L) (t := t) hw.1 e; rw [ps_eta hw.1] at k; exact ⟨d4 e, k.1, by omega, by omega, by omega⟩) (by have q := hE6 hw.1; rw [← hP6, pSh_t (by omega) hw]) (hfr6.w d2)
              refine r_lv [0] [(0, rv X 30)] rfl ?_
              exact at68 _ J5 t 13 (Nat.lt_succ_self _) (hM5) (fun e => by have hP2 : t = pA2 c L (pA1 c L) := (pDs_f (fun q => h57 ((w1 t).mpr q))).symm.trans hP; have q := hE e; have e2 : (pA2 c L (pA1 c L)).2.2 = 0 := hP2 ▸ e; obtain ⟨g1, g2, _⟩ := pWind_F (pA1_of e2); have k := pA2_e (pA1_of e2) g1 g2 e2; rw [← hP2] at k; exact ⟨q.1, q.2.1, by omega, by omega, k.2.1⟩) (congrArg (pSh c L (13 : Int).toNat) ((pDs_f (fun q => h57 ((w1 t).mpr q))).symm.trans hP)) (hfr5)
            · skip
              have hw := (w1 t).mp h57
              refine r_aload_n (pc := 61) (a := 0) (i := 0) 0 rfl rfl dX9_office_61 ?_
              refine r_callV (pc := 62) (st := []) (As := []) (D2 := 4) okX9_readDesk (by decide) (by decide) rfl rfl rfl (Nat.le_of_ble_eq_true rfl) km_X9_172 (kX9_readDesk X (f := t.1) (F := t.2.1) (by rw [ps_eta hw.1]; exact hM5) (hE hw.1).1 (hE hw.1).2.1) dX9_office_62 ?_
              rintro _ J7 ⟨rfl, d2, d3, d4⟩
              rw [ps_eta hw.1] at d3 d4
              refine r_goto (pc := 65) 50 dX9_office_65 (by decide) ?_
              refine r_lv [0] [(0, rv X 30)] rfl ?_
              exact ih50 J7 (pDesk c L t) (n - 1) (by have q := hE hw.1; have v := q.2.1.1.a; omega) (d3) (fun e => by have k := pDesk_e (c := c) (L := L) (f := t.1) (hE hw.1).2.1 (by rw [ps_eta hw.1]; exact e); rw [ps_eta hw.1] at k; have q := hE hw.1; exact ⟨d4 e, k.1, by omega, by omega⟩) (by have q := hE hw.1; have v := q.2.1.1.a; rw [← hP, pDs_t (by omega) hw]) (hfr5.w d2)
        refine r_callVj (pc := 35) (st := []) (As := []) (D2 := 0) okX9_name (by decide) (by decide) rfl rfl rfl (Nat.le_of_ble_eq_true rfl) km_X9_143 (kNam X m3) dX9_office_35 ?_
        refine r_ldc2 (pc := 38) kc_X9_170 dX9_office_38 ?_
        refine r_lcif_eq (pc := 41) 50 (by have := nmS_r (c := c) (L := L) m3.1.2.1; unfold rl; omega) (by unfold rl; omega) dX9_office_41 dX9_office_42 (by decide) (fun h41 => ?_) (fun h41 => ?_)
        · skip
          refine r_lv [0] [(0, rv X 30)] rfl ?_
          exact at50 _ J3 _ 5 (Nat.lt_succ_self _) (m3) (fun e => by obtain ⟨a, b, d, _⟩ := pWind_F e; exact ⟨m4 e, a, by have : (pA1 c L).2.1 0 = 0 := b; omega, d⟩) (pA2_w ((w1 _).mp h41)) (hfr3)
        · skip
          refine r_aload_n (pc := 45) (a := 0) (i := 0) 0 rfl rfl dX9_office_45 ?_
          refine r_iconst (pc := 46) dX9_office_46 ?_
          refine r_callV (pc := 47) (st := []) (As := [iv 1]) (D2 := 0) okX9_bad (by decide) (by decide) rfl rfl rfl (Nat.le_of_ble_eq_true rfl) km_X9_121 (kBad X m3 (by decide) (by decide)) dX9_office_47 ?_
          rintro _ J4 ⟨rfl, b2, b3, b4⟩
          refine r_lv [0] [(0, rv X 30)] rfl ?_
          exact at50 _ J4 _ 5 (Nat.lt_succ_self _) (b3) (fun e => absurd e b4) (pA2_b (fun q => h41 ((w1 _).mpr q)) _) (hfr3.w b2.w)
      · skip
        refine r_aload_n (pc := 17) (a := 0) (i := 0) 0 rfl rfl dX9_office_17 ?_
        refine r_get (pc := 18) ckX9 (by decide) rfl (j := 6) (by decide) rfl kf_X9_22 dX9_office_18 ?_
        refine r_iload_n (pc := 21) (a := 1) (i := 1) 1 rfl rfl dX9_office_21 ?_
        refine r_iconst (pc := 22) dX9_office_22 ?_
        refine r_iast (pc := 23) (by decide) (fun _ => rfl) (by omega) (by omega) (by decide) dX9_office_23 ?_
        refine r_iinc (pc := 24) 1 [(1, iv (k + 1)), (0, rv X 30)] rfl (by decide) rfl dX9_office_24 ?_
        refine r_goto (pc := 27) 11 dX9_office_27 (by decide) ?_
        refine r_lv [1, 0] [(0, rv X 30), (1, iv (k + 1))] rfl ?_
        exact ih11 (up J2 35 k 0) (k + 1) (by omega) (by omega) (by omega) (hMz.up) (fun x a b => by rw [up_at]; exact zr_s hz a b) (hfr.w (fMW.up fMW.rf))
  refine r_lv [1, 0] [(0, rv X 30), (1, iv 0)] rfl ?_
  exact at11 _ J1 0 (Nat.lt_succ_self _) (by omega) (by omega) (g5) (fun x a b => by omega) (⟨fun a x _ => (g2 a x).trans (up_row x), fun j x y z => (g3 j y z).trans (up_i x), g4⟩)
