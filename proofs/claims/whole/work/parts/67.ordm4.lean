theorem upA_cm {K : HD} {a b : Nat} {f f2 g : Int → Int} (h : a ≠ b) : upA (upA (upA K a f) b g) a f2 = upA (upA K a f2) b g := by
  funext x
  unfold upA
  by_cases e : x = a
  · subst e; simp [h]
  · by_cases q : x = b
    · subst q; simp [e]
    · simp [e, q]
def msr (c : Int) (t : Int → Int) (h : Int) : Int := if c = 0 then 0 else 268435457 - cod t h.toNat
theorem msr_lt {c c2 h : Int} {t u : Int → Int} (hc : c = 1) (h0 : 0 ≤ h) (h7 : h ≤ 7) (ht : ∀ k, 0 ≤ k → k < h → 0 ≤ t k ∧ t k < 16) (hu : (c2 = 1 ∧ (∀ k, 0 ≤ k → k < h → 0 ≤ u k ∧ u k < 16) ∧ llt h t u) ∨ c2 = 0) : (msr c2 u h).toNat < (msr c t h).toNat := by
  have a := cod_7 h0 h7 ht
  subst hc
  rw [show msr 1 t h = 268435457 - cod t h.toNat from if_neg (by decide)]
  rcases hu with ⟨e, hu, hl⟩ | e
  · subst e
    have b := cod_7 h0 h7 hu
    rw [show msr 1 u h = 268435457 - cod u h.toNat from if_neg (by decide)]
    have := cod_l (A := t) (B := u) (n := h.toNat) (fun k x y => by have := ht k x (by omega); have := hu k x (by omega); omega) (by rw [Int.toNat_of_nonneg h0]; exact hl)
    omega
  · subst e
    rw [show msr 0 u h = 0 from if_pos rfl]
    omega
theorem stl_cp {b t : Int → Int} {q : Int} (h : ∀ x, 0 ≤ x → x < q → b x = t x) : ∀ x, 0 ≤ x → x < q + 1 → stl b q (t q) x = t x := fun x a c => by
  by_cases e : x = q
  · rw [e, stl_s]
  · rw [stl_n e]; exact h x a (by omega)
set_option maxRecDepth 100000 in
set_option maxHeartbeats 600000 in
theorem kX9_order (X : XC) {I : HD} {O : OF} (hO : I 34 = O) (hV : Val O) {d n k : Int} (hd : rg d) (hn : rg n) (hk : rg k) : Cl X 3 mX9_order [rv X 30, iv d, iv n, iv k] I (fun r J => r = some (iv (zOrd O d n k)) ∧ ∃ t b, J = upA (upA (up I 30 0 0) 40 t) 41 b) := by
  refine Cl.of (by decide) (Nat.le_of_ble_eq_true rfl) ?_
  show Rn X 3 mX9_order _ 0 [(0, rv X 30), (1, iv d), (2, iv n), (3, iv k)] [] I
  have hO2 : (up I 30 0 0) 34 = O := (up_row (by decide)).trans hO
  unfold rg at hd hn hk
  have q0 := hV.a
  have hOt : ∀ t b, (upA (upA (up I 30 0 0) 40 t) 41 b) 34 = O := fun t b => (upA_h (by decide)).trans ((upA_h (by decide)).trans hO2)
  refine r_aload_n (pc := 0) (a := 0) (i := 0) 0 rfl rfl dX9_order_0 ?_
  refine r_iconst (pc := 1) dX9_order_1 ?_
  refine r_put (pc := 2) 0 (ji := 0) rfl ckX9 (by decide) rfl rfl (by decide) (Nat.le_of_ble_eq_true rfl) kf_X9_54 rfl rfl rfl rfl dX9_order_2 ?_
  refine r_aload_n (pc := 5) (a := 0) (i := 0) 0 rfl rfl dX9_order_5 ?_
  refine r_iload_n (pc := 6) (a := 1) (i := 1) 1 rfl rfl dX9_order_6 ?_
  refine r_callVi (pc := 7) (st := []) (As := [iv d]) okX9_isDesk (by decide) (by decide) rfl rfl rfl (Nat.le_of_ble_eq_true rfl) km_X9_219 (kX9_isDesk X hO2 hV (by unfold rg; omega)) dX9_order_7 ?_
  refine r_if_eq (pc := 10) 30 rg_bI dX9_order_10 (by decide) (fun h10 => ?_) (fun h10 => ?_)
  · skip
    have h10 := bI_0.mp h10
    refine r_ldc (pc := 30) kc_X9_74 dX9_order_30 ?_
    refine r_iret (pc := 32) (st := []) rfl dX9_order_32 ?_
    exact ⟨by unfold zOrd; rw [if_neg (by omega)], _, _, by rw [upA_id, upA_id]⟩
  · skip
    have h10 := bI_n.mp h10
    refine r_iload_n (pc := 13) (a := 2) (i := 2) 2 rfl rfl dX9_order_13 ?_
    refine r_i2l (pc := 14) (by unfold rg; omega) dX9_order_14 ?_
    refine r_lconst (pc := 15) (z := 0) rfl dX9_order_15 ?_
    refine r_ldc2 (pc := 16) kc_X9_247 dX9_order_16 ?_
    refine r_callSi (pc := 19) (st := []) (As := [jv n, jv 0, jv 9]) okX9_in (by decide) trivial rfl (Nat.le_of_ble_eq_true rfl) km_X9_64 (kX9_in X (by unfold rl; omega) (by unfold rl; omega) (by unfold rl; omega)) dX9_order_19 ?_
    refine r_if_eq (pc := 22) 30 rg_bI dX9_order_22 (by decide) (fun h22 => ?_) (fun h22 => ?_)
    · skip
      have h22 := bI_0.mp h22
      refine r_ldc (pc := 30) kc_X9_74 dX9_order_30 ?_
      refine r_iret (pc := 32) (st := []) rfl dX9_order_32 ?_
      exact ⟨by unfold zOrd; rw [if_neg (by omega)], _, _, by rw [upA_id, upA_id]⟩
    · skip
      have h22 := bI_n.mp h22
      refine r_iload_n (pc := 25) (a := 3) (i := 3) 3 rfl rfl dX9_order_25 ?_
      refine r_iconst (pc := 26) dX9_order_26 ?_
      refine r_icmp_ge (pc := 27) 33 (by unfold rg; omega) (by unfold rg; omega) dX9_order_27 (by decide) (fun h27 => ?_) (fun h27 => ?_)
      · skip
        obtain ⟨hd0, hd1⟩ := h10
        have q1 := hV.d hd0 hd1
        refine r_aload_n (pc := 33) (a := 0) (i := 0) 0 rfl rfl dX9_order_33 ?_
        refine r_iload_n (pc := 34) (a := 1) (i := 1) 1 rfl rfl dX9_order_34 ?_
        refine r_callVi (pc := 35) (st := []) (As := [iv d]) okX9_manyOn (by decide) (by decide) rfl rfl rfl (Nat.le_of_ble_eq_true rfl) km_X9_191 (kX9_manyOn X hO2 hV (by omega) (by omega)) dX9_order_35 ?_
        refine r_istore (pc := 38) [(4, iv (O (23 + 10 * d))), (0, rv X 30), (1, iv d), (2, iv n), (3, iv k)] (by decide) rfl dX9_order_38 ?_
        refine r_iload (pc := 40) 0 rfl dX9_order_40 ?_
        refine r_bipush (pc := 42) rfl dX9_order_42 ?_
        refine r_icmp_le (pc := 44) 50 (by unfold rg; omega) (by unfold rg; omega) dX9_order_44 (by decide) (fun h44 => ?_) (fun h44 => ?_)
        · skip
          refine r_aload_n (pc := 50) (a := 0) (i := 0) 1 rfl rfl dX9_order_50 ?_
          refine r_iload_n (pc := 51) (a := 1) (i := 1) 2 rfl rfl dX9_order_51 ?_
          refine r_callV (pc := 52) (st := []) (As := [iv d]) (D2 := 2) okX9_layFirst (by decide) (by decide) rfl rfl rfl (Nat.le_of_ble_eq_true rfl) km_X9_257 (kX9_layFirst X hO2 hV hd0 hd1 (by omega)) dX9_order_52 ?_
          rintro _ _ ⟨rfl, t, rfl, hA0, hAs⟩
          refine r_ldc (pc := 55) kc_X9_90 dX9_order_55 ?_
          refine r_istore (pc := 57) [(5, iv (-1000000)), (4, iv (O (23 + 10 * d))), (0, rv X 30), (1, iv d), (2, iv n), (3, iv k)] (by decide) rfl dX9_order_57 ?_
          refine r_I (J := upA (upA (up I 30 0 0) 40 t) 41 ((upA (up I 30 0 0) 40 t) 41)) (upA_id.symm) ?_
          refine r_iconst (pc := 59) dX9_order_59 ?_
          refine r_istore (pc := 60) [(6, iv 1), (5, iv (-1000000)), (4, iv (O (23 + 10 * d))), (0, rv X 30), (1, iv d), (2, iv n), (3, iv k)] (by decide) rfl dX9_order_60 ?_
          have at62 : ∀ (n62 : Nat) (t : Int → Int) (b : Int → Int) (z : Int) (c : Int), (msr c t (O (23 + 10 * d))).toNat < n62 → (hz : -1000000 ≤ z ∧ z ≤ 900) → (hM : (c = 1 ∧ arr (onD O d) (O (23 + 10 * d)) t ∧ oI O d n t z b) ∨ (c = 0 ∧ isB O d n b ∧ dSb O d n b = z)) → Rn X 3 mX9_order (fun r J => r = some (iv (zOrd O d n k)) ∧ ∃ t b, J = upA (upA (up I 30 0 0) 40 t) 41 b) 62 [(0, rv X 30), (1, iv d), (2, iv n), (3, iv k), (4, iv (O (23 + 10 * d))), (5, iv z), (6, iv c)] [] (upA (upA (up I 30 0 0) 40 t) 41 b) := by
            intro n62
            induction n62 with
            | zero => intro t b z c hm; omega
            | succ n62 ih62 =>
              intro t b z c hm62 hz hM
              refine r_iload (pc := 62) 6 rfl dX9_order_62 ?_
              refine r_if_eq (pc := 64) 136 (by unfold rg; omega) dX9_order_64 (by decide) (fun h64 => ?_) (fun h64 => ?_)
              · skip
                obtain ⟨hB, hBz⟩ : isB O d n b ∧ dSb O d n b = z := by rcases hM with q | q; (exact absurd q.1 (by omega)); exact q.2
                refine r_iload_n (pc := 136) (a := 3) (i := 3) 3 rfl rfl dX9_order_136 ?_
                refine r_if_ge (pc := 137) 145 (by unfold rg; omega) dX9_order_137 (by decide) (fun h137 => ?_) (fun h137 => ?_)
                · skip
                  refine r_iload_n (pc := 145) (a := 3) (i := 3) 3 rfl rfl dX9_order_145 ?_
                  refine r_iload (pc := 146) 4 rfl dX9_order_146 ?_
                  refine r_icmp_ge (pc := 148) 160 (by unfold rg; omega) (by unfold rg; omega) dX9_order_148 (by decide) (fun h148 => ?_) (fun h148 => ?_)
                  · skip
                    refine r_ldc (pc := 160) kc_X9_90 dX9_order_160 ?_
                    refine r_iret (pc := 162) (st := []) rfl dX9_order_162 ?_
                    exact ⟨by unfold zOrd; rw [if_pos (by omega), if_pos (by omega)], t, b, rfl⟩
                  · skip
                    refine r_aload_n (pc := 151) (a := 0) (i := 0) 0 rfl rfl dX9_order_151 ?_
                    refine r_get (pc := 152) ckX9 (by decide) rfl (j := 23) (by decide) rfl kf_X9_41 dX9_order_152 ?_
                    refine r_iload_n (pc := 155) (a := 3) (i := 3) 3 rfl rfl dX9_order_155 ?_
                    refine r_iald (pc := 156) (z := b k) (by decide) rfl (by omega) (by omega) (by decide) (congrFun upA_s _) dX9_order_156 ?_
                    refine r_goto (pc := 157) 162 dX9_order_157 (by decide) ?_
                    refine r_iret (pc := 162) (st := []) rfl dX9_order_162 ?_
                    exact ⟨by unfold zOrd; rw [if_pos (by omega), if_neg (by omega), zOr_b hB (by omega) (by omega)], t, b, rfl⟩
                · skip
                  refine r_iload (pc := 140) 5 rfl dX9_order_140 ?_
                  refine r_goto (pc := 142) 162 dX9_order_142 (by decide) ?_
                  refine r_iret (pc := 162) (st := []) rfl dX9_order_162 ?_
                  exact ⟨by unfold zOrd; rw [if_pos (by omega), if_neg (by omega), zOr_a hB (by omega), hBz], t, b, rfl⟩
              · skip
                obtain ⟨hc1, hA, hI⟩ : c = 1 ∧ arr (onD O d) (O (23 + 10 * d)) t ∧ oI O d n t z b := by rcases hM with q | q; exact q; omega
                have hf := sbs_on hV hd0 hd1
                have hds := dS_r (O := O) (f := t) (p := (O (23 + 10 * d)).toNat) (m := (rch O d n).toNat) hV (fun k a b => hf _ (hA.1 k a (by omega)))
                have hrc : 0 ≤ rch O d n ∧ rch O d n ≤ 9 := by unfold rch; omega
                have hds2 : 0 ≤ dSb O d n t ∧ dSb O d n t ≤ 900 := by unfold dSb; omega
                refine r_aload_n (pc := 67) (a := 0) (i := 0) 0 rfl rfl dX9_order_67 ?_
                refine r_iload_n (pc := 68) (a := 1) (i := 1) 1 rfl rfl dX9_order_68 ?_
                refine r_iload (pc := 69) 4 rfl dX9_order_69 ?_
                refine r_iload_n (pc := 71) (a := 2) (i := 2) 2 rfl rfl dX9_order_71 ?_
                refine r_callVi (pc := 72) (st := []) (As := [iv d, iv (O (23 + 10 * d)), iv n]) (D2 := 1) okX9_lostBy (by decide) (by decide) rfl rfl rfl (Nat.le_of_ble_eq_true rfl) km_X9_260 (kX9_lostBy X (hOt t b) hV (t := t) ((upA_h (by decide)).trans upA_s) hd0 hd1 (by omega) (by omega) (by omega) (fun k a b => hf _ (hA.1 k a b))) dX9_order_72 ?_
                refine r_istore (pc := 75) [(7, iv (dSb O d n t)), (0, rv X 30), (1, iv d), (2, iv n), (3, iv k), (4, iv (O (23 + 10 * d))), (5, iv z), (6, iv c)] (by decide) rfl dX9_order_75 ?_
                have at125 : ∀ (z2 : Int) (b2 : Int → Int), (hz2 : -1000000 ≤ z2 ∧ z2 ≤ 900) → (hJ : oJ O d n t z2 b2) → Rn X 3 mX9_order (fun r J => r = some (iv (zOrd O d n k)) ∧ ∃ t b, J = upA (upA (up I 30 0 0) 40 t) 41 b) 125 [(0, rv X 30), (1, iv d), (2, iv n), (3, iv k), (4, iv (O (23 + 10 * d))), (5, iv z2)] [] (upA (upA (up I 30 0 0) 40 t) 41 b2) := by
                  intro z2 b2 hz2 hJ
                  refine r_aload_n (pc := 125) (a := 0) (i := 0) 0 rfl rfl dX9_order_125 ?_
                  refine r_iload (pc := 126) 4 rfl dX9_order_126 ?_
                  refine r_callV (pc := 128) (st := []) (As := [iv (O (23 + 10 * d))]) (D2 := 0) okX9_nextOrder (by decide) (by decide) rfl rfl rfl (Nat.le_of_ble_eq_true rfl) km_X9_264 (kX9_nextOrder X (t := t) ((upA_h (by decide)).trans upA_s) hA (by omega) (by omega) (fun x q => by have := hf x q; omega)) dX9_order_128 ?_
                  rintro _ _ ⟨c2, u, rfl, rfl, hN⟩
                  refine r_I (J := upA (upA (up I 30 0 0) 40 u) 41 b2) (upA_cm (by decide)) ?_
                  refine r_istore (pc := 131) [(6, iv c2), (0, rv X 30), (1, iv d), (2, iv n), (3, iv k), (4, iv (O (23 + 10 * d))), (5, iv z2)] (by decide) rfl dX9_order_131 ?_
                  refine r_goto (pc := 133) 62 dX9_order_133 (by decide) ?_
                  refine r_lv [1, 2, 3, 4, 5, 6, 0] [(0, rv X 30), (1, iv d), (2, iv n), (3, iv k), (4, iv (O (23 + 10 * d))), (5, iv z2), (6, iv c2)] rfl ?_
                  exact ih62 u b2 z2 c2 (by have := msr_lt (c := c) (c2 := c2) (t := t) (u := u) (h := O (23 + 10 * d)) (by omega) (by omega) (by omega) (fun k a b => by have := hf _ (hA.1 k a b); omega) (by rcases hN with ⟨e, a, b, _⟩ | ⟨e, _⟩; exact Or.inl ⟨e, fun k x y => by have := hf _ (a.1 k x y); omega, b⟩; exact Or.inr e); omega) (by omega) (by rcases hN with ⟨e, a, b, c⟩ | ⟨e, a⟩; exact Or.inl ⟨e, a, oI_nx (by omega) hJ b c⟩; exact Or.inr ⟨e, isB_of (by omega) hJ a⟩)
                refine r_iload (pc := 77) 6 rfl dX9_order_77 ?_
                refine r_ldc (pc := 79) kc_X9_90 dX9_order_79 ?_
                refine r_icmp_eq (pc := 81) 91 (by unfold rg; omega) (by unfold rg; omega) dX9_order_81 (by decide) (fun h81 => ?_) (fun h81 => ?_)
                · skip
                  refine r_iload (pc := 91) 0 rfl dX9_order_91 ?_
                  refine r_istore (pc := 93) [(5, iv (dSb O d n t)), (7, iv (dSb O d n t)), (0, rv X 30), (1, iv d), (2, iv n), (3, iv k), (4, iv (O (23 + 10 * d))), (6, iv c)] (by decide) rfl dX9_order_93 ?_
                  refine r_iconst (pc := 95) dX9_order_95 ?_
                  refine r_istore (pc := 96) [(8, iv 0), (5, iv (dSb O d n t)), (7, iv (dSb O d n t)), (0, rv X 30), (1, iv d), (2, iv n), (3, iv k), (4, iv (O (23 + 10 * d))), (6, iv c)] (by decide) rfl dX9_order_96 ?_
                  have at98 : ∀ (n98 : Nat) (b2 : Int → Int) (q : Int), (O (23 + 10 * d) - q).toNat < n98 → (hq0 : 0 ≤ q) → (hq1 : q ≤ O (23 + 10 * d)) → (hcp : ∀ x, 0 ≤ x → x < q → b2 x = t x) → Rn X 3 mX9_order (fun r J => r = some (iv (zOrd O d n k)) ∧ ∃ t b, J = upA (upA (up I 30 0 0) 40 t) 41 b) 98 [(0, rv X 30), (1, iv d), (2, iv n), (3, iv k), (4, iv (O (23 + 10 * d))), (5, iv (dSb O d n t)), (8, iv q)] [] (upA (upA (up I 30 0 0) 40 t) 41 b2) := by
                    intro n98
                    induction n98 with
                    | zero => intro b2 q hm; omega
                    | succ n98 ih98 =>
                      intro b2 q hm98 hq0 hq1 hcp
                      refine r_iload (pc := 98) 6 rfl dX9_order_98 ?_
                      refine r_iload (pc := 100) 4 rfl dX9_order_100 ?_
                      refine r_icmp_ge (pc := 102) 125 (by unfold rg; omega) (by unfold rg; omega) dX9_order_102 (by decide) (fun h102 => ?_) (fun h102 => ?_)
                      · skip
                        refine r_lv [0, 1, 2, 3, 4, 5] [(0, rv X 30), (1, iv d), (2, iv n), (3, iv k), (4, iv (O (23 + 10 * d))), (5, iv (dSb O d n t))] rfl ?_
                        exact at125 (dSb O d n t) _ (by omega) (oJ_new (by omega) hA hI hds2.1 (by omega) (fun x y w => hcp x y (by omega)))
                      · skip
                        refine r_aload_n (pc := 105) (a := 0) (i := 0) 0 rfl rfl dX9_order_105 ?_
                        refine r_get (pc := 106) ckX9 (by decide) rfl (j := 23) (by decide) rfl kf_X9_41 dX9_order_106 ?_
                        refine r_iload (pc := 109) 6 rfl dX9_order_109 ?_
                        refine r_aload_n (pc := 111) (a := 0) (i := 0) 0 rfl rfl dX9_order_111 ?_
                        refine r_get (pc := 112) ckX9 (by decide) rfl (j := 22) (by decide) rfl kf_X9_38 dX9_order_112 ?_
                        refine r_iload (pc := 115) 6 rfl dX9_order_115 ?_
                        refine r_iald (pc := 117) (z := t q) (by decide) rfl (by omega) (by omega) (by decide) ((congrFun (upA_h (by decide)) _).trans (congrFun upA_s _)) dX9_order_117 ?_
                        refine r_iast (pc := 118) (by decide) (fun _ => rfl) (by omega) (by omega) (by decide) dX9_order_118 ?_
                        refine r_I (J := upA (upA (up I 30 0 0) 40 t) 41 (stl b2 q (t q))) (upA_u) ?_
                        refine r_iinc (pc := 119) 6 [(8, iv (q + 1)), (0, rv X 30), (1, iv d), (2, iv n), (3, iv k), (4, iv (O (23 + 10 * d))), (5, iv (dSb O d n t))] rfl (by decide) rfl dX9_order_119 ?_
                        refine r_goto (pc := 122) 98 dX9_order_122 (by decide) ?_
                        refine r_lv [1, 2, 3, 4, 5, 6, 0] [(0, rv X 30), (1, iv d), (2, iv n), (3, iv k), (4, iv (O (23 + 10 * d))), (5, iv (dSb O d n t)), (8, iv (q + 1))] rfl ?_
                        exact ih98 _ (q + 1) (by omega) (by omega) (by omega) (stl_cp hcp)
                  refine r_lv [3, 4, 5, 6, 7, 1, 0] [(0, rv X 30), (1, iv d), (2, iv n), (3, iv k), (4, iv (O (23 + 10 * d))), (5, iv (dSb O d n t)), (8, iv 0)] rfl ?_
                  exact at98 _ _ 0 (Nat.lt_succ_self _) (by omega) (by omega) (fun x a b => by omega)
                · skip
                  refine r_iload (pc := 84) 0 rfl dX9_order_84 ?_
                  refine r_iload (pc := 86) 6 rfl dX9_order_86 ?_
                  refine r_icmp_ge (pc := 88) 125 (by unfold rg; omega) (by unfold rg; omega) dX9_order_88 (by decide) (fun h88 => ?_) (fun h88 => ?_)
                  · skip
                    refine r_lv [1, 2, 3, 4, 5, 6] [(0, rv X 30), (1, iv d), (2, iv n), (3, iv k), (4, iv (O (23 + 10 * d))), (5, iv z)] rfl ?_
                    exact at125 z _ (by omega) (oJ_old (by omega) hI h81 h88)
                  · skip
                    refine r_iload (pc := 91) 0 rfl dX9_order_91 ?_
                    refine r_istore (pc := 93) [(5, iv (dSb O d n t)), (7, iv (dSb O d n t)), (0, rv X 30), (1, iv d), (2, iv n), (3, iv k), (4, iv (O (23 + 10 * d))), (6, iv c)] (by decide) rfl dX9_order_93 ?_
                    refine r_iconst (pc := 95) dX9_order_95 ?_
                    refine r_istore (pc := 96) [(8, iv 0), (5, iv (dSb O d n t)), (7, iv (dSb O d n t)), (0, rv X 30), (1, iv d), (2, iv n), (3, iv k), (4, iv (O (23 + 10 * d))), (6, iv c)] (by decide) rfl dX9_order_96 ?_
                    have at98 : ∀ (n98 : Nat) (b2 : Int → Int) (q : Int), (O (23 + 10 * d) - q).toNat < n98 → (hq0 : 0 ≤ q) → (hq1 : q ≤ O (23 + 10 * d)) → (hcp : ∀ x, 0 ≤ x → x < q → b2 x = t x) → Rn X 3 mX9_order (fun r J => r = some (iv (zOrd O d n k)) ∧ ∃ t b, J = upA (upA (up I 30 0 0) 40 t) 41 b) 98 [(0, rv X 30), (1, iv d), (2, iv n), (3, iv k), (4, iv (O (23 + 10 * d))), (5, iv (dSb O d n t)), (8, iv q)] [] (upA (upA (up I 30 0 0) 40 t) 41 b2) := by
                      intro n98
                      induction n98 with
                      | zero => intro b2 q hm; omega
                      | succ n98 ih98 =>
                        intro b2 q hm98 hq0 hq1 hcp
                        refine r_iload (pc := 98) 6 rfl dX9_order_98 ?_
                        refine r_iload (pc := 100) 4 rfl dX9_order_100 ?_
                        refine r_icmp_ge (pc := 102) 125 (by unfold rg; omega) (by unfold rg; omega) dX9_order_102 (by decide) (fun h102 => ?_) (fun h102 => ?_)
                        · skip
                          refine r_lv [0, 1, 2, 3, 4, 5] [(0, rv X 30), (1, iv d), (2, iv n), (3, iv k), (4, iv (O (23 + 10 * d))), (5, iv (dSb O d n t))] rfl ?_
                          exact at125 (dSb O d n t) _ (by omega) (oJ_new (by omega) hA hI hds2.1 (by omega) (fun x y w => hcp x y (by omega)))
                        · skip
                          refine r_aload_n (pc := 105) (a := 0) (i := 0) 0 rfl rfl dX9_order_105 ?_
                          refine r_get (pc := 106) ckX9 (by decide) rfl (j := 23) (by decide) rfl kf_X9_41 dX9_order_106 ?_
                          refine r_iload (pc := 109) 6 rfl dX9_order_109 ?_
                          refine r_aload_n (pc := 111) (a := 0) (i := 0) 0 rfl rfl dX9_order_111 ?_
                          refine r_get (pc := 112) ckX9 (by decide) rfl (j := 22) (by decide) rfl kf_X9_38 dX9_order_112 ?_
                          refine r_iload (pc := 115) 6 rfl dX9_order_115 ?_
                          refine r_iald (pc := 117) (z := t q) (by decide) rfl (by omega) (by omega) (by decide) ((congrFun (upA_h (by decide)) _).trans (congrFun upA_s _)) dX9_order_117 ?_
                          refine r_iast (pc := 118) (by decide) (fun _ => rfl) (by omega) (by omega) (by decide) dX9_order_118 ?_
                          refine r_I (J := upA (upA (up I 30 0 0) 40 t) 41 (stl b2 q (t q))) (upA_u) ?_
                          refine r_iinc (pc := 119) 6 [(8, iv (q + 1)), (0, rv X 30), (1, iv d), (2, iv n), (3, iv k), (4, iv (O (23 + 10 * d))), (5, iv (dSb O d n t))] rfl (by decide) rfl dX9_order_119 ?_
                          refine r_goto (pc := 122) 98 dX9_order_122 (by decide) ?_
                          refine r_lv [1, 2, 3, 4, 5, 6, 0] [(0, rv X 30), (1, iv d), (2, iv n), (3, iv k), (4, iv (O (23 + 10 * d))), (5, iv (dSb O d n t)), (8, iv (q + 1))] rfl ?_
                          exact ih98 _ (q + 1) (by omega) (by omega) (by omega) (stl_cp hcp)
                    refine r_lv [3, 4, 5, 6, 7, 1, 0] [(0, rv X 30), (1, iv d), (2, iv n), (3, iv k), (4, iv (O (23 + 10 * d))), (5, iv (dSb O d n t)), (8, iv 0)] rfl ?_
                    exact at98 _ _ 0 (Nat.lt_succ_self _) (by omega) (by omega) (fun x a b => by omega)
          refine r_lv [3, 4, 5, 6, 2, 1, 0] [(0, rv X 30), (1, iv d), (2, iv n), (3, iv k), (4, iv (O (23 + 10 * d))), (5, iv (-1000000)), (6, iv 1)] rfl ?_
          exact at62 _ t _ (-1000000) 1 (Nat.lt_succ_self _) (by omega) (Or.inl ⟨rfl, hA0, Or.inl ⟨rfl, fun B hB => asc_min hB hA0.2.2 hAs⟩⟩)
        · skip
          refine r_ldc (pc := 47) kc_X9_90 dX9_order_47 ?_
          refine r_iret (pc := 49) (st := []) rfl dX9_order_49 ?_
          exact ⟨by unfold zOrd; rw [if_pos (by omega), if_pos (by omega)], _, _, by rw [upA_id, upA_id]⟩
      · skip
        refine r_ldc (pc := 30) kc_X9_74 dX9_order_30 ?_
        refine r_iret (pc := 32) (st := []) rfl dX9_order_32 ?_
        exact ⟨by unfold zOrd; rw [if_neg (by omega)], _, _, by rw [upA_id, upA_id]⟩
