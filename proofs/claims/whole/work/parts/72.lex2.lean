set_option maxRecDepth 100000 in
set_option maxHeartbeats 800000 in
theorem kX4_step (X : XC) {I : HD} {c : Int → Int} {L p : Int} (hT : TC I c L) (hp : I 18 4 = p) (p0 : 0 ≤ p) (pL : p ≤ L) : Cl X 1 mX4_step [rv X 18] I (fun r J => r = none ∧ fR I J ∧ J 18 2 = tkK c L (tkF c L p) ∧ J 18 3 = tkF c L p ∧ J 18 4 = tkN c L (tkF c L p) ∧ (tkK c L (tkF c L p) = 2 → J 18 5 = tkV c L (tkF c L p))) := by
  refine Cl.of (by decide) (Nat.le_of_ble_eq_true rfl) ?_
  show Rn X 1 mX4_step _ 0 [(0, rv X 18)] [] I
  have hL5 := hT.2.2.1
  have at0 : ∀ (n0 : Nat) (J : HD) (q : Int), (L - q).toNat < n0 → (hf : fR I J) → (hq : J 18 4 = q) → (hq0 : p ≤ q) → (hq1 : q ≤ L) → (hB : ∀ x, p ≤ x → x < q → isBl (c x)) → Rn X 1 mX4_step (fun r J => r = none ∧ fR I J ∧ J 18 2 = tkK c L (tkF c L p) ∧ J 18 3 = tkF c L p ∧ J 18 4 = tkN c L (tkF c L p) ∧ (tkK c L (tkF c L p) = 2 → J 18 5 = tkV c L (tkF c L p))) 0 [(0, rv X 18)] [] J := by
    intro n0
    induction n0 with
    | zero => intro J q hm; omega
    | succ n0 ih0 =>
      intro J q hm0 hf hq hq0 hq1 hB
      refine r_aload_n (pc := 0) (a := 0) (i := 0) 0 rfl rfl dX4_step_0 ?_
      have at44 : (hF : tkF c L p = q) → Rn X 1 mX4_step (fun r J => r = none ∧ fR I J ∧ J 18 2 = tkK c L (tkF c L p) ∧ J 18 3 = tkF c L p ∧ J 18 4 = tkN c L (tkF c L p) ∧ (tkK c L (tkF c L p) = 2 → J 18 5 = tkV c L (tkF c L p))) 44 [(0, rv X 18)] [] J := by
        intro hF
        refine r_aload_n (pc := 44) (a := 0) (i := 0) 0 rfl rfl dX4_step_44 ?_
        refine r_aload_n (pc := 45) (a := 0) (i := 0) 0 rfl rfl dX4_step_45 ?_
        refine r_get (pc := 46) ckX4 (by decide) rfl (j := 4) (by decide) (congrArg (fun q => some (iv q)) hq) kf_X4_32 dX4_step_46 ?_
        refine r_put (pc := 49) 3 (ji := 3) rfl ckX4 (by decide) rfl rfl (by decide) (Nat.le_of_ble_eq_true rfl) kf_X4_29 rfl rfl rfl rfl dX4_step_49 ?_
        refine r_aload_n (pc := 52) (a := 0) (i := 0) 0 rfl rfl dX4_step_52 ?_
        refine r_iconst (pc := 53) dX4_step_53 ?_
        refine r_put (pc := 54) 5 (ji := 5) rfl ckX4 (by decide) rfl rfl (by decide) (Nat.le_of_ble_eq_true rfl) kf_X4_35 rfl rfl rfl rfl dX4_step_54 ?_
        obtain ⟨J1, eJ1⟩ : ∃ zJ, zJ = up (up J 18 3 q) 18 5 0 := ⟨_, rfl⟩
        refine r_I (J := J1) eJ1.symm ?_
        have hf1 : fR I J1 := by rw [eJ1]; exact (hf.up (by decide)).up (by decide)
        have g4 : J1 18 4 = q := by rw [eJ1]; exact (up_i (by decide)).trans ((up_i (by decide)).trans hq)
        have g3 : J1 18 3 = q := by rw [eJ1]; exact (up_i (by decide)).trans up_s
        have g5 : J1 18 5 = 0 := by rw [eJ1]; exact up_s
        have hf := hf1
        refine r_aload_n (pc := 57) (a := 0) (i := 0) 0 rfl rfl dX4_step_57 ?_
        refine r_get (pc := 58) ckX4 (by decide) rfl (j := 4) (by decide) (congrArg (fun q => some (iv q)) g4) kf_X4_32 dX4_step_58 ?_
        refine r_aload_n (pc := 61) (a := 0) (i := 0) 0 rfl rfl dX4_step_61 ?_
        refine r_get (pc := 62) ckX4 (by decide) rfl (j := 0) (by decide) rfl kf_X4_12 dX4_step_62 ?_
        refine r_getN (pc := 65) ckX7 (by decide) rfl (j := 1) (by decide) (congrArg (fun q => some (iv q)) ((congrFun (hf.1 19 (by decide)) _).trans hT.1)) kf_X4_134 dX4_step_65 ?_
        refine r_icmp_lt (pc := 68) 79 (by unfold rg; omega) (by unfold rg; omega) dX4_step_68 (by decide) (fun h68 => ?_) (fun h68 => ?_)
        · skip
          have hcq := hT.2.2.2 q (by omega) (by omega)
          have hsb := sb_r ⟨(hT.2.2.2 q (by omega) (by omega)).1, (hT.2.2.2 q (by omega) (by omega)).2.1⟩
          refine r_aload_n (pc := 79) (a := 0) (i := 0) 0 rfl rfl dX4_step_79 ?_
          refine r_get (pc := 80) ckX4 (by decide) rfl (j := 0) (by decide) rfl kf_X4_12 dX4_step_80 ?_
          refine r_aload_n (pc := 83) (a := 0) (i := 0) 0 rfl rfl dX4_step_83 ?_
          refine r_get (pc := 84) ckX4 (by decide) rfl (j := 4) (by decide) (congrArg (fun q => some (iv q)) g4) kf_X4_32 dX4_step_84 ?_
          refine r_callVi (pc := 87) (st := []) (As := [iv q]) (D2 := 0) okX7_at (by decide) (by decide) rfl rfl rfl (Nat.le_of_ble_eq_true rfl) km_X4_126 (kAt X (hT.fr (hf.1 19 (by decide)) (hf.1 20 (by decide))) (by omega) (by omega)) dX4_step_87 ?_
          refine r_callSi (pc := 90) (st := []) (As := [iv (sb (c q))]) (D2 := 0) okX4_isLetter (by decide) trivial rfl (Nat.le_of_ble_eq_true rfl) km_X4_139 (kX4_isLetter X (by unfold rg; omega)) dX4_step_90 ?_
          refine r_if_eq (pc := 93) 145 rg_bI dX4_step_93 (by decide) (fun h93 => ?_) (fun h93 => ?_)
          · skip
            have h93 := bI_0.mp h93
            refine r_aload_n (pc := 145) (a := 0) (i := 0) 0 rfl rfl dX4_step_145 ?_
            refine r_get (pc := 146) ckX4 (by decide) rfl (j := 0) (by decide) rfl kf_X4_12 dX4_step_146 ?_
            refine r_aload_n (pc := 149) (a := 0) (i := 0) 0 rfl rfl dX4_step_149 ?_
            refine r_get (pc := 150) ckX4 (by decide) rfl (j := 4) (by decide) (congrArg (fun q => some (iv q)) g4) kf_X4_32 dX4_step_150 ?_
            refine r_callVi (pc := 153) (st := []) (As := [iv q]) (D2 := 0) okX7_at (by decide) (by decide) rfl rfl rfl (Nat.le_of_ble_eq_true rfl) km_X4_126 (kAt X (hT.fr (hf.1 19 (by decide)) (hf.1 20 (by decide))) (by omega) (by omega)) dX4_step_153 ?_
            refine r_callSi (pc := 156) (st := []) (As := [iv (sb (c q))]) (D2 := 0) okX4_isFigure (by decide) trivial rfl (Nat.le_of_ble_eq_true rfl) km_X4_142 (kX4_isFigure X (by unfold rg; omega)) dX4_step_156 ?_
            refine r_if_eq (pc := 159) 257 rg_bI dX4_step_159 (by decide) (fun h159 => ?_) (fun h159 => ?_)
            · skip
              have h159 := bI_0.mp h159
              refine r_aload_n (pc := 257) (a := 0) (i := 0) 0 rfl rfl dX4_step_257 ?_
              refine r_aload_n (pc := 258) (a := 0) (i := 0) 0 rfl rfl dX4_step_258 ?_
              refine r_get (pc := 259) ckX4 (by decide) rfl (j := 0) (by decide) rfl kf_X4_12 dX4_step_259 ?_
              refine r_aload_n (pc := 262) (a := 0) (i := 0) 0 rfl rfl dX4_step_262 ?_
              refine r_get (pc := 263) ckX4 (by decide) rfl (j := 4) (by decide) (congrArg (fun q => some (iv q)) g4) kf_X4_32 dX4_step_263 ?_
              refine r_callVi (pc := 266) (st := [rv X 18]) (As := [iv q]) (D2 := 0) okX7_at (by decide) (by decide) rfl rfl rfl (Nat.le_of_ble_eq_true rfl) km_X4_126 (kAt X (hT.fr (hf.1 19 (by decide)) (hf.1 20 (by decide))) (by omega) (by omega)) dX4_step_266 ?_
              refine r_bipush (pc := 269) rfl dX4_step_269 ?_
              refine r_icmp_ne (pc := 271) 278 (by unfold rg; omega) (by unfold rg; omega) dX4_step_271 (by decide) (fun h271 => ?_) (fun h271 => ?_)
              · skip
                refine r_iconst (pc := 278) dX4_step_278 ?_
                refine r_put (pc := 279) 2 (ji := 2) rfl ckX4 (by decide) rfl rfl (by decide) (Nat.le_of_ble_eq_true rfl) kf_X4_25 rfl rfl rfl rfl dX4_step_279 ?_
                refine r_aload_n (pc := 282) (a := 0) (i := 0) 0 rfl rfl dX4_step_282 ?_
                refine r_dup (pc := 283) rfl dX4_step_283 ?_
                refine r_get (pc := 284) ckX4 (by decide) rfl (j := 4) (by decide) (congrArg (fun q => some (iv q)) ((up_i (by decide)).trans g4)) kf_X4_32 dX4_step_284 ?_
                refine r_iconst (pc := 287) dX4_step_287 ?_
                refine r_iadd (pc := 288) dX4_step_288 ?_
                refine r_put (pc := 289) 4 (ji := 4) rfl ckX4 (by decide) rfl rfl (by decide) (Nat.le_of_ble_eq_true rfl) kf_X4_32 rfl rfl rfl rfl dX4_step_289 ?_
                refine r_vret (pc := 292) (st := []) rfl dX4_step_292 ?_
                rw [hF]
                obtain ⟨e1, e2⟩ := tk3 (c := c) (L := L) (f := q) (by omega) (by omega) (by omega)
                exact ⟨rfl, (hf1.up (by decide)).up (by decide), by rw [e2, up_i (by decide), up_s]; first | (rw [if_neg (by omega)]) | (rw [if_pos (by omega)]), (up_i (by decide)).trans ((up_i (by decide)).trans g3), by rw [e1]; exact up_s, fun e => by rw [e2] at e; split at e <;> omega⟩
              · skip
                refine r_iconst (pc := 274) dX4_step_274 ?_
                refine r_goto (pc := 275) 279 dX4_step_275 (by decide) ?_
                refine r_put (pc := 279) 2 (ji := 2) rfl ckX4 (by decide) rfl rfl (by decide) (Nat.le_of_ble_eq_true rfl) kf_X4_25 rfl rfl rfl rfl dX4_step_279 ?_
                refine r_aload_n (pc := 282) (a := 0) (i := 0) 0 rfl rfl dX4_step_282 ?_
                refine r_dup (pc := 283) rfl dX4_step_283 ?_
                refine r_get (pc := 284) ckX4 (by decide) rfl (j := 4) (by decide) (congrArg (fun q => some (iv q)) ((up_i (by decide)).trans g4)) kf_X4_32 dX4_step_284 ?_
                refine r_iconst (pc := 287) dX4_step_287 ?_
                refine r_iadd (pc := 288) dX4_step_288 ?_
                refine r_put (pc := 289) 4 (ji := 4) rfl ckX4 (by decide) rfl rfl (by decide) (Nat.le_of_ble_eq_true rfl) kf_X4_32 rfl rfl rfl rfl dX4_step_289 ?_
                refine r_vret (pc := 292) (st := []) rfl dX4_step_292 ?_
                rw [hF]
                obtain ⟨e1, e2⟩ := tk3 (c := c) (L := L) (f := q) (by omega) (by omega) (by omega)
                exact ⟨rfl, (hf1.up (by decide)).up (by decide), by rw [e2, up_i (by decide), up_s]; first | (rw [if_neg (by omega)]) | (rw [if_pos (by omega)]), (up_i (by decide)).trans ((up_i (by decide)).trans g3), by rw [e1]; exact up_s, fun e => by rw [e2] at e; split at e <;> omega⟩
            · skip
              have h159 := bI_n.mp h159
              have at162 : ∀ (n162 : Nat) (J3 : HD) (n : Int) (v : Int), (L - n).toNat < n162 → (hf : fR I J3) → (hn : J3 18 4 = n) → (hv : J3 18 5 = v) → (hvv : v = tvN c q (n - q).toNat) → (h3 : J3 18 3 = q) → (hn0 : q ≤ n) → (hn1 : n ≤ L) → (hA : ∀ x, q ≤ x → x < n → isFi (c x)) → Rn X 1 mX4_step (fun r J => r = none ∧ fR I J ∧ J 18 2 = tkK c L (tkF c L p) ∧ J 18 3 = tkF c L p ∧ J 18 4 = tkN c L (tkF c L p) ∧ (tkK c L (tkF c L p) = 2 → J 18 5 = tkV c L (tkF c L p))) 162 [(0, rv X 18)] [] J3 := by
                intro n162
                induction n162 with
                | zero => intro J3 n v hm; omega
                | succ n162 ih162 =>
                  intro J3 n v hm162 hf hn hv hvv h3 hn0 hn1 hA
                  refine r_aload_n (pc := 162) (a := 0) (i := 0) 0 rfl rfl dX4_step_162 ?_
                  refine r_get (pc := 163) ckX4 (by decide) rfl (j := 4) (by decide) (congrArg (fun q => some (iv q)) hn) kf_X4_32 dX4_step_163 ?_
                  refine r_aload_n (pc := 166) (a := 0) (i := 0) 0 rfl rfl dX4_step_166 ?_
                  refine r_get (pc := 167) ckX4 (by decide) rfl (j := 0) (by decide) rfl kf_X4_12 dX4_step_167 ?_
                  refine r_getN (pc := 170) ckX7 (by decide) rfl (j := 1) (by decide) (congrArg (fun q => some (iv q)) ((congrFun (hf.1 19 (by decide)) _).trans hT.1)) kf_X4_134 dX4_step_170 ?_
                  refine r_icmp_ge (pc := 173) 232 (by unfold rg; omega) (by unfold rg; omega) dX4_step_173 (by decide) (fun h173 => ?_) (fun h173 => ?_)
                  · skip
                    refine r_aload_n (pc := 232) (a := 0) (i := 0) 0 rfl rfl dX4_step_232 ?_
                    refine r_aload_n (pc := 233) (a := 0) (i := 0) 0 rfl rfl dX4_step_233 ?_
                    refine r_get (pc := 234) ckX4 (by decide) rfl (j := 4) (by decide) (congrArg (fun q => some (iv q)) hn) kf_X4_32 dX4_step_234 ?_
                    refine r_aload_n (pc := 237) (a := 0) (i := 0) 0 rfl rfl dX4_step_237 ?_
                    refine r_get (pc := 238) ckX4 (by decide) rfl (j := 3) (by decide) (congrArg (fun q => some (iv q)) h3) kf_X4_29 dX4_step_238 ?_
                    refine r_isub (pc := 241) dX4_step_241 ?_
                    refine r_iconst (pc := 242) dX4_step_242 ?_
                    refine r_icmp_gt (pc := 243) 250 (by unfold rg; omega) (by unfold rg; omega) dX4_step_243 (by decide) (fun h243 => ?_) (fun h243 => ?_)
                    · skip
                      refine r_iconst (pc := 250) dX4_step_250 ?_
                      refine r_put (pc := 251) 2 (ji := 2) rfl ckX4 (by decide) rfl rfl (by decide) (Nat.le_of_ble_eq_true rfl) kf_X4_25 rfl rfl rfl rfl dX4_step_251 ?_
                      refine r_goto (pc := 254) 292 dX4_step_254 (by decide) ?_
                      refine r_vret (pc := 292) (st := []) rfl dX4_step_292 ?_
                      rw [hF]
                      obtain ⟨e1, e2⟩ := tk2 (c := c) (L := L) (f := q) (by omega) (by omega)
                      have e3 : rnF isFi c L q = n := rn_u (by omega) hL5 hn0 hn1 hA (by first | exact Or.inl (by omega) | exact Or.inr (by omega))
                      rw [e1, e3] at e2
                      exact ⟨rfl, hf.up (by decide), by rw [e2, up_s]; first | (rw [if_neg (by omega)]) | (rw [if_pos (by omega)]), (up_i (by decide)).trans h3, by rw [e1, e3]; exact (up_i (by decide)).trans hn, fun e => by unfold tkV; rw [e1, e3, ← hvv]; exact (up_i (by decide)).trans hv⟩
                    · skip
                      refine r_iconst (pc := 246) dX4_step_246 ?_
                      refine r_goto (pc := 247) 251 dX4_step_247 (by decide) ?_
                      refine r_put (pc := 251) 2 (ji := 2) rfl ckX4 (by decide) rfl rfl (by decide) (Nat.le_of_ble_eq_true rfl) kf_X4_25 rfl rfl rfl rfl dX4_step_251 ?_
                      refine r_goto (pc := 254) 292 dX4_step_254 (by decide) ?_
                      refine r_vret (pc := 292) (st := []) rfl dX4_step_292 ?_
                      rw [hF]
                      obtain ⟨e1, e2⟩ := tk2 (c := c) (L := L) (f := q) (by omega) (by omega)
                      have e3 : rnF isFi c L q = n := rn_u (by omega) hL5 hn0 hn1 hA (by first | exact Or.inl (by omega) | exact Or.inr (by omega))
                      rw [e1, e3] at e2
                      exact ⟨rfl, hf.up (by decide), by rw [e2, up_s]; first | (rw [if_neg (by omega)]) | (rw [if_pos (by omega)]), (up_i (by decide)).trans h3, by rw [e1, e3]; exact (up_i (by decide)).trans hn, fun e => by unfold tkV; rw [e1, e3, ← hvv]; exact (up_i (by decide)).trans hv⟩
                  · skip
                    have hcn := hT.2.2.2 n (by omega) (by omega)
                    have hsb := sb_r ⟨(hT.2.2.2 n (by omega) (by omega)).1, (hT.2.2.2 n (by omega) (by omega)).2.1⟩
                    refine r_aload_n (pc := 176) (a := 0) (i := 0) 0 rfl rfl dX4_step_176 ?_
                    refine r_get (pc := 177) ckX4 (by decide) rfl (j := 0) (by decide) rfl kf_X4_12 dX4_step_177 ?_
                    refine r_aload_n (pc := 180) (a := 0) (i := 0) 0 rfl rfl dX4_step_180 ?_
                    refine r_get (pc := 181) ckX4 (by decide) rfl (j := 4) (by decide) (congrArg (fun q => some (iv q)) hn) kf_X4_32 dX4_step_181 ?_
                    refine r_callVi (pc := 184) (st := []) (As := [iv n]) (D2 := 0) okX7_at (by decide) (by decide) rfl rfl rfl (Nat.le_of_ble_eq_true rfl) km_X4_126 (kAt X (hT.fr (hf.1 19 (by decide)) (hf.1 20 (by decide))) (by omega) (by omega)) dX4_step_184 ?_
                    refine r_callSi (pc := 187) (st := []) (As := [iv (sb (c n))]) (D2 := 0) okX4_isFigure (by decide) trivial rfl (Nat.le_of_ble_eq_true rfl) km_X4_142 (kX4_isFigure X (by unfold rg; omega)) dX4_step_187 ?_
                    refine r_if_eq (pc := 190) 232 rg_bI dX4_step_190 (by decide) (fun h190 => ?_) (fun h190 => ?_)
                    · skip
                      have h190 := bI_0.mp h190
                      refine r_aload_n (pc := 232) (a := 0) (i := 0) 0 rfl rfl dX4_step_232 ?_
                      refine r_aload_n (pc := 233) (a := 0) (i := 0) 0 rfl rfl dX4_step_233 ?_
                      refine r_get (pc := 234) ckX4 (by decide) rfl (j := 4) (by decide) (congrArg (fun q => some (iv q)) hn) kf_X4_32 dX4_step_234 ?_
                      refine r_aload_n (pc := 237) (a := 0) (i := 0) 0 rfl rfl dX4_step_237 ?_
                      refine r_get (pc := 238) ckX4 (by decide) rfl (j := 3) (by decide) (congrArg (fun q => some (iv q)) h3) kf_X4_29 dX4_step_238 ?_
                      refine r_isub (pc := 241) dX4_step_241 ?_
                      refine r_iconst (pc := 242) dX4_step_242 ?_
                      refine r_icmp_gt (pc := 243) 250 (by unfold rg; omega) (by unfold rg; omega) dX4_step_243 (by decide) (fun h243 => ?_) (fun h243 => ?_)
                      · skip
                        refine r_iconst (pc := 250) dX4_step_250 ?_
                        refine r_put (pc := 251) 2 (ji := 2) rfl ckX4 (by decide) rfl rfl (by decide) (Nat.le_of_ble_eq_true rfl) kf_X4_25 rfl rfl rfl rfl dX4_step_251 ?_
                        refine r_goto (pc := 254) 292 dX4_step_254 (by decide) ?_
                        refine r_vret (pc := 292) (st := []) rfl dX4_step_292 ?_
                        rw [hF]
                        obtain ⟨e1, e2⟩ := tk2 (c := c) (L := L) (f := q) (by omega) (by omega)
                        have e3 : rnF isFi c L q = n := rn_u (by omega) hL5 hn0 hn1 hA (by first | exact Or.inl (by omega) | exact Or.inr (by omega))
                        rw [e1, e3] at e2
                        exact ⟨rfl, hf.up (by decide), by rw [e2, up_s]; first | (rw [if_neg (by omega)]) | (rw [if_pos (by omega)]), (up_i (by decide)).trans h3, by rw [e1, e3]; exact (up_i (by decide)).trans hn, fun e => by unfold tkV; rw [e1, e3, ← hvv]; exact (up_i (by decide)).trans hv⟩
                      · skip
                        refine r_iconst (pc := 246) dX4_step_246 ?_
                        refine r_goto (pc := 247) 251 dX4_step_247 (by decide) ?_
                        refine r_put (pc := 251) 2 (ji := 2) rfl ckX4 (by decide) rfl rfl (by decide) (Nat.le_of_ble_eq_true rfl) kf_X4_25 rfl rfl rfl rfl dX4_step_251 ?_
                        refine r_goto (pc := 254) 292 dX4_step_254 (by decide) ?_
                        refine r_vret (pc := 292) (st := []) rfl dX4_step_292 ?_
                        rw [hF]
                        obtain ⟨e1, e2⟩ := tk2 (c := c) (L := L) (f := q) (by omega) (by omega)
                        have e3 : rnF isFi c L q = n := rn_u (by omega) hL5 hn0 hn1 hA (by first | exact Or.inl (by omega) | exact Or.inr (by omega))
                        rw [e1, e3] at e2
                        exact ⟨rfl, hf.up (by decide), by rw [e2, up_s]; first | (rw [if_neg (by omega)]) | (rw [if_pos (by omega)]), (up_i (by decide)).trans h3, by rw [e1, e3]; exact (up_i (by decide)).trans hn, fun e => by unfold tkV; rw [e1, e3, ← hvv]; exact (up_i (by decide)).trans hv⟩
                    · skip
                      have h190 := bI_n.mp h190
                      refine r_aload_n (pc := 193) (a := 0) (i := 0) 0 rfl rfl dX4_step_193 ?_
                      refine r_aload_n (pc := 194) (a := 0) (i := 0) 0 rfl rfl dX4_step_194 ?_
                      refine r_get (pc := 195) ckX4 (by decide) rfl (j := 5) (by decide) (congrArg (fun q => some (iv q)) hv) kf_X4_35 dX4_step_195 ?_
                      refine r_bipush (pc := 198) rfl dX4_step_198 ?_
                      refine r_imul (pc := 200) dX4_step_200 ?_
                      refine r_aload_n (pc := 201) (a := 0) (i := 0) 0 rfl rfl dX4_step_201 ?_
                      refine r_get (pc := 202) ckX4 (by decide) rfl (j := 0) (by decide) rfl kf_X4_12 dX4_step_202 ?_
                      refine r_aload_n (pc := 205) (a := 0) (i := 0) 0 rfl rfl dX4_step_205 ?_
                      refine r_get (pc := 206) ckX4 (by decide) rfl (j := 4) (by decide) (congrArg (fun q => some (iv q)) hn) kf_X4_32 dX4_step_206 ?_
                      refine r_callVi (pc := 209) (st := [iv (v * 10), rv X 18]) (As := [iv n]) (D2 := 0) okX7_at (by decide) (by decide) rfl rfl rfl (Nat.le_of_ble_eq_true rfl) km_X4_126 (kAt X (hT.fr (hf.1 19 (by decide)) (hf.1 20 (by decide))) (by omega) (by omega)) dX4_step_209 ?_
                      refine r_bipush (pc := 212) rfl dX4_step_212 ?_
                      refine r_isub (pc := 214) dX4_step_214 ?_
                      refine r_iadd (pc := 215) dX4_step_215 ?_
                      refine r_put (pc := 216) 5 (ji := 5) rfl ckX4 (by decide) rfl rfl (by decide) (Nat.le_of_ble_eq_true rfl) kf_X4_35 rfl rfl rfl rfl dX4_step_216 ?_
                      refine r_aload_n (pc := 219) (a := 0) (i := 0) 0 rfl rfl dX4_step_219 ?_
                      refine r_dup (pc := 220) rfl dX4_step_220 ?_
                      refine r_get (pc := 221) ckX4 (by decide) rfl (j := 4) (by decide) (congrArg (fun q => some (iv q)) ((up_i (by decide)).trans hn)) kf_X4_32 dX4_step_221 ?_
                      refine r_iconst (pc := 224) dX4_step_224 ?_
                      refine r_iadd (pc := 225) dX4_step_225 ?_
                      refine r_put (pc := 226) 4 (ji := 4) rfl ckX4 (by decide) rfl rfl (by decide) (Nat.le_of_ble_eq_true rfl) kf_X4_32 rfl rfl rfl rfl dX4_step_226 ?_
                      refine r_goto (pc := 229) 162 dX4_step_229 (by decide) ?_
                      refine r_lv [0] [(0, rv X 18)] rfl ?_
                      exact ih162 (up (up J3 18 5 ((v * 10) + ((sb (c n)) - 48))) 18 4 (n + 1)) (n + 1) _ (by omega) ((hf.up (by decide)).up (by decide)) (up_s) ((up_i (by decide)).trans up_s) (by rw [tvN_s hn0, hvv]; omega) ((up_i (by decide)).trans ((up_i (by decide)).trans h3)) (by omega) (by omega) (fun x a b => (Classical.em (x = n)).elim (fun e => by rw [e]; omega) (fun e => hA x a (by omega)))
              refine r_lv [0] [(0, rv X 18)] rfl ?_
              exact at162 _ J1 q 0 (Nat.lt_succ_self _) (hf1) (g4) (g5) (by rw [Int.sub_self]; rfl) (g3) (by omega) (by omega) (fun x a b => by omega)
          · skip
            have h93 := bI_n.mp h93
            refine r_aload_n (pc := 96) (a := 0) (i := 0) 0 rfl rfl dX4_step_96 ?_
            refine r_iconst (pc := 97) dX4_step_97 ?_
            refine r_put (pc := 98) 2 (ji := 2) rfl ckX4 (by decide) rfl rfl (by decide) (Nat.le_of_ble_eq_true rfl) kf_X4_25 rfl rfl rfl rfl dX4_step_98 ?_
            have at101 : ∀ (n101 : Nat) (J2 : HD) (n : Int), (L - n).toNat < n101 → (hf : fR I J2) → (hn : J2 18 4 = n) → (h2 : J2 18 2 = 1) → (h3 : J2 18 3 = q) → (hn0 : q ≤ n) → (hn1 : n ≤ L) → (hA : ∀ x, q ≤ x → x < n → isLe (c x)) → Rn X 1 mX4_step (fun r J => r = none ∧ fR I J ∧ J 18 2 = tkK c L (tkF c L p) ∧ J 18 3 = tkF c L p ∧ J 18 4 = tkN c L (tkF c L p) ∧ (tkK c L (tkF c L p) = 2 → J 18 5 = tkV c L (tkF c L p))) 101 [(0, rv X 18)] [] J2 := by
              intro n101
              induction n101 with
              | zero => intro J2 n hm; omega
              | succ n101 ih101 =>
                intro J2 n hm101 hf hn h2 h3 hn0 hn1 hA
                refine r_aload_n (pc := 101) (a := 0) (i := 0) 0 rfl rfl dX4_step_101 ?_
                refine r_get (pc := 102) ckX4 (by decide) rfl (j := 4) (by decide) (congrArg (fun q => some (iv q)) hn) kf_X4_32 dX4_step_102 ?_
                refine r_aload_n (pc := 105) (a := 0) (i := 0) 0 rfl rfl dX4_step_105 ?_
                refine r_get (pc := 106) ckX4 (by decide) rfl (j := 0) (by decide) rfl kf_X4_12 dX4_step_106 ?_
                refine r_getN (pc := 109) ckX7 (by decide) rfl (j := 1) (by decide) (congrArg (fun q => some (iv q)) ((congrFun (hf.1 19 (by decide)) _).trans hT.1)) kf_X4_134 dX4_step_109 ?_
                refine r_icmp_ge (pc := 112) 292 (by unfold rg; omega) (by unfold rg; omega) dX4_step_112 (by decide) (fun h112 => ?_) (fun h112 => ?_)
                · skip
                  refine r_vret (pc := 292) (st := []) rfl dX4_step_292 ?_
                  rw [hF]
                  obtain ⟨e1, e2⟩ := tk1 (c := c) (L := L) (f := q) (by omega) (by omega)
                  have e3 : rnF isLe c L q = n := rn_u (by omega) hL5 hn0 hn1 hA (by first | exact Or.inl (by omega) | exact Or.inr (by omega))
                  exact ⟨rfl, hf, by rw [e1]; exact h2, h3, by rw [e2, e3]; exact hn, fun e => by omega⟩
                · skip
                  have hcn := hT.2.2.2 n (by omega) (by omega)
                  have hsb := sb_r ⟨(hT.2.2.2 n (by omega) (by omega)).1, (hT.2.2.2 n (by omega) (by omega)).2.1⟩
                  refine r_aload_n (pc := 115) (a := 0) (i := 0) 0 rfl rfl dX4_step_115 ?_
                  refine r_get (pc := 116) ckX4 (by decide) rfl (j := 0) (by decide) rfl kf_X4_12 dX4_step_116 ?_
                  refine r_aload_n (pc := 119) (a := 0) (i := 0) 0 rfl rfl dX4_step_119 ?_
                  refine r_get (pc := 120) ckX4 (by decide) rfl (j := 4) (by decide) (congrArg (fun q => some (iv q)) hn) kf_X4_32 dX4_step_120 ?_
                  refine r_callVi (pc := 123) (st := []) (As := [iv n]) (D2 := 0) okX7_at (by decide) (by decide) rfl rfl rfl (Nat.le_of_ble_eq_true rfl) km_X4_126 (kAt X (hT.fr (hf.1 19 (by decide)) (hf.1 20 (by decide))) (by omega) (by omega)) dX4_step_123 ?_
                  refine r_callSi (pc := 126) (st := []) (As := [iv (sb (c n))]) (D2 := 0) okX4_isLetter (by decide) trivial rfl (Nat.le_of_ble_eq_true rfl) km_X4_139 (kX4_isLetter X (by unfold rg; omega)) dX4_step_126 ?_
                  refine r_if_eq (pc := 129) 292 rg_bI dX4_step_129 (by decide) (fun h129 => ?_) (fun h129 => ?_)
                  · skip
                    have h129 := bI_0.mp h129
                    refine r_vret (pc := 292) (st := []) rfl dX4_step_292 ?_
                    rw [hF]
                    obtain ⟨e1, e2⟩ := tk1 (c := c) (L := L) (f := q) (by omega) (by omega)
                    have e3 : rnF isLe c L q = n := rn_u (by omega) hL5 hn0 hn1 hA (by first | exact Or.inl (by omega) | exact Or.inr (by omega))
                    exact ⟨rfl, hf, by rw [e1]; exact h2, h3, by rw [e2, e3]; exact hn, fun e => by omega⟩
                  · skip
                    have h129 := bI_n.mp h129
                    refine r_aload_n (pc := 132) (a := 0) (i := 0) 0 rfl rfl dX4_step_132 ?_
                    refine r_dup (pc := 133) rfl dX4_step_133 ?_
                    refine r_get (pc := 134) ckX4 (by decide) rfl (j := 4) (by decide) (congrArg (fun q => some (iv q)) hn) kf_X4_32 dX4_step_134 ?_
                    refine r_iconst (pc := 137) dX4_step_137 ?_
                    refine r_iadd (pc := 138) dX4_step_138 ?_
                    refine r_put (pc := 139) 4 (ji := 4) rfl ckX4 (by decide) rfl rfl (by decide) (Nat.le_of_ble_eq_true rfl) kf_X4_32 rfl rfl rfl rfl dX4_step_139 ?_
                    refine r_goto (pc := 142) 101 dX4_step_142 (by decide) ?_
                    refine r_lv [0] [(0, rv X 18)] rfl ?_
                    exact ih101 (up J2 18 4 (n + 1)) (n + 1) (by omega) (hf.up (by decide)) (up_s) ((up_i (by decide)).trans h2) ((up_i (by decide)).trans h3) (by omega) (by omega) (fun x a b => (Classical.em (x = n)).elim (fun e => by rw [e]; omega) (fun e => hA x a (by omega)))
            refine r_lv [0] [(0, rv X 18)] rfl ?_
            exact at101 _ (up J1 18 2 1) q (Nat.lt_succ_self _) (hf1.up (by decide)) ((up_i (by decide)).trans g4) (up_s) ((up_i (by decide)).trans g3) (by omega) (by omega) (fun x a b => by omega)
        · skip
          refine r_aload_n (pc := 71) (a := 0) (i := 0) 0 rfl rfl dX4_step_71 ?_
          refine r_iconst (pc := 72) dX4_step_72 ?_
          refine r_put (pc := 73) 2 (ji := 2) rfl ckX4 (by decide) rfl rfl (by decide) (Nat.le_of_ble_eq_true rfl) kf_X4_25 rfl rfl rfl rfl dX4_step_73 ?_
          refine r_goto (pc := 76) 292 dX4_step_76 (by decide) ?_
          refine r_vret (pc := 292) (st := []) rfl dX4_step_292 ?_
          rw [hF]
          obtain ⟨e1, e2⟩ := tk0 (c := c) (L := L) (f := q) (by omega)
          exact ⟨rfl, hf1.up (by decide), by rw [e1]; exact up_s, (up_i (by decide)).trans g3, by rw [e2]; exact (up_i (by decide)).trans g4, fun e => by omega⟩
      refine r_get (pc := 1) ckX4 (by decide) rfl (j := 4) (by decide) (congrArg (fun q => some (iv q)) hq) kf_X4_32 dX4_step_1 ?_
      refine r_aload_n (pc := 4) (a := 0) (i := 0) 0 rfl rfl dX4_step_4 ?_
      refine r_get (pc := 5) ckX4 (by decide) rfl (j := 0) (by decide) rfl kf_X4_12 dX4_step_5 ?_
      refine r_getN (pc := 8) ckX7 (by decide) rfl (j := 1) (by decide) (congrArg (fun q => some (iv q)) ((congrFun (hf.1 19 (by decide)) _).trans hT.1)) kf_X4_134 dX4_step_8 ?_
      refine r_icmp_ge (pc := 11) 44 (by unfold rg; omega) (by unfold rg; omega) dX4_step_11 (by decide) (fun h11 => ?_) (fun h11 => ?_)
      · skip
        refine r_lv [0] [(0, rv X 18)] rfl ?_
        exact at44 (rn_u p0 hL5 hq0 hq1 hB (Or.inl (by omega)))
      · skip
        have hcq := hT.2.2.2 q (by omega) (by omega)
        have hsb := sb_r ⟨(hT.2.2.2 q (by omega) (by omega)).1, (hT.2.2.2 q (by omega) (by omega)).2.1⟩
        refine r_aload_n (pc := 14) (a := 0) (i := 0) 0 rfl rfl dX4_step_14 ?_
        refine r_get (pc := 15) ckX4 (by decide) rfl (j := 0) (by decide) rfl kf_X4_12 dX4_step_15 ?_
        refine r_aload_n (pc := 18) (a := 0) (i := 0) 0 rfl rfl dX4_step_18 ?_
        refine r_get (pc := 19) ckX4 (by decide) rfl (j := 4) (by decide) (congrArg (fun q => some (iv q)) hq) kf_X4_32 dX4_step_19 ?_
        refine r_callVi (pc := 22) (st := []) (As := [iv q]) (D2 := 0) okX7_at (by decide) (by decide) rfl rfl rfl (Nat.le_of_ble_eq_true rfl) km_X4_126 (kAt X (hT.fr (hf.1 19 (by decide)) (hf.1 20 (by decide))) (by omega) (by omega)) dX4_step_22 ?_
        refine r_callSi (pc := 25) (st := []) (As := [iv (sb (c q))]) (D2 := 0) okX4_isBlank (by decide) trivial rfl (Nat.le_of_ble_eq_true rfl) km_X4_136 (kX4_isBlank X (by unfold rg; omega)) dX4_step_25 ?_
        refine r_if_eq (pc := 28) 44 rg_bI dX4_step_28 (by decide) (fun h28 => ?_) (fun h28 => ?_)
        · skip
          have h28 := bI_0.mp h28
          refine r_lv [0] [(0, rv X 18)] rfl ?_
          exact at44 (rn_u p0 hL5 hq0 hq1 hB (Or.inr (by omega)))
        · skip
          have h28 := bI_n.mp h28
          refine r_aload_n (pc := 31) (a := 0) (i := 0) 0 rfl rfl dX4_step_31 ?_
          refine r_dup (pc := 32) rfl dX4_step_32 ?_
          refine r_get (pc := 33) ckX4 (by decide) rfl (j := 4) (by decide) (congrArg (fun q => some (iv q)) hq) kf_X4_32 dX4_step_33 ?_
          refine r_iconst (pc := 36) dX4_step_36 ?_
          refine r_iadd (pc := 37) dX4_step_37 ?_
          refine r_put (pc := 38) 4 (ji := 4) rfl ckX4 (by decide) rfl rfl (by decide) (Nat.le_of_ble_eq_true rfl) kf_X4_32 rfl rfl rfl rfl dX4_step_38 ?_
          refine r_goto (pc := 41) 0 dX4_step_41 (by decide) ?_
          refine r_lv [0] [(0, rv X 18)] rfl ?_
          exact ih0 (up J 18 4 (q + 1)) (q + 1) (by omega) (hf.up (by decide)) (up_s) (by omega) (by omega) (fun x a b => (Classical.em (x = q)).elim (fun e => by rw [e]; omega) (fun e => hB x a (by omega)))
  refine r_lv [0] [(0, rv X 18)] rfl ?_
  exact at0 _ I p (Nat.lt_succ_self _) (fR.rf) (hp) (by omega) (by omega) (fun x a b => by omega)
