def TR (S : HD) (c : Int → Int) (L : Int) : Prop := S 30 13 = L ∧ 0 ≤ L ∧ L ≤ 500 ∧ ∀ k, 0 ≤ k → k < L → 0 ≤ c k ∧ c k < 256 ∧ S 37 k = c k
def byA (c : Int → Int) (L k : Int) : Int := if k < L then c k else -1000000
theorem byA_r {c : Int → Int} {L k : Int} : (k < L ∧ byA c L k = c k) ∨ (L ≤ k ∧ byA c L k = -1000000) := by
  unfold byA
  split <;> omega
theorem kBy (X : XC) {I : HD} {c : Int → Int} {L k : Int} (hT : TR I c L) (k0 : 0 ≤ k) (k1 : k < 100000) : Cl X 0 mX9_byteAt [rv X 30, iv k] I (Ki (byA c L k) I) := by
  have h := kX9_byteAt X (I := I) (k := k) hT.1 hT.2.1 hT.2.2.1 k0 k1
  have e : (if k < L then I 37 k else -1000000) = byA c L k := by
    unfold byA
    by_cases q : k < L
    · rw [if_pos q, if_pos q, (hT.2.2.2 k k0 q).2.2]
    · rw [if_neg q, if_neg q]
  rw [e] at h
  exact h
theorem TR.fr {I J : HD} {c : Int → Int} {L : Int} (h : TR I c L) (h1 : J 30 13 = I 30 13) (h2 : J 37 = I 37) : TR J c L := by
  unfold TR
  rw [h1, h2]
  exact h
def fM (I J : HD) : Prop := (∀ a, a ≠ 30 → J a = I a) ∧ ∀ j, (j < 14 ∨ 17 < j) → J 30 j = I 30 j
theorem fM.up {I J : HD} {j z : Int} (h : fM I J) (hj : 14 ≤ j ∧ j ≤ 17) : fM I (up J 30 j z) := ⟨fun a x => (up_row x).trans (h.1 a x), fun i x => (up_i (by omega)).trans (h.2 i x)⟩
theorem fM.rf {I : HD} : fM I I := ⟨fun _ _ => rfl, fun _ _ => rfl⟩
def rt (k : Int) : Int := if k = 0 then 1 else if k = 1 then 2 else if k = 2 then 3 else if k = 3 then 4 else 0
set_option maxRecDepth 100000 in
set_option maxHeartbeats 800000 in
theorem kX9_next (X : XC) {I : HD} {c : Int → Int} {L p : Int} (hT : TR I c L) (hp : I 30 14 = p) (p0 : 0 ≤ p) (pL : p ≤ L) : Cl X 1 mX9_next [rv X 30] I (fun r J => r = none ∧ fM I J ∧ J 30 15 = rt (tkK c L (tkF c L p)) ∧ J 30 16 = tkF c L p ∧ J 30 17 = tkN c L (tkF c L p) ∧ J 30 14 = tkN c L (tkF c L p)) := by
  refine Cl.of (by decide) (Nat.le_of_ble_eq_true rfl) ?_
  show Rn X 1 mX9_next _ 0 [(0, rv X 30)] [] I
  have hL5 := hT.2.2.1
  have at0 : ∀ (n0 : Nat) (J : HD) (q : Int), (L - q).toNat < n0 → (hf : fM I J) → (hq : J 30 14 = q) → (hq0 : p ≤ q) → (hq1 : q ≤ L) → (hB : ∀ x, p ≤ x → x < q → isBl (c x)) → Rn X 1 mX9_next (fun r J => r = none ∧ fM I J ∧ J 30 15 = rt (tkK c L (tkF c L p)) ∧ J 30 16 = tkF c L p ∧ J 30 17 = tkN c L (tkF c L p) ∧ J 30 14 = tkN c L (tkF c L p)) 0 [(0, rv X 30)] [] J := by
    intro n0
    induction n0 with
    | zero => intro J q hm; omega
    | succ n0 ih0 =>
      intro J q hm0 hf hq hq0 hq1 hB
      refine r_aload_n (pc := 0) (a := 0) (i := 0) 0 rfl rfl dX9_next_0 ?_
      refine r_aload_n (pc := 1) (a := 0) (i := 0) 0 rfl rfl dX9_next_1 ?_
      refine r_get (pc := 2) ckX9 (by decide) rfl (j := 14) (by decide) (congrArg (fun q => some (iv q)) hq) kf_X9_91 dX9_next_2 ?_
      have hba := byA_r (c := c) (L := L) (k := q)
      have hcq := hT.2.2.2 q
      refine r_callVi (pc := 5) (st := []) (As := [iv q]) (D2 := 0) okX9_byteAt (by decide) (by decide) rfl rfl rfl (Nat.le_of_ble_eq_true rfl) km_X9_94 (kBy X (hT.fr (hf.2 13 (by omega)) (hf.1 37 (by decide))) (by omega) (by omega)) dX9_next_5 ?_
      refine r_bipush (pc := 8) rfl dX9_next_8 ?_
      refine r_icmp_eq (pc := 10) 26 (by unfold rg; omega) (by unfold rg; omega) dX9_next_10 (by decide) (fun h10 => ?_) (fun h10 => ?_)
      · skip
        refine r_aload_n (pc := 26) (a := 0) (i := 0) 0 rfl rfl dX9_next_26 ?_
        refine r_dup (pc := 27) rfl dX9_next_27 ?_
        refine r_get (pc := 28) ckX9 (by decide) rfl (j := 14) (by decide) (congrArg (fun q => some (iv q)) hq) kf_X9_91 dX9_next_28 ?_
        refine r_iconst (pc := 31) dX9_next_31 ?_
        refine r_iadd (pc := 32) dX9_next_32 ?_
        refine r_put (pc := 33) 14 (ji := 14) rfl ckX9 (by decide) rfl rfl (by decide) (Nat.le_of_ble_eq_true rfl) kf_X9_91 rfl rfl rfl rfl dX9_next_33 ?_
        refine r_goto (pc := 36) 0 dX9_next_36 (by decide) ?_
        refine r_lv [0] [(0, rv X 30)] rfl ?_
        exact ih0 (up J 30 14 (q + 1)) (q + 1) (by omega) (hf.up (by decide)) (up_s) (by omega) (by omega) (fun x a b => (Classical.em (x = q)).elim (fun e => by rw [e]; omega) (fun e => hB x a (by omega)))
      · skip
        refine r_aload_n (pc := 13) (a := 0) (i := 0) 0 rfl rfl dX9_next_13 ?_
        refine r_aload_n (pc := 14) (a := 0) (i := 0) 0 rfl rfl dX9_next_14 ?_
        refine r_get (pc := 15) ckX9 (by decide) rfl (j := 14) (by decide) (congrArg (fun q => some (iv q)) hq) kf_X9_91 dX9_next_15 ?_
        refine r_callVi (pc := 18) (st := []) (As := [iv q]) (D2 := 0) okX9_byteAt (by decide) (by decide) rfl rfl rfl (Nat.le_of_ble_eq_true rfl) km_X9_94 (kBy X (hT.fr (hf.2 13 (by omega)) (hf.1 37 (by decide))) (by omega) (by omega)) dX9_next_18 ?_
        refine r_bipush (pc := 21) rfl dX9_next_21 ?_
        refine r_icmp_ne (pc := 23) 39 (by unfold rg; omega) (by unfold rg; omega) dX9_next_23 (by decide) (fun h23 => ?_) (fun h23 => ?_)
        · skip
          have hF : tkF c L p = q := rn_u p0 hL5 hq0 hq1 hB (by by_cases e : q = L; (exact Or.inl e); (exact Or.inr (by omega)))
          refine r_aload_n (pc := 39) (a := 0) (i := 0) 0 rfl rfl dX9_next_39 ?_
          refine r_aload_n (pc := 40) (a := 0) (i := 0) 0 rfl rfl dX9_next_40 ?_
          refine r_get (pc := 41) ckX9 (by decide) rfl (j := 14) (by decide) (congrArg (fun q => some (iv q)) hq) kf_X9_91 dX9_next_41 ?_
          refine r_put (pc := 44) 16 (ji := 16) rfl ckX9 (by decide) rfl rfl (by decide) (Nat.le_of_ble_eq_true rfl) kf_X9_97 rfl rfl rfl rfl dX9_next_44 ?_
          obtain ⟨J1, eJ1⟩ : ∃ zJ, zJ = up J 30 16 q := ⟨_, rfl⟩
          refine r_I (J := J1) eJ1.symm ?_
          have hf1 : fM I J1 := by rw [eJ1]; exact hf.up (by decide)
          have g4 : J1 30 14 = q := by rw [eJ1]; exact (up_i (by decide)).trans hq
          have g3 : J1 30 16 = q := by rw [eJ1]; exact up_s
          have hf := hf1
          refine r_aload_n (pc := 47) (a := 0) (i := 0) 0 rfl rfl dX9_next_47 ?_
          refine r_aload_n (pc := 48) (a := 0) (i := 0) 0 rfl rfl dX9_next_48 ?_
          refine r_get (pc := 49) ckX9 (by decide) rfl (j := 14) (by decide) (congrArg (fun q => some (iv q)) g4) kf_X9_91 dX9_next_49 ?_
          refine r_callVi (pc := 52) (st := []) (As := [iv q]) (D2 := 0) okX9_byteAt (by decide) (by decide) rfl rfl rfl (Nat.le_of_ble_eq_true rfl) km_X9_94 (kBy X (hT.fr (hf.2 13 (by omega)) (hf.1 37 (by decide))) (by omega) (by omega)) dX9_next_52 ?_
          refine r_istore_n (pc := 55) (a := 1) (i := 1) rfl [(1, iv (byA c L q)), (0, rv X 30)] (by decide) rfl dX9_next_55 ?_
          refine r_iload_n (pc := 56) (a := 1) (i := 1) 0 rfl rfl dX9_next_56 ?_
          refine r_ldc (pc := 57) kc_X9_90 dX9_next_57 ?_
          refine r_icmp_ne (pc := 59) 70 (by unfold rg; omega) (by unfold rg; omega) dX9_next_59 (by decide) (fun h59 => ?_) (fun h59 => ?_)
          · skip
            refine r_iload_n (pc := 70) (a := 1) (i := 1) 0 rfl rfl dX9_next_70 ?_
            refine r_callSi (pc := 71) (st := []) (As := [iv (byA c L q)]) (D2 := 0) okX9_isLetter (by decide) trivial rfl (Nat.le_of_ble_eq_true rfl) km_X9_103 (kX9_isLetter X (by unfold rg; omega)) dX9_next_71 ?_
            refine r_if_eq (pc := 74) 112 rg_bI dX9_next_74 (by decide) (fun h74 => ?_) (fun h74 => ?_)
            · skip
              have h74 := bI_0.mp h74
              refine r_iload_n (pc := 112) (a := 1) (i := 1) 0 rfl rfl dX9_next_112 ?_
              refine r_callSi (pc := 113) (st := []) (As := [iv (byA c L q)]) (D2 := 0) okX9_isFigure (by decide) trivial rfl (Nat.le_of_ble_eq_true rfl) km_X9_106 (kX9_isFigure X (by unfold rg; omega)) dX9_next_113 ?_
              refine r_if_eq (pc := 116) 171 rg_bI dX9_next_116 (by decide) (fun h116 => ?_) (fun h116 => ?_)
              · skip
                have h116 := bI_0.mp h116
                refine r_aload_n (pc := 171) (a := 0) (i := 0) 1 rfl rfl dX9_next_171 ?_
                refine r_dup (pc := 172) rfl dX9_next_172 ?_
                refine r_get (pc := 173) ckX9 (by decide) rfl (j := 14) (by decide) (congrArg (fun q => some (iv q)) g4) kf_X9_91 dX9_next_173 ?_
                refine r_iconst (pc := 176) dX9_next_176 ?_
                refine r_iadd (pc := 177) dX9_next_177 ?_
                refine r_put (pc := 178) 14 (ji := 14) rfl ckX9 (by decide) rfl rfl (by decide) (Nat.le_of_ble_eq_true rfl) kf_X9_91 rfl rfl rfl rfl dX9_next_178 ?_
                refine r_aload_n (pc := 181) (a := 0) (i := 0) 1 rfl rfl dX9_next_181 ?_
                refine r_iload_n (pc := 182) (a := 1) (i := 1) 0 rfl rfl dX9_next_182 ?_
                refine r_bipush (pc := 183) rfl dX9_next_183 ?_
                refine r_icmp_ne (pc := 185) 192 (by unfold rg; omega) (by unfold rg; omega) dX9_next_185 (by decide) (fun h185 => ?_) (fun h185 => ?_)
                · skip
                  refine r_iconst (pc := 192) dX9_next_192 ?_
                  refine r_put (pc := 193) 15 (ji := 15) rfl ckX9 (by decide) rfl rfl (by decide) (Nat.le_of_ble_eq_true rfl) kf_X9_100 rfl rfl rfl rfl dX9_next_193 ?_
                  refine r_aload_n (pc := 196) (a := 0) (i := 0) 1 rfl rfl dX9_next_196 ?_
                  refine r_aload_n (pc := 197) (a := 0) (i := 0) 1 rfl rfl dX9_next_197 ?_
                  refine r_get (pc := 198) ckX9 (by decide) rfl (j := 14) (by decide) (congrArg (fun q => some (iv q)) ((up_i (by decide)).trans up_s)) kf_X9_91 dX9_next_198 ?_
                  refine r_put (pc := 201) 17 (ji := 17) rfl ckX9 (by decide) rfl rfl (by decide) (Nat.le_of_ble_eq_true rfl) kf_X9_109 rfl rfl rfl rfl dX9_next_201 ?_
                  refine r_vret (pc := 204) (st := []) rfl dX9_next_204 ?_
                  obtain ⟨e1, e2⟩ := tk3 (c := c) (L := L) (f := q) (by omega) (by omega) (by omega)
                  rw [hF]
                  exact ⟨rfl, ((hf1.up (by decide)).up (by decide)).up (by decide), by rw [e2]; first | (rw [if_neg (by omega)]; exact (up_i (by decide)).trans up_s) | (rw [if_pos (by omega)]; exact (up_i (by decide)).trans up_s), (up_i (by decide)).trans ((up_i (by decide)).trans ((up_i (by decide)).trans g3)), by rw [e1]; exact up_s, by rw [e1]; exact (up_i (by decide)).trans ((up_i (by decide)).trans up_s)⟩
                · skip
                  refine r_iconst (pc := 188) dX9_next_188 ?_
                  refine r_goto (pc := 189) 193 dX9_next_189 (by decide) ?_
                  refine r_put (pc := 193) 15 (ji := 15) rfl ckX9 (by decide) rfl rfl (by decide) (Nat.le_of_ble_eq_true rfl) kf_X9_100 rfl rfl rfl rfl dX9_next_193 ?_
                  refine r_aload_n (pc := 196) (a := 0) (i := 0) 1 rfl rfl dX9_next_196 ?_
                  refine r_aload_n (pc := 197) (a := 0) (i := 0) 1 rfl rfl dX9_next_197 ?_
                  refine r_get (pc := 198) ckX9 (by decide) rfl (j := 14) (by decide) (congrArg (fun q => some (iv q)) ((up_i (by decide)).trans up_s)) kf_X9_91 dX9_next_198 ?_
                  refine r_put (pc := 201) 17 (ji := 17) rfl ckX9 (by decide) rfl rfl (by decide) (Nat.le_of_ble_eq_true rfl) kf_X9_109 rfl rfl rfl rfl dX9_next_201 ?_
                  refine r_vret (pc := 204) (st := []) rfl dX9_next_204 ?_
                  obtain ⟨e1, e2⟩ := tk3 (c := c) (L := L) (f := q) (by omega) (by omega) (by omega)
                  rw [hF]
                  exact ⟨rfl, ((hf1.up (by decide)).up (by decide)).up (by decide), by rw [e2]; first | (rw [if_neg (by omega)]; exact (up_i (by decide)).trans up_s) | (rw [if_pos (by omega)]; exact (up_i (by decide)).trans up_s), (up_i (by decide)).trans ((up_i (by decide)).trans ((up_i (by decide)).trans g3)), by rw [e1]; exact up_s, by rw [e1]; exact (up_i (by decide)).trans ((up_i (by decide)).trans up_s)⟩
              · skip
                have h116 := bI_n.mp h116
                have at119 : ∀ (n119 : Nat) (J3 : HD) (n : Int), (L - n).toNat < n119 → (hf : fM I J3) → (hn : J3 30 14 = n) → (h3 : J3 30 16 = q) → (hn0 : q ≤ n) → (hn1 : n ≤ L) → (hA : ∀ x, q ≤ x → x < n → isFi (c x)) → Rn X 1 mX9_next (fun r J => r = none ∧ fM I J ∧ J 30 15 = rt (tkK c L (tkF c L p)) ∧ J 30 16 = tkF c L p ∧ J 30 17 = tkN c L (tkF c L p) ∧ J 30 14 = tkN c L (tkF c L p)) 119 [(0, rv X 30)] [] J3 := by
                  intro n119
                  induction n119 with
                  | zero => intro J3 n hm; omega
                  | succ n119 ih119 =>
                    intro J3 n hm119 hf hn h3 hn0 hn1 hA
                    refine r_aload_n (pc := 119) (a := 0) (i := 0) 0 rfl rfl dX9_next_119 ?_
                    refine r_aload_n (pc := 120) (a := 0) (i := 0) 0 rfl rfl dX9_next_120 ?_
                    refine r_get (pc := 121) ckX9 (by decide) rfl (j := 14) (by decide) (congrArg (fun q => some (iv q)) hn) kf_X9_91 dX9_next_121 ?_
                    have hba := byA_r (c := c) (L := L) (k := n)
                    have hcn := hT.2.2.2 n
                    refine r_callVi (pc := 124) (st := []) (As := [iv n]) (D2 := 0) okX9_byteAt (by decide) (by decide) rfl rfl rfl (Nat.le_of_ble_eq_true rfl) km_X9_94 (kBy X (hT.fr (hf.2 13 (by omega)) (hf.1 37 (by decide))) (by omega) (by omega)) dX9_next_124 ?_
                    refine r_callSi (pc := 127) (st := []) (As := [iv (byA c L n)]) (D2 := 0) okX9_isFigure (by decide) trivial rfl (Nat.le_of_ble_eq_true rfl) km_X9_106 (kX9_isFigure X (by unfold rg; omega)) dX9_next_127 ?_
                    refine r_if_eq (pc := 130) 146 rg_bI dX9_next_130 (by decide) (fun h130 => ?_) (fun h130 => ?_)
                    · skip
                      have h130 := bI_0.mp h130
                      refine r_aload_n (pc := 146) (a := 0) (i := 0) 0 rfl rfl dX9_next_146 ?_
                      refine r_aload_n (pc := 147) (a := 0) (i := 0) 0 rfl rfl dX9_next_147 ?_
                      refine r_get (pc := 148) ckX9 (by decide) rfl (j := 14) (by decide) (congrArg (fun q => some (iv q)) hn) kf_X9_91 dX9_next_148 ?_
                      refine r_aload_n (pc := 151) (a := 0) (i := 0) 0 rfl rfl dX9_next_151 ?_
                      refine r_get (pc := 152) ckX9 (by decide) rfl (j := 16) (by decide) (congrArg (fun q => some (iv q)) h3) kf_X9_97 dX9_next_152 ?_
                      refine r_isub (pc := 155) dX9_next_155 ?_
                      refine r_iconst (pc := 156) dX9_next_156 ?_
                      refine r_icmp_le (pc := 157) 164 (by unfold rg; omega) (by unfold rg; omega) dX9_next_157 (by decide) (fun h157 => ?_) (fun h157 => ?_)
                      · skip
                        refine r_iconst (pc := 164) dX9_next_164 ?_
                        refine r_put (pc := 165) 15 (ji := 15) rfl ckX9 (by decide) rfl rfl (by decide) (Nat.le_of_ble_eq_true rfl) kf_X9_100 rfl rfl rfl rfl dX9_next_165 ?_
                        refine r_goto (pc := 168) 196 dX9_next_168 (by decide) ?_
                        refine r_aload_n (pc := 196) (a := 0) (i := 0) 0 rfl rfl dX9_next_196 ?_
                        refine r_aload_n (pc := 197) (a := 0) (i := 0) 0 rfl rfl dX9_next_197 ?_
                        refine r_get (pc := 198) ckX9 (by decide) rfl (j := 14) (by decide) (congrArg (fun q => some (iv q)) ((up_i (by decide)).trans hn)) kf_X9_91 dX9_next_198 ?_
                        refine r_put (pc := 201) 17 (ji := 17) rfl ckX9 (by decide) rfl rfl (by decide) (Nat.le_of_ble_eq_true rfl) kf_X9_109 rfl rfl rfl rfl dX9_next_201 ?_
                        refine r_vret (pc := 204) (st := []) rfl dX9_next_204 ?_
                        obtain ⟨e1, e2⟩ := tk2 (c := c) (L := L) (f := q) (by omega) (by omega)
                        have e3 : rnF isFi c L q = n := rn_u (by omega) hL5 hn0 hn1 hA (by by_cases e : n = L; (exact Or.inl e); (exact Or.inr (by omega)))
                        rw [e1, e3] at e2
                        rw [hF]
                        exact ⟨rfl, (hf.up (by decide)).up (by decide), by rw [e2]; first | (rw [if_neg (by omega)]; exact (up_i (by decide)).trans up_s) | (rw [if_pos (by omega)]; exact (up_i (by decide)).trans up_s), (up_i (by decide)).trans ((up_i (by decide)).trans h3), by rw [e1, e3]; exact up_s, by rw [e1, e3]; exact (up_i (by decide)).trans ((up_i (by decide)).trans hn)⟩
                      · skip
                        refine r_iconst (pc := 160) dX9_next_160 ?_
                        refine r_goto (pc := 161) 165 dX9_next_161 (by decide) ?_
                        refine r_put (pc := 165) 15 (ji := 15) rfl ckX9 (by decide) rfl rfl (by decide) (Nat.le_of_ble_eq_true rfl) kf_X9_100 rfl rfl rfl rfl dX9_next_165 ?_
                        refine r_goto (pc := 168) 196 dX9_next_168 (by decide) ?_
                        refine r_aload_n (pc := 196) (a := 0) (i := 0) 0 rfl rfl dX9_next_196 ?_
                        refine r_aload_n (pc := 197) (a := 0) (i := 0) 0 rfl rfl dX9_next_197 ?_
                        refine r_get (pc := 198) ckX9 (by decide) rfl (j := 14) (by decide) (congrArg (fun q => some (iv q)) ((up_i (by decide)).trans hn)) kf_X9_91 dX9_next_198 ?_
                        refine r_put (pc := 201) 17 (ji := 17) rfl ckX9 (by decide) rfl rfl (by decide) (Nat.le_of_ble_eq_true rfl) kf_X9_109 rfl rfl rfl rfl dX9_next_201 ?_
                        refine r_vret (pc := 204) (st := []) rfl dX9_next_204 ?_
                        obtain ⟨e1, e2⟩ := tk2 (c := c) (L := L) (f := q) (by omega) (by omega)
                        have e3 : rnF isFi c L q = n := rn_u (by omega) hL5 hn0 hn1 hA (by by_cases e : n = L; (exact Or.inl e); (exact Or.inr (by omega)))
                        rw [e1, e3] at e2
                        rw [hF]
                        exact ⟨rfl, (hf.up (by decide)).up (by decide), by rw [e2]; first | (rw [if_neg (by omega)]; exact (up_i (by decide)).trans up_s) | (rw [if_pos (by omega)]; exact (up_i (by decide)).trans up_s), (up_i (by decide)).trans ((up_i (by decide)).trans h3), by rw [e1, e3]; exact up_s, by rw [e1, e3]; exact (up_i (by decide)).trans ((up_i (by decide)).trans hn)⟩
                    · skip
                      have h130 := bI_n.mp h130
                      refine r_aload_n (pc := 133) (a := 0) (i := 0) 0 rfl rfl dX9_next_133 ?_
                      refine r_dup (pc := 134) rfl dX9_next_134 ?_
                      refine r_get (pc := 135) ckX9 (by decide) rfl (j := 14) (by decide) (congrArg (fun q => some (iv q)) hn) kf_X9_91 dX9_next_135 ?_
                      refine r_iconst (pc := 138) dX9_next_138 ?_
                      refine r_iadd (pc := 139) dX9_next_139 ?_
                      refine r_put (pc := 140) 14 (ji := 14) rfl ckX9 (by decide) rfl rfl (by decide) (Nat.le_of_ble_eq_true rfl) kf_X9_91 rfl rfl rfl rfl dX9_next_140 ?_
                      refine r_goto (pc := 143) 119 dX9_next_143 (by decide) ?_
                      refine r_lv [0] [(0, rv X 30)] rfl ?_
                      exact ih119 (up J3 30 14 (n + 1)) (n + 1) (by omega) (hf.up (by decide)) (up_s) ((up_i (by decide)).trans h3) (by omega) (by omega) (fun x a b => (Classical.em (x = n)).elim (fun e => by rw [e]; omega) (fun e => hA x a (by omega)))
                refine r_lv [1] [(0, rv X 30)] rfl ?_
                exact at119 _ J1 q (Nat.lt_succ_self _) (hf1) (g4) (g3) (by omega) (by omega) (fun x a b => by omega)
            · skip
              have h74 := bI_n.mp h74
              have at77 : ∀ (n77 : Nat) (J2 : HD) (n : Int), (L - n).toNat < n77 → (hf : fM I J2) → (hn : J2 30 14 = n) → (h3 : J2 30 16 = q) → (hn0 : q ≤ n) → (hn1 : n ≤ L) → (hA : ∀ x, q ≤ x → x < n → isLe (c x)) → Rn X 1 mX9_next (fun r J => r = none ∧ fM I J ∧ J 30 15 = rt (tkK c L (tkF c L p)) ∧ J 30 16 = tkF c L p ∧ J 30 17 = tkN c L (tkF c L p) ∧ J 30 14 = tkN c L (tkF c L p)) 77 [(0, rv X 30)] [] J2 := by
                intro n77
                induction n77 with
                | zero => intro J2 n hm; omega
                | succ n77 ih77 =>
                  intro J2 n hm77 hf hn h3 hn0 hn1 hA
                  refine r_aload_n (pc := 77) (a := 0) (i := 0) 0 rfl rfl dX9_next_77 ?_
                  refine r_aload_n (pc := 78) (a := 0) (i := 0) 0 rfl rfl dX9_next_78 ?_
                  refine r_get (pc := 79) ckX9 (by decide) rfl (j := 14) (by decide) (congrArg (fun q => some (iv q)) hn) kf_X9_91 dX9_next_79 ?_
                  have hba := byA_r (c := c) (L := L) (k := n)
                  have hcn := hT.2.2.2 n
                  refine r_callVi (pc := 82) (st := []) (As := [iv n]) (D2 := 0) okX9_byteAt (by decide) (by decide) rfl rfl rfl (Nat.le_of_ble_eq_true rfl) km_X9_94 (kBy X (hT.fr (hf.2 13 (by omega)) (hf.1 37 (by decide))) (by omega) (by omega)) dX9_next_82 ?_
                  refine r_callSi (pc := 85) (st := []) (As := [iv (byA c L n)]) (D2 := 0) okX9_isLetter (by decide) trivial rfl (Nat.le_of_ble_eq_true rfl) km_X9_103 (kX9_isLetter X (by unfold rg; omega)) dX9_next_85 ?_
                  refine r_if_eq (pc := 88) 104 rg_bI dX9_next_88 (by decide) (fun h88 => ?_) (fun h88 => ?_)
                  · skip
                    have h88 := bI_0.mp h88
                    refine r_aload_n (pc := 104) (a := 0) (i := 0) 0 rfl rfl dX9_next_104 ?_
                    refine r_iconst (pc := 105) dX9_next_105 ?_
                    refine r_put (pc := 106) 15 (ji := 15) rfl ckX9 (by decide) rfl rfl (by decide) (Nat.le_of_ble_eq_true rfl) kf_X9_100 rfl rfl rfl rfl dX9_next_106 ?_
                    refine r_goto (pc := 109) 196 dX9_next_109 (by decide) ?_
                    refine r_aload_n (pc := 196) (a := 0) (i := 0) 0 rfl rfl dX9_next_196 ?_
                    refine r_aload_n (pc := 197) (a := 0) (i := 0) 0 rfl rfl dX9_next_197 ?_
                    refine r_get (pc := 198) ckX9 (by decide) rfl (j := 14) (by decide) (congrArg (fun q => some (iv q)) ((up_i (by decide)).trans hn)) kf_X9_91 dX9_next_198 ?_
                    refine r_put (pc := 201) 17 (ji := 17) rfl ckX9 (by decide) rfl rfl (by decide) (Nat.le_of_ble_eq_true rfl) kf_X9_109 rfl rfl rfl rfl dX9_next_201 ?_
                    refine r_vret (pc := 204) (st := []) rfl dX9_next_204 ?_
                    obtain ⟨e1, e2⟩ := tk1 (c := c) (L := L) (f := q) (by omega) (by omega)
                    have e3 : rnF isLe c L q = n := rn_u (by omega) hL5 hn0 hn1 hA (by by_cases e : n = L; (exact Or.inl e); (exact Or.inr (by omega)))
                    rw [hF]
                    exact ⟨rfl, (hf.up (by decide)).up (by decide), by rw [e1]; exact (up_i (by decide)).trans up_s, (up_i (by decide)).trans ((up_i (by decide)).trans h3), by rw [e2, e3]; exact up_s, by rw [e2, e3]; exact (up_i (by decide)).trans ((up_i (by decide)).trans hn)⟩
                  · skip
                    have h88 := bI_n.mp h88
                    refine r_aload_n (pc := 91) (a := 0) (i := 0) 0 rfl rfl dX9_next_91 ?_
                    refine r_dup (pc := 92) rfl dX9_next_92 ?_
                    refine r_get (pc := 93) ckX9 (by decide) rfl (j := 14) (by decide) (congrArg (fun q => some (iv q)) hn) kf_X9_91 dX9_next_93 ?_
                    refine r_iconst (pc := 96) dX9_next_96 ?_
                    refine r_iadd (pc := 97) dX9_next_97 ?_
                    refine r_put (pc := 98) 14 (ji := 14) rfl ckX9 (by decide) rfl rfl (by decide) (Nat.le_of_ble_eq_true rfl) kf_X9_91 rfl rfl rfl rfl dX9_next_98 ?_
                    refine r_goto (pc := 101) 77 dX9_next_101 (by decide) ?_
                    refine r_lv [0] [(0, rv X 30)] rfl ?_
                    exact ih77 (up J2 30 14 (n + 1)) (n + 1) (by omega) (hf.up (by decide)) (up_s) ((up_i (by decide)).trans h3) (by omega) (by omega) (fun x a b => (Classical.em (x = n)).elim (fun e => by rw [e]; omega) (fun e => hA x a (by omega)))
              refine r_lv [1] [(0, rv X 30)] rfl ?_
              exact at77 _ J1 q (Nat.lt_succ_self _) (hf1) (g4) (g3) (by omega) (by omega) (fun x a b => by omega)
          · skip
            refine r_aload_n (pc := 62) (a := 0) (i := 0) 1 rfl rfl dX9_next_62 ?_
            refine r_iconst (pc := 63) dX9_next_63 ?_
            refine r_put (pc := 64) 15 (ji := 15) rfl ckX9 (by decide) rfl rfl (by decide) (Nat.le_of_ble_eq_true rfl) kf_X9_100 rfl rfl rfl rfl dX9_next_64 ?_
            refine r_goto (pc := 67) 196 dX9_next_67 (by decide) ?_
            refine r_aload_n (pc := 196) (a := 0) (i := 0) 1 rfl rfl dX9_next_196 ?_
            refine r_aload_n (pc := 197) (a := 0) (i := 0) 1 rfl rfl dX9_next_197 ?_
            refine r_get (pc := 198) ckX9 (by decide) rfl (j := 14) (by decide) (congrArg (fun q => some (iv q)) ((up_i (by decide)).trans g4)) kf_X9_91 dX9_next_198 ?_
            refine r_put (pc := 201) 17 (ji := 17) rfl ckX9 (by decide) rfl rfl (by decide) (Nat.le_of_ble_eq_true rfl) kf_X9_109 rfl rfl rfl rfl dX9_next_201 ?_
            refine r_vret (pc := 204) (st := []) rfl dX9_next_204 ?_
            obtain ⟨e1, e2⟩ := tk0 (c := c) (L := L) (f := q) (by omega)
            rw [hF]
            exact ⟨rfl, (hf1.up (by decide)).up (by decide), by rw [e1]; exact (up_i (by decide)).trans up_s, (up_i (by decide)).trans ((up_i (by decide)).trans g3), by rw [e2]; exact up_s, by rw [e2]; exact (up_i (by decide)).trans ((up_i (by decide)).trans g4)⟩
        · skip
          refine r_aload_n (pc := 26) (a := 0) (i := 0) 0 rfl rfl dX9_next_26 ?_
          refine r_dup (pc := 27) rfl dX9_next_27 ?_
          refine r_get (pc := 28) ckX9 (by decide) rfl (j := 14) (by decide) (congrArg (fun q => some (iv q)) hq) kf_X9_91 dX9_next_28 ?_
          refine r_iconst (pc := 31) dX9_next_31 ?_
          refine r_iadd (pc := 32) dX9_next_32 ?_
          refine r_put (pc := 33) 14 (ji := 14) rfl ckX9 (by decide) rfl rfl (by decide) (Nat.le_of_ble_eq_true rfl) kf_X9_91 rfl rfl rfl rfl dX9_next_33 ?_
          refine r_goto (pc := 36) 0 dX9_next_36 (by decide) ?_
          refine r_lv [0] [(0, rv X 30)] rfl ?_
          exact ih0 (up J 30 14 (q + 1)) (q + 1) (by omega) (hf.up (by decide)) (up_s) (by omega) (by omega) (fun x a b => (Classical.em (x = q)).elim (fun e => by rw [e]; omega) (fun e => hB x a (by omega)))
  refine r_lv [0] [(0, rv X 30)] rfl ?_
  exact at0 _ I p (Nat.lt_succ_self _) (fM.rf) (hp) (by omega) (by omega) (fun x a b => by omega)
