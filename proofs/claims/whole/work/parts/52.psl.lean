/-! ===== asks: the trace as a list of what was left ===== -/
def psL : HD → Nat → Nat → Int → Int → List Int → HD
  | I, _, _, _, _, [] => I
  | I, a, c, j, t, b :: bs => psL (up (up I a t b) c j (t + 1)) a c j (t + 1) bs
theorem psL_row {a c x : Nat} {j : Int} (h1 : x ≠ a) (h2 : x ≠ c) : ∀ {bs : List Int} {I : HD} {t : Int}, psL I a c j t bs x = I x
  | [], _, _ => rfl
  | b :: bs, I, t => by
    show psL (up (up I a t b) c j (t + 1)) a c j (t + 1) bs x = I x
    rw [psL_row h1 h2, up_row h2, up_row h1]
theorem psL_c {a c : Nat} {j z : Int} (hac : a ≠ c) : ∀ {bs : List Int} {I : HD} {t : Int}, I c j = t → t + (bs.length : Int) = z → psL I a c j t bs c j = z
  | [], I, t, ht, hz => by
    show I c j = z
    rw [ht, ← hz]
    simp
  | b :: bs, I, t, _, hz => by
    show psL (up (up I a t b) c j (t + 1)) a c j (t + 1) bs c j = z
    exact psL_c hac up_s (by rw [← hz, List.length_cons]; omega)
theorem psL_f {a c : Nat} {j i : Int} (hac : c ≠ a) (hi : i ≠ j) : ∀ {bs : List Int} {I : HD} {t : Int}, psL I a c j t bs c i = I c i
  | [], _, _ => rfl
  | b :: bs, I, t => by
    show psL (up (up I a t b) c j (t + 1)) a c j (t + 1) bs c i = I c i
    rw [psL_f hac hi, up_i hi, up_row hac]
theorem psL_lo {a c : Nat} {j i : Int} (hac : a ≠ c) : ∀ {bs : List Int} {I : HD} {t : Int}, i < t → psL I a c j t bs a i = I a i
  | [], _, _, _ => rfl
  | b :: bs, I, t, h => by
    show psL (up (up I a t b) c j (t + 1)) a c j (t + 1) bs a i = I a i
    rw [psL_lo hac (by omega), up_row hac, up_i (by omega)]
theorem psL_v {a c : Nat} {j : Int} (hac : a ≠ c) : ∀ {bs : List Int} {I : HD} {t : Int} {k : Nat}, k < bs.length → psL I a c j t bs a (t + k) = bs.getD k 0
  | [], _, _, _, h => by simp at h
  | b :: bs, I, t, 0, h => by
    show psL (up (up I a t b) c j (t + 1)) a c j (t + 1) bs a (t + ((0 : Nat) : Int)) = b
    rw [psL_lo hac (by omega), up_row hac, show t + ((0 : Nat) : Int) = t by omega, up_s]
  | b :: bs, I, t, k + 1, h => by
    show psL (up (up I a t b) c j (t + 1)) a c j (t + 1) bs a (t + ((k + 1 : Nat) : Int)) = bs.getD k 0
    rw [show t + ((k + 1 : Nat) : Int) = t + 1 + (k : Int) by omega]
    exact psL_v hac (by simpa using h)
theorem RepC.psL {O : OF} {I : HD} {t : Int} {bs : List Int} (h : RepC O I 0) : RepC O (psL I 29 28 1 t bs) 0 := h.fr (fun a x y => psL_row (by have : oH 0 = 45 := rfl; omega) (by have : oH 0 = 45 := rfl; omega))
set_option maxRecDepth 100000 in
set_option maxHeartbeats 4000000 in
theorem kg10 (X : XC) {I : HD} {O : OF} {p t w : Int} (hR : RepC O I 0) (hV : Val O) (hp0 : 0 ≤ p) (hp1 : p < O 1) (ht : I 28 1 = t) (t0 : 0 ≤ t) (t1 : t + 1 ≤ 16) (w0 : 0 ≤ w) (w1 : w < 18) : Cl X 1 mX1_gives [rv X 28, rv X (oH 0), iv 10, iv p, iv w] I (Ki (O (64 + 4 * p)) (psL I 29 28 1 t [10])) := by
  refine Cl.of (by decide) (Nat.le_of_ble_eq_true rfl) ?_
  show Rn X 1 mX1_gives _ 0 [(0, rv X 28), (1, rv X (oH 0)), (2, iv 10), (3, iv p), (4, iv w)] [] I
  have q0 := hV.a
  have qp := hV.p hp0 hp1
  refine r_iload (pc := 0) 4 rfl dX1_gives_0 ?_
  refine r_bipush (pc := 2) rfl dX1_gives_2 ?_
  refine r_icmp_le (pc := 4) 9 (by unfold rg; omega) (by unfold rg; omega) dX1_gives_4 (by decide) (fun h4 => ?_) (fun h4 => ?_)
  · skip
    refine r_aload_n (pc := 9) (a := 0) (i := 0) 0 rfl rfl dX1_gives_9 ?_
    refine r_iload_n (pc := 10) (a := 2) (i := 2) 2 rfl rfl dX1_gives_10 ?_
    refine r_callVv (pc := 11) (st := []) (As := [iv 10]) okX1_leave (by decide) (by decide) rfl rfl rfl (Nat.le_of_ble_eq_true rfl) km_X1_43 (kX1_leave X ht t0 (by omega)) dX1_gives_11 ?_
    refine r_I (J := psL I 29 28 1 t [10]) rfl ?_
    refine r_iload (pc := 14) 4 rfl dX1_gives_14 ?_
    refine r_iconst (pc := 16) dX1_gives_16 ?_
    refine r_iadd (pc := 17) dX1_gives_17 ?_
    refine r_istore (pc := 18) [(5, iv (w + 1)), (0, rv X 28), (1, rv X (oH 0)), (2, iv 10), (3, iv p), (4, iv w)] (by decide) rfl dX1_gives_18 ?_
    refine r_iload_n (pc := 20) (a := 2) (i := 2) 3 rfl rfl dX1_gives_20 ?_
    refine r_tsIn (pc := 21) (c := 10) 96 rfl (by unfold rg; omega) (by omega) (by omega) (off := 75) rfl dX1_gives_21 (by decide) ?_
    refine r_aload_n (pc := 96) (a := 1) (i := 1) 2 rfl rfl dX1_gives_96 ?_
    refine r_getN (pc := 97) ckX3 (oH_lt (show 0 < 28 by decide)) (cellO (show 0 < 28 by decide)) (j := 6) (by decide) rfl kf_X1_47 dX1_gives_97 ?_
    refine r_iload_n (pc := 100) (a := 3) (i := 3) 4 rfl rfl dX1_gives_100 ?_
    refine r_iald (pc := 101) (z := O (64 + 4 * p)) (oH_lt7 (show 0 < 28 by decide)) ((cellO7 (show 0 < 28 by decide)) _) (by omega) (by omega) (by decide) (hR.psL.wrth hp0 hp1) dX1_gives_101 ?_
    refine r_iret (pc := 102) (st := []) rfl dX1_gives_102 ?_
    exact ⟨congrArg (fun q => some (iv q)) (by omega), rfl⟩
  · exact absurd h4 (by omega)

set_option maxRecDepth 100000 in
set_option maxHeartbeats 4000000 in
theorem kg20 (X : XC) {I : HD} {O : OF} {p t w : Int} (hR : RepC O I 0) (hV : Val O) (hp0 : 0 ≤ p) (hp1 : p < O 1) (ht : I 28 1 = t) (t0 : 0 ≤ t) (t1 : t + 1 ≤ 16) (w0 : 0 ≤ w) (w1 : w < 18) : Cl X 1 mX1_gives [rv X 28, rv X (oH 0), iv 20, iv p, iv w] I (Ki (p) (psL I 29 28 1 t [20])) := by
  refine Cl.of (by decide) (Nat.le_of_ble_eq_true rfl) ?_
  show Rn X 1 mX1_gives _ 0 [(0, rv X 28), (1, rv X (oH 0)), (2, iv 20), (3, iv p), (4, iv w)] [] I
  have q0 := hV.a
  have qp := hV.p hp0 hp1
  refine r_iload (pc := 0) 4 rfl dX1_gives_0 ?_
  refine r_bipush (pc := 2) rfl dX1_gives_2 ?_
  refine r_icmp_le (pc := 4) 9 (by unfold rg; omega) (by unfold rg; omega) dX1_gives_4 (by decide) (fun h4 => ?_) (fun h4 => ?_)
  · skip
    refine r_aload_n (pc := 9) (a := 0) (i := 0) 0 rfl rfl dX1_gives_9 ?_
    refine r_iload_n (pc := 10) (a := 2) (i := 2) 2 rfl rfl dX1_gives_10 ?_
    refine r_callVv (pc := 11) (st := []) (As := [iv 20]) okX1_leave (by decide) (by decide) rfl rfl rfl (Nat.le_of_ble_eq_true rfl) km_X1_43 (kX1_leave X ht t0 (by omega)) dX1_gives_11 ?_
    refine r_I (J := psL I 29 28 1 t [20]) rfl ?_
    refine r_iload (pc := 14) 4 rfl dX1_gives_14 ?_
    refine r_iconst (pc := 16) dX1_gives_16 ?_
    refine r_iadd (pc := 17) dX1_gives_17 ?_
    refine r_istore (pc := 18) [(5, iv (w + 1)), (0, rv X 28), (1, rv X (oH 0)), (2, iv 20), (3, iv p), (4, iv w)] (by decide) rfl dX1_gives_18 ?_
    refine r_iload_n (pc := 20) (a := 2) (i := 2) 3 rfl rfl dX1_gives_20 ?_
    refine r_tsIn (pc := 21) (c := 20) 168 rfl (by unfold rg; omega) (by omega) (by omega) (off := 147) rfl dX1_gives_21 (by decide) ?_
    refine r_iload_n (pc := 168) (a := 3) (i := 3) 4 rfl rfl dX1_gives_168 ?_
    refine r_iret (pc := 169) (st := []) rfl dX1_gives_169 ?_
    exact ⟨congrArg (fun q => some (iv q)) (by omega), rfl⟩
  · exact absurd h4 (by omega)

set_option maxRecDepth 100000 in
set_option maxHeartbeats 4000000 in
theorem kg13 (X : XC) {I : HD} {O : OF} {p t w : Int} (hR : RepC O I 0) (hV : Val O) (hp0 : 0 ≤ p) (hp1 : p < O 1) (ht : I 28 1 = t) (t0 : 0 ≤ t) (t1 : t + 2 ≤ 16) (w0 : 0 ≤ w) (w1 : w < 17) : Cl X 2 mX1_gives [rv X 28, rv X (oH 0), iv 13, iv p, iv w] I (Ki (O (64 + 4 * p) - 100) (psL I 29 28 1 t [13, 10])) := by
  refine Cl.of (by decide) (Nat.le_of_ble_eq_true rfl) ?_
  show Rn X 2 mX1_gives _ 0 [(0, rv X 28), (1, rv X (oH 0)), (2, iv 13), (3, iv p), (4, iv w)] [] I
  have q0 := hV.a
  have qp := hV.p hp0 hp1
  refine r_iload (pc := 0) 4 rfl dX1_gives_0 ?_
  refine r_bipush (pc := 2) rfl dX1_gives_2 ?_
  refine r_icmp_le (pc := 4) 9 (by unfold rg; omega) (by unfold rg; omega) dX1_gives_4 (by decide) (fun h4 => ?_) (fun h4 => ?_)
  · skip
    refine r_aload_n (pc := 9) (a := 0) (i := 0) 0 rfl rfl dX1_gives_9 ?_
    refine r_iload_n (pc := 10) (a := 2) (i := 2) 2 rfl rfl dX1_gives_10 ?_
    refine r_callVv (pc := 11) (st := []) (As := [iv 13]) okX1_leave (by decide) (by decide) rfl rfl rfl (Nat.le_of_ble_eq_true rfl) km_X1_43 (kX1_leave X ht t0 (by omega)) dX1_gives_11 ?_
    refine r_I (J := psL I 29 28 1 t [13]) rfl ?_
    refine r_iload (pc := 14) 4 rfl dX1_gives_14 ?_
    refine r_iconst (pc := 16) dX1_gives_16 ?_
    refine r_iadd (pc := 17) dX1_gives_17 ?_
    refine r_istore (pc := 18) [(5, iv (w + 1)), (0, rv X 28), (1, rv X (oH 0)), (2, iv 13), (3, iv p), (4, iv w)] (by decide) rfl dX1_gives_18 ?_
    refine r_iload_n (pc := 20) (a := 2) (i := 2) 3 rfl rfl dX1_gives_20 ?_
    refine r_tsIn (pc := 21) (c := 13) 141 rfl (by unfold rg; omega) (by omega) (by omega) (off := 120) rfl dX1_gives_21 (by decide) ?_
    refine r_aload_n (pc := 141) (a := 0) (i := 0) 1 rfl rfl dX1_gives_141 ?_
    refine r_aload_n (pc := 142) (a := 1) (i := 1) 2 rfl rfl dX1_gives_142 ?_
    refine r_bipush (pc := 143) rfl dX1_gives_143 ?_
    refine r_iload_n (pc := 145) (a := 3) (i := 3) 4 rfl rfl dX1_gives_145 ?_
    refine r_iload (pc := 146) 0 rfl dX1_gives_146 ?_
    refine r_callSi (pc := 148) (st := []) (As := [rv X 28, rv X (oH 0), iv 10, iv p, iv (w + 1)]) okX1_gives (by decide) trivial rfl (Nat.le_of_ble_eq_true rfl) km_X1_28 (kg10 X (t := t + 1) hR.psL hV hp0 hp1 (psL_c (bs := [13]) (by decide) ht (by simp only [List.length_cons, List.length_nil]; omega)) (by omega) (by omega) (by omega) (by omega)) dX1_gives_148 ?_
    refine r_I (J := psL I 29 28 1 t [13, 10]) rfl ?_
    refine r_bipush (pc := 151) rfl dX1_gives_151 ?_
    refine r_isub (pc := 153) dX1_gives_153 ?_
    refine r_iret (pc := 154) (st := []) rfl dX1_gives_154 ?_
    exact ⟨congrArg (fun q => some (iv q)) (by omega), rfl⟩
  · exact absurd h4 (by omega)

set_option maxRecDepth 100000 in
set_option maxHeartbeats 4000000 in
theorem kg21 (X : XC) {I : HD} {O : OF} {p t w : Int} (hR : RepC O I 0) (hV : Val O) (hp0 : 0 ≤ p) (hp1 : p < O 1) (ht : I 28 1 = t) (t0 : 0 ≤ t) (t1 : t + 2 ≤ 16) (w0 : 0 ≤ w) (w1 : w < 17) : Cl X 2 mX1_gives [rv X 28, rv X (oH 0), iv 21, iv p, iv w] I (Ki (p + O (65 + 4 * p)) (psL I 29 28 1 t [21, 20])) := by
  refine Cl.of (by decide) (Nat.le_of_ble_eq_true rfl) ?_
  show Rn X 2 mX1_gives _ 0 [(0, rv X 28), (1, rv X (oH 0)), (2, iv 21), (3, iv p), (4, iv w)] [] I
  have q0 := hV.a
  have qp := hV.p hp0 hp1
  refine r_iload (pc := 0) 4 rfl dX1_gives_0 ?_
  refine r_bipush (pc := 2) rfl dX1_gives_2 ?_
  refine r_icmp_le (pc := 4) 9 (by unfold rg; omega) (by unfold rg; omega) dX1_gives_4 (by decide) (fun h4 => ?_) (fun h4 => ?_)
  · skip
    refine r_aload_n (pc := 9) (a := 0) (i := 0) 0 rfl rfl dX1_gives_9 ?_
    refine r_iload_n (pc := 10) (a := 2) (i := 2) 2 rfl rfl dX1_gives_10 ?_
    refine r_callVv (pc := 11) (st := []) (As := [iv 21]) okX1_leave (by decide) (by decide) rfl rfl rfl (Nat.le_of_ble_eq_true rfl) km_X1_43 (kX1_leave X ht t0 (by omega)) dX1_gives_11 ?_
    refine r_I (J := psL I 29 28 1 t [21]) rfl ?_
    refine r_iload (pc := 14) 4 rfl dX1_gives_14 ?_
    refine r_iconst (pc := 16) dX1_gives_16 ?_
    refine r_iadd (pc := 17) dX1_gives_17 ?_
    refine r_istore (pc := 18) [(5, iv (w + 1)), (0, rv X 28), (1, rv X (oH 0)), (2, iv 21), (3, iv p), (4, iv w)] (by decide) rfl dX1_gives_18 ?_
    refine r_iload_n (pc := 20) (a := 2) (i := 2) 3 rfl rfl dX1_gives_20 ?_
    refine r_tsIn (pc := 21) (c := 21) 170 rfl (by unfold rg; omega) (by omega) (by omega) (off := 149) rfl dX1_gives_21 (by decide) ?_
    refine r_aload_n (pc := 170) (a := 0) (i := 0) 1 rfl rfl dX1_gives_170 ?_
    refine r_aload_n (pc := 171) (a := 1) (i := 1) 2 rfl rfl dX1_gives_171 ?_
    refine r_bipush (pc := 172) rfl dX1_gives_172 ?_
    refine r_iload_n (pc := 174) (a := 3) (i := 3) 4 rfl rfl dX1_gives_174 ?_
    refine r_iload (pc := 175) 0 rfl dX1_gives_175 ?_
    refine r_callSi (pc := 177) (st := []) (As := [rv X 28, rv X (oH 0), iv 20, iv p, iv (w + 1)]) okX1_gives (by decide) trivial rfl (Nat.le_of_ble_eq_true rfl) km_X1_28 (kg20 X (t := t + 1) hR.psL hV hp0 hp1 (psL_c (bs := [21]) (by decide) ht (by simp only [List.length_cons, List.length_nil]; omega)) (by omega) (by omega) (by omega) (by omega)) dX1_gives_177 ?_
    refine r_I (J := psL I 29 28 1 t [21, 20]) rfl ?_
    refine r_aload_n (pc := 180) (a := 1) (i := 1) 2 rfl rfl dX1_gives_180 ?_
    refine r_getN (pc := 181) ckX3 (oH_lt (show 0 < 28 by decide)) (cellO (show 0 < 28 by decide)) (j := 7) (by decide) rfl kf_X1_50 dX1_gives_181 ?_
    refine r_iload_n (pc := 184) (a := 3) (i := 3) 4 rfl rfl dX1_gives_184 ?_
    refine r_iald (pc := 185) (z := O (65 + 4 * p)) (oH_lt8 (show 0 < 28 by decide)) ((cellO8 (show 0 < 28 by decide)) _) (by omega) (by omega) (by decide) (hR.psL.need hp0 hp1) dX1_gives_185 ?_
    refine r_iadd (pc := 186) dX1_gives_186 ?_
    refine r_iret (pc := 187) (st := []) rfl dX1_gives_187 ?_
    exact ⟨congrArg (fun q => some (iv q)) (by omega), rfl⟩
  · exact absurd h4 (by omega)

set_option maxRecDepth 100000 in
set_option maxHeartbeats 4000000 in
theorem kg22 (X : XC) {I : HD} {O : OF} {p t w : Int} (hR : RepC O I 0) (hV : Val O) (hp0 : 0 ≤ p) (hp1 : p < O 1) (ht : I 28 1 = t) (t0 : 0 ≤ t) (t1 : t + 3 ≤ 16) (w0 : 0 ≤ w) (w1 : w < 16) : Cl X 3 mX1_gives [rv X 28, rv X (oH 0), iv 22, iv p, iv w] I (Ki (p + O (65 + 4 * p) - 1000) (psL I 29 28 1 t [22, 21, 20])) := by
  refine Cl.of (by decide) (Nat.le_of_ble_eq_true rfl) ?_
  show Rn X 3 mX1_gives _ 0 [(0, rv X 28), (1, rv X (oH 0)), (2, iv 22), (3, iv p), (4, iv w)] [] I
  have q0 := hV.a
  have qp := hV.p hp0 hp1
  refine r_iload (pc := 0) 4 rfl dX1_gives_0 ?_
  refine r_bipush (pc := 2) rfl dX1_gives_2 ?_
  refine r_icmp_le (pc := 4) 9 (by unfold rg; omega) (by unfold rg; omega) dX1_gives_4 (by decide) (fun h4 => ?_) (fun h4 => ?_)
  · skip
    refine r_aload_n (pc := 9) (a := 0) (i := 0) 0 rfl rfl dX1_gives_9 ?_
    refine r_iload_n (pc := 10) (a := 2) (i := 2) 2 rfl rfl dX1_gives_10 ?_
    refine r_callVv (pc := 11) (st := []) (As := [iv 22]) okX1_leave (by decide) (by decide) rfl rfl rfl (Nat.le_of_ble_eq_true rfl) km_X1_43 (kX1_leave X ht t0 (by omega)) dX1_gives_11 ?_
    refine r_I (J := psL I 29 28 1 t [22]) rfl ?_
    refine r_iload (pc := 14) 4 rfl dX1_gives_14 ?_
    refine r_iconst (pc := 16) dX1_gives_16 ?_
    refine r_iadd (pc := 17) dX1_gives_17 ?_
    refine r_istore (pc := 18) [(5, iv (w + 1)), (0, rv X 28), (1, rv X (oH 0)), (2, iv 22), (3, iv p), (4, iv w)] (by decide) rfl dX1_gives_18 ?_
    refine r_iload_n (pc := 20) (a := 2) (i := 2) 3 rfl rfl dX1_gives_20 ?_
    refine r_tsIn (pc := 21) (c := 22) 188 rfl (by unfold rg; omega) (by omega) (by omega) (off := 167) rfl dX1_gives_21 (by decide) ?_
    refine r_aload_n (pc := 188) (a := 0) (i := 0) 1 rfl rfl dX1_gives_188 ?_
    refine r_aload_n (pc := 189) (a := 1) (i := 1) 2 rfl rfl dX1_gives_189 ?_
    refine r_bipush (pc := 190) rfl dX1_gives_190 ?_
    refine r_iload_n (pc := 192) (a := 3) (i := 3) 4 rfl rfl dX1_gives_192 ?_
    refine r_iload (pc := 193) 0 rfl dX1_gives_193 ?_
    refine r_callSi (pc := 195) (st := []) (As := [rv X 28, rv X (oH 0), iv 21, iv p, iv (w + 1)]) okX1_gives (by decide) trivial rfl (Nat.le_of_ble_eq_true rfl) km_X1_28 (kg21 X (t := t + 1) hR.psL hV hp0 hp1 (psL_c (bs := [22]) (by decide) ht (by simp only [List.length_cons, List.length_nil]; omega)) (by omega) (by omega) (by omega) (by omega)) dX1_gives_195 ?_
    refine r_I (J := psL I 29 28 1 t [22, 21, 20]) rfl ?_
    refine r_sipush (pc := 198) rfl dX1_gives_198 ?_
    refine r_isub (pc := 201) dX1_gives_201 ?_
    refine r_iret (pc := 202) (st := []) rfl dX1_gives_202 ?_
    exact ⟨congrArg (fun q => some (iv q)) (by omega), rfl⟩
  · exact absurd h4 (by omega)

set_option maxRecDepth 100000 in
set_option maxHeartbeats 4000000 in
theorem kg24 (X : XC) {I : HD} {O : OF} {p t w : Int} (hR : RepC O I 0) (hV : Val O) (hp0 : 0 ≤ p) (hp1 : p < O 1) (ht : I 28 1 = t) (t0 : 0 ≤ t) (t1 : t + 4 ≤ 16) (w0 : 0 ≤ w) (w1 : w < 15) : Cl X 4 mX1_gives [rv X 28, rv X (oH 0), iv 24, iv p, iv w] I (Ki (2 * (p + O (65 + 4 * p) - 1000)) (psL I 29 28 1 t [24, 22, 21, 20])) := by
  refine Cl.of (by decide) (Nat.le_of_ble_eq_true rfl) ?_
  show Rn X 4 mX1_gives _ 0 [(0, rv X 28), (1, rv X (oH 0)), (2, iv 24), (3, iv p), (4, iv w)] [] I
  have q0 := hV.a
  have qp := hV.p hp0 hp1
  refine r_iload (pc := 0) 4 rfl dX1_gives_0 ?_
  refine r_bipush (pc := 2) rfl dX1_gives_2 ?_
  refine r_icmp_le (pc := 4) 9 (by unfold rg; omega) (by unfold rg; omega) dX1_gives_4 (by decide) (fun h4 => ?_) (fun h4 => ?_)
  · skip
    refine r_aload_n (pc := 9) (a := 0) (i := 0) 0 rfl rfl dX1_gives_9 ?_
    refine r_iload_n (pc := 10) (a := 2) (i := 2) 2 rfl rfl dX1_gives_10 ?_
    refine r_callVv (pc := 11) (st := []) (As := [iv 24]) okX1_leave (by decide) (by decide) rfl rfl rfl (Nat.le_of_ble_eq_true rfl) km_X1_43 (kX1_leave X ht t0 (by omega)) dX1_gives_11 ?_
    refine r_I (J := psL I 29 28 1 t [24]) rfl ?_
    refine r_iload (pc := 14) 4 rfl dX1_gives_14 ?_
    refine r_iconst (pc := 16) dX1_gives_16 ?_
    refine r_iadd (pc := 17) dX1_gives_17 ?_
    refine r_istore (pc := 18) [(5, iv (w + 1)), (0, rv X 28), (1, rv X (oH 0)), (2, iv 24), (3, iv p), (4, iv w)] (by decide) rfl dX1_gives_18 ?_
    refine r_iload_n (pc := 20) (a := 2) (i := 2) 3 rfl rfl dX1_gives_20 ?_
    refine r_tsIn (pc := 21) (c := 24) 229 rfl (by unfold rg; omega) (by omega) (by omega) (off := 208) rfl dX1_gives_21 (by decide) ?_
    refine r_iconst (pc := 229) dX1_gives_229 ?_
    refine r_aload_n (pc := 230) (a := 0) (i := 0) 1 rfl rfl dX1_gives_230 ?_
    refine r_aload_n (pc := 231) (a := 1) (i := 1) 2 rfl rfl dX1_gives_231 ?_
    refine r_bipush (pc := 232) rfl dX1_gives_232 ?_
    refine r_iload_n (pc := 234) (a := 3) (i := 3) 4 rfl rfl dX1_gives_234 ?_
    refine r_iload (pc := 235) 0 rfl dX1_gives_235 ?_
    refine r_callSi (pc := 237) (st := [iv 2]) (As := [rv X 28, rv X (oH 0), iv 22, iv p, iv (w + 1)]) okX1_gives (by decide) trivial rfl (Nat.le_of_ble_eq_true rfl) km_X1_28 (kg22 X (t := t + 1) hR.psL hV hp0 hp1 (psL_c (bs := [24]) (by decide) ht (by simp only [List.length_cons, List.length_nil]; omega)) (by omega) (by omega) (by omega) (by omega)) dX1_gives_237 ?_
    refine r_I (J := psL I 29 28 1 t [24, 22, 21, 20]) rfl ?_
    refine r_imul (pc := 240) dX1_gives_240 ?_
    refine r_iret (pc := 241) (st := []) rfl dX1_gives_241 ?_
    exact ⟨congrArg (fun q => some (iv q)) (by omega), rfl⟩
  · exact absurd h4 (by omega)

set_option maxRecDepth 100000 in
set_option maxHeartbeats 4000000 in
theorem kg11a (X : XC) {I : HD} {O : OF} {p t w : Int} (hR : RepC O I 0) (hV : Val O) (hp0 : 0 ≤ p) (hp1 : p < O 1) (ht : I 28 1 = t) (t0 : 0 ≤ t) (t1 : t + 4 ≤ 16) (w0 : 0 ≤ w) (w1 : w < 14) (hm : roT 2 (O (63 + 4 * p)).toNat = 21) : Cl X 5 mX1_gives [rv X 28, rv X (oH 0), iv 11, iv p, iv w] I (Ki (O (64 + 4 * p) + (p + O (65 + 4 * p))) (psL I 29 28 1 t [11, 10, 21, 20])) := by
  refine Cl.of (by decide) (Nat.le_of_ble_eq_true rfl) ?_
  show Rn X 5 mX1_gives _ 0 [(0, rv X 28), (1, rv X (oH 0)), (2, iv 11), (3, iv p), (4, iv w)] [] I
  have q0 := hV.a
  have qp := hV.p hp0 hp1
  refine r_iload (pc := 0) 4 rfl dX1_gives_0 ?_
  refine r_bipush (pc := 2) rfl dX1_gives_2 ?_
  refine r_icmp_le (pc := 4) 9 (by unfold rg; omega) (by unfold rg; omega) dX1_gives_4 (by decide) (fun h4 => ?_) (fun h4 => ?_)
  · skip
    refine r_aload_n (pc := 9) (a := 0) (i := 0) 0 rfl rfl dX1_gives_9 ?_
    refine r_iload_n (pc := 10) (a := 2) (i := 2) 2 rfl rfl dX1_gives_10 ?_
    refine r_callVv (pc := 11) (st := []) (As := [iv 11]) okX1_leave (by decide) (by decide) rfl rfl rfl (Nat.le_of_ble_eq_true rfl) km_X1_43 (kX1_leave X ht t0 (by omega)) dX1_gives_11 ?_
    refine r_I (J := psL I 29 28 1 t [11]) rfl ?_
    refine r_iload (pc := 14) 4 rfl dX1_gives_14 ?_
    refine r_iconst (pc := 16) dX1_gives_16 ?_
    refine r_iadd (pc := 17) dX1_gives_17 ?_
    refine r_istore (pc := 18) [(5, iv (w + 1)), (0, rv X 28), (1, rv X (oH 0)), (2, iv 11), (3, iv p), (4, iv w)] (by decide) rfl dX1_gives_18 ?_
    refine r_iload_n (pc := 20) (a := 2) (i := 2) 3 rfl rfl dX1_gives_20 ?_
    refine r_tsIn (pc := 21) (c := 11) 103 rfl (by unfold rg; omega) (by omega) (by omega) (off := 82) rfl dX1_gives_21 (by decide) ?_
    refine r_aload_n (pc := 103) (a := 0) (i := 0) 1 rfl rfl dX1_gives_103 ?_
    refine r_aload_n (pc := 104) (a := 1) (i := 1) 2 rfl rfl dX1_gives_104 ?_
    refine r_bipush (pc := 105) rfl dX1_gives_105 ?_
    refine r_iload_n (pc := 107) (a := 3) (i := 3) 4 rfl rfl dX1_gives_107 ?_
    refine r_iload (pc := 108) 0 rfl dX1_gives_108 ?_
    refine r_callSi (pc := 110) (st := []) (As := [rv X 28, rv X (oH 0), iv 10, iv p, iv (w + 1)]) okX1_gives (by decide) trivial rfl (Nat.le_of_ble_eq_true rfl) km_X1_28 (kg10 X (t := t + 1) hR.psL hV hp0 hp1 (psL_c (bs := [11]) (by decide) ht (by simp only [List.length_cons, List.length_nil]; omega)) (by omega) (by omega) (by omega) (by omega)) dX1_gives_110 ?_
    refine r_I (J := psL I 29 28 1 t [11, 10]) rfl ?_
    refine r_aload_n (pc := 113) (a := 0) (i := 0) 1 rfl rfl dX1_gives_113 ?_
    refine r_aload_n (pc := 114) (a := 1) (i := 1) 2 rfl rfl dX1_gives_114 ?_
    refine r_aload_n (pc := 115) (a := 1) (i := 1) 2 rfl rfl dX1_gives_115 ?_
    refine r_iload_n (pc := 116) (a := 3) (i := 3) 4 rfl rfl dX1_gives_116 ?_
    refine r_iconst (pc := 117) dX1_gives_117 ?_
    refine r_callSi (pc := 118) (st := [rv X (oH 0), rv X 28, iv (O (64 + 4 * p))]) (As := [rv X (oH 0), iv p, iv 1]) (D2 := 1) okX1_bodyFor (by decide) trivial rfl (Nat.le_of_ble_eq_true rfl) km_X1_24 ((by have := kX1_bodyFor X (w := 1) (show 0 < 28 by decide) (hR.psL (t := t) (bs := [11, 10])) hV hp0 hp1 (by unfold rg; omega); rw [if_neg (by decide), hm] at this; exact this)) dX1_gives_118 ?_
    refine r_iload_n (pc := 121) (a := 3) (i := 3) 4 rfl rfl dX1_gives_121 ?_
    refine r_iload (pc := 122) 0 rfl dX1_gives_122 ?_
    refine r_callSi (pc := 124) (st := [iv (O (64 + 4 * p))]) (As := [rv X 28, rv X (oH 0), iv 21, iv p, iv (w + 1)]) okX1_gives (by decide) trivial rfl (Nat.le_of_ble_eq_true rfl) km_X1_28 (kg21 X (t := t + 1 + 1) hR.psL hV hp0 hp1 (psL_c (bs := [11, 10]) (by decide) ht (by simp only [List.length_cons, List.length_nil]; omega)) (by omega) (by omega) (by omega) (by omega)) dX1_gives_124 ?_
    refine r_I (J := psL I 29 28 1 t [11, 10, 21, 20]) rfl ?_
    refine r_iadd (pc := 127) dX1_gives_127 ?_
    refine r_iret (pc := 128) (st := []) rfl dX1_gives_128 ?_
    exact ⟨congrArg (fun q => some (iv q)) (by omega), rfl⟩
  · exact absurd h4 (by omega)

set_option maxRecDepth 100000 in
set_option maxHeartbeats 4000000 in
theorem kg11b (X : XC) {I : HD} {O : OF} {p t w : Int} (hR : RepC O I 0) (hV : Val O) (hp0 : 0 ≤ p) (hp1 : p < O 1) (ht : I 28 1 = t) (t0 : 0 ≤ t) (t1 : t + 5 ≤ 16) (w0 : 0 ≤ w) (w1 : w < 14) (hm : roT 2 (O (63 + 4 * p)).toNat = 22) : Cl X 5 mX1_gives [rv X 28, rv X (oH 0), iv 11, iv p, iv w] I (Ki (O (64 + 4 * p) + (p + O (65 + 4 * p) - 1000)) (psL I 29 28 1 t [11, 10, 22, 21, 20])) := by
  refine Cl.of (by decide) (Nat.le_of_ble_eq_true rfl) ?_
  show Rn X 5 mX1_gives _ 0 [(0, rv X 28), (1, rv X (oH 0)), (2, iv 11), (3, iv p), (4, iv w)] [] I
  have q0 := hV.a
  have qp := hV.p hp0 hp1
  refine r_iload (pc := 0) 4 rfl dX1_gives_0 ?_
  refine r_bipush (pc := 2) rfl dX1_gives_2 ?_
  refine r_icmp_le (pc := 4) 9 (by unfold rg; omega) (by unfold rg; omega) dX1_gives_4 (by decide) (fun h4 => ?_) (fun h4 => ?_)
  · skip
    refine r_aload_n (pc := 9) (a := 0) (i := 0) 0 rfl rfl dX1_gives_9 ?_
    refine r_iload_n (pc := 10) (a := 2) (i := 2) 2 rfl rfl dX1_gives_10 ?_
    refine r_callVv (pc := 11) (st := []) (As := [iv 11]) okX1_leave (by decide) (by decide) rfl rfl rfl (Nat.le_of_ble_eq_true rfl) km_X1_43 (kX1_leave X ht t0 (by omega)) dX1_gives_11 ?_
    refine r_I (J := psL I 29 28 1 t [11]) rfl ?_
    refine r_iload (pc := 14) 4 rfl dX1_gives_14 ?_
    refine r_iconst (pc := 16) dX1_gives_16 ?_
    refine r_iadd (pc := 17) dX1_gives_17 ?_
    refine r_istore (pc := 18) [(5, iv (w + 1)), (0, rv X 28), (1, rv X (oH 0)), (2, iv 11), (3, iv p), (4, iv w)] (by decide) rfl dX1_gives_18 ?_
    refine r_iload_n (pc := 20) (a := 2) (i := 2) 3 rfl rfl dX1_gives_20 ?_
    refine r_tsIn (pc := 21) (c := 11) 103 rfl (by unfold rg; omega) (by omega) (by omega) (off := 82) rfl dX1_gives_21 (by decide) ?_
    refine r_aload_n (pc := 103) (a := 0) (i := 0) 1 rfl rfl dX1_gives_103 ?_
    refine r_aload_n (pc := 104) (a := 1) (i := 1) 2 rfl rfl dX1_gives_104 ?_
    refine r_bipush (pc := 105) rfl dX1_gives_105 ?_
    refine r_iload_n (pc := 107) (a := 3) (i := 3) 4 rfl rfl dX1_gives_107 ?_
    refine r_iload (pc := 108) 0 rfl dX1_gives_108 ?_
    refine r_callSi (pc := 110) (st := []) (As := [rv X 28, rv X (oH 0), iv 10, iv p, iv (w + 1)]) okX1_gives (by decide) trivial rfl (Nat.le_of_ble_eq_true rfl) km_X1_28 (kg10 X (t := t + 1) hR.psL hV hp0 hp1 (psL_c (bs := [11]) (by decide) ht (by simp only [List.length_cons, List.length_nil]; omega)) (by omega) (by omega) (by omega) (by omega)) dX1_gives_110 ?_
    refine r_I (J := psL I 29 28 1 t [11, 10]) rfl ?_
    refine r_aload_n (pc := 113) (a := 0) (i := 0) 1 rfl rfl dX1_gives_113 ?_
    refine r_aload_n (pc := 114) (a := 1) (i := 1) 2 rfl rfl dX1_gives_114 ?_
    refine r_aload_n (pc := 115) (a := 1) (i := 1) 2 rfl rfl dX1_gives_115 ?_
    refine r_iload_n (pc := 116) (a := 3) (i := 3) 4 rfl rfl dX1_gives_116 ?_
    refine r_iconst (pc := 117) dX1_gives_117 ?_
    refine r_callSi (pc := 118) (st := [rv X (oH 0), rv X 28, iv (O (64 + 4 * p))]) (As := [rv X (oH 0), iv p, iv 1]) (D2 := 1) okX1_bodyFor (by decide) trivial rfl (Nat.le_of_ble_eq_true rfl) km_X1_24 ((by have := kX1_bodyFor X (w := 1) (show 0 < 28 by decide) (hR.psL (t := t) (bs := [11, 10])) hV hp0 hp1 (by unfold rg; omega); rw [if_neg (by decide), hm] at this; exact this)) dX1_gives_118 ?_
    refine r_iload_n (pc := 121) (a := 3) (i := 3) 4 rfl rfl dX1_gives_121 ?_
    refine r_iload (pc := 122) 0 rfl dX1_gives_122 ?_
    refine r_callSi (pc := 124) (st := [iv (O (64 + 4 * p))]) (As := [rv X 28, rv X (oH 0), iv 22, iv p, iv (w + 1)]) okX1_gives (by decide) trivial rfl (Nat.le_of_ble_eq_true rfl) km_X1_28 (kg22 X (t := t + 1 + 1) hR.psL hV hp0 hp1 (psL_c (bs := [11, 10]) (by decide) ht (by simp only [List.length_cons, List.length_nil]; omega)) (by omega) (by omega) (by omega) (by omega)) dX1_gives_124 ?_
    refine r_I (J := psL I 29 28 1 t [11, 10, 22, 21, 20]) rfl ?_
    refine r_iadd (pc := 127) dX1_gives_127 ?_
    refine r_iret (pc := 128) (st := []) rfl dX1_gives_128 ?_
    exact ⟨congrArg (fun q => some (iv q)) (by omega), rfl⟩
  · exact absurd h4 (by omega)

set_option maxRecDepth 100000 in
set_option maxHeartbeats 4000000 in
theorem kg11c (X : XC) {I : HD} {O : OF} {p t w : Int} (hR : RepC O I 0) (hV : Val O) (hp0 : 0 ≤ p) (hp1 : p < O 1) (ht : I 28 1 = t) (t0 : 0 ≤ t) (t1 : t + 6 ≤ 16) (w0 : 0 ≤ w) (w1 : w < 14) (hm : roT 2 (O (63 + 4 * p)).toNat = 24) : Cl X 5 mX1_gives [rv X 28, rv X (oH 0), iv 11, iv p, iv w] I (Ki (O (64 + 4 * p) + (2 * (p + O (65 + 4 * p) - 1000))) (psL I 29 28 1 t [11, 10, 24, 22, 21, 20])) := by
  refine Cl.of (by decide) (Nat.le_of_ble_eq_true rfl) ?_
  show Rn X 5 mX1_gives _ 0 [(0, rv X 28), (1, rv X (oH 0)), (2, iv 11), (3, iv p), (4, iv w)] [] I
  have q0 := hV.a
  have qp := hV.p hp0 hp1
  refine r_iload (pc := 0) 4 rfl dX1_gives_0 ?_
  refine r_bipush (pc := 2) rfl dX1_gives_2 ?_
  refine r_icmp_le (pc := 4) 9 (by unfold rg; omega) (by unfold rg; omega) dX1_gives_4 (by decide) (fun h4 => ?_) (fun h4 => ?_)
  · skip
    refine r_aload_n (pc := 9) (a := 0) (i := 0) 0 rfl rfl dX1_gives_9 ?_
    refine r_iload_n (pc := 10) (a := 2) (i := 2) 2 rfl rfl dX1_gives_10 ?_
    refine r_callVv (pc := 11) (st := []) (As := [iv 11]) okX1_leave (by decide) (by decide) rfl rfl rfl (Nat.le_of_ble_eq_true rfl) km_X1_43 (kX1_leave X ht t0 (by omega)) dX1_gives_11 ?_
    refine r_I (J := psL I 29 28 1 t [11]) rfl ?_
    refine r_iload (pc := 14) 4 rfl dX1_gives_14 ?_
    refine r_iconst (pc := 16) dX1_gives_16 ?_
    refine r_iadd (pc := 17) dX1_gives_17 ?_
    refine r_istore (pc := 18) [(5, iv (w + 1)), (0, rv X 28), (1, rv X (oH 0)), (2, iv 11), (3, iv p), (4, iv w)] (by decide) rfl dX1_gives_18 ?_
    refine r_iload_n (pc := 20) (a := 2) (i := 2) 3 rfl rfl dX1_gives_20 ?_
    refine r_tsIn (pc := 21) (c := 11) 103 rfl (by unfold rg; omega) (by omega) (by omega) (off := 82) rfl dX1_gives_21 (by decide) ?_
    refine r_aload_n (pc := 103) (a := 0) (i := 0) 1 rfl rfl dX1_gives_103 ?_
    refine r_aload_n (pc := 104) (a := 1) (i := 1) 2 rfl rfl dX1_gives_104 ?_
    refine r_bipush (pc := 105) rfl dX1_gives_105 ?_
    refine r_iload_n (pc := 107) (a := 3) (i := 3) 4 rfl rfl dX1_gives_107 ?_
    refine r_iload (pc := 108) 0 rfl dX1_gives_108 ?_
    refine r_callSi (pc := 110) (st := []) (As := [rv X 28, rv X (oH 0), iv 10, iv p, iv (w + 1)]) okX1_gives (by decide) trivial rfl (Nat.le_of_ble_eq_true rfl) km_X1_28 (kg10 X (t := t + 1) hR.psL hV hp0 hp1 (psL_c (bs := [11]) (by decide) ht (by simp only [List.length_cons, List.length_nil]; omega)) (by omega) (by omega) (by omega) (by omega)) dX1_gives_110 ?_
    refine r_I (J := psL I 29 28 1 t [11, 10]) rfl ?_
    refine r_aload_n (pc := 113) (a := 0) (i := 0) 1 rfl rfl dX1_gives_113 ?_
    refine r_aload_n (pc := 114) (a := 1) (i := 1) 2 rfl rfl dX1_gives_114 ?_
    refine r_aload_n (pc := 115) (a := 1) (i := 1) 2 rfl rfl dX1_gives_115 ?_
    refine r_iload_n (pc := 116) (a := 3) (i := 3) 4 rfl rfl dX1_gives_116 ?_
    refine r_iconst (pc := 117) dX1_gives_117 ?_
    refine r_callSi (pc := 118) (st := [rv X (oH 0), rv X 28, iv (O (64 + 4 * p))]) (As := [rv X (oH 0), iv p, iv 1]) (D2 := 1) okX1_bodyFor (by decide) trivial rfl (Nat.le_of_ble_eq_true rfl) km_X1_24 ((by have := kX1_bodyFor X (w := 1) (show 0 < 28 by decide) (hR.psL (t := t) (bs := [11, 10])) hV hp0 hp1 (by unfold rg; omega); rw [if_neg (by decide), hm] at this; exact this)) dX1_gives_118 ?_
    refine r_iload_n (pc := 121) (a := 3) (i := 3) 4 rfl rfl dX1_gives_121 ?_
    refine r_iload (pc := 122) 0 rfl dX1_gives_122 ?_
    refine r_callSi (pc := 124) (st := [iv (O (64 + 4 * p))]) (As := [rv X 28, rv X (oH 0), iv 24, iv p, iv (w + 1)]) okX1_gives (by decide) trivial rfl (Nat.le_of_ble_eq_true rfl) km_X1_28 (kg24 X (t := t + 1 + 1) hR.psL hV hp0 hp1 (psL_c (bs := [11, 10]) (by decide) ht (by simp only [List.length_cons, List.length_nil]; omega)) (by omega) (by omega) (by omega) (by omega)) dX1_gives_124 ?_
    refine r_I (J := psL I 29 28 1 t [11, 10, 24, 22, 21, 20]) rfl ?_
    refine r_iadd (pc := 127) dX1_gives_127 ?_
    refine r_iret (pc := 128) (st := []) rfl dX1_gives_128 ?_
    exact ⟨congrArg (fun q => some (iv q)) (by omega), rfl⟩
  · exact absurd h4 (by omega)

set_option maxRecDepth 100000 in
set_option maxHeartbeats 4000000 in
theorem kg12 (X : XC) {I : HD} {O : OF} {p t w : Int} (hR : RepC O I 0) (hV : Val O) (hp0 : 0 ≤ p) (hp1 : p < O 1) (ht : I 28 1 = t) (t0 : 0 ≤ t) (t1 : t + 7 ≤ 16) (w0 : 0 ≤ w) (w1 : w < 13) (hm : roT 2 (O (63 + 4 * p)).toNat = 24) : Cl X 6 mX1_gives [rv X 28, rv X (oH 0), iv 12, iv p, iv w] I (Ki (-(O (64 + 4 * p) + (2 * (p + O (65 + 4 * p) - 1000)))) (psL I 29 28 1 t [12, 11, 10, 24, 22, 21, 20])) := by
  refine Cl.of (by decide) (Nat.le_of_ble_eq_true rfl) ?_
  show Rn X 6 mX1_gives _ 0 [(0, rv X 28), (1, rv X (oH 0)), (2, iv 12), (3, iv p), (4, iv w)] [] I
  have q0 := hV.a
  have qp := hV.p hp0 hp1
  refine r_iload (pc := 0) 4 rfl dX1_gives_0 ?_
  refine r_bipush (pc := 2) rfl dX1_gives_2 ?_
  refine r_icmp_le (pc := 4) 9 (by unfold rg; omega) (by unfold rg; omega) dX1_gives_4 (by decide) (fun h4 => ?_) (fun h4 => ?_)
  · skip
    refine r_aload_n (pc := 9) (a := 0) (i := 0) 0 rfl rfl dX1_gives_9 ?_
    refine r_iload_n (pc := 10) (a := 2) (i := 2) 2 rfl rfl dX1_gives_10 ?_
    refine r_callVv (pc := 11) (st := []) (As := [iv 12]) okX1_leave (by decide) (by decide) rfl rfl rfl (Nat.le_of_ble_eq_true rfl) km_X1_43 (kX1_leave X ht t0 (by omega)) dX1_gives_11 ?_
    refine r_I (J := psL I 29 28 1 t [12]) rfl ?_
    refine r_iload (pc := 14) 4 rfl dX1_gives_14 ?_
    refine r_iconst (pc := 16) dX1_gives_16 ?_
    refine r_iadd (pc := 17) dX1_gives_17 ?_
    refine r_istore (pc := 18) [(5, iv (w + 1)), (0, rv X 28), (1, rv X (oH 0)), (2, iv 12), (3, iv p), (4, iv w)] (by decide) rfl dX1_gives_18 ?_
    refine r_iload_n (pc := 20) (a := 2) (i := 2) 3 rfl rfl dX1_gives_20 ?_
    refine r_tsIn (pc := 21) (c := 12) 129 rfl (by unfold rg; omega) (by omega) (by omega) (off := 108) rfl dX1_gives_21 (by decide) ?_
    refine r_aload_n (pc := 129) (a := 0) (i := 0) 1 rfl rfl dX1_gives_129 ?_
    refine r_aload_n (pc := 130) (a := 1) (i := 1) 2 rfl rfl dX1_gives_130 ?_
    refine r_bipush (pc := 131) rfl dX1_gives_131 ?_
    refine r_iload_n (pc := 133) (a := 3) (i := 3) 4 rfl rfl dX1_gives_133 ?_
    refine r_iload (pc := 134) 0 rfl dX1_gives_134 ?_
    refine r_callSi (pc := 136) (st := []) (As := [rv X 28, rv X (oH 0), iv 11, iv p, iv (w + 1)]) okX1_gives (by decide) trivial rfl (Nat.le_of_ble_eq_true rfl) km_X1_28 (kg11c X (t := t + 1) hR.psL hV hp0 hp1 (psL_c (bs := [12]) (by decide) ht (by simp only [List.length_cons, List.length_nil]; omega)) (by omega) (by omega) (by omega) (by omega) hm) dX1_gives_136 ?_
    refine r_I (J := psL I 29 28 1 t [12, 11, 10, 24, 22, 21, 20]) rfl ?_
    refine r_ineg (pc := 139) dX1_gives_139 ?_
    refine r_iret (pc := 140) (st := []) rfl dX1_gives_140 ?_
    exact ⟨congrArg (fun q => some (iv q)) (by omega), rfl⟩
  · exact absurd h4 (by omega)

set_option maxRecDepth 100000 in
set_option maxHeartbeats 4000000 in
theorem kg14 (X : XC) {I : HD} {O : OF} {p t w : Int} (hR : RepC O I 0) (hV : Val O) (hp0 : 0 ≤ p) (hp1 : p < O 1) (ht : I 28 1 = t) (t0 : 0 ≤ t) (t1 : t + 5 ≤ 16) (w0 : 0 ≤ w) (w1 : w < 13) (hm : roT 2 (O (63 + 4 * p)).toNat = 21) : Cl X 6 mX1_gives [rv X 28, rv X (oH 0), iv 14, iv p, iv w] I (Ki (2 * (O (64 + 4 * p) + (p + O (65 + 4 * p)))) (psL I 29 28 1 t [14, 11, 10, 21, 20])) := by
  refine Cl.of (by decide) (Nat.le_of_ble_eq_true rfl) ?_
  show Rn X 6 mX1_gives _ 0 [(0, rv X 28), (1, rv X (oH 0)), (2, iv 14), (3, iv p), (4, iv w)] [] I
  have q0 := hV.a
  have qp := hV.p hp0 hp1
  refine r_iload (pc := 0) 4 rfl dX1_gives_0 ?_
  refine r_bipush (pc := 2) rfl dX1_gives_2 ?_
  refine r_icmp_le (pc := 4) 9 (by unfold rg; omega) (by unfold rg; omega) dX1_gives_4 (by decide) (fun h4 => ?_) (fun h4 => ?_)
  · skip
    refine r_aload_n (pc := 9) (a := 0) (i := 0) 0 rfl rfl dX1_gives_9 ?_
    refine r_iload_n (pc := 10) (a := 2) (i := 2) 2 rfl rfl dX1_gives_10 ?_
    refine r_callVv (pc := 11) (st := []) (As := [iv 14]) okX1_leave (by decide) (by decide) rfl rfl rfl (Nat.le_of_ble_eq_true rfl) km_X1_43 (kX1_leave X ht t0 (by omega)) dX1_gives_11 ?_
    refine r_I (J := psL I 29 28 1 t [14]) rfl ?_
    refine r_iload (pc := 14) 4 rfl dX1_gives_14 ?_
    refine r_iconst (pc := 16) dX1_gives_16 ?_
    refine r_iadd (pc := 17) dX1_gives_17 ?_
    refine r_istore (pc := 18) [(5, iv (w + 1)), (0, rv X 28), (1, rv X (oH 0)), (2, iv 14), (3, iv p), (4, iv w)] (by decide) rfl dX1_gives_18 ?_
    refine r_iload_n (pc := 20) (a := 2) (i := 2) 3 rfl rfl dX1_gives_20 ?_
    refine r_tsIn (pc := 21) (c := 14) 155 rfl (by unfold rg; omega) (by omega) (by omega) (off := 134) rfl dX1_gives_21 (by decide) ?_
    refine r_iconst (pc := 155) dX1_gives_155 ?_
    refine r_aload_n (pc := 156) (a := 0) (i := 0) 1 rfl rfl dX1_gives_156 ?_
    refine r_aload_n (pc := 157) (a := 1) (i := 1) 2 rfl rfl dX1_gives_157 ?_
    refine r_bipush (pc := 158) rfl dX1_gives_158 ?_
    refine r_iload_n (pc := 160) (a := 3) (i := 3) 4 rfl rfl dX1_gives_160 ?_
    refine r_iload (pc := 161) 0 rfl dX1_gives_161 ?_
    refine r_callSi (pc := 163) (st := [iv 2]) (As := [rv X 28, rv X (oH 0), iv 11, iv p, iv (w + 1)]) okX1_gives (by decide) trivial rfl (Nat.le_of_ble_eq_true rfl) km_X1_28 (kg11a X (t := t + 1) hR.psL hV hp0 hp1 (psL_c (bs := [14]) (by decide) ht (by simp only [List.length_cons, List.length_nil]; omega)) (by omega) (by omega) (by omega) (by omega) hm) dX1_gives_163 ?_
    refine r_I (J := psL I 29 28 1 t [14, 11, 10, 21, 20]) rfl ?_
    refine r_imul (pc := 166) dX1_gives_166 ?_
    refine r_iret (pc := 167) (st := []) rfl dX1_gives_167 ?_
    exact ⟨congrArg (fun q => some (iv q)) (by omega), rfl⟩
  · exact absurd h4 (by omega)

set_option maxRecDepth 100000 in
set_option maxHeartbeats 4000000 in
theorem kg23 (X : XC) {I : HD} {O : OF} {p t w : Int} (hR : RepC O I 0) (hV : Val O) (hp0 : 0 ≤ p) (hp1 : p < O 1) (ht : I 28 1 = t) (t0 : 0 ≤ t) (t1 : t + 4 ≤ 16) (w0 : 0 ≤ w) (w1 : w < 14) (hm : roT 1 (O (63 + 4 * p)).toNat = 13) : Cl X 3 mX1_gives [rv X 28, rv X (oH 0), iv 23, iv p, iv w] I (Ki (p - (O (64 + 4 * p) - 100)) (psL I 29 28 1 t [23, 20, 13, 10])) := by
  refine Cl.of (by decide) (Nat.le_of_ble_eq_true rfl) ?_
  show Rn X 3 mX1_gives _ 0 [(0, rv X 28), (1, rv X (oH 0)), (2, iv 23), (3, iv p), (4, iv w)] [] I
  have q0 := hV.a
  have qp := hV.p hp0 hp1
  refine r_iload (pc := 0) 4 rfl dX1_gives_0 ?_
  refine r_bipush (pc := 2) rfl dX1_gives_2 ?_
  refine r_icmp_le (pc := 4) 9 (by unfold rg; omega) (by unfold rg; omega) dX1_gives_4 (by decide) (fun h4 => ?_) (fun h4 => ?_)
  · skip
    refine r_aload_n (pc := 9) (a := 0) (i := 0) 0 rfl rfl dX1_gives_9 ?_
    refine r_iload_n (pc := 10) (a := 2) (i := 2) 2 rfl rfl dX1_gives_10 ?_
    refine r_callVv (pc := 11) (st := []) (As := [iv 23]) okX1_leave (by decide) (by decide) rfl rfl rfl (Nat.le_of_ble_eq_true rfl) km_X1_43 (kX1_leave X ht t0 (by omega)) dX1_gives_11 ?_
    refine r_I (J := psL I 29 28 1 t [23]) rfl ?_
    refine r_iload (pc := 14) 4 rfl dX1_gives_14 ?_
    refine r_iconst (pc := 16) dX1_gives_16 ?_
    refine r_iadd (pc := 17) dX1_gives_17 ?_
    refine r_istore (pc := 18) [(5, iv (w + 1)), (0, rv X 28), (1, rv X (oH 0)), (2, iv 23), (3, iv p), (4, iv w)] (by decide) rfl dX1_gives_18 ?_
    refine r_iload_n (pc := 20) (a := 2) (i := 2) 3 rfl rfl dX1_gives_20 ?_
    refine r_tsIn (pc := 21) (c := 23) 203 rfl (by unfold rg; omega) (by omega) (by omega) (off := 182) rfl dX1_gives_21 (by decide) ?_
    refine r_aload_n (pc := 203) (a := 0) (i := 0) 1 rfl rfl dX1_gives_203 ?_
    refine r_aload_n (pc := 204) (a := 1) (i := 1) 2 rfl rfl dX1_gives_204 ?_
    refine r_bipush (pc := 205) rfl dX1_gives_205 ?_
    refine r_iload_n (pc := 207) (a := 3) (i := 3) 4 rfl rfl dX1_gives_207 ?_
    refine r_iload (pc := 208) 0 rfl dX1_gives_208 ?_
    refine r_callSi (pc := 210) (st := []) (As := [rv X 28, rv X (oH 0), iv 20, iv p, iv (w + 1)]) okX1_gives (by decide) trivial rfl (Nat.le_of_ble_eq_true rfl) km_X1_28 (kg20 X (t := t + 1) hR.psL hV hp0 hp1 (psL_c (bs := [23]) (by decide) ht (by simp only [List.length_cons, List.length_nil]; omega)) (by omega) (by omega) (by omega) (by omega)) dX1_gives_210 ?_
    refine r_I (J := psL I 29 28 1 t [23, 20]) rfl ?_
    refine r_aload_n (pc := 213) (a := 0) (i := 0) 1 rfl rfl dX1_gives_213 ?_
    refine r_aload_n (pc := 214) (a := 1) (i := 1) 2 rfl rfl dX1_gives_214 ?_
    refine r_aload_n (pc := 215) (a := 1) (i := 1) 2 rfl rfl dX1_gives_215 ?_
    refine r_iload_n (pc := 216) (a := 3) (i := 3) 4 rfl rfl dX1_gives_216 ?_
    refine r_iconst (pc := 217) dX1_gives_217 ?_
    refine r_callSi (pc := 218) (st := [rv X (oH 0), rv X 28, iv p]) (As := [rv X (oH 0), iv p, iv 0]) (D2 := 1) okX1_bodyFor (by decide) trivial rfl (Nat.le_of_ble_eq_true rfl) km_X1_24 ((by have := kX1_bodyFor X (w := 0) (show 0 < 28 by decide) (hR.psL (t := t) (bs := [23, 20])) hV hp0 hp1 (by unfold rg; omega); rw [if_pos rfl, hm] at this; exact this)) dX1_gives_218 ?_
    refine r_iload_n (pc := 221) (a := 3) (i := 3) 4 rfl rfl dX1_gives_221 ?_
    refine r_iload (pc := 222) 0 rfl dX1_gives_222 ?_
    refine r_callSi (pc := 224) (st := [iv p]) (As := [rv X 28, rv X (oH 0), iv 13, iv p, iv (w + 1)]) okX1_gives (by decide) trivial rfl (Nat.le_of_ble_eq_true rfl) km_X1_28 (kg13 X (t := t + 1 + 1) hR.psL hV hp0 hp1 (psL_c (bs := [23, 20]) (by decide) ht (by simp only [List.length_cons, List.length_nil]; omega)) (by omega) (by omega) (by omega) (by omega)) dX1_gives_224 ?_
    refine r_I (J := psL I 29 28 1 t [23, 20, 13, 10]) rfl ?_
    refine r_isub (pc := 227) dX1_gives_227 ?_
    refine r_iret (pc := 228) (st := []) rfl dX1_gives_228 ?_
    exact ⟨congrArg (fun q => some (iv q)) (by omega), rfl⟩
  · exact absurd h4 (by omega)

set_option maxRecDepth 100000 in
set_option maxHeartbeats 4000000 in
theorem kbg10 (X : XC) {I : HD} {O : OF} {p : Int} (hR : RepC O I 0) (hV : Val O) (hp0 : 0 ≤ p) (hp1 : p < O 1) (hk : O (63 + 4 * p) = 1) : Cl X 7 mX1_begin [rv X 28, rv X (oH 0), iv p, iv 0] I (Ki (O (64 + 4 * p) + (p + O (65 + 4 * p))) (psL (up I 28 1 0) 29 28 1 0 [11, 10, 21, 20])) := by
  refine Cl.of (by decide) (Nat.le_of_ble_eq_true rfl) ?_
  show Rn X 7 mX1_begin _ 0 [(0, rv X 28), (1, rv X (oH 0)), (2, iv p), (3, iv 0)] [] I
  refine r_aload_n (pc := 0) (a := 0) (i := 0) 0 rfl rfl dX1_begin_0 ?_
  refine r_iconst (pc := 1) dX1_begin_1 ?_
  refine r_put (pc := 2) 1 (ji := 1) rfl ckX1 (by decide) rfl rfl (by decide) (Nat.le_of_ble_eq_true rfl) kf_X1_13 rfl rfl rfl rfl dX1_begin_2 ?_
  refine r_aload_n (pc := 5) (a := 0) (i := 0) 0 rfl rfl dX1_begin_5 ?_
  refine r_aload_n (pc := 6) (a := 1) (i := 1) 1 rfl rfl dX1_begin_6 ?_
  refine r_aload_n (pc := 7) (a := 1) (i := 1) 1 rfl rfl dX1_begin_7 ?_
  refine r_iload_n (pc := 8) (a := 2) (i := 2) 2 rfl rfl dX1_begin_8 ?_
  refine r_iload_n (pc := 9) (a := 3) (i := 3) 3 rfl rfl dX1_begin_9 ?_
  refine r_callSi (pc := 10) (st := [rv X (oH 0), rv X 28]) (As := [rv X (oH 0), iv p, iv 0]) (D2 := 1) okX1_bodyFor (by decide) trivial rfl (Nat.le_of_ble_eq_true rfl) km_X1_24 ((by have := kX1_bodyFor X (w := 0) (show 0 < 28 by decide) (hR.fr (J := up I 28 1 0) (fun a x y => up_row (by have : oH 0 = 45 := rfl; omega))) hV hp0 hp1 (by unfold rg; omega); rw [if_pos rfl, hk] at this; exact this)) dX1_begin_10 ?_
  refine r_iload_n (pc := 13) (a := 2) (i := 2) 2 rfl rfl dX1_begin_13 ?_
  refine r_iconst (pc := 14) dX1_begin_14 ?_
  refine r_callSi (pc := 15) (st := []) (As := [rv X 28, rv X (oH 0), iv 11, iv p, iv 0]) okX1_gives (by decide) trivial rfl (Nat.le_of_ble_eq_true rfl) km_X1_28 (kg11a X (t := 0) (hR.fr (J := up I 28 1 0) (fun a x y => up_row (by have : oH 0 = 45 := rfl; omega))) hV hp0 hp1 up_s (by omega) (by omega) (by omega) (by omega) (by rw [hk]; rfl)) dX1_begin_15 ?_
  refine r_iret (pc := 18) (st := []) rfl dX1_begin_18 ?_
  exact ⟨rfl, rfl⟩

set_option maxRecDepth 100000 in
set_option maxHeartbeats 4000000 in
theorem kbg20 (X : XC) {I : HD} {O : OF} {p : Int} (hR : RepC O I 0) (hV : Val O) (hp0 : 0 ≤ p) (hp1 : p < O 1) (hk : O (63 + 4 * p) = 2) : Cl X 7 mX1_begin [rv X 28, rv X (oH 0), iv p, iv 0] I (Ki (O (64 + 4 * p) + (p + O (65 + 4 * p) - 1000)) (psL (up I 28 1 0) 29 28 1 0 [11, 10, 22, 21, 20])) := by
  refine Cl.of (by decide) (Nat.le_of_ble_eq_true rfl) ?_
  show Rn X 7 mX1_begin _ 0 [(0, rv X 28), (1, rv X (oH 0)), (2, iv p), (3, iv 0)] [] I
  refine r_aload_n (pc := 0) (a := 0) (i := 0) 0 rfl rfl dX1_begin_0 ?_
  refine r_iconst (pc := 1) dX1_begin_1 ?_
  refine r_put (pc := 2) 1 (ji := 1) rfl ckX1 (by decide) rfl rfl (by decide) (Nat.le_of_ble_eq_true rfl) kf_X1_13 rfl rfl rfl rfl dX1_begin_2 ?_
  refine r_aload_n (pc := 5) (a := 0) (i := 0) 0 rfl rfl dX1_begin_5 ?_
  refine r_aload_n (pc := 6) (a := 1) (i := 1) 1 rfl rfl dX1_begin_6 ?_
  refine r_aload_n (pc := 7) (a := 1) (i := 1) 1 rfl rfl dX1_begin_7 ?_
  refine r_iload_n (pc := 8) (a := 2) (i := 2) 2 rfl rfl dX1_begin_8 ?_
  refine r_iload_n (pc := 9) (a := 3) (i := 3) 3 rfl rfl dX1_begin_9 ?_
  refine r_callSi (pc := 10) (st := [rv X (oH 0), rv X 28]) (As := [rv X (oH 0), iv p, iv 0]) (D2 := 1) okX1_bodyFor (by decide) trivial rfl (Nat.le_of_ble_eq_true rfl) km_X1_24 ((by have := kX1_bodyFor X (w := 0) (show 0 < 28 by decide) (hR.fr (J := up I 28 1 0) (fun a x y => up_row (by have : oH 0 = 45 := rfl; omega))) hV hp0 hp1 (by unfold rg; omega); rw [if_pos rfl, hk] at this; exact this)) dX1_begin_10 ?_
  refine r_iload_n (pc := 13) (a := 2) (i := 2) 2 rfl rfl dX1_begin_13 ?_
  refine r_iconst (pc := 14) dX1_begin_14 ?_
  refine r_callSi (pc := 15) (st := []) (As := [rv X 28, rv X (oH 0), iv 11, iv p, iv 0]) okX1_gives (by decide) trivial rfl (Nat.le_of_ble_eq_true rfl) km_X1_28 (kg11b X (t := 0) (hR.fr (J := up I 28 1 0) (fun a x y => up_row (by have : oH 0 = 45 := rfl; omega))) hV hp0 hp1 up_s (by omega) (by omega) (by omega) (by omega) (by rw [hk]; rfl)) dX1_begin_15 ?_
  refine r_iret (pc := 18) (st := []) rfl dX1_begin_18 ?_
  exact ⟨rfl, rfl⟩

set_option maxRecDepth 100000 in
set_option maxHeartbeats 4000000 in
theorem kbg30 (X : XC) {I : HD} {O : OF} {p : Int} (hR : RepC O I 0) (hV : Val O) (hp0 : 0 ≤ p) (hp1 : p < O 1) (hk : O (63 + 4 * p) = 3) : Cl X 7 mX1_begin [rv X 28, rv X (oH 0), iv p, iv 0] I (Ki (-(O (64 + 4 * p) + (2 * (p + O (65 + 4 * p) - 1000)))) (psL (up I 28 1 0) 29 28 1 0 [12, 11, 10, 24, 22, 21, 20])) := by
  refine Cl.of (by decide) (Nat.le_of_ble_eq_true rfl) ?_
  show Rn X 7 mX1_begin _ 0 [(0, rv X 28), (1, rv X (oH 0)), (2, iv p), (3, iv 0)] [] I
  refine r_aload_n (pc := 0) (a := 0) (i := 0) 0 rfl rfl dX1_begin_0 ?_
  refine r_iconst (pc := 1) dX1_begin_1 ?_
  refine r_put (pc := 2) 1 (ji := 1) rfl ckX1 (by decide) rfl rfl (by decide) (Nat.le_of_ble_eq_true rfl) kf_X1_13 rfl rfl rfl rfl dX1_begin_2 ?_
  refine r_aload_n (pc := 5) (a := 0) (i := 0) 0 rfl rfl dX1_begin_5 ?_
  refine r_aload_n (pc := 6) (a := 1) (i := 1) 1 rfl rfl dX1_begin_6 ?_
  refine r_aload_n (pc := 7) (a := 1) (i := 1) 1 rfl rfl dX1_begin_7 ?_
  refine r_iload_n (pc := 8) (a := 2) (i := 2) 2 rfl rfl dX1_begin_8 ?_
  refine r_iload_n (pc := 9) (a := 3) (i := 3) 3 rfl rfl dX1_begin_9 ?_
  refine r_callSi (pc := 10) (st := [rv X (oH 0), rv X 28]) (As := [rv X (oH 0), iv p, iv 0]) (D2 := 1) okX1_bodyFor (by decide) trivial rfl (Nat.le_of_ble_eq_true rfl) km_X1_24 ((by have := kX1_bodyFor X (w := 0) (show 0 < 28 by decide) (hR.fr (J := up I 28 1 0) (fun a x y => up_row (by have : oH 0 = 45 := rfl; omega))) hV hp0 hp1 (by unfold rg; omega); rw [if_pos rfl, hk] at this; exact this)) dX1_begin_10 ?_
  refine r_iload_n (pc := 13) (a := 2) (i := 2) 2 rfl rfl dX1_begin_13 ?_
  refine r_iconst (pc := 14) dX1_begin_14 ?_
  refine r_callSi (pc := 15) (st := []) (As := [rv X 28, rv X (oH 0), iv 12, iv p, iv 0]) okX1_gives (by decide) trivial rfl (Nat.le_of_ble_eq_true rfl) km_X1_28 (kg12 X (t := 0) (hR.fr (J := up I 28 1 0) (fun a x y => up_row (by have : oH 0 = 45 := rfl; omega))) hV hp0 hp1 up_s (by omega) (by omega) (by omega) (by omega) (by rw [hk]; rfl)) dX1_begin_15 ?_
  refine r_iret (pc := 18) (st := []) rfl dX1_begin_18 ?_
  exact ⟨rfl, rfl⟩

set_option maxRecDepth 100000 in
set_option maxHeartbeats 4000000 in
theorem kbg40 (X : XC) {I : HD} {O : OF} {p : Int} (hR : RepC O I 0) (hV : Val O) (hp0 : 0 ≤ p) (hp1 : p < O 1) (hk : O (63 + 4 * p) = 4) : Cl X 7 mX1_begin [rv X 28, rv X (oH 0), iv p, iv 0] I (Ki (2 * (O (64 + 4 * p) + (p + O (65 + 4 * p)))) (psL (up I 28 1 0) 29 28 1 0 [14, 11, 10, 21, 20])) := by
  refine Cl.of (by decide) (Nat.le_of_ble_eq_true rfl) ?_
  show Rn X 7 mX1_begin _ 0 [(0, rv X 28), (1, rv X (oH 0)), (2, iv p), (3, iv 0)] [] I
  refine r_aload_n (pc := 0) (a := 0) (i := 0) 0 rfl rfl dX1_begin_0 ?_
  refine r_iconst (pc := 1) dX1_begin_1 ?_
  refine r_put (pc := 2) 1 (ji := 1) rfl ckX1 (by decide) rfl rfl (by decide) (Nat.le_of_ble_eq_true rfl) kf_X1_13 rfl rfl rfl rfl dX1_begin_2 ?_
  refine r_aload_n (pc := 5) (a := 0) (i := 0) 0 rfl rfl dX1_begin_5 ?_
  refine r_aload_n (pc := 6) (a := 1) (i := 1) 1 rfl rfl dX1_begin_6 ?_
  refine r_aload_n (pc := 7) (a := 1) (i := 1) 1 rfl rfl dX1_begin_7 ?_
  refine r_iload_n (pc := 8) (a := 2) (i := 2) 2 rfl rfl dX1_begin_8 ?_
  refine r_iload_n (pc := 9) (a := 3) (i := 3) 3 rfl rfl dX1_begin_9 ?_
  refine r_callSi (pc := 10) (st := [rv X (oH 0), rv X 28]) (As := [rv X (oH 0), iv p, iv 0]) (D2 := 1) okX1_bodyFor (by decide) trivial rfl (Nat.le_of_ble_eq_true rfl) km_X1_24 ((by have := kX1_bodyFor X (w := 0) (show 0 < 28 by decide) (hR.fr (J := up I 28 1 0) (fun a x y => up_row (by have : oH 0 = 45 := rfl; omega))) hV hp0 hp1 (by unfold rg; omega); rw [if_pos rfl, hk] at this; exact this)) dX1_begin_10 ?_
  refine r_iload_n (pc := 13) (a := 2) (i := 2) 2 rfl rfl dX1_begin_13 ?_
  refine r_iconst (pc := 14) dX1_begin_14 ?_
  refine r_callSi (pc := 15) (st := []) (As := [rv X 28, rv X (oH 0), iv 14, iv p, iv 0]) okX1_gives (by decide) trivial rfl (Nat.le_of_ble_eq_true rfl) km_X1_28 (kg14 X (t := 0) (hR.fr (J := up I 28 1 0) (fun a x y => up_row (by have : oH 0 = 45 := rfl; omega))) hV hp0 hp1 up_s (by omega) (by omega) (by omega) (by omega) (by rw [hk]; rfl)) dX1_begin_15 ?_
  refine r_iret (pc := 18) (st := []) rfl dX1_begin_18 ?_
  exact ⟨rfl, rfl⟩

set_option maxRecDepth 100000 in
set_option maxHeartbeats 4000000 in
theorem kbg50 (X : XC) {I : HD} {O : OF} {p : Int} (hR : RepC O I 0) (hV : Val O) (hp0 : 0 ≤ p) (hp1 : p < O 1) (hk : O (63 + 4 * p) = 5) : Cl X 7 mX1_begin [rv X 28, rv X (oH 0), iv p, iv 0] I (Ki (O (64 + 4 * p) - 100) (psL (up I 28 1 0) 29 28 1 0 [13, 10])) := by
  refine Cl.of (by decide) (Nat.le_of_ble_eq_true rfl) ?_
  show Rn X 7 mX1_begin _ 0 [(0, rv X 28), (1, rv X (oH 0)), (2, iv p), (3, iv 0)] [] I
  refine r_aload_n (pc := 0) (a := 0) (i := 0) 0 rfl rfl dX1_begin_0 ?_
  refine r_iconst (pc := 1) dX1_begin_1 ?_
  refine r_put (pc := 2) 1 (ji := 1) rfl ckX1 (by decide) rfl rfl (by decide) (Nat.le_of_ble_eq_true rfl) kf_X1_13 rfl rfl rfl rfl dX1_begin_2 ?_
  refine r_aload_n (pc := 5) (a := 0) (i := 0) 0 rfl rfl dX1_begin_5 ?_
  refine r_aload_n (pc := 6) (a := 1) (i := 1) 1 rfl rfl dX1_begin_6 ?_
  refine r_aload_n (pc := 7) (a := 1) (i := 1) 1 rfl rfl dX1_begin_7 ?_
  refine r_iload_n (pc := 8) (a := 2) (i := 2) 2 rfl rfl dX1_begin_8 ?_
  refine r_iload_n (pc := 9) (a := 3) (i := 3) 3 rfl rfl dX1_begin_9 ?_
  refine r_callSi (pc := 10) (st := [rv X (oH 0), rv X 28]) (As := [rv X (oH 0), iv p, iv 0]) (D2 := 1) okX1_bodyFor (by decide) trivial rfl (Nat.le_of_ble_eq_true rfl) km_X1_24 ((by have := kX1_bodyFor X (w := 0) (show 0 < 28 by decide) (hR.fr (J := up I 28 1 0) (fun a x y => up_row (by have : oH 0 = 45 := rfl; omega))) hV hp0 hp1 (by unfold rg; omega); rw [if_pos rfl, hk] at this; exact this)) dX1_begin_10 ?_
  refine r_iload_n (pc := 13) (a := 2) (i := 2) 2 rfl rfl dX1_begin_13 ?_
  refine r_iconst (pc := 14) dX1_begin_14 ?_
  refine r_callSi (pc := 15) (st := []) (As := [rv X 28, rv X (oH 0), iv 13, iv p, iv 0]) okX1_gives (by decide) trivial rfl (Nat.le_of_ble_eq_true rfl) km_X1_28 (kg13 X (t := 0) (hR.fr (J := up I 28 1 0) (fun a x y => up_row (by have : oH 0 = 45 := rfl; omega))) hV hp0 hp1 up_s (by omega) (by omega) (by omega) (by omega)) dX1_begin_15 ?_
  refine r_iret (pc := 18) (st := []) rfl dX1_begin_18 ?_
  exact ⟨rfl, rfl⟩

set_option maxRecDepth 100000 in
set_option maxHeartbeats 4000000 in
theorem kbg11 (X : XC) {I : HD} {O : OF} {p : Int} (hR : RepC O I 0) (hV : Val O) (hp0 : 0 ≤ p) (hp1 : p < O 1) (hk : O (63 + 4 * p) = 1) : Cl X 7 mX1_begin [rv X 28, rv X (oH 0), iv p, iv 1] I (Ki (p + O (65 + 4 * p)) (psL (up I 28 1 0) 29 28 1 0 [21, 20])) := by
  refine Cl.of (by decide) (Nat.le_of_ble_eq_true rfl) ?_
  show Rn X 7 mX1_begin _ 0 [(0, rv X 28), (1, rv X (oH 0)), (2, iv p), (3, iv 1)] [] I
  refine r_aload_n (pc := 0) (a := 0) (i := 0) 0 rfl rfl dX1_begin_0 ?_
  refine r_iconst (pc := 1) dX1_begin_1 ?_
  refine r_put (pc := 2) 1 (ji := 1) rfl ckX1 (by decide) rfl rfl (by decide) (Nat.le_of_ble_eq_true rfl) kf_X1_13 rfl rfl rfl rfl dX1_begin_2 ?_
  refine r_aload_n (pc := 5) (a := 0) (i := 0) 0 rfl rfl dX1_begin_5 ?_
  refine r_aload_n (pc := 6) (a := 1) (i := 1) 1 rfl rfl dX1_begin_6 ?_
  refine r_aload_n (pc := 7) (a := 1) (i := 1) 1 rfl rfl dX1_begin_7 ?_
  refine r_iload_n (pc := 8) (a := 2) (i := 2) 2 rfl rfl dX1_begin_8 ?_
  refine r_iload_n (pc := 9) (a := 3) (i := 3) 3 rfl rfl dX1_begin_9 ?_
  refine r_callSi (pc := 10) (st := [rv X (oH 0), rv X 28]) (As := [rv X (oH 0), iv p, iv 1]) (D2 := 1) okX1_bodyFor (by decide) trivial rfl (Nat.le_of_ble_eq_true rfl) km_X1_24 ((by have := kX1_bodyFor X (w := 1) (show 0 < 28 by decide) (hR.fr (J := up I 28 1 0) (fun a x y => up_row (by have : oH 0 = 45 := rfl; omega))) hV hp0 hp1 (by unfold rg; omega); rw [if_neg (by decide), hk] at this; exact this)) dX1_begin_10 ?_
  refine r_iload_n (pc := 13) (a := 2) (i := 2) 2 rfl rfl dX1_begin_13 ?_
  refine r_iconst (pc := 14) dX1_begin_14 ?_
  refine r_callSi (pc := 15) (st := []) (As := [rv X 28, rv X (oH 0), iv 21, iv p, iv 0]) okX1_gives (by decide) trivial rfl (Nat.le_of_ble_eq_true rfl) km_X1_28 (kg21 X (t := 0) (hR.fr (J := up I 28 1 0) (fun a x y => up_row (by have : oH 0 = 45 := rfl; omega))) hV hp0 hp1 up_s (by omega) (by omega) (by omega) (by omega)) dX1_begin_15 ?_
  refine r_iret (pc := 18) (st := []) rfl dX1_begin_18 ?_
  exact ⟨rfl, rfl⟩

set_option maxRecDepth 100000 in
set_option maxHeartbeats 4000000 in
theorem kbg21 (X : XC) {I : HD} {O : OF} {p : Int} (hR : RepC O I 0) (hV : Val O) (hp0 : 0 ≤ p) (hp1 : p < O 1) (hk : O (63 + 4 * p) = 2) : Cl X 7 mX1_begin [rv X 28, rv X (oH 0), iv p, iv 1] I (Ki (p + O (65 + 4 * p) - 1000) (psL (up I 28 1 0) 29 28 1 0 [22, 21, 20])) := by
  refine Cl.of (by decide) (Nat.le_of_ble_eq_true rfl) ?_
  show Rn X 7 mX1_begin _ 0 [(0, rv X 28), (1, rv X (oH 0)), (2, iv p), (3, iv 1)] [] I
  refine r_aload_n (pc := 0) (a := 0) (i := 0) 0 rfl rfl dX1_begin_0 ?_
  refine r_iconst (pc := 1) dX1_begin_1 ?_
  refine r_put (pc := 2) 1 (ji := 1) rfl ckX1 (by decide) rfl rfl (by decide) (Nat.le_of_ble_eq_true rfl) kf_X1_13 rfl rfl rfl rfl dX1_begin_2 ?_
  refine r_aload_n (pc := 5) (a := 0) (i := 0) 0 rfl rfl dX1_begin_5 ?_
  refine r_aload_n (pc := 6) (a := 1) (i := 1) 1 rfl rfl dX1_begin_6 ?_
  refine r_aload_n (pc := 7) (a := 1) (i := 1) 1 rfl rfl dX1_begin_7 ?_
  refine r_iload_n (pc := 8) (a := 2) (i := 2) 2 rfl rfl dX1_begin_8 ?_
  refine r_iload_n (pc := 9) (a := 3) (i := 3) 3 rfl rfl dX1_begin_9 ?_
  refine r_callSi (pc := 10) (st := [rv X (oH 0), rv X 28]) (As := [rv X (oH 0), iv p, iv 1]) (D2 := 1) okX1_bodyFor (by decide) trivial rfl (Nat.le_of_ble_eq_true rfl) km_X1_24 ((by have := kX1_bodyFor X (w := 1) (show 0 < 28 by decide) (hR.fr (J := up I 28 1 0) (fun a x y => up_row (by have : oH 0 = 45 := rfl; omega))) hV hp0 hp1 (by unfold rg; omega); rw [if_neg (by decide), hk] at this; exact this)) dX1_begin_10 ?_
  refine r_iload_n (pc := 13) (a := 2) (i := 2) 2 rfl rfl dX1_begin_13 ?_
  refine r_iconst (pc := 14) dX1_begin_14 ?_
  refine r_callSi (pc := 15) (st := []) (As := [rv X 28, rv X (oH 0), iv 22, iv p, iv 0]) okX1_gives (by decide) trivial rfl (Nat.le_of_ble_eq_true rfl) km_X1_28 (kg22 X (t := 0) (hR.fr (J := up I 28 1 0) (fun a x y => up_row (by have : oH 0 = 45 := rfl; omega))) hV hp0 hp1 up_s (by omega) (by omega) (by omega) (by omega)) dX1_begin_15 ?_
  refine r_iret (pc := 18) (st := []) rfl dX1_begin_18 ?_
  exact ⟨rfl, rfl⟩

set_option maxRecDepth 100000 in
set_option maxHeartbeats 4000000 in
theorem kbg31 (X : XC) {I : HD} {O : OF} {p : Int} (hR : RepC O I 0) (hV : Val O) (hp0 : 0 ≤ p) (hp1 : p < O 1) (hk : O (63 + 4 * p) = 3) : Cl X 7 mX1_begin [rv X 28, rv X (oH 0), iv p, iv 1] I (Ki (2 * (p + O (65 + 4 * p) - 1000)) (psL (up I 28 1 0) 29 28 1 0 [24, 22, 21, 20])) := by
  refine Cl.of (by decide) (Nat.le_of_ble_eq_true rfl) ?_
  show Rn X 7 mX1_begin _ 0 [(0, rv X 28), (1, rv X (oH 0)), (2, iv p), (3, iv 1)] [] I
  refine r_aload_n (pc := 0) (a := 0) (i := 0) 0 rfl rfl dX1_begin_0 ?_
  refine r_iconst (pc := 1) dX1_begin_1 ?_
  refine r_put (pc := 2) 1 (ji := 1) rfl ckX1 (by decide) rfl rfl (by decide) (Nat.le_of_ble_eq_true rfl) kf_X1_13 rfl rfl rfl rfl dX1_begin_2 ?_
  refine r_aload_n (pc := 5) (a := 0) (i := 0) 0 rfl rfl dX1_begin_5 ?_
  refine r_aload_n (pc := 6) (a := 1) (i := 1) 1 rfl rfl dX1_begin_6 ?_
  refine r_aload_n (pc := 7) (a := 1) (i := 1) 1 rfl rfl dX1_begin_7 ?_
  refine r_iload_n (pc := 8) (a := 2) (i := 2) 2 rfl rfl dX1_begin_8 ?_
  refine r_iload_n (pc := 9) (a := 3) (i := 3) 3 rfl rfl dX1_begin_9 ?_
  refine r_callSi (pc := 10) (st := [rv X (oH 0), rv X 28]) (As := [rv X (oH 0), iv p, iv 1]) (D2 := 1) okX1_bodyFor (by decide) trivial rfl (Nat.le_of_ble_eq_true rfl) km_X1_24 ((by have := kX1_bodyFor X (w := 1) (show 0 < 28 by decide) (hR.fr (J := up I 28 1 0) (fun a x y => up_row (by have : oH 0 = 45 := rfl; omega))) hV hp0 hp1 (by unfold rg; omega); rw [if_neg (by decide), hk] at this; exact this)) dX1_begin_10 ?_
  refine r_iload_n (pc := 13) (a := 2) (i := 2) 2 rfl rfl dX1_begin_13 ?_
  refine r_iconst (pc := 14) dX1_begin_14 ?_
  refine r_callSi (pc := 15) (st := []) (As := [rv X 28, rv X (oH 0), iv 24, iv p, iv 0]) okX1_gives (by decide) trivial rfl (Nat.le_of_ble_eq_true rfl) km_X1_28 (kg24 X (t := 0) (hR.fr (J := up I 28 1 0) (fun a x y => up_row (by have : oH 0 = 45 := rfl; omega))) hV hp0 hp1 up_s (by omega) (by omega) (by omega) (by omega)) dX1_begin_15 ?_
  refine r_iret (pc := 18) (st := []) rfl dX1_begin_18 ?_
  exact ⟨rfl, rfl⟩

set_option maxRecDepth 100000 in
set_option maxHeartbeats 4000000 in
theorem kbg41 (X : XC) {I : HD} {O : OF} {p : Int} (hR : RepC O I 0) (hV : Val O) (hp0 : 0 ≤ p) (hp1 : p < O 1) (hk : O (63 + 4 * p) = 4) : Cl X 7 mX1_begin [rv X 28, rv X (oH 0), iv p, iv 1] I (Ki (p + O (65 + 4 * p)) (psL (up I 28 1 0) 29 28 1 0 [21, 20])) := by
  refine Cl.of (by decide) (Nat.le_of_ble_eq_true rfl) ?_
  show Rn X 7 mX1_begin _ 0 [(0, rv X 28), (1, rv X (oH 0)), (2, iv p), (3, iv 1)] [] I
  refine r_aload_n (pc := 0) (a := 0) (i := 0) 0 rfl rfl dX1_begin_0 ?_
  refine r_iconst (pc := 1) dX1_begin_1 ?_
  refine r_put (pc := 2) 1 (ji := 1) rfl ckX1 (by decide) rfl rfl (by decide) (Nat.le_of_ble_eq_true rfl) kf_X1_13 rfl rfl rfl rfl dX1_begin_2 ?_
  refine r_aload_n (pc := 5) (a := 0) (i := 0) 0 rfl rfl dX1_begin_5 ?_
  refine r_aload_n (pc := 6) (a := 1) (i := 1) 1 rfl rfl dX1_begin_6 ?_
  refine r_aload_n (pc := 7) (a := 1) (i := 1) 1 rfl rfl dX1_begin_7 ?_
  refine r_iload_n (pc := 8) (a := 2) (i := 2) 2 rfl rfl dX1_begin_8 ?_
  refine r_iload_n (pc := 9) (a := 3) (i := 3) 3 rfl rfl dX1_begin_9 ?_
  refine r_callSi (pc := 10) (st := [rv X (oH 0), rv X 28]) (As := [rv X (oH 0), iv p, iv 1]) (D2 := 1) okX1_bodyFor (by decide) trivial rfl (Nat.le_of_ble_eq_true rfl) km_X1_24 ((by have := kX1_bodyFor X (w := 1) (show 0 < 28 by decide) (hR.fr (J := up I 28 1 0) (fun a x y => up_row (by have : oH 0 = 45 := rfl; omega))) hV hp0 hp1 (by unfold rg; omega); rw [if_neg (by decide), hk] at this; exact this)) dX1_begin_10 ?_
  refine r_iload_n (pc := 13) (a := 2) (i := 2) 2 rfl rfl dX1_begin_13 ?_
  refine r_iconst (pc := 14) dX1_begin_14 ?_
  refine r_callSi (pc := 15) (st := []) (As := [rv X 28, rv X (oH 0), iv 21, iv p, iv 0]) okX1_gives (by decide) trivial rfl (Nat.le_of_ble_eq_true rfl) km_X1_28 (kg21 X (t := 0) (hR.fr (J := up I 28 1 0) (fun a x y => up_row (by have : oH 0 = 45 := rfl; omega))) hV hp0 hp1 up_s (by omega) (by omega) (by omega) (by omega)) dX1_begin_15 ?_
  refine r_iret (pc := 18) (st := []) rfl dX1_begin_18 ?_
  exact ⟨rfl, rfl⟩

set_option maxRecDepth 100000 in
set_option maxHeartbeats 4000000 in
theorem kbg51 (X : XC) {I : HD} {O : OF} {p : Int} (hR : RepC O I 0) (hV : Val O) (hp0 : 0 ≤ p) (hp1 : p < O 1) (hk : O (63 + 4 * p) = 5) : Cl X 7 mX1_begin [rv X 28, rv X (oH 0), iv p, iv 1] I (Ki (p - (O (64 + 4 * p) - 100)) (psL (up I 28 1 0) 29 28 1 0 [23, 20, 13, 10])) := by
  refine Cl.of (by decide) (Nat.le_of_ble_eq_true rfl) ?_
  show Rn X 7 mX1_begin _ 0 [(0, rv X 28), (1, rv X (oH 0)), (2, iv p), (3, iv 1)] [] I
  refine r_aload_n (pc := 0) (a := 0) (i := 0) 0 rfl rfl dX1_begin_0 ?_
  refine r_iconst (pc := 1) dX1_begin_1 ?_
  refine r_put (pc := 2) 1 (ji := 1) rfl ckX1 (by decide) rfl rfl (by decide) (Nat.le_of_ble_eq_true rfl) kf_X1_13 rfl rfl rfl rfl dX1_begin_2 ?_
  refine r_aload_n (pc := 5) (a := 0) (i := 0) 0 rfl rfl dX1_begin_5 ?_
  refine r_aload_n (pc := 6) (a := 1) (i := 1) 1 rfl rfl dX1_begin_6 ?_
  refine r_aload_n (pc := 7) (a := 1) (i := 1) 1 rfl rfl dX1_begin_7 ?_
  refine r_iload_n (pc := 8) (a := 2) (i := 2) 2 rfl rfl dX1_begin_8 ?_
  refine r_iload_n (pc := 9) (a := 3) (i := 3) 3 rfl rfl dX1_begin_9 ?_
  refine r_callSi (pc := 10) (st := [rv X (oH 0), rv X 28]) (As := [rv X (oH 0), iv p, iv 1]) (D2 := 1) okX1_bodyFor (by decide) trivial rfl (Nat.le_of_ble_eq_true rfl) km_X1_24 ((by have := kX1_bodyFor X (w := 1) (show 0 < 28 by decide) (hR.fr (J := up I 28 1 0) (fun a x y => up_row (by have : oH 0 = 45 := rfl; omega))) hV hp0 hp1 (by unfold rg; omega); rw [if_neg (by decide), hk] at this; exact this)) dX1_begin_10 ?_
  refine r_iload_n (pc := 13) (a := 2) (i := 2) 2 rfl rfl dX1_begin_13 ?_
  refine r_iconst (pc := 14) dX1_begin_14 ?_
  refine r_callSi (pc := 15) (st := []) (As := [rv X 28, rv X (oH 0), iv 23, iv p, iv 0]) okX1_gives (by decide) trivial rfl (Nat.le_of_ble_eq_true rfl) km_X1_28 (kg23 X (t := 0) (hR.fr (J := up I 28 1 0) (fun a x y => up_row (by have : oH 0 = 45 := rfl; omega))) hV hp0 hp1 up_s (by omega) (by omega) (by omega) (by omega) (by rw [hk]; rfl)) dX1_begin_15 ?_
  refine r_iret (pc := 18) (st := []) rfl dX1_begin_18 ?_
  exact ⟨rfl, rfl⟩

set_option maxRecDepth 100000 in
set_option maxHeartbeats 4000000 in
theorem kpl9 (X : XC) {I : HD} {O : OF} {p t : Int} (hO : I 34 = O) (hV : Val O) (hp0 : 0 ≤ p) (hp1 : p < O 1) (ht : I 30 27 = t) (t0 : 0 ≤ t) (t1 : t + 1 ≤ 16) : Cl X 1 mX9_plainSize [rv X 30, iv p] I (Ki (O (64 + 4 * p)) (psL I 44 30 27 t [10])) := by
  refine Cl.of (by decide) (Nat.le_of_ble_eq_true rfl) ?_
  show Rn X 1 mX9_plainSize _ 0 [(0, rv X 30), (1, iv p)] [] I
  have q0 := hV.a
  have qp := hV.p hp0 hp1
  refine r_aload_n (pc := 0) (a := 0) (i := 0) 0 rfl rfl dX9_plainSize_0 ?_
  refine r_bipush (pc := 1) rfl dX9_plainSize_1 ?_
  refine r_callVv (pc := 3) (st := []) (As := [iv 10]) okX9_began (by decide) (by decide) rfl rfl rfl (Nat.le_of_ble_eq_true rfl) km_X9_286 (kX9_began X (t := t) ht (by omega) (by omega)) dX9_plainSize_3 ?_
  refine r_I (J := psL I 44 30 27 t [10]) rfl ?_
  refine r_aload_n (pc := 6) (a := 0) (i := 0) 0 rfl rfl dX9_plainSize_6 ?_
  refine r_iload_n (pc := 7) (a := 1) (i := 1) 1 rfl rfl dX9_plainSize_7 ?_
  refine r_iconst (pc := 8) dX9_plainSize_8 ?_
  refine r_callVi (pc := 9) (st := []) (As := [iv p, iv 1]) okX9_of (by decide) (by decide) rfl rfl rfl (Nat.le_of_ble_eq_true rfl) km_X9_216 (kX9_of X ((psL_row (by decide) (by decide)).trans hO) hV (z := O (64 + 4 * p)) (by omega) (by omega) (by omega) (congrArg O (by omega))) dX9_plainSize_9 ?_
  refine r_iret (pc := 12) (st := []) rfl dX9_plainSize_12 ?_
  exact ⟨congrArg (fun q => some (iv q)) (by omega), rfl⟩

set_option maxRecDepth 100000 in
set_option maxHeartbeats 4000000 in
theorem ksl9 (X : XC) {I : HD} {O : OF} {p t : Int} (hO : I 34 = O) (hV : Val O) (hp0 : 0 ≤ p) (hp1 : p < O 1) (ht : I 30 27 = t) (t0 : 0 ≤ t) (t1 : t + 2 ≤ 16) : Cl X 2 mX9_slateSize [rv X 30, iv p] I (Ki (O (64 + 4 * p) - 100) (psL I 44 30 27 t [13, 10])) := by
  refine Cl.of (by decide) (Nat.le_of_ble_eq_true rfl) ?_
  show Rn X 2 mX9_slateSize _ 0 [(0, rv X 30), (1, iv p)] [] I
  have q0 := hV.a
  have qp := hV.p hp0 hp1
  refine r_aload_n (pc := 0) (a := 0) (i := 0) 0 rfl rfl dX9_slateSize_0 ?_
  refine r_bipush (pc := 1) rfl dX9_slateSize_1 ?_
  refine r_callVv (pc := 3) (st := []) (As := [iv 13]) okX9_began (by decide) (by decide) rfl rfl rfl (Nat.le_of_ble_eq_true rfl) km_X9_286 (kX9_began X (t := t) ht (by omega) (by omega)) dX9_slateSize_3 ?_
  refine r_I (J := psL I 44 30 27 t [13]) rfl ?_
  refine r_aload_n (pc := 6) (a := 0) (i := 0) 0 rfl rfl dX9_slateSize_6 ?_
  refine r_iload_n (pc := 7) (a := 1) (i := 1) 1 rfl rfl dX9_slateSize_7 ?_
  refine r_callVi (pc := 8) (st := []) (As := [iv p]) okX9_plainSize (by decide) (by decide) rfl rfl rfl (Nat.le_of_ble_eq_true rfl) km_X9_289 (kpl9 X (t := t + 1) ((psL_row (by decide) (by decide)).trans hO) hV hp0 hp1 (psL_c (bs := [13]) (by decide) ht (by simp only [List.length_cons, List.length_nil]; omega)) (by omega) (by omega)) dX9_slateSize_8 ?_
  refine r_I (J := psL I 44 30 27 t [13, 10]) rfl ?_
  refine r_bipush (pc := 11) rfl dX9_slateSize_11 ?_
  refine r_isub (pc := 13) dX9_slateSize_13 ?_
  refine r_iret (pc := 14) (st := []) rfl dX9_slateSize_14 ?_
  exact ⟨congrArg (fun q => some (iv q)) (by omega), rfl⟩

set_option maxRecDepth 100000 in
set_option maxHeartbeats 4000000 in
theorem kmk9_1 (X : XC) {I : HD} {O : OF} {p t : Int} (hO : I 34 = O) (hV : Val O) (hp0 : 0 ≤ p) (hp1 : p < O 1) (ht : I 30 27 = t) (t0 : 0 ≤ t) (t1 : t + 2 ≤ 16) (hk : O (63 + 4 * p) = 1) : Cl X 3 mX9_markOf [rv X 30, iv p] I (Ki (p + O (65 + 4 * p)) (psL I 44 30 27 t [21, 20])) := by
  refine Cl.of (by decide) (Nat.le_of_ble_eq_true rfl) ?_
  show Rn X 3 mX9_markOf _ 0 [(0, rv X 30), (1, iv p)] [] I
  have q0 := hV.a
  have qp := hV.p hp0 hp1
  refine r_aload_n (pc := 0) (a := 0) (i := 0) 0 rfl rfl dX9_markOf_0 ?_
  refine r_iload_n (pc := 1) (a := 1) (i := 1) 1 rfl rfl dX9_markOf_1 ?_
  refine r_iconst (pc := 2) dX9_markOf_2 ?_
  refine r_callVi (pc := 3) (st := []) (As := [iv p, iv 0]) okX9_of (by decide) (by decide) rfl rfl rfl (Nat.le_of_ble_eq_true rfl) km_X9_216 (kX9_of X hO hV (z := 1) (by omega) (by omega) (by omega) ((congrArg O (by omega)).trans hk)) dX9_markOf_3 ?_
  refine r_istore_n (pc := 6) (a := 2) (i := 2) rfl [(2, iv 1), (0, rv X 30), (1, iv p)] (by decide) rfl dX9_markOf_6 ?_
  refine r_iload_n (pc := 7) (a := 2) (i := 2) 0 rfl rfl dX9_markOf_7 ?_
  refine r_iconst (pc := 8) dX9_markOf_8 ?_
  refine r_icmp_ne (pc := 9) 32 (by unfold rg; omega) (by unfold rg; omega) dX9_markOf_9 (by decide) (fun h9 => ?_) (fun h9 => ?_)
  · skip
    refine r_iload_n (pc := 32) (a := 2) (i := 2) 0 rfl rfl dX9_markOf_32 ?_
    refine r_iconst (pc := 33) dX9_markOf_33 ?_
    refine r_icmp_ne (pc := 34) 43 (by unfold rg; omega) (by unfold rg; omega) dX9_markOf_34 (by decide) (fun h34 => ?_) (fun h34 => ?_)
    · skip
      refine r_iload_n (pc := 43) (a := 2) (i := 2) 0 rfl rfl dX9_markOf_43 ?_
      refine r_iconst (pc := 44) dX9_markOf_44 ?_
      refine r_icmp_eq (pc := 45) 53 (by unfold rg; omega) (by unfold rg; omega) dX9_markOf_45 (by decide) (fun h45 => ?_) (fun h45 => ?_)
      · exact absurd h45 (by decide)
      · skip
        refine r_iload_n (pc := 48) (a := 2) (i := 2) 0 rfl rfl dX9_markOf_48 ?_
        refine r_iconst (pc := 49) dX9_markOf_49 ?_
        refine r_icmp_ne (pc := 50) 59 (by unfold rg; omega) (by unfold rg; omega) dX9_markOf_50 (by decide) (fun h50 => ?_) (fun h50 => ?_)
        · skip
          refine r_aload_n (pc := 59) (a := 0) (i := 0) 1 rfl rfl dX9_markOf_59 ?_
          refine r_bipush (pc := 60) rfl dX9_markOf_60 ?_
          refine r_callVv (pc := 62) (st := []) (As := [iv 21]) okX9_began (by decide) (by decide) rfl rfl rfl (Nat.le_of_ble_eq_true rfl) km_X9_286 (kX9_began X (t := t) ht (by omega) (by omega)) dX9_markOf_62 ?_
          refine r_I (J := psL I 44 30 27 t [21]) rfl ?_
          refine r_aload_n (pc := 65) (a := 0) (i := 0) 1 rfl rfl dX9_markOf_65 ?_
          refine r_bipush (pc := 66) rfl dX9_markOf_66 ?_
          refine r_callVv (pc := 68) (st := []) (As := [iv 20]) okX9_began (by decide) (by decide) rfl rfl rfl (Nat.le_of_ble_eq_true rfl) km_X9_286 (kX9_began X (t := t + 1) (psL_c (bs := [21]) (by decide) ht (by simp only [List.length_cons, List.length_nil]; omega)) (by omega) (by omega)) dX9_markOf_68 ?_
          refine r_I (J := psL I 44 30 27 t [21, 20]) rfl ?_
          refine r_iload_n (pc := 71) (a := 1) (i := 1) 2 rfl rfl dX9_markOf_71 ?_
          refine r_aload_n (pc := 72) (a := 0) (i := 0) 1 rfl rfl dX9_markOf_72 ?_
          refine r_iload_n (pc := 73) (a := 1) (i := 1) 2 rfl rfl dX9_markOf_73 ?_
          refine r_iconst (pc := 74) dX9_markOf_74 ?_
          refine r_callVi (pc := 75) (st := [iv p]) (As := [iv p, iv 2]) okX9_of (by decide) (by decide) rfl rfl rfl (Nat.le_of_ble_eq_true rfl) km_X9_216 (kX9_of X ((psL_row (by decide) (by decide)).trans hO) hV (z := O (65 + 4 * p)) (by omega) (by omega) (by omega) (congrArg O (by omega))) dX9_markOf_75 ?_
          refine r_iadd (pc := 78) dX9_markOf_78 ?_
          refine r_iload_n (pc := 79) (a := 2) (i := 2) 0 rfl rfl dX9_markOf_79 ?_
          refine r_iconst (pc := 80) dX9_markOf_80 ?_
          refine r_icmp_eq (pc := 81) 89 (by unfold rg; omega) (by unfold rg; omega) dX9_markOf_81 (by decide) (fun h81 => ?_) (fun h81 => ?_)
          · exact absurd h81 (by decide)
          · skip
            refine r_iload_n (pc := 84) (a := 2) (i := 2) 0 rfl rfl dX9_markOf_84 ?_
            refine r_iconst (pc := 85) dX9_markOf_85 ?_
            refine r_icmp_ne (pc := 86) 95 (by unfold rg; omega) (by unfold rg; omega) dX9_markOf_86 (by decide) (fun h86 => ?_) (fun h86 => ?_)
            · skip
              refine r_iconst (pc := 95) dX9_markOf_95 ?_
              refine r_isub (pc := 96) dX9_markOf_96 ?_
              refine r_istore_n (pc := 97) (a := 3) (i := 3) rfl [(3, iv ((p + (O (65 + 4 * p))) - 0)), (2, iv 1), (0, rv X 30), (1, iv p)] (by decide) rfl dX9_markOf_97 ?_
              refine r_iload_n (pc := 98) (a := 2) (i := 2) 1 rfl rfl dX9_markOf_98 ?_
              refine r_iconst (pc := 99) dX9_markOf_99 ?_
              refine r_icmp_ne (pc := 100) 109 (by unfold rg; omega) (by unfold rg; omega) dX9_markOf_100 (by decide) (fun h100 => ?_) (fun h100 => ?_)
              · skip
                refine r_iload_n (pc := 109) (a := 3) (i := 3) 0 rfl rfl dX9_markOf_109 ?_
                refine r_iret (pc := 110) (st := []) rfl dX9_markOf_110 ?_
                exact ⟨congrArg (fun q => some (iv q)) (by omega), rfl⟩
              · exact absurd h100 (by decide)
            · exact absurd h86 (by decide)
        · exact absurd h50 (by decide)
    · exact absurd h34 (by decide)
  · exact absurd h9 (by decide)

set_option maxRecDepth 100000 in
set_option maxHeartbeats 4000000 in
theorem kmk9_2 (X : XC) {I : HD} {O : OF} {p t : Int} (hO : I 34 = O) (hV : Val O) (hp0 : 0 ≤ p) (hp1 : p < O 1) (ht : I 30 27 = t) (t0 : 0 ≤ t) (t1 : t + 3 ≤ 16) (hk : O (63 + 4 * p) = 2) : Cl X 3 mX9_markOf [rv X 30, iv p] I (Ki (p + O (65 + 4 * p) - 1000) (psL I 44 30 27 t [22, 21, 20])) := by
  refine Cl.of (by decide) (Nat.le_of_ble_eq_true rfl) ?_
  show Rn X 3 mX9_markOf _ 0 [(0, rv X 30), (1, iv p)] [] I
  have q0 := hV.a
  have qp := hV.p hp0 hp1
  refine r_aload_n (pc := 0) (a := 0) (i := 0) 0 rfl rfl dX9_markOf_0 ?_
  refine r_iload_n (pc := 1) (a := 1) (i := 1) 1 rfl rfl dX9_markOf_1 ?_
  refine r_iconst (pc := 2) dX9_markOf_2 ?_
  refine r_callVi (pc := 3) (st := []) (As := [iv p, iv 0]) okX9_of (by decide) (by decide) rfl rfl rfl (Nat.le_of_ble_eq_true rfl) km_X9_216 (kX9_of X hO hV (z := 2) (by omega) (by omega) (by omega) ((congrArg O (by omega)).trans hk)) dX9_markOf_3 ?_
  refine r_istore_n (pc := 6) (a := 2) (i := 2) rfl [(2, iv 2), (0, rv X 30), (1, iv p)] (by decide) rfl dX9_markOf_6 ?_
  refine r_iload_n (pc := 7) (a := 2) (i := 2) 0 rfl rfl dX9_markOf_7 ?_
  refine r_iconst (pc := 8) dX9_markOf_8 ?_
  refine r_icmp_ne (pc := 9) 32 (by unfold rg; omega) (by unfold rg; omega) dX9_markOf_9 (by decide) (fun h9 => ?_) (fun h9 => ?_)
  · skip
    refine r_iload_n (pc := 32) (a := 2) (i := 2) 0 rfl rfl dX9_markOf_32 ?_
    refine r_iconst (pc := 33) dX9_markOf_33 ?_
    refine r_icmp_ne (pc := 34) 43 (by unfold rg; omega) (by unfold rg; omega) dX9_markOf_34 (by decide) (fun h34 => ?_) (fun h34 => ?_)
    · skip
      refine r_iload_n (pc := 43) (a := 2) (i := 2) 0 rfl rfl dX9_markOf_43 ?_
      refine r_iconst (pc := 44) dX9_markOf_44 ?_
      refine r_icmp_eq (pc := 45) 53 (by unfold rg; omega) (by unfold rg; omega) dX9_markOf_45 (by decide) (fun h45 => ?_) (fun h45 => ?_)
      · skip
        refine r_aload_n (pc := 53) (a := 0) (i := 0) 1 rfl rfl dX9_markOf_53 ?_
        refine r_bipush (pc := 54) rfl dX9_markOf_54 ?_
        refine r_callVv (pc := 56) (st := []) (As := [iv 22]) okX9_began (by decide) (by decide) rfl rfl rfl (Nat.le_of_ble_eq_true rfl) km_X9_286 (kX9_began X (t := t) ht (by omega) (by omega)) dX9_markOf_56 ?_
        refine r_I (J := psL I 44 30 27 t [22]) rfl ?_
        refine r_aload_n (pc := 59) (a := 0) (i := 0) 1 rfl rfl dX9_markOf_59 ?_
        refine r_bipush (pc := 60) rfl dX9_markOf_60 ?_
        refine r_callVv (pc := 62) (st := []) (As := [iv 21]) okX9_began (by decide) (by decide) rfl rfl rfl (Nat.le_of_ble_eq_true rfl) km_X9_286 (kX9_began X (t := t + 1) (psL_c (bs := [22]) (by decide) ht (by simp only [List.length_cons, List.length_nil]; omega)) (by omega) (by omega)) dX9_markOf_62 ?_
        refine r_I (J := psL I 44 30 27 t [22, 21]) rfl ?_
        refine r_aload_n (pc := 65) (a := 0) (i := 0) 1 rfl rfl dX9_markOf_65 ?_
        refine r_bipush (pc := 66) rfl dX9_markOf_66 ?_
        refine r_callVv (pc := 68) (st := []) (As := [iv 20]) okX9_began (by decide) (by decide) rfl rfl rfl (Nat.le_of_ble_eq_true rfl) km_X9_286 (kX9_began X (t := t + 1 + 1) (psL_c (bs := [22, 21]) (by decide) ht (by simp only [List.length_cons, List.length_nil]; omega)) (by omega) (by omega)) dX9_markOf_68 ?_
        refine r_I (J := psL I 44 30 27 t [22, 21, 20]) rfl ?_
        refine r_iload_n (pc := 71) (a := 1) (i := 1) 2 rfl rfl dX9_markOf_71 ?_
        refine r_aload_n (pc := 72) (a := 0) (i := 0) 1 rfl rfl dX9_markOf_72 ?_
        refine r_iload_n (pc := 73) (a := 1) (i := 1) 2 rfl rfl dX9_markOf_73 ?_
        refine r_iconst (pc := 74) dX9_markOf_74 ?_
        refine r_callVi (pc := 75) (st := [iv p]) (As := [iv p, iv 2]) okX9_of (by decide) (by decide) rfl rfl rfl (Nat.le_of_ble_eq_true rfl) km_X9_216 (kX9_of X ((psL_row (by decide) (by decide)).trans hO) hV (z := O (65 + 4 * p)) (by omega) (by omega) (by omega) (congrArg O (by omega))) dX9_markOf_75 ?_
        refine r_iadd (pc := 78) dX9_markOf_78 ?_
        refine r_iload_n (pc := 79) (a := 2) (i := 2) 0 rfl rfl dX9_markOf_79 ?_
        refine r_iconst (pc := 80) dX9_markOf_80 ?_
        refine r_icmp_eq (pc := 81) 89 (by unfold rg; omega) (by unfold rg; omega) dX9_markOf_81 (by decide) (fun h81 => ?_) (fun h81 => ?_)
        · skip
          refine r_sipush (pc := 89) rfl dX9_markOf_89 ?_
          refine r_goto (pc := 92) 96 dX9_markOf_92 (by decide) ?_
          refine r_isub (pc := 96) dX9_markOf_96 ?_
          refine r_istore_n (pc := 97) (a := 3) (i := 3) rfl [(3, iv ((p + (O (65 + 4 * p))) - 1000)), (2, iv 2), (0, rv X 30), (1, iv p)] (by decide) rfl dX9_markOf_97 ?_
          refine r_iload_n (pc := 98) (a := 2) (i := 2) 1 rfl rfl dX9_markOf_98 ?_
          refine r_iconst (pc := 99) dX9_markOf_99 ?_
          refine r_icmp_ne (pc := 100) 109 (by unfold rg; omega) (by unfold rg; omega) dX9_markOf_100 (by decide) (fun h100 => ?_) (fun h100 => ?_)
          · skip
            refine r_iload_n (pc := 109) (a := 3) (i := 3) 0 rfl rfl dX9_markOf_109 ?_
            refine r_iret (pc := 110) (st := []) rfl dX9_markOf_110 ?_
            exact ⟨congrArg (fun q => some (iv q)) (by omega), rfl⟩
          · exact absurd h100 (by decide)
        · exact absurd h81 (by decide)
      · exact absurd h45 (by decide)
    · exact absurd h34 (by decide)
  · exact absurd h9 (by decide)

set_option maxRecDepth 100000 in
set_option maxHeartbeats 4000000 in
theorem kmk9_3 (X : XC) {I : HD} {O : OF} {p t : Int} (hO : I 34 = O) (hV : Val O) (hp0 : 0 ≤ p) (hp1 : p < O 1) (ht : I 30 27 = t) (t0 : 0 ≤ t) (t1 : t + 4 ≤ 16) (hk : O (63 + 4 * p) = 3) : Cl X 3 mX9_markOf [rv X 30, iv p] I (Ki (2 * (p + O (65 + 4 * p) - 1000)) (psL I 44 30 27 t [24, 22, 21, 20])) := by
  refine Cl.of (by decide) (Nat.le_of_ble_eq_true rfl) ?_
  show Rn X 3 mX9_markOf _ 0 [(0, rv X 30), (1, iv p)] [] I
  have q0 := hV.a
  have qp := hV.p hp0 hp1
  refine r_aload_n (pc := 0) (a := 0) (i := 0) 0 rfl rfl dX9_markOf_0 ?_
  refine r_iload_n (pc := 1) (a := 1) (i := 1) 1 rfl rfl dX9_markOf_1 ?_
  refine r_iconst (pc := 2) dX9_markOf_2 ?_
  refine r_callVi (pc := 3) (st := []) (As := [iv p, iv 0]) okX9_of (by decide) (by decide) rfl rfl rfl (Nat.le_of_ble_eq_true rfl) km_X9_216 (kX9_of X hO hV (z := 3) (by omega) (by omega) (by omega) ((congrArg O (by omega)).trans hk)) dX9_markOf_3 ?_
  refine r_istore_n (pc := 6) (a := 2) (i := 2) rfl [(2, iv 3), (0, rv X 30), (1, iv p)] (by decide) rfl dX9_markOf_6 ?_
  refine r_iload_n (pc := 7) (a := 2) (i := 2) 0 rfl rfl dX9_markOf_7 ?_
  refine r_iconst (pc := 8) dX9_markOf_8 ?_
  refine r_icmp_ne (pc := 9) 32 (by unfold rg; omega) (by unfold rg; omega) dX9_markOf_9 (by decide) (fun h9 => ?_) (fun h9 => ?_)
  · skip
    refine r_iload_n (pc := 32) (a := 2) (i := 2) 0 rfl rfl dX9_markOf_32 ?_
    refine r_iconst (pc := 33) dX9_markOf_33 ?_
    refine r_icmp_ne (pc := 34) 43 (by unfold rg; omega) (by unfold rg; omega) dX9_markOf_34 (by decide) (fun h34 => ?_) (fun h34 => ?_)
    · exact absurd h34 (by decide)
    · skip
      refine r_aload_n (pc := 37) (a := 0) (i := 0) 1 rfl rfl dX9_markOf_37 ?_
      refine r_bipush (pc := 38) rfl dX9_markOf_38 ?_
      refine r_callVv (pc := 40) (st := []) (As := [iv 24]) okX9_began (by decide) (by decide) rfl rfl rfl (Nat.le_of_ble_eq_true rfl) km_X9_286 (kX9_began X (t := t) ht (by omega) (by omega)) dX9_markOf_40 ?_
      refine r_I (J := psL I 44 30 27 t [24]) rfl ?_
      refine r_iload_n (pc := 43) (a := 2) (i := 2) 0 rfl rfl dX9_markOf_43 ?_
      refine r_iconst (pc := 44) dX9_markOf_44 ?_
      refine r_icmp_eq (pc := 45) 53 (by unfold rg; omega) (by unfold rg; omega) dX9_markOf_45 (by decide) (fun h45 => ?_) (fun h45 => ?_)
      · exact absurd h45 (by decide)
      · skip
        refine r_iload_n (pc := 48) (a := 2) (i := 2) 0 rfl rfl dX9_markOf_48 ?_
        refine r_iconst (pc := 49) dX9_markOf_49 ?_
        refine r_icmp_ne (pc := 50) 59 (by unfold rg; omega) (by unfold rg; omega) dX9_markOf_50 (by decide) (fun h50 => ?_) (fun h50 => ?_)
        · exact absurd h50 (by decide)
        · skip
          refine r_aload_n (pc := 53) (a := 0) (i := 0) 1 rfl rfl dX9_markOf_53 ?_
          refine r_bipush (pc := 54) rfl dX9_markOf_54 ?_
          refine r_callVv (pc := 56) (st := []) (As := [iv 22]) okX9_began (by decide) (by decide) rfl rfl rfl (Nat.le_of_ble_eq_true rfl) km_X9_286 (kX9_began X (t := t + 1) (psL_c (bs := [24]) (by decide) ht (by simp only [List.length_cons, List.length_nil]; omega)) (by omega) (by omega)) dX9_markOf_56 ?_
          refine r_I (J := psL I 44 30 27 t [24, 22]) rfl ?_
          refine r_aload_n (pc := 59) (a := 0) (i := 0) 1 rfl rfl dX9_markOf_59 ?_
          refine r_bipush (pc := 60) rfl dX9_markOf_60 ?_
          refine r_callVv (pc := 62) (st := []) (As := [iv 21]) okX9_began (by decide) (by decide) rfl rfl rfl (Nat.le_of_ble_eq_true rfl) km_X9_286 (kX9_began X (t := t + 1 + 1) (psL_c (bs := [24, 22]) (by decide) ht (by simp only [List.length_cons, List.length_nil]; omega)) (by omega) (by omega)) dX9_markOf_62 ?_
          refine r_I (J := psL I 44 30 27 t [24, 22, 21]) rfl ?_
          refine r_aload_n (pc := 65) (a := 0) (i := 0) 1 rfl rfl dX9_markOf_65 ?_
          refine r_bipush (pc := 66) rfl dX9_markOf_66 ?_
          refine r_callVv (pc := 68) (st := []) (As := [iv 20]) okX9_began (by decide) (by decide) rfl rfl rfl (Nat.le_of_ble_eq_true rfl) km_X9_286 (kX9_began X (t := t + 1 + 1 + 1) (psL_c (bs := [24, 22, 21]) (by decide) ht (by simp only [List.length_cons, List.length_nil]; omega)) (by omega) (by omega)) dX9_markOf_68 ?_
          refine r_I (J := psL I 44 30 27 t [24, 22, 21, 20]) rfl ?_
          refine r_iload_n (pc := 71) (a := 1) (i := 1) 2 rfl rfl dX9_markOf_71 ?_
          refine r_aload_n (pc := 72) (a := 0) (i := 0) 1 rfl rfl dX9_markOf_72 ?_
          refine r_iload_n (pc := 73) (a := 1) (i := 1) 2 rfl rfl dX9_markOf_73 ?_
          refine r_iconst (pc := 74) dX9_markOf_74 ?_
          refine r_callVi (pc := 75) (st := [iv p]) (As := [iv p, iv 2]) okX9_of (by decide) (by decide) rfl rfl rfl (Nat.le_of_ble_eq_true rfl) km_X9_216 (kX9_of X ((psL_row (by decide) (by decide)).trans hO) hV (z := O (65 + 4 * p)) (by omega) (by omega) (by omega) (congrArg O (by omega))) dX9_markOf_75 ?_
          refine r_iadd (pc := 78) dX9_markOf_78 ?_
          refine r_iload_n (pc := 79) (a := 2) (i := 2) 0 rfl rfl dX9_markOf_79 ?_
          refine r_iconst (pc := 80) dX9_markOf_80 ?_
          refine r_icmp_eq (pc := 81) 89 (by unfold rg; omega) (by unfold rg; omega) dX9_markOf_81 (by decide) (fun h81 => ?_) (fun h81 => ?_)
          · exact absurd h81 (by decide)
          · skip
            refine r_iload_n (pc := 84) (a := 2) (i := 2) 0 rfl rfl dX9_markOf_84 ?_
            refine r_iconst (pc := 85) dX9_markOf_85 ?_
            refine r_icmp_ne (pc := 86) 95 (by unfold rg; omega) (by unfold rg; omega) dX9_markOf_86 (by decide) (fun h86 => ?_) (fun h86 => ?_)
            · exact absurd h86 (by decide)
            · skip
              refine r_sipush (pc := 89) rfl dX9_markOf_89 ?_
              refine r_goto (pc := 92) 96 dX9_markOf_92 (by decide) ?_
              refine r_isub (pc := 96) dX9_markOf_96 ?_
              refine r_istore_n (pc := 97) (a := 3) (i := 3) rfl [(3, iv ((p + (O (65 + 4 * p))) - 1000)), (2, iv 3), (0, rv X 30), (1, iv p)] (by decide) rfl dX9_markOf_97 ?_
              refine r_iload_n (pc := 98) (a := 2) (i := 2) 1 rfl rfl dX9_markOf_98 ?_
              refine r_iconst (pc := 99) dX9_markOf_99 ?_
              refine r_icmp_ne (pc := 100) 109 (by unfold rg; omega) (by unfold rg; omega) dX9_markOf_100 (by decide) (fun h100 => ?_) (fun h100 => ?_)
              · exact absurd h100 (by decide)
              · skip
                refine r_iconst (pc := 103) dX9_markOf_103 ?_
                refine r_iload_n (pc := 104) (a := 3) (i := 3) 0 rfl rfl dX9_markOf_104 ?_
                refine r_imul (pc := 105) dX9_markOf_105 ?_
                refine r_goto (pc := 106) 110 dX9_markOf_106 (by decide) ?_
                refine r_iret (pc := 110) (st := []) rfl dX9_markOf_110 ?_
                exact ⟨congrArg (fun q => some (iv q)) (by omega), rfl⟩
  · exact absurd h9 (by decide)

set_option maxRecDepth 100000 in
set_option maxHeartbeats 4000000 in
theorem kmk9_4 (X : XC) {I : HD} {O : OF} {p t : Int} (hO : I 34 = O) (hV : Val O) (hp0 : 0 ≤ p) (hp1 : p < O 1) (ht : I 30 27 = t) (t0 : 0 ≤ t) (t1 : t + 2 ≤ 16) (hk : O (63 + 4 * p) = 4) : Cl X 3 mX9_markOf [rv X 30, iv p] I (Ki (p + O (65 + 4 * p)) (psL I 44 30 27 t [21, 20])) := by
  refine Cl.of (by decide) (Nat.le_of_ble_eq_true rfl) ?_
  show Rn X 3 mX9_markOf _ 0 [(0, rv X 30), (1, iv p)] [] I
  have q0 := hV.a
  have qp := hV.p hp0 hp1
  refine r_aload_n (pc := 0) (a := 0) (i := 0) 0 rfl rfl dX9_markOf_0 ?_
  refine r_iload_n (pc := 1) (a := 1) (i := 1) 1 rfl rfl dX9_markOf_1 ?_
  refine r_iconst (pc := 2) dX9_markOf_2 ?_
  refine r_callVi (pc := 3) (st := []) (As := [iv p, iv 0]) okX9_of (by decide) (by decide) rfl rfl rfl (Nat.le_of_ble_eq_true rfl) km_X9_216 (kX9_of X hO hV (z := 4) (by omega) (by omega) (by omega) ((congrArg O (by omega)).trans hk)) dX9_markOf_3 ?_
  refine r_istore_n (pc := 6) (a := 2) (i := 2) rfl [(2, iv 4), (0, rv X 30), (1, iv p)] (by decide) rfl dX9_markOf_6 ?_
  refine r_iload_n (pc := 7) (a := 2) (i := 2) 0 rfl rfl dX9_markOf_7 ?_
  refine r_iconst (pc := 8) dX9_markOf_8 ?_
  refine r_icmp_ne (pc := 9) 32 (by unfold rg; omega) (by unfold rg; omega) dX9_markOf_9 (by decide) (fun h9 => ?_) (fun h9 => ?_)
  · skip
    refine r_iload_n (pc := 32) (a := 2) (i := 2) 0 rfl rfl dX9_markOf_32 ?_
    refine r_iconst (pc := 33) dX9_markOf_33 ?_
    refine r_icmp_ne (pc := 34) 43 (by unfold rg; omega) (by unfold rg; omega) dX9_markOf_34 (by decide) (fun h34 => ?_) (fun h34 => ?_)
    · skip
      refine r_iload_n (pc := 43) (a := 2) (i := 2) 0 rfl rfl dX9_markOf_43 ?_
      refine r_iconst (pc := 44) dX9_markOf_44 ?_
      refine r_icmp_eq (pc := 45) 53 (by unfold rg; omega) (by unfold rg; omega) dX9_markOf_45 (by decide) (fun h45 => ?_) (fun h45 => ?_)
      · exact absurd h45 (by decide)
      · skip
        refine r_iload_n (pc := 48) (a := 2) (i := 2) 0 rfl rfl dX9_markOf_48 ?_
        refine r_iconst (pc := 49) dX9_markOf_49 ?_
        refine r_icmp_ne (pc := 50) 59 (by unfold rg; omega) (by unfold rg; omega) dX9_markOf_50 (by decide) (fun h50 => ?_) (fun h50 => ?_)
        · skip
          refine r_aload_n (pc := 59) (a := 0) (i := 0) 1 rfl rfl dX9_markOf_59 ?_
          refine r_bipush (pc := 60) rfl dX9_markOf_60 ?_
          refine r_callVv (pc := 62) (st := []) (As := [iv 21]) okX9_began (by decide) (by decide) rfl rfl rfl (Nat.le_of_ble_eq_true rfl) km_X9_286 (kX9_began X (t := t) ht (by omega) (by omega)) dX9_markOf_62 ?_
          refine r_I (J := psL I 44 30 27 t [21]) rfl ?_
          refine r_aload_n (pc := 65) (a := 0) (i := 0) 1 rfl rfl dX9_markOf_65 ?_
          refine r_bipush (pc := 66) rfl dX9_markOf_66 ?_
          refine r_callVv (pc := 68) (st := []) (As := [iv 20]) okX9_began (by decide) (by decide) rfl rfl rfl (Nat.le_of_ble_eq_true rfl) km_X9_286 (kX9_began X (t := t + 1) (psL_c (bs := [21]) (by decide) ht (by simp only [List.length_cons, List.length_nil]; omega)) (by omega) (by omega)) dX9_markOf_68 ?_
          refine r_I (J := psL I 44 30 27 t [21, 20]) rfl ?_
          refine r_iload_n (pc := 71) (a := 1) (i := 1) 2 rfl rfl dX9_markOf_71 ?_
          refine r_aload_n (pc := 72) (a := 0) (i := 0) 1 rfl rfl dX9_markOf_72 ?_
          refine r_iload_n (pc := 73) (a := 1) (i := 1) 2 rfl rfl dX9_markOf_73 ?_
          refine r_iconst (pc := 74) dX9_markOf_74 ?_
          refine r_callVi (pc := 75) (st := [iv p]) (As := [iv p, iv 2]) okX9_of (by decide) (by decide) rfl rfl rfl (Nat.le_of_ble_eq_true rfl) km_X9_216 (kX9_of X ((psL_row (by decide) (by decide)).trans hO) hV (z := O (65 + 4 * p)) (by omega) (by omega) (by omega) (congrArg O (by omega))) dX9_markOf_75 ?_
          refine r_iadd (pc := 78) dX9_markOf_78 ?_
          refine r_iload_n (pc := 79) (a := 2) (i := 2) 0 rfl rfl dX9_markOf_79 ?_
          refine r_iconst (pc := 80) dX9_markOf_80 ?_
          refine r_icmp_eq (pc := 81) 89 (by unfold rg; omega) (by unfold rg; omega) dX9_markOf_81 (by decide) (fun h81 => ?_) (fun h81 => ?_)
          · exact absurd h81 (by decide)
          · skip
            refine r_iload_n (pc := 84) (a := 2) (i := 2) 0 rfl rfl dX9_markOf_84 ?_
            refine r_iconst (pc := 85) dX9_markOf_85 ?_
            refine r_icmp_ne (pc := 86) 95 (by unfold rg; omega) (by unfold rg; omega) dX9_markOf_86 (by decide) (fun h86 => ?_) (fun h86 => ?_)
            · skip
              refine r_iconst (pc := 95) dX9_markOf_95 ?_
              refine r_isub (pc := 96) dX9_markOf_96 ?_
              refine r_istore_n (pc := 97) (a := 3) (i := 3) rfl [(3, iv ((p + (O (65 + 4 * p))) - 0)), (2, iv 4), (0, rv X 30), (1, iv p)] (by decide) rfl dX9_markOf_97 ?_
              refine r_iload_n (pc := 98) (a := 2) (i := 2) 1 rfl rfl dX9_markOf_98 ?_
              refine r_iconst (pc := 99) dX9_markOf_99 ?_
              refine r_icmp_ne (pc := 100) 109 (by unfold rg; omega) (by unfold rg; omega) dX9_markOf_100 (by decide) (fun h100 => ?_) (fun h100 => ?_)
              · skip
                refine r_iload_n (pc := 109) (a := 3) (i := 3) 0 rfl rfl dX9_markOf_109 ?_
                refine r_iret (pc := 110) (st := []) rfl dX9_markOf_110 ?_
                exact ⟨congrArg (fun q => some (iv q)) (by omega), rfl⟩
              · exact absurd h100 (by decide)
            · exact absurd h86 (by decide)
        · exact absurd h50 (by decide)
    · exact absurd h34 (by decide)
  · exact absurd h9 (by decide)

set_option maxRecDepth 100000 in
set_option maxHeartbeats 4000000 in
theorem kmk9_5 (X : XC) {I : HD} {O : OF} {p t : Int} (hO : I 34 = O) (hV : Val O) (hp0 : 0 ≤ p) (hp1 : p < O 1) (ht : I 30 27 = t) (t0 : 0 ≤ t) (t1 : t + 4 ≤ 16) (hk : O (63 + 4 * p) = 5) : Cl X 3 mX9_markOf [rv X 30, iv p] I (Ki (p - (O (64 + 4 * p) - 100)) (psL I 44 30 27 t [23, 20, 13, 10])) := by
  refine Cl.of (by decide) (Nat.le_of_ble_eq_true rfl) ?_
  show Rn X 3 mX9_markOf _ 0 [(0, rv X 30), (1, iv p)] [] I
  have q0 := hV.a
  have qp := hV.p hp0 hp1
  refine r_aload_n (pc := 0) (a := 0) (i := 0) 0 rfl rfl dX9_markOf_0 ?_
  refine r_iload_n (pc := 1) (a := 1) (i := 1) 1 rfl rfl dX9_markOf_1 ?_
  refine r_iconst (pc := 2) dX9_markOf_2 ?_
  refine r_callVi (pc := 3) (st := []) (As := [iv p, iv 0]) okX9_of (by decide) (by decide) rfl rfl rfl (Nat.le_of_ble_eq_true rfl) km_X9_216 (kX9_of X hO hV (z := 5) (by omega) (by omega) (by omega) ((congrArg O (by omega)).trans hk)) dX9_markOf_3 ?_
  refine r_istore_n (pc := 6) (a := 2) (i := 2) rfl [(2, iv 5), (0, rv X 30), (1, iv p)] (by decide) rfl dX9_markOf_6 ?_
  refine r_iload_n (pc := 7) (a := 2) (i := 2) 0 rfl rfl dX9_markOf_7 ?_
  refine r_iconst (pc := 8) dX9_markOf_8 ?_
  refine r_icmp_ne (pc := 9) 32 (by unfold rg; omega) (by unfold rg; omega) dX9_markOf_9 (by decide) (fun h9 => ?_) (fun h9 => ?_)
  · exact absurd h9 (by decide)
  · skip
    refine r_aload_n (pc := 12) (a := 0) (i := 0) 1 rfl rfl dX9_markOf_12 ?_
    refine r_bipush (pc := 13) rfl dX9_markOf_13 ?_
    refine r_callVv (pc := 15) (st := []) (As := [iv 23]) okX9_began (by decide) (by decide) rfl rfl rfl (Nat.le_of_ble_eq_true rfl) km_X9_286 (kX9_began X (t := t) ht (by omega) (by omega)) dX9_markOf_15 ?_
    refine r_I (J := psL I 44 30 27 t [23]) rfl ?_
    refine r_aload_n (pc := 18) (a := 0) (i := 0) 1 rfl rfl dX9_markOf_18 ?_
    refine r_bipush (pc := 19) rfl dX9_markOf_19 ?_
    refine r_callVv (pc := 21) (st := []) (As := [iv 20]) okX9_began (by decide) (by decide) rfl rfl rfl (Nat.le_of_ble_eq_true rfl) km_X9_286 (kX9_began X (t := t + 1) (psL_c (bs := [23]) (by decide) ht (by simp only [List.length_cons, List.length_nil]; omega)) (by omega) (by omega)) dX9_markOf_21 ?_
    refine r_I (J := psL I 44 30 27 t [23, 20]) rfl ?_
    refine r_iload_n (pc := 24) (a := 1) (i := 1) 2 rfl rfl dX9_markOf_24 ?_
    refine r_aload_n (pc := 25) (a := 0) (i := 0) 1 rfl rfl dX9_markOf_25 ?_
    refine r_iload_n (pc := 26) (a := 1) (i := 1) 2 rfl rfl dX9_markOf_26 ?_
    refine r_callVi (pc := 27) (st := [iv p]) (As := [iv p]) okX9_slateSize (by decide) (by decide) rfl rfl rfl (Nat.le_of_ble_eq_true rfl) km_X9_292 (ksl9 X (t := t + 1 + 1) ((psL_row (by decide) (by decide)).trans hO) hV hp0 hp1 (psL_c (bs := [23, 20]) (by decide) ht (by simp only [List.length_cons, List.length_nil]; omega)) (by omega) (by omega)) dX9_markOf_27 ?_
    refine r_I (J := psL I 44 30 27 t [23, 20, 13, 10]) rfl ?_
    refine r_isub (pc := 30) dX9_markOf_30 ?_
    refine r_iret (pc := 31) (st := []) rfl dX9_markOf_31 ?_
    exact ⟨congrArg (fun q => some (iv q)) (by omega), rfl⟩

set_option maxRecDepth 100000 in
set_option maxHeartbeats 4000000 in
theorem ksz9_1 (X : XC) {I : HD} {O : OF} {p t : Int} (hO : I 34 = O) (hV : Val O) (hp0 : 0 ≤ p) (hp1 : p < O 1) (ht : I 30 27 = t) (t0 : 0 ≤ t) (t1 : t + 4 ≤ 16) (hk : O (63 + 4 * p) = 1) : Cl X 4 mX9_sizeOf [rv X 30, iv p] I (Ki (O (64 + 4 * p) + (p + O (65 + 4 * p))) (psL I 44 30 27 t [11, 10, 21, 20])) := by
  refine Cl.of (by decide) (Nat.le_of_ble_eq_true rfl) ?_
  show Rn X 4 mX9_sizeOf _ 0 [(0, rv X 30), (1, iv p)] [] I
  have q0 := hV.a
  have qp := hV.p hp0 hp1
  refine r_aload_n (pc := 0) (a := 0) (i := 0) 0 rfl rfl dX9_sizeOf_0 ?_
  refine r_iload_n (pc := 1) (a := 1) (i := 1) 1 rfl rfl dX9_sizeOf_1 ?_
  refine r_iconst (pc := 2) dX9_sizeOf_2 ?_
  refine r_callVi (pc := 3) (st := []) (As := [iv p, iv 0]) okX9_of (by decide) (by decide) rfl rfl rfl (Nat.le_of_ble_eq_true rfl) km_X9_216 (kX9_of X hO hV (z := 1) (by omega) (by omega) (by omega) ((congrArg O (by omega)).trans hk)) dX9_sizeOf_3 ?_
  refine r_istore_n (pc := 6) (a := 2) (i := 2) rfl [(2, iv 1), (0, rv X 30), (1, iv p)] (by decide) rfl dX9_sizeOf_6 ?_
  refine r_iload_n (pc := 7) (a := 2) (i := 2) 0 rfl rfl dX9_sizeOf_7 ?_
  refine r_iconst (pc := 8) dX9_sizeOf_8 ?_
  refine r_icmp_ne (pc := 9) 18 (by unfold rg; omega) (by unfold rg; omega) dX9_sizeOf_9 (by decide) (fun h9 => ?_) (fun h9 => ?_)
  · skip
    refine r_iload_n (pc := 18) (a := 2) (i := 2) 0 rfl rfl dX9_sizeOf_18 ?_
    refine r_iconst (pc := 19) dX9_sizeOf_19 ?_
    refine r_icmp_eq (pc := 20) 28 (by unfold rg; omega) (by unfold rg; omega) dX9_sizeOf_20 (by decide) (fun h20 => ?_) (fun h20 => ?_)
    · exact absurd h20 (by decide)
    · skip
      refine r_iload_n (pc := 23) (a := 2) (i := 2) 0 rfl rfl dX9_sizeOf_23 ?_
      refine r_iconst (pc := 24) dX9_sizeOf_24 ?_
      refine r_icmp_ne (pc := 25) 44 (by unfold rg; omega) (by unfold rg; omega) dX9_sizeOf_25 (by decide) (fun h25 => ?_) (fun h25 => ?_)
      · skip
        refine r_aload_n (pc := 44) (a := 0) (i := 0) 1 rfl rfl dX9_sizeOf_44 ?_
        refine r_bipush (pc := 45) rfl dX9_sizeOf_45 ?_
        refine r_callVv (pc := 47) (st := []) (As := [iv 11]) okX9_began (by decide) (by decide) rfl rfl rfl (Nat.le_of_ble_eq_true rfl) km_X9_286 (kX9_began X (t := t) ht (by omega) (by omega)) dX9_sizeOf_47 ?_
        refine r_I (J := psL I 44 30 27 t [11]) rfl ?_
        refine r_aload_n (pc := 50) (a := 0) (i := 0) 1 rfl rfl dX9_sizeOf_50 ?_
        refine r_iload_n (pc := 51) (a := 1) (i := 1) 2 rfl rfl dX9_sizeOf_51 ?_
        refine r_callVi (pc := 52) (st := []) (As := [iv p]) okX9_plainSize (by decide) (by decide) rfl rfl rfl (Nat.le_of_ble_eq_true rfl) km_X9_289 (kpl9 X (t := t + 1) ((psL_row (by decide) (by decide)).trans hO) hV hp0 hp1 (psL_c (bs := [11]) (by decide) ht (by simp only [List.length_cons, List.length_nil]; omega)) (by omega) (by omega)) dX9_sizeOf_52 ?_
        refine r_I (J := psL I 44 30 27 t [11, 10]) rfl ?_
        refine r_istore_n (pc := 55) (a := 3) (i := 3) rfl [(3, iv (O (64 + 4 * p))), (2, iv 1), (0, rv X 30), (1, iv p)] (by decide) rfl dX9_sizeOf_55 ?_
        refine r_iload_n (pc := 56) (a := 3) (i := 3) 0 rfl rfl dX9_sizeOf_56 ?_
        refine r_aload_n (pc := 57) (a := 0) (i := 0) 2 rfl rfl dX9_sizeOf_57 ?_
        refine r_iload_n (pc := 58) (a := 1) (i := 1) 3 rfl rfl dX9_sizeOf_58 ?_
        refine r_callVi (pc := 59) (st := [iv (O (64 + 4 * p))]) (As := [iv p]) okX9_markOf (by decide) (by decide) rfl rfl rfl (Nat.le_of_ble_eq_true rfl) km_X9_295 (kmk9_1 X (t := t + 1 + 1) ((psL_row (by decide) (by decide)).trans hO) hV hp0 hp1 (psL_c (bs := [11, 10]) (by decide) ht (by simp only [List.length_cons, List.length_nil]; omega)) (by omega) (by omega) hk) dX9_sizeOf_59 ?_
        refine r_I (J := psL I 44 30 27 t [11, 10, 21, 20]) rfl ?_
        refine r_iadd (pc := 62) dX9_sizeOf_62 ?_
        refine r_istore_n (pc := 63) (a := 3) (i := 3) rfl [(3, iv ((O (64 + 4 * p)) + (p + O (65 + 4 * p)))), (2, iv 1), (0, rv X 30), (1, iv p)] (by decide) rfl dX9_sizeOf_63 ?_
        refine r_iload_n (pc := 64) (a := 2) (i := 2) 1 rfl rfl dX9_sizeOf_64 ?_
        refine r_iconst (pc := 65) dX9_sizeOf_65 ?_
        refine r_icmp_ne (pc := 66) 74 (by unfold rg; omega) (by unfold rg; omega) dX9_sizeOf_66 (by decide) (fun h66 => ?_) (fun h66 => ?_)
        · skip
          refine r_iload_n (pc := 74) (a := 2) (i := 2) 1 rfl rfl dX9_sizeOf_74 ?_
          refine r_iconst (pc := 75) dX9_sizeOf_75 ?_
          refine r_icmp_ne (pc := 76) 85 (by unfold rg; omega) (by unfold rg; omega) dX9_sizeOf_76 (by decide) (fun h76 => ?_) (fun h76 => ?_)
          · skip
            refine r_iload_n (pc := 85) (a := 3) (i := 3) 0 rfl rfl dX9_sizeOf_85 ?_
            refine r_iret (pc := 86) (st := []) rfl dX9_sizeOf_86 ?_
            exact ⟨congrArg (fun q => some (iv q)) (by omega), rfl⟩
          · exact absurd h76 (by decide)
        · exact absurd h66 (by decide)
      · exact absurd h25 (by decide)
  · exact absurd h9 (by decide)

set_option maxRecDepth 100000 in
set_option maxHeartbeats 4000000 in
theorem ksz9_2 (X : XC) {I : HD} {O : OF} {p t : Int} (hO : I 34 = O) (hV : Val O) (hp0 : 0 ≤ p) (hp1 : p < O 1) (ht : I 30 27 = t) (t0 : 0 ≤ t) (t1 : t + 5 ≤ 16) (hk : O (63 + 4 * p) = 2) : Cl X 4 mX9_sizeOf [rv X 30, iv p] I (Ki (O (64 + 4 * p) + (p + O (65 + 4 * p) - 1000)) (psL I 44 30 27 t [11, 10, 22, 21, 20])) := by
  refine Cl.of (by decide) (Nat.le_of_ble_eq_true rfl) ?_
  show Rn X 4 mX9_sizeOf _ 0 [(0, rv X 30), (1, iv p)] [] I
  have q0 := hV.a
  have qp := hV.p hp0 hp1
  refine r_aload_n (pc := 0) (a := 0) (i := 0) 0 rfl rfl dX9_sizeOf_0 ?_
  refine r_iload_n (pc := 1) (a := 1) (i := 1) 1 rfl rfl dX9_sizeOf_1 ?_
  refine r_iconst (pc := 2) dX9_sizeOf_2 ?_
  refine r_callVi (pc := 3) (st := []) (As := [iv p, iv 0]) okX9_of (by decide) (by decide) rfl rfl rfl (Nat.le_of_ble_eq_true rfl) km_X9_216 (kX9_of X hO hV (z := 2) (by omega) (by omega) (by omega) ((congrArg O (by omega)).trans hk)) dX9_sizeOf_3 ?_
  refine r_istore_n (pc := 6) (a := 2) (i := 2) rfl [(2, iv 2), (0, rv X 30), (1, iv p)] (by decide) rfl dX9_sizeOf_6 ?_
  refine r_iload_n (pc := 7) (a := 2) (i := 2) 0 rfl rfl dX9_sizeOf_7 ?_
  refine r_iconst (pc := 8) dX9_sizeOf_8 ?_
  refine r_icmp_ne (pc := 9) 18 (by unfold rg; omega) (by unfold rg; omega) dX9_sizeOf_9 (by decide) (fun h9 => ?_) (fun h9 => ?_)
  · skip
    refine r_iload_n (pc := 18) (a := 2) (i := 2) 0 rfl rfl dX9_sizeOf_18 ?_
    refine r_iconst (pc := 19) dX9_sizeOf_19 ?_
    refine r_icmp_eq (pc := 20) 28 (by unfold rg; omega) (by unfold rg; omega) dX9_sizeOf_20 (by decide) (fun h20 => ?_) (fun h20 => ?_)
    · exact absurd h20 (by decide)
    · skip
      refine r_iload_n (pc := 23) (a := 2) (i := 2) 0 rfl rfl dX9_sizeOf_23 ?_
      refine r_iconst (pc := 24) dX9_sizeOf_24 ?_
      refine r_icmp_ne (pc := 25) 44 (by unfold rg; omega) (by unfold rg; omega) dX9_sizeOf_25 (by decide) (fun h25 => ?_) (fun h25 => ?_)
      · skip
        refine r_aload_n (pc := 44) (a := 0) (i := 0) 1 rfl rfl dX9_sizeOf_44 ?_
        refine r_bipush (pc := 45) rfl dX9_sizeOf_45 ?_
        refine r_callVv (pc := 47) (st := []) (As := [iv 11]) okX9_began (by decide) (by decide) rfl rfl rfl (Nat.le_of_ble_eq_true rfl) km_X9_286 (kX9_began X (t := t) ht (by omega) (by omega)) dX9_sizeOf_47 ?_
        refine r_I (J := psL I 44 30 27 t [11]) rfl ?_
        refine r_aload_n (pc := 50) (a := 0) (i := 0) 1 rfl rfl dX9_sizeOf_50 ?_
        refine r_iload_n (pc := 51) (a := 1) (i := 1) 2 rfl rfl dX9_sizeOf_51 ?_
        refine r_callVi (pc := 52) (st := []) (As := [iv p]) okX9_plainSize (by decide) (by decide) rfl rfl rfl (Nat.le_of_ble_eq_true rfl) km_X9_289 (kpl9 X (t := t + 1) ((psL_row (by decide) (by decide)).trans hO) hV hp0 hp1 (psL_c (bs := [11]) (by decide) ht (by simp only [List.length_cons, List.length_nil]; omega)) (by omega) (by omega)) dX9_sizeOf_52 ?_
        refine r_I (J := psL I 44 30 27 t [11, 10]) rfl ?_
        refine r_istore_n (pc := 55) (a := 3) (i := 3) rfl [(3, iv (O (64 + 4 * p))), (2, iv 2), (0, rv X 30), (1, iv p)] (by decide) rfl dX9_sizeOf_55 ?_
        refine r_iload_n (pc := 56) (a := 3) (i := 3) 0 rfl rfl dX9_sizeOf_56 ?_
        refine r_aload_n (pc := 57) (a := 0) (i := 0) 2 rfl rfl dX9_sizeOf_57 ?_
        refine r_iload_n (pc := 58) (a := 1) (i := 1) 3 rfl rfl dX9_sizeOf_58 ?_
        refine r_callVi (pc := 59) (st := [iv (O (64 + 4 * p))]) (As := [iv p]) okX9_markOf (by decide) (by decide) rfl rfl rfl (Nat.le_of_ble_eq_true rfl) km_X9_295 (kmk9_2 X (t := t + 1 + 1) ((psL_row (by decide) (by decide)).trans hO) hV hp0 hp1 (psL_c (bs := [11, 10]) (by decide) ht (by simp only [List.length_cons, List.length_nil]; omega)) (by omega) (by omega) hk) dX9_sizeOf_59 ?_
        refine r_I (J := psL I 44 30 27 t [11, 10, 22, 21, 20]) rfl ?_
        refine r_iadd (pc := 62) dX9_sizeOf_62 ?_
        refine r_istore_n (pc := 63) (a := 3) (i := 3) rfl [(3, iv ((O (64 + 4 * p)) + (p + O (65 + 4 * p) - 1000))), (2, iv 2), (0, rv X 30), (1, iv p)] (by decide) rfl dX9_sizeOf_63 ?_
        refine r_iload_n (pc := 64) (a := 2) (i := 2) 1 rfl rfl dX9_sizeOf_64 ?_
        refine r_iconst (pc := 65) dX9_sizeOf_65 ?_
        refine r_icmp_ne (pc := 66) 74 (by unfold rg; omega) (by unfold rg; omega) dX9_sizeOf_66 (by decide) (fun h66 => ?_) (fun h66 => ?_)
        · skip
          refine r_iload_n (pc := 74) (a := 2) (i := 2) 1 rfl rfl dX9_sizeOf_74 ?_
          refine r_iconst (pc := 75) dX9_sizeOf_75 ?_
          refine r_icmp_ne (pc := 76) 85 (by unfold rg; omega) (by unfold rg; omega) dX9_sizeOf_76 (by decide) (fun h76 => ?_) (fun h76 => ?_)
          · skip
            refine r_iload_n (pc := 85) (a := 3) (i := 3) 0 rfl rfl dX9_sizeOf_85 ?_
            refine r_iret (pc := 86) (st := []) rfl dX9_sizeOf_86 ?_
            exact ⟨congrArg (fun q => some (iv q)) (by omega), rfl⟩
          · exact absurd h76 (by decide)
        · exact absurd h66 (by decide)
      · exact absurd h25 (by decide)
  · exact absurd h9 (by decide)

set_option maxRecDepth 100000 in
set_option maxHeartbeats 4000000 in
theorem ksz9_3 (X : XC) {I : HD} {O : OF} {p t : Int} (hO : I 34 = O) (hV : Val O) (hp0 : 0 ≤ p) (hp1 : p < O 1) (ht : I 30 27 = t) (t0 : 0 ≤ t) (t1 : t + 7 ≤ 16) (hk : O (63 + 4 * p) = 3) : Cl X 4 mX9_sizeOf [rv X 30, iv p] I (Ki (-(O (64 + 4 * p) + (2 * (p + O (65 + 4 * p) - 1000)))) (psL I 44 30 27 t [12, 11, 10, 24, 22, 21, 20])) := by
  refine Cl.of (by decide) (Nat.le_of_ble_eq_true rfl) ?_
  show Rn X 4 mX9_sizeOf _ 0 [(0, rv X 30), (1, iv p)] [] I
  have q0 := hV.a
  have qp := hV.p hp0 hp1
  refine r_aload_n (pc := 0) (a := 0) (i := 0) 0 rfl rfl dX9_sizeOf_0 ?_
  refine r_iload_n (pc := 1) (a := 1) (i := 1) 1 rfl rfl dX9_sizeOf_1 ?_
  refine r_iconst (pc := 2) dX9_sizeOf_2 ?_
  refine r_callVi (pc := 3) (st := []) (As := [iv p, iv 0]) okX9_of (by decide) (by decide) rfl rfl rfl (Nat.le_of_ble_eq_true rfl) km_X9_216 (kX9_of X hO hV (z := 3) (by omega) (by omega) (by omega) ((congrArg O (by omega)).trans hk)) dX9_sizeOf_3 ?_
  refine r_istore_n (pc := 6) (a := 2) (i := 2) rfl [(2, iv 3), (0, rv X 30), (1, iv p)] (by decide) rfl dX9_sizeOf_6 ?_
  refine r_iload_n (pc := 7) (a := 2) (i := 2) 0 rfl rfl dX9_sizeOf_7 ?_
  refine r_iconst (pc := 8) dX9_sizeOf_8 ?_
  refine r_icmp_ne (pc := 9) 18 (by unfold rg; omega) (by unfold rg; omega) dX9_sizeOf_9 (by decide) (fun h9 => ?_) (fun h9 => ?_)
  · skip
    refine r_iload_n (pc := 18) (a := 2) (i := 2) 0 rfl rfl dX9_sizeOf_18 ?_
    refine r_iconst (pc := 19) dX9_sizeOf_19 ?_
    refine r_icmp_eq (pc := 20) 28 (by unfold rg; omega) (by unfold rg; omega) dX9_sizeOf_20 (by decide) (fun h20 => ?_) (fun h20 => ?_)
    · skip
      refine r_aload_n (pc := 28) (a := 0) (i := 0) 1 rfl rfl dX9_sizeOf_28 ?_
      refine r_iload_n (pc := 29) (a := 2) (i := 2) 0 rfl rfl dX9_sizeOf_29 ?_
      refine r_iconst (pc := 30) dX9_sizeOf_30 ?_
      refine r_icmp_ne (pc := 31) 39 (by unfold rg; omega) (by unfold rg; omega) dX9_sizeOf_31 (by decide) (fun h31 => ?_) (fun h31 => ?_)
      · exact absurd h31 (by decide)
      · skip
        refine r_bipush (pc := 34) rfl dX9_sizeOf_34 ?_
        refine r_goto (pc := 36) 41 dX9_sizeOf_36 (by decide) ?_
        refine r_callVv (pc := 41) (st := []) (As := [iv 12]) okX9_began (by decide) (by decide) rfl rfl rfl (Nat.le_of_ble_eq_true rfl) km_X9_286 (kX9_began X (t := t) ht (by omega) (by omega)) dX9_sizeOf_41 ?_
        refine r_I (J := psL I 44 30 27 t [12]) rfl ?_
        refine r_aload_n (pc := 44) (a := 0) (i := 0) 1 rfl rfl dX9_sizeOf_44 ?_
        refine r_bipush (pc := 45) rfl dX9_sizeOf_45 ?_
        refine r_callVv (pc := 47) (st := []) (As := [iv 11]) okX9_began (by decide) (by decide) rfl rfl rfl (Nat.le_of_ble_eq_true rfl) km_X9_286 (kX9_began X (t := t + 1) (psL_c (bs := [12]) (by decide) ht (by simp only [List.length_cons, List.length_nil]; omega)) (by omega) (by omega)) dX9_sizeOf_47 ?_
        refine r_I (J := psL I 44 30 27 t [12, 11]) rfl ?_
        refine r_aload_n (pc := 50) (a := 0) (i := 0) 1 rfl rfl dX9_sizeOf_50 ?_
        refine r_iload_n (pc := 51) (a := 1) (i := 1) 2 rfl rfl dX9_sizeOf_51 ?_
        refine r_callVi (pc := 52) (st := []) (As := [iv p]) okX9_plainSize (by decide) (by decide) rfl rfl rfl (Nat.le_of_ble_eq_true rfl) km_X9_289 (kpl9 X (t := t + 1 + 1) ((psL_row (by decide) (by decide)).trans hO) hV hp0 hp1 (psL_c (bs := [12, 11]) (by decide) ht (by simp only [List.length_cons, List.length_nil]; omega)) (by omega) (by omega)) dX9_sizeOf_52 ?_
        refine r_I (J := psL I 44 30 27 t [12, 11, 10]) rfl ?_
        refine r_istore_n (pc := 55) (a := 3) (i := 3) rfl [(3, iv (O (64 + 4 * p))), (2, iv 3), (0, rv X 30), (1, iv p)] (by decide) rfl dX9_sizeOf_55 ?_
        refine r_iload_n (pc := 56) (a := 3) (i := 3) 0 rfl rfl dX9_sizeOf_56 ?_
        refine r_aload_n (pc := 57) (a := 0) (i := 0) 2 rfl rfl dX9_sizeOf_57 ?_
        refine r_iload_n (pc := 58) (a := 1) (i := 1) 3 rfl rfl dX9_sizeOf_58 ?_
        refine r_callVi (pc := 59) (st := [iv (O (64 + 4 * p))]) (As := [iv p]) okX9_markOf (by decide) (by decide) rfl rfl rfl (Nat.le_of_ble_eq_true rfl) km_X9_295 (kmk9_3 X (t := t + 1 + 1 + 1) ((psL_row (by decide) (by decide)).trans hO) hV hp0 hp1 (psL_c (bs := [12, 11, 10]) (by decide) ht (by simp only [List.length_cons, List.length_nil]; omega)) (by omega) (by omega) hk) dX9_sizeOf_59 ?_
        refine r_I (J := psL I 44 30 27 t [12, 11, 10, 24, 22, 21, 20]) rfl ?_
        refine r_iadd (pc := 62) dX9_sizeOf_62 ?_
        refine r_istore_n (pc := 63) (a := 3) (i := 3) rfl [(3, iv ((O (64 + 4 * p)) + (2 * (p + O (65 + 4 * p) - 1000)))), (2, iv 3), (0, rv X 30), (1, iv p)] (by decide) rfl dX9_sizeOf_63 ?_
        refine r_iload_n (pc := 64) (a := 2) (i := 2) 1 rfl rfl dX9_sizeOf_64 ?_
        refine r_iconst (pc := 65) dX9_sizeOf_65 ?_
        refine r_icmp_ne (pc := 66) 74 (by unfold rg; omega) (by unfold rg; omega) dX9_sizeOf_66 (by decide) (fun h66 => ?_) (fun h66 => ?_)
        · exact absurd h66 (by decide)
        · skip
          refine r_iload_n (pc := 69) (a := 3) (i := 3) 0 rfl rfl dX9_sizeOf_69 ?_
          refine r_ineg (pc := 70) dX9_sizeOf_70 ?_
          refine r_goto (pc := 71) 86 dX9_sizeOf_71 (by decide) ?_
          refine r_iret (pc := 86) (st := []) rfl dX9_sizeOf_86 ?_
          exact ⟨congrArg (fun q => some (iv q)) (by omega), rfl⟩
    · exact absurd h20 (by decide)
  · exact absurd h9 (by decide)

set_option maxRecDepth 100000 in
set_option maxHeartbeats 4000000 in
theorem ksz9_4 (X : XC) {I : HD} {O : OF} {p t : Int} (hO : I 34 = O) (hV : Val O) (hp0 : 0 ≤ p) (hp1 : p < O 1) (ht : I 30 27 = t) (t0 : 0 ≤ t) (t1 : t + 5 ≤ 16) (hk : O (63 + 4 * p) = 4) : Cl X 4 mX9_sizeOf [rv X 30, iv p] I (Ki (2 * (O (64 + 4 * p) + (p + O (65 + 4 * p)))) (psL I 44 30 27 t [14, 11, 10, 21, 20])) := by
  refine Cl.of (by decide) (Nat.le_of_ble_eq_true rfl) ?_
  show Rn X 4 mX9_sizeOf _ 0 [(0, rv X 30), (1, iv p)] [] I
  have q0 := hV.a
  have qp := hV.p hp0 hp1
  refine r_aload_n (pc := 0) (a := 0) (i := 0) 0 rfl rfl dX9_sizeOf_0 ?_
  refine r_iload_n (pc := 1) (a := 1) (i := 1) 1 rfl rfl dX9_sizeOf_1 ?_
  refine r_iconst (pc := 2) dX9_sizeOf_2 ?_
  refine r_callVi (pc := 3) (st := []) (As := [iv p, iv 0]) okX9_of (by decide) (by decide) rfl rfl rfl (Nat.le_of_ble_eq_true rfl) km_X9_216 (kX9_of X hO hV (z := 4) (by omega) (by omega) (by omega) ((congrArg O (by omega)).trans hk)) dX9_sizeOf_3 ?_
  refine r_istore_n (pc := 6) (a := 2) (i := 2) rfl [(2, iv 4), (0, rv X 30), (1, iv p)] (by decide) rfl dX9_sizeOf_6 ?_
  refine r_iload_n (pc := 7) (a := 2) (i := 2) 0 rfl rfl dX9_sizeOf_7 ?_
  refine r_iconst (pc := 8) dX9_sizeOf_8 ?_
  refine r_icmp_ne (pc := 9) 18 (by unfold rg; omega) (by unfold rg; omega) dX9_sizeOf_9 (by decide) (fun h9 => ?_) (fun h9 => ?_)
  · skip
    refine r_iload_n (pc := 18) (a := 2) (i := 2) 0 rfl rfl dX9_sizeOf_18 ?_
    refine r_iconst (pc := 19) dX9_sizeOf_19 ?_
    refine r_icmp_eq (pc := 20) 28 (by unfold rg; omega) (by unfold rg; omega) dX9_sizeOf_20 (by decide) (fun h20 => ?_) (fun h20 => ?_)
    · exact absurd h20 (by decide)
    · skip
      refine r_iload_n (pc := 23) (a := 2) (i := 2) 0 rfl rfl dX9_sizeOf_23 ?_
      refine r_iconst (pc := 24) dX9_sizeOf_24 ?_
      refine r_icmp_ne (pc := 25) 44 (by unfold rg; omega) (by unfold rg; omega) dX9_sizeOf_25 (by decide) (fun h25 => ?_) (fun h25 => ?_)
      · exact absurd h25 (by decide)
      · skip
        refine r_aload_n (pc := 28) (a := 0) (i := 0) 1 rfl rfl dX9_sizeOf_28 ?_
        refine r_iload_n (pc := 29) (a := 2) (i := 2) 0 rfl rfl dX9_sizeOf_29 ?_
        refine r_iconst (pc := 30) dX9_sizeOf_30 ?_
        refine r_icmp_ne (pc := 31) 39 (by unfold rg; omega) (by unfold rg; omega) dX9_sizeOf_31 (by decide) (fun h31 => ?_) (fun h31 => ?_)
        · skip
          refine r_bipush (pc := 39) rfl dX9_sizeOf_39 ?_
          refine r_callVv (pc := 41) (st := []) (As := [iv 14]) okX9_began (by decide) (by decide) rfl rfl rfl (Nat.le_of_ble_eq_true rfl) km_X9_286 (kX9_began X (t := t) ht (by omega) (by omega)) dX9_sizeOf_41 ?_
          refine r_I (J := psL I 44 30 27 t [14]) rfl ?_
          refine r_aload_n (pc := 44) (a := 0) (i := 0) 1 rfl rfl dX9_sizeOf_44 ?_
          refine r_bipush (pc := 45) rfl dX9_sizeOf_45 ?_
          refine r_callVv (pc := 47) (st := []) (As := [iv 11]) okX9_began (by decide) (by decide) rfl rfl rfl (Nat.le_of_ble_eq_true rfl) km_X9_286 (kX9_began X (t := t + 1) (psL_c (bs := [14]) (by decide) ht (by simp only [List.length_cons, List.length_nil]; omega)) (by omega) (by omega)) dX9_sizeOf_47 ?_
          refine r_I (J := psL I 44 30 27 t [14, 11]) rfl ?_
          refine r_aload_n (pc := 50) (a := 0) (i := 0) 1 rfl rfl dX9_sizeOf_50 ?_
          refine r_iload_n (pc := 51) (a := 1) (i := 1) 2 rfl rfl dX9_sizeOf_51 ?_
          refine r_callVi (pc := 52) (st := []) (As := [iv p]) okX9_plainSize (by decide) (by decide) rfl rfl rfl (Nat.le_of_ble_eq_true rfl) km_X9_289 (kpl9 X (t := t + 1 + 1) ((psL_row (by decide) (by decide)).trans hO) hV hp0 hp1 (psL_c (bs := [14, 11]) (by decide) ht (by simp only [List.length_cons, List.length_nil]; omega)) (by omega) (by omega)) dX9_sizeOf_52 ?_
          refine r_I (J := psL I 44 30 27 t [14, 11, 10]) rfl ?_
          refine r_istore_n (pc := 55) (a := 3) (i := 3) rfl [(3, iv (O (64 + 4 * p))), (2, iv 4), (0, rv X 30), (1, iv p)] (by decide) rfl dX9_sizeOf_55 ?_
          refine r_iload_n (pc := 56) (a := 3) (i := 3) 0 rfl rfl dX9_sizeOf_56 ?_
          refine r_aload_n (pc := 57) (a := 0) (i := 0) 2 rfl rfl dX9_sizeOf_57 ?_
          refine r_iload_n (pc := 58) (a := 1) (i := 1) 3 rfl rfl dX9_sizeOf_58 ?_
          refine r_callVi (pc := 59) (st := [iv (O (64 + 4 * p))]) (As := [iv p]) okX9_markOf (by decide) (by decide) rfl rfl rfl (Nat.le_of_ble_eq_true rfl) km_X9_295 (kmk9_4 X (t := t + 1 + 1 + 1) ((psL_row (by decide) (by decide)).trans hO) hV hp0 hp1 (psL_c (bs := [14, 11, 10]) (by decide) ht (by simp only [List.length_cons, List.length_nil]; omega)) (by omega) (by omega) hk) dX9_sizeOf_59 ?_
          refine r_I (J := psL I 44 30 27 t [14, 11, 10, 21, 20]) rfl ?_
          refine r_iadd (pc := 62) dX9_sizeOf_62 ?_
          refine r_istore_n (pc := 63) (a := 3) (i := 3) rfl [(3, iv ((O (64 + 4 * p)) + (p + O (65 + 4 * p)))), (2, iv 4), (0, rv X 30), (1, iv p)] (by decide) rfl dX9_sizeOf_63 ?_
          refine r_iload_n (pc := 64) (a := 2) (i := 2) 1 rfl rfl dX9_sizeOf_64 ?_
          refine r_iconst (pc := 65) dX9_sizeOf_65 ?_
          refine r_icmp_ne (pc := 66) 74 (by unfold rg; omega) (by unfold rg; omega) dX9_sizeOf_66 (by decide) (fun h66 => ?_) (fun h66 => ?_)
          · skip
            refine r_iload_n (pc := 74) (a := 2) (i := 2) 1 rfl rfl dX9_sizeOf_74 ?_
            refine r_iconst (pc := 75) dX9_sizeOf_75 ?_
            refine r_icmp_ne (pc := 76) 85 (by unfold rg; omega) (by unfold rg; omega) dX9_sizeOf_76 (by decide) (fun h76 => ?_) (fun h76 => ?_)
            · exact absurd h76 (by decide)
            · skip
              refine r_iconst (pc := 79) dX9_sizeOf_79 ?_
              refine r_iload_n (pc := 80) (a := 3) (i := 3) 0 rfl rfl dX9_sizeOf_80 ?_
              refine r_imul (pc := 81) dX9_sizeOf_81 ?_
              refine r_goto (pc := 82) 86 dX9_sizeOf_82 (by decide) ?_
              refine r_iret (pc := 86) (st := []) rfl dX9_sizeOf_86 ?_
              exact ⟨congrArg (fun q => some (iv q)) (by omega), rfl⟩
          · exact absurd h66 (by decide)
        · exact absurd h31 (by decide)
  · exact absurd h9 (by decide)

set_option maxRecDepth 100000 in
set_option maxHeartbeats 4000000 in
theorem ksz9_5 (X : XC) {I : HD} {O : OF} {p t : Int} (hO : I 34 = O) (hV : Val O) (hp0 : 0 ≤ p) (hp1 : p < O 1) (ht : I 30 27 = t) (t0 : 0 ≤ t) (t1 : t + 2 ≤ 16) (hk : O (63 + 4 * p) = 5) : Cl X 4 mX9_sizeOf [rv X 30, iv p] I (Ki (O (64 + 4 * p) - 100) (psL I 44 30 27 t [13, 10])) := by
  refine Cl.of (by decide) (Nat.le_of_ble_eq_true rfl) ?_
  show Rn X 4 mX9_sizeOf _ 0 [(0, rv X 30), (1, iv p)] [] I
  have q0 := hV.a
  have qp := hV.p hp0 hp1
  refine r_aload_n (pc := 0) (a := 0) (i := 0) 0 rfl rfl dX9_sizeOf_0 ?_
  refine r_iload_n (pc := 1) (a := 1) (i := 1) 1 rfl rfl dX9_sizeOf_1 ?_
  refine r_iconst (pc := 2) dX9_sizeOf_2 ?_
  refine r_callVi (pc := 3) (st := []) (As := [iv p, iv 0]) okX9_of (by decide) (by decide) rfl rfl rfl (Nat.le_of_ble_eq_true rfl) km_X9_216 (kX9_of X hO hV (z := 5) (by omega) (by omega) (by omega) ((congrArg O (by omega)).trans hk)) dX9_sizeOf_3 ?_
  refine r_istore_n (pc := 6) (a := 2) (i := 2) rfl [(2, iv 5), (0, rv X 30), (1, iv p)] (by decide) rfl dX9_sizeOf_6 ?_
  refine r_iload_n (pc := 7) (a := 2) (i := 2) 0 rfl rfl dX9_sizeOf_7 ?_
  refine r_iconst (pc := 8) dX9_sizeOf_8 ?_
  refine r_icmp_ne (pc := 9) 18 (by unfold rg; omega) (by unfold rg; omega) dX9_sizeOf_9 (by decide) (fun h9 => ?_) (fun h9 => ?_)
  · exact absurd h9 (by decide)
  · skip
    refine r_aload_n (pc := 12) (a := 0) (i := 0) 1 rfl rfl dX9_sizeOf_12 ?_
    refine r_iload_n (pc := 13) (a := 1) (i := 1) 2 rfl rfl dX9_sizeOf_13 ?_
    refine r_callVi (pc := 14) (st := []) (As := [iv p]) okX9_slateSize (by decide) (by decide) rfl rfl rfl (Nat.le_of_ble_eq_true rfl) km_X9_292 (ksl9 X (t := t) hO hV hp0 hp1 ht (by omega) (by omega)) dX9_sizeOf_14 ?_
    refine r_I (J := psL I 44 30 27 t [13, 10]) rfl ?_
    refine r_iret (pc := 17) (st := []) rfl dX9_sizeOf_17 ?_
    exact ⟨congrArg (fun q => some (iv q)) (by omega), rfl⟩
