/-! ===== bytes of a long ===== -/
def ub (w i : Int) : Int := w / 256 ^ i.toNat % 256
def sb (u : Int) : Int := if u < 128 then u else u - 256
theorem ub_r {w i : Int} : 0 ≤ ub w i ∧ ub w i < 256 := by unfold ub; omega
theorem up_at {I : HD} {h : Nat} {i z k : Int} : up I h i z h k = if k = i then z else I h k := by simp [up]
theorem fd_s {g g0 F : Int → Int} {t m m2 x : Int} (hB : ∀ k, g k = if t ≤ k ∧ k < t + m then F k else g0 k) (hx : x = F (t + m)) (m0 : 0 ≤ m) (h2 : m2 = m + 1) (k : Int) : (if k = t + m then x else g k) = if t ≤ k ∧ k < t + m2 then F k else g0 k := by
  by_cases e : k = t + m
  · rw [if_pos e, if_pos (by omega), hx, e]
  · rw [if_neg e, hB]
    by_cases q : t ≤ k ∧ k < t + m
    · rw [if_pos q, if_pos (by omega)]
    · rw [if_neg q, if_neg (by omega)]
theorem shr_l {a : Int} (ha : rl a) (k : Nat) {b : Int64} (hb : (b.toBitVec.smod 64).toNat = k) : iL a >>> b = iL (a / 2 ^ k) := by
  apply Int64.toBitVec_inj.mp
  rw [Int64.toBitVec_shiftRight]
  apply BitVec.eq_of_toInt_eq
  rw [BitVec.toInt_sshiftRight', hb]
  have h1 : (iL a).toBitVec.toInt = a := rl_of ha
  have hp : (0 : Int) < 2 ^ k := by
    have := Int.pow_pos (n := (2 : Int)) (m := k) (by decide)
    exact this
  have hr : rl (a / 2 ^ k) := by
    unfold rl at ha ⊢
    constructor
    · rcases (by omega : 0 ≤ a ∨ a < 0) with q | q
      · have := Int.ediv_nonneg q (Int.le_of_lt hp); omega
      · have := (Int.le_ediv_iff_mul_le (a := a) (b := a) hp).mpr (by
          have h1 : a * 2 ^ k ≤ a * 1 := Int.mul_le_mul_of_nonpos_left (by omega) (by omega)
          omega)
        omega
    · rcases (by omega : 0 ≤ a ∨ a < 0) with q | q
      · have := Int.ediv_le_self (2 ^ k) q; omega
      · have := Int.ediv_neg_of_neg_of_pos q hp; omega
  have h2 : (iL (a / 2 ^ k)).toBitVec.toInt = a / 2 ^ k := rl_of hr
  rw [h1, h2, Int.shiftRight_eq_div_pow]
  norm_cast
theorem shr_8 {a i : Int} (ha : rl a) (h0 : 0 ≤ i) (h1 : i ≤ 7) : iL a >>> ((iI (8 * i)).toInt64 &&& 63) = iL (a / 256 ^ i.toNat) := by
  rcases (by omega : i = 0 ∨ i = 1 ∨ i = 2 ∨ i = 3 ∨ i = 4 ∨ i = 5 ∨ i = 6 ∨ i = 7) with rfl | rfl | rfl | rfl | rfl | rfl | rfl | rfl
  · exact shr_l ha 0 (by decide)
  · exact shr_l ha 8 (by decide)
  · exact shr_l ha 16 (by decide)
  · exact shr_l ha 24 (by decide)
  · exact shr_l ha 32 (by decide)
  · exact shr_l ha 40 (by decide)
  · exact shr_l ha 48 (by decide)
  · exact shr_l ha 56 (by decide)
theorem and_255 {z : Int} : iL z &&& iL 255 = iL (z % 256) := by
  apply Int64.toBitVec_inj.mp
  rw [Int64.toBitVec_and]
  apply BitVec.eq_of_toNat_eq
  rw [BitVec.toNat_and]
  show (BitVec.ofInt 64 z).toNat &&& (2 ^ 8 - 1) = (BitVec.ofInt 64 (z % 256)).toNat
  rw [Nat.and_two_pow_sub_one_eq_mod, BitVec.toNat_ofInt, BitVec.toNat_ofInt]
  omega
theorem i2b_sb {z : Int} : (iI z).toInt8.toInt32 = iI (sb (z % 256)) := by
  apply Int32.toInt_inj.mp
  have hr : rg (sb (z % 256)) := by unfold sb rg; split <;> omega
  rw [rg_of hr, Int8.toInt_toInt32, Int32.toInt_toInt8, Int32.toInt_ofInt]
  show Int.bmod (Int.bmod z 4294967296) 256 = _
  unfold sb
  simp only [Int.bmod_def]
  split <;> split <;> split <;> omega
theorem nar_sb {w i : Int} : vp_nar .byte (iI (sb (ub w i))) = iI (sb (ub w i)) := by
  have h := ub_r (w := w) (i := i)
  have key : ∀ k : Nat, k < 256 → vp_nar .byte (iI ((k : Int) - 128)) = iI ((k : Int) - 128) := by decide +kernel
  obtain ⟨k, hk⟩ : ∃ k : Nat, (k : Int) = sb (ub w i) + 128 := ⟨(sb (ub w i) + 128).toNat, by unfold sb; split <;> omega⟩
  have := key k (by unfold sb at hk; split at hk <;> omega)
  rw [show sb (ub w i) = (k : Int) - 128 by omega]
  exact this
set_option maxRecDepth 100000 in
set_option maxHeartbeats 4000000 in
theorem kX7_join (X : XC) {I : HD} {t w n : Int} (hw : rl w) (ht : I 19 1 = t) (t0 : 0 ≤ t) (n1 : 1 ≤ n) (n8 : n ≤ 8) (tn : t + n ≤ 500) : Cl X 0 mX7_join [rv X 19, jv w, iv n] I (fun r J => r = none ∧ J 19 1 = t + n ∧ (∀ k, J 20 k = if t ≤ k ∧ k < t + n then sb (ub w (n - 1 - (k - t))) else I 20 k) ∧ ∀ a, a ≠ 19 → a ≠ 20 → J a = I a) := by
  refine Cl.of (by decide) (Nat.le_of_ble_eq_true rfl) ?_
  show Rn X 0 mX7_join _ 0 [(0, rv X 19), (1, jv w), (3, iv n)] [] I
  refine r_iload_n (pc := 0) (a := 3) (i := 3) 2 rfl rfl dX7_join_0 ?_
  refine r_iconst (pc := 1) dX7_join_1 ?_
  refine r_isub (pc := 2) dX7_join_2 ?_
  refine r_istore (pc := 3) [(4, iv (n - 1)), (0, rv X 19), (1, jv w), (3, iv n)] (by decide) rfl dX7_join_3 ?_
  have at5 : ∀ (n5 : Nat) (J : HD) (i : Int), (i + 1).toNat < n5 → (hi0 : -1 ≤ i) → (hi1 : i ≤ n - 1) → (hL : J 19 1 = t + (n - 1 - i)) → (hB : ∀ k, J 20 k = if t ≤ k ∧ k < t + (n - 1 - i) then sb (ub w (n - 1 - (k - t))) else I 20 k) → (hR : ∀ a, a ≠ 19 → a ≠ 20 → J a = I a) → Rn X 0 mX7_join (fun r J => r = none ∧ J 19 1 = t + n ∧ (∀ k, J 20 k = if t ≤ k ∧ k < t + n then sb (ub w (n - 1 - (k - t))) else I 20 k) ∧ ∀ a, a ≠ 19 → a ≠ 20 → J a = I a) 5 [(0, rv X 19), (1, jv w), (3, iv n), (4, iv i)] [] J := by
    intro n5
    induction n5 with
    | zero => intro J i hm; omega
    | succ n5 ih5 =>
      intro J i hm5 hi0 hi1 hL hB hR
      refine r_iload (pc := 5) 3 rfl dX7_join_5 ?_
      refine r_if_lt (pc := 7) 44 (by unfold rg; omega) dX7_join_7 (by decide) (fun h7 => ?_) (fun h7 => ?_)
      · skip
        refine r_vret (pc := 44) (st := []) rfl dX7_join_44 ?_
        exact ⟨rfl, by rw [hL]; omega, fun k => by rw [hB k, show n - 1 - i = n by omega], hR⟩
      · skip
        refine r_aload_n (pc := 10) (a := 0) (i := 0) 0 rfl rfl dX7_join_10 ?_
        refine r_get (pc := 11) ckX7 (by decide) rfl (j := 0) (by decide) rfl kf_X7_9 dX7_join_11 ?_
        refine r_aload_n (pc := 14) (a := 0) (i := 0) 0 rfl rfl dX7_join_14 ?_
        refine r_get (pc := 15) ckX7 (by decide) rfl (j := 1) (by decide) (congrArg (fun q => some (iv q)) hL) kf_X7_15 dX7_join_15 ?_
        refine r_lload_n (pc := 18) (a := 1) (i := 1) 1 rfl rfl dX7_join_18 ?_
        refine r_bipush (pc := 19) rfl dX7_join_19 ?_
        refine r_iload (pc := 21) 3 rfl dX7_join_21 ?_
        refine r_imul (pc := 23) dX7_join_23 ?_
        refine r_lshr (pc := 24) (z := w / 256 ^ (i).toNat) (shr_8 hw (by omega) (by omega)) dX7_join_24 ?_
        refine r_l2i (pc := 25) dX7_join_25 ?_
        refine r_i2b (pc := 26) (z := sb (ub w i)) (i2b_sb) dX7_join_26 ?_
        refine r_bast (pc := 27) (by decide) (fun _ => rfl) (by omega) (by omega) (by decide) (nar_sb) dX7_join_27 ?_
        refine r_aload_n (pc := 28) (a := 0) (i := 0) 0 rfl rfl dX7_join_28 ?_
        refine r_dup (pc := 29) rfl dX7_join_29 ?_
        refine r_get (pc := 30) ckX7 (by decide) rfl (j := 1) (by decide) (congrArg (fun q => some (iv q)) ((congrFun (up_row (by decide)) _).trans hL)) kf_X7_15 dX7_join_30 ?_
        refine r_iconst (pc := 33) dX7_join_33 ?_
        refine r_iadd (pc := 34) dX7_join_34 ?_
        refine r_put (pc := 35) 1 (ji := 1) rfl ckX7 (by decide) rfl rfl (by decide) (Nat.le_of_ble_eq_true rfl) kf_X7_15 rfl rfl rfl rfl dX7_join_35 ?_
        refine r_iinc (pc := 38) 3 [(4, iv (i + (-1))), (0, rv X 19), (1, jv w), (3, iv n)] rfl (by decide) rfl dX7_join_38 ?_
        refine r_goto (pc := 41) 5 dX7_join_41 (by decide) ?_
        refine r_lv [1, 2, 3, 0] [(0, rv X 19), (1, jv w), (3, iv n), (4, iv (i + (-1)))] rfl ?_
        exact ih5 (up (up J 20 (t + (n - 1 - i)) (sb (ub w i))) 19 1 ((t + (n - 1 - i)) + 1)) (i + (-1)) (by omega) (by omega) (by omega) (by rw [up_s]; omega) (fun k => by rw [up_row (by decide), up_at]; exact fd_s (F := fun k => sb (ub w (n - 1 - (k - t)))) hB (show _ = sb (ub w (n - 1 - (t + (n - 1 - i) - t))) by rw [show n - 1 - (t + (n - 1 - i) - t) = i by omega]) (by omega) (by omega) k) (fun a x y => (up_row x).trans ((up_row y).trans (hR a x y)))
  refine r_lv [1, 2, 3, 0] [(0, rv X 19), (1, jv w), (3, iv n), (4, iv (n - 1))] rfl ?_
  exact at5 _ I (n - 1) (Nat.lt_succ_self _) (by omega) (by omega) (by rw [ht]; omega) (fun k => by rw [if_neg (by omega)]) (fun _ _ _ => rfl)

set_option maxRecDepth 100000 in
set_option maxHeartbeats 4000000 in
theorem kX8_feed (X : XC) {I : HD} {t w n : Int} (hw : rl w) (hn : rg n) (ht : I 19 1 = t) (t0 : 0 ≤ t) (t1 : t ≤ 500) : Cl X 1 mX8_feed [rv X 0, jv w, iv n] I (fun r J => (¬ (1 ≤ n ∧ n ≤ 8) → r = some (iv (-1000001)) ∧ J = I) ∧ (1 ≤ n ∧ n ≤ 8 → ¬ t + n ≤ 500 → r = some (iv (-1000003)) ∧ J = I) ∧ (1 ≤ n ∧ n ≤ 8 → t + n ≤ 500 → r = some (iv (t + n)) ∧ J 19 1 = t + n ∧ (∀ k, J 20 k = if t ≤ k ∧ k < t + n then sb (ub w (n - 1 - (k - t))) else I 20 k) ∧ ∀ a, a ≠ 19 → a ≠ 20 → J a = I a)) := by
  refine Cl.of (by decide) (Nat.le_of_ble_eq_true rfl) ?_
  show Rn X 1 mX8_feed _ 0 [(0, rv X 0), (1, jv w), (3, iv n)] [] I
  unfold rg at hn
  refine r_iload_n (pc := 0) (a := 3) (i := 3) 2 rfl rfl dX8_feed_0 ?_
  refine r_iconst (pc := 1) dX8_feed_1 ?_
  refine r_icmp_lt (pc := 2) 11 (by unfold rg; omega) (by unfold rg; omega) dX8_feed_2 (by decide) (fun h2 => ?_) (fun h2 => ?_)
  · skip
    refine r_ldc (pc := 11) kc_X8_73 dX8_feed_11 ?_
    refine r_iret (pc := 13) (st := []) rfl dX8_feed_13 ?_
    exact ⟨fun _ => ⟨rfl, rfl⟩, fun a => absurd a (by omega), fun a => absurd a (by omega)⟩
  · skip
    refine r_iload_n (pc := 5) (a := 3) (i := 3) 2 rfl rfl dX8_feed_5 ?_
    refine r_bipush (pc := 6) rfl dX8_feed_6 ?_
    refine r_icmp_le (pc := 8) 14 (by unfold rg; omega) (by unfold rg; omega) dX8_feed_8 (by decide) (fun h8 => ?_) (fun h8 => ?_)
    · skip
      refine r_aload_n (pc := 14) (a := 0) (i := 0) 0 rfl rfl dX8_feed_14 ?_
      refine r_get (pc := 15) ckX8 (by decide) rfl (j := 1) (by decide) rfl kf_X8_18 dX8_feed_15 ?_
      refine r_getN (pc := 18) ckX4 (by decide) rfl (j := 0) (by decide) rfl kf_X8_116 dX8_feed_18 ?_
      refine r_iload_n (pc := 21) (a := 3) (i := 3) 2 rfl rfl dX8_feed_21 ?_
      refine r_callVi (pc := 22) (st := []) (As := [iv n]) okX7_hasRoom (by decide) (by decide) rfl rfl rfl (Nat.le_of_ble_eq_true rfl) km_X8_120 (kX7_hasRoom X ht t0 t1 (by unfold rg; omega)) dX8_feed_22 ?_
      refine r_if_ne (pc := 25) 31 rg_bI dX8_feed_25 (by decide) (fun h25 => ?_) (fun h25 => ?_)
      · skip
        have h25 := bI_n.mp h25
        refine r_aload_n (pc := 31) (a := 0) (i := 0) 0 rfl rfl dX8_feed_31 ?_
        refine r_get (pc := 32) ckX8 (by decide) rfl (j := 1) (by decide) rfl kf_X8_18 dX8_feed_32 ?_
        refine r_getN (pc := 35) ckX4 (by decide) rfl (j := 0) (by decide) rfl kf_X8_116 dX8_feed_35 ?_
        refine r_lload_n (pc := 38) (a := 1) (i := 1) 1 rfl rfl dX8_feed_38 ?_
        refine r_iload_n (pc := 39) (a := 3) (i := 3) 2 rfl rfl dX8_feed_39 ?_
        refine r_callV (pc := 40) (st := []) (As := [jv w, iv n]) (D2 := 0) okX7_join (by decide) (by decide) rfl rfl rfl (Nat.le_of_ble_eq_true rfl) km_X8_126 (kX7_join X hw ht t0 (by omega) (by omega) (by omega)) dX8_feed_40 ?_
        rintro _ J1 ⟨rfl, g1, g2, g3⟩
        refine r_aload_n (pc := 43) (a := 0) (i := 0) 0 rfl rfl dX8_feed_43 ?_
        refine r_get (pc := 44) ckX8 (by decide) rfl (j := 1) (by decide) rfl kf_X8_18 dX8_feed_44 ?_
        refine r_getN (pc := 47) ckX4 (by decide) rfl (j := 0) (by decide) rfl kf_X8_116 dX8_feed_47 ?_
        refine r_getN (pc := 50) ckX7 (by decide) rfl (j := 1) (by decide) (congrArg (fun q => some (iv q)) g1) kf_X8_130 dX8_feed_50 ?_
        refine r_iret (pc := 53) (st := []) rfl dX8_feed_53 ?_
        exact ⟨fun a => absurd a (by omega), fun _ b => absurd b (by omega), fun _ _ => ⟨rfl, g1, g2, g3⟩⟩
      · skip
        have h25 := bI_0.mp h25
        refine r_ldc (pc := 28) kc_X8_125 dX8_feed_28 ?_
        refine r_iret (pc := 30) (st := []) rfl dX8_feed_30 ?_
        exact ⟨fun a => absurd a (by omega), fun _ _ => ⟨rfl, rfl⟩, fun _ b => absurd b (by omega)⟩
    · skip
      refine r_ldc (pc := 11) kc_X8_73 dX8_feed_11 ?_
      refine r_iret (pc := 13) (st := []) rfl dX8_feed_13 ?_
      exact ⟨fun _ => ⟨rfl, rfl⟩, fun a => absurd a (by omega), fun a => absurd a (by omega)⟩

set_option maxRecDepth 100000 in
set_option maxHeartbeats 4000000 in
theorem kX9_feed (X : XC) {I : HD} {t w n : Int} (hw : rl w) (hn : rg n) (ht : I 30 11 = t) (t0 : 0 ≤ t) (t1 : t ≤ 500) : Cl X 1 mX9_feed [rv X 30, jv w, iv n] I (fun r J => (¬ (1 ≤ n ∧ n ≤ 8) → r = some (iv (-1000001)) ∧ J = up I 30 0 0) ∧ (1 ≤ n ∧ n ≤ 8 → ¬ t + n ≤ 500 → r = some (iv (-1000003)) ∧ J = up I 30 0 0) ∧ (1 ≤ n ∧ n ≤ 8 → t + n ≤ 500 → r = some (iv (t + n)) ∧ J 30 11 = t + n ∧ (∀ k, J 37 k = if t ≤ k ∧ k < t + n then ub w (n - 1 - (k - t)) else I 37 k) ∧ (∀ a, a ≠ 30 → a ≠ 37 → J a = I a) ∧ ∀ j, j ≠ 0 → j ≠ 11 → J 30 j = I 30 j)) := by
  refine Cl.of (by decide) (Nat.le_of_ble_eq_true rfl) ?_
  show Rn X 1 mX9_feed _ 0 [(0, rv X 30), (1, jv w), (3, iv n)] [] I
  unfold rg at hn
  refine r_aload_n (pc := 0) (a := 0) (i := 0) 0 rfl rfl dX9_feed_0 ?_
  refine r_iconst (pc := 1) dX9_feed_1 ?_
  refine r_put (pc := 2) 0 (ji := 0) rfl ckX9 (by decide) rfl rfl (by decide) (Nat.le_of_ble_eq_true rfl) kf_X9_54 rfl rfl rfl rfl dX9_feed_2 ?_
  refine r_iload_n (pc := 5) (a := 3) (i := 3) 2 rfl rfl dX9_feed_5 ?_
  refine r_i2l (pc := 6) (by unfold rg; omega) dX9_feed_6 ?_
  refine r_lconst (pc := 7) (z := 1) rfl dX9_feed_7 ?_
  refine r_ldc2 (pc := 8) kc_X9_79 dX9_feed_8 ?_
  refine r_callSi (pc := 11) (st := []) (As := [jv n, jv 1, jv 8]) okX9_in (by decide) trivial rfl (Nat.le_of_ble_eq_true rfl) km_X9_64 (kX9_in X (by unfold rl; omega) (by unfold rl; omega) (by unfold rl; omega)) dX9_feed_11 ?_
  refine r_if_ne (pc := 14) 20 rg_bI dX9_feed_14 (by decide) (fun h14 => ?_) (fun h14 => ?_)
  · skip
    have h14 := bI_n.mp h14
    refine r_aload_n (pc := 20) (a := 0) (i := 0) 0 rfl rfl dX9_feed_20 ?_
    refine r_get (pc := 21) ckX9 (by decide) rfl (j := 11) (by decide) (congrArg (fun q => some (iv q)) ((up_i (by decide)).trans ht)) kf_X9_81 dX9_feed_21 ?_
    refine r_iload_n (pc := 24) (a := 3) (i := 3) 2 rfl rfl dX9_feed_24 ?_
    refine r_iadd (pc := 25) dX9_feed_25 ?_
    refine r_sipush (pc := 26) rfl dX9_feed_26 ?_
    refine r_icmp_le (pc := 29) 35 (by unfold rg; omega) (by unfold rg; omega) dX9_feed_29 (by decide) (fun h29 => ?_) (fun h29 => ?_)
    · skip
      refine r_iload_n (pc := 35) (a := 3) (i := 3) 2 rfl rfl dX9_feed_35 ?_
      refine r_iconst (pc := 36) dX9_feed_36 ?_
      refine r_isub (pc := 37) dX9_feed_37 ?_
      refine r_istore (pc := 38) [(4, iv (n - 1)), (0, rv X 30), (1, jv w), (3, iv n)] (by decide) rfl dX9_feed_38 ?_
      have at40 : ∀ (n40 : Nat) (J : HD) (i : Int), (i + 1).toNat < n40 → (hi0 : -1 ≤ i) → (hi1 : i ≤ n - 1) → (hL : J 30 11 = t + (n - 1 - i)) → (hB : ∀ k, J 37 k = if t ≤ k ∧ k < t + (n - 1 - i) then ub w (n - 1 - (k - t)) else I 37 k) → (hR : ∀ a, a ≠ 30 → a ≠ 37 → J a = I a) → (hF : ∀ j, j ≠ 0 → j ≠ 11 → J 30 j = I 30 j) → Rn X 1 mX9_feed (fun r J => (¬ (1 ≤ n ∧ n ≤ 8) → r = some (iv (-1000001)) ∧ J = up I 30 0 0) ∧ (1 ≤ n ∧ n ≤ 8 → ¬ t + n ≤ 500 → r = some (iv (-1000003)) ∧ J = up I 30 0 0) ∧ (1 ≤ n ∧ n ≤ 8 → t + n ≤ 500 → r = some (iv (t + n)) ∧ J 30 11 = t + n ∧ (∀ k, J 37 k = if t ≤ k ∧ k < t + n then ub w (n - 1 - (k - t)) else I 37 k) ∧ (∀ a, a ≠ 30 → a ≠ 37 → J a = I a) ∧ ∀ j, j ≠ 0 → j ≠ 11 → J 30 j = I 30 j)) 40 [(0, rv X 30), (1, jv w), (3, iv n), (4, iv i)] [] J := by
        intro n40
        induction n40 with
        | zero => intro J i hm; omega
        | succ n40 ih40 =>
          intro J i hm40 hi0 hi1 hL hB hR hF
          refine r_iload (pc := 40) 3 rfl dX9_feed_40 ?_
          refine r_if_lt (pc := 42) 82 (by unfold rg; omega) dX9_feed_42 (by decide) (fun h42 => ?_) (fun h42 => ?_)
          · skip
            refine r_aload_n (pc := 82) (a := 0) (i := 0) 0 rfl rfl dX9_feed_82 ?_
            refine r_get (pc := 83) ckX9 (by decide) rfl (j := 11) (by decide) (congrArg (fun q => some (iv q)) hL) kf_X9_81 dX9_feed_83 ?_
            refine r_iret (pc := 86) (st := []) rfl dX9_feed_86 ?_
            exact ⟨fun a => absurd a (by omega), fun _ b => absurd b (by omega), fun _ _ => ⟨by rw [show n - 1 - i = n by omega], by rw [hL]; omega, fun k => by rw [hB k, show n - 1 - i = n by omega], hR, hF⟩⟩
          · skip
            refine r_aload_n (pc := 45) (a := 0) (i := 0) 0 rfl rfl dX9_feed_45 ?_
            refine r_get (pc := 46) ckX9 (by decide) rfl (j := 10) (by decide) rfl kf_X9_28 dX9_feed_46 ?_
            refine r_aload_n (pc := 49) (a := 0) (i := 0) 0 rfl rfl dX9_feed_49 ?_
            refine r_get (pc := 50) ckX9 (by decide) rfl (j := 11) (by decide) (congrArg (fun q => some (iv q)) hL) kf_X9_81 dX9_feed_50 ?_
            refine r_lload_n (pc := 53) (a := 1) (i := 1) 1 rfl rfl dX9_feed_53 ?_
            refine r_bipush (pc := 54) rfl dX9_feed_54 ?_
            refine r_iload (pc := 56) 3 rfl dX9_feed_56 ?_
            refine r_imul (pc := 58) dX9_feed_58 ?_
            refine r_lshr (pc := 59) (z := w / 256 ^ (i).toNat) (shr_8 hw (by omega) (by omega)) dX9_feed_59 ?_
            refine r_ldc2 (pc := 60) kc_X9_85 dX9_feed_60 ?_
            refine r_land (pc := 63) (z := w / 256 ^ (i).toNat % 256) (and_255) dX9_feed_63 ?_
            refine r_l2i (pc := 64) dX9_feed_64 ?_
            refine r_iast (pc := 65) (by decide) (fun _ => rfl) (by omega) (by omega) (by decide) dX9_feed_65 ?_
            refine r_aload_n (pc := 66) (a := 0) (i := 0) 0 rfl rfl dX9_feed_66 ?_
            refine r_dup (pc := 67) rfl dX9_feed_67 ?_
            refine r_get (pc := 68) ckX9 (by decide) rfl (j := 11) (by decide) (congrArg (fun q => some (iv q)) ((congrFun (up_row (by decide)) _).trans hL)) kf_X9_81 dX9_feed_68 ?_
            refine r_iconst (pc := 71) dX9_feed_71 ?_
            refine r_iadd (pc := 72) dX9_feed_72 ?_
            refine r_put (pc := 73) 11 (ji := 11) rfl ckX9 (by decide) rfl rfl (by decide) (Nat.le_of_ble_eq_true rfl) kf_X9_81 rfl rfl rfl rfl dX9_feed_73 ?_
            refine r_iinc (pc := 76) 3 [(4, iv (i + (-1))), (0, rv X 30), (1, jv w), (3, iv n)] rfl (by decide) rfl dX9_feed_76 ?_
            refine r_goto (pc := 79) 40 dX9_feed_79 (by decide) ?_
            refine r_lv [1, 2, 3, 0] [(0, rv X 30), (1, jv w), (3, iv n), (4, iv (i + (-1)))] rfl ?_
            exact ih40 (up (up J 37 (t + (n - 1 - i)) (w / 256 ^ (i).toNat % 256)) 30 11 ((t + (n - 1 - i)) + 1)) (i + (-1)) (by omega) (by omega) (by omega) (by rw [up_s]; omega) (fun k => by rw [up_row (by decide), up_at]; exact fd_s (F := fun k => ub w (n - 1 - (k - t))) hB (show _ = ub w (n - 1 - (t + (n - 1 - i) - t)) by rw [show n - 1 - (t + (n - 1 - i) - t) = i by omega]; rfl) (by omega) (by omega) k) (fun a x y => (up_row x).trans ((up_row y).trans (hR a x y))) (fun j x y => (up_i y).trans ((congrFun (up_row (by decide)) _).trans (hF j x y)))
      refine r_lv [1, 2, 3, 0] [(0, rv X 30), (1, jv w), (3, iv n), (4, iv (n - 1))] rfl ?_
      exact at40 _ (up I 30 0 0) (n - 1) (Nat.lt_succ_self _) (by omega) (by omega) (by rw [up_i (by decide), ht]; omega) (fun k => by rw [up_row (by decide), if_neg (by omega)]) (fun a x _ => up_row x) (fun j x _ => up_i x)
    · skip
      refine r_ldc (pc := 32) kc_X9_84 dX9_feed_32 ?_
      refine r_iret (pc := 34) (st := []) rfl dX9_feed_34 ?_
      exact ⟨fun a => absurd a (by omega), fun _ _ => ⟨rfl, rfl⟩, fun _ b => absurd b (by omega)⟩
  · skip
    have h14 := bI_0.mp h14
    refine r_ldc (pc := 17) kc_X9_74 dX9_feed_17 ?_
    refine r_iret (pc := 19) (st := []) rfl dX9_feed_19 ?_
    exact ⟨fun _ => ⟨rfl, rfl⟩, fun a => absurd a (by omega), fun a => absurd a (by omega)⟩
theorem pr_feed {X : XC} {w n : Int} (hw : rl w) (hn : rg n) : Pair X mX8_feed mX9_feed [jv w, iv n] := by
  intro I hI
  obtain ⟨f1, f2, f3, f4⟩ := hI.2.2.2.2.1
  obtain ⟨t, ht⟩ : ∃ t, I 30 11 = t := ⟨_, rfl⟩
  rw [ht] at f1 f2 f3 f4
  have k8 := kX8_feed X hw hn f1 f2 f3
  have k9 := fun (J : HD) (e : J 30 11 = t) => kX9_feed X (I := J) hw hn e f2 f3
  by_cases h1 : 1 ≤ n ∧ n ≤ 8
  · by_cases h2 : t + n ≤ 500
    · refine ⟨t + n, 1, 1, by decide, by decide, k8.mono fun r J h => ?_⟩
      obtain ⟨rfl, a1, a2, a3⟩ := h.2.2 h1 h2
      refine ⟨rfl, (k9 J (by rw [a3 30 (by decide) (by decide)]; exact ht)).mono fun r J2 h => ?_⟩
      obtain ⟨rfl, b1, b2, b3, b4⟩ := h.2.2 h1 h2
      refine ⟨rfl, ?_⟩
      have r3 : ∀ a, a ≠ 19 → a ≠ 20 → a ≠ 30 → a ≠ 37 → J2 a = I a := fun a x y z t => (b3 a z t).trans (a3 a x y)
      have f5 : ∀ j, j ≠ 0 → j ≠ 11 → J2 30 j = I 30 j := fun j x y => by rw [b4 j x y, a3 30 (by decide) (by decide)]
      obtain ⟨a, b, c, d, e, f, g, nn⟩ := hI
      refine ⟨a.cg (r3 34 (by decide) (by decide) (by decide) (by decide)) (f5 7 (by decide) (by decide)) (fun x p q => r3 x (by omega) (by omega) (by omega) (by omega)),
        b.cg (r3 36 (by decide) (by decide) (by decide) (by decide)) (f5 9 (by decide) (by decide)) (r3 21 (by decide) (by decide) (by decide) (by decide)) (fun x p q => r3 x (by omega) (by omega) (by omega) (by omega)),
        c.cg (r3 42 (by decide) (by decide) (by decide) (by decide)) (r3 43 (by decide) (by decide) (by decide) (by decide)) (fun x p q => r3 x (by omega) (by omega) (by omega) (by omega)),
        d.cg (r3 31 (by decide) (by decide) (by decide) (by decide)) (r3 32 (by decide) (by decide) (by decide) (by decide)) (r3 33 (by decide) (by decide) (by decide) (by decide)) (fun x p q => r3 x (by omega) (by omega) (by omega) (by omega)), ?_,
        f.cg (f5 12 (by decide) (by decide)) (f5 1 (by decide) (by decide)) (r3 0 (by decide) (by decide) (by decide) (by decide)),
        g.cg (r3 44 (by decide) (by decide) (by decide) (by decide)) (f5 27 (by decide) (by decide)) (r3 28 (by decide) (by decide) (by decide) (by decide)) (r3 29 (by decide) (by decide) (by decide) (by decide)), ?_⟩
      · refine ⟨by rw [b3 19 (by decide) (by decide), a1, b1], by omega, by omega, fun k x y => ?_⟩
        rw [b1] at y
        rw [b3 20 (by decide) (by decide), a2 k, b2 k]
        rw [a3 37 (by decide) (by decide)]
        by_cases q : t ≤ k ∧ k < t + n
        · rw [if_pos q, if_pos q]
          have := ub_r (w := w) (i := n - 1 - (k - t))
          exact ⟨this.1, this.2, rfl⟩
        · rw [if_neg q, if_neg q]
          exact f4 k x (by omega)
      · unfold RN
        rw [f5 9 (by decide) (by decide), r3 34 (by decide) (by decide) (by decide) (by decide), r3 42 (by decide) (by decide) (by decide) (by decide)]
        exact nn
    · refine ⟨-1000003, 1, 1, by decide, by decide, k8.mono fun r J h => ?_⟩
      obtain ⟨rfl, rfl⟩ := h.2.1 h1 h2
      refine ⟨rfl, (k9 _ ht).mono fun r J h => ?_⟩
      obtain ⟨rfl, rfl⟩ := h.2.1 h1 h2
      exact ⟨rfl, hI.thr2⟩
  · refine ⟨-1000001, 1, 1, by decide, by decide, k8.mono fun r J h => ?_⟩
    obtain ⟨rfl, rfl⟩ := h.1 h1
    refine ⟨rfl, (k9 _ ht).mono fun r J h => ?_⟩
    obtain ⟨rfl, rfl⟩ := h.1 h1
    exact ⟨rfl, hI.thr2⟩
