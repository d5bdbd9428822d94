set_option maxRecDepth 100000 in
set_option maxHeartbeats 4000000 in
theorem rX3_isThere (X : XC) {I : HD} {o : Nat} (h_o : o < 28) (hr : rg (I (oH o) 8)) : Cl X 0 mX3_isThere [rv X (oH o)] I (Ki (bI (0 < I (oH o) 8)) I) := by
  refine Cl.of (by decide) (Nat.le_of_ble_eq_true rfl) ?_
  show Rn X 0 mX3_isThere _ 0 [(0, rv X (oH o))] [] I
  unfold rg at hr
  refine r_aload_n (pc := 0) (a := 0) (i := 0) 0 rfl rfl dX3_isThere_0 ?_
  refine r_get (pc := 1) ckX3 (oH_lt (h_o)) (cellO (h_o)) (j := 8) (by decide) rfl kf_X3_36 dX3_isThere_1 ?_
  refine r_if_le (pc := 4) 11 (by unfold rg; omega) dX3_isThere_4 (by decide) (fun h4 => ?_) (fun h4 => ?_)
  · skip
    refine r_iconst (pc := 11) dX3_isThere_11 ?_
    refine r_zret (pc := 12) (st := []) rfl (rfl) dX3_isThere_12 ?_
    exact ⟨by rw [bI_f (by omega)], rfl⟩
  · skip
    refine r_iconst (pc := 7) dX3_isThere_7 ?_
    refine r_goto (pc := 8) 12 dX3_isThere_8 (by decide) ?_
    refine r_zret (pc := 12) (st := []) rfl (rfl) dX3_isThere_12 ?_
    exact ⟨by rw [bI_t (by omega)], rfl⟩

set_option maxRecDepth 100000 in
set_option maxHeartbeats 4000000 in
theorem kX8_undo (X : XC) {I : HD} (hB : RB I I) : Cl X 6 mX8_undo [rv X 0] I (fun r J => (I 30 9 = 0 → r = some (iv (-1000002)) ∧ J = I) ∧ (0 < I 30 9 → r = some (iv (I 30 9 - 1)) ∧ ofC I J (slotO I (I 30 9 - 1)) 0 ∧ J 21 2 = I 30 9 - 1 ∧ J 21 1 = I 21 1 ∧ ∀ a, a ≠ 21 → (a < 45 ∨ 54 ≤ a) → J a = I a)) := by
  refine Cl.of (by decide) (Nat.le_of_ble_eq_true rfl) ?_
  show Rn X 6 mX8_undo _ 0 [(0, rv X 0)] [] I
  have b4 := hB.2.2.2.1
  have b5 := hB.2.2.2.2.1
  refine r_aload_n (pc := 0) (a := 0) (i := 0) 0 rfl rfl dX8_undo_0 ?_
  refine r_get (pc := 1) ckX8 (by decide) rfl (j := 3) (by decide) rfl kf_X8_32 dX8_undo_1 ?_
  refine r_getN (pc := 4) ckX0 (by decide) rfl (j := 2) (by decide) (show _ = some (iv (I 30 9)) by rw [← hB.2.2.1]; rfl) kf_X8_214 dX8_undo_4 ?_
  refine r_if_ne (pc := 7) 13 (by unfold rg; omega) dX8_undo_7 (by decide) (fun h7 => ?_) (fun h7 => ?_)
  · skip
    refine r_aload_n (pc := 13) (a := 0) (i := 0) 0 rfl rfl dX8_undo_13 ?_
    refine r_get (pc := 14) ckX8 (by decide) rfl (j := 3) (by decide) rfl kf_X8_32 dX8_undo_14 ?_
    refine r_aload_n (pc := 17) (a := 0) (i := 0) 0 rfl rfl dX8_undo_17 ?_
    refine r_get (pc := 18) ckX8 (by decide) rfl (j := 2) (by decide) rfl kf_X8_25 dX8_undo_18 ?_
    refine r_callV (pc := 21) (st := []) (As := [rv X (oH 0)]) okX0_takeBack (by decide) (by decide) rfl rfl rfl (Nat.le_of_ble_eq_true rfl) km_X8_217 (kX0_takeBack X hB.2.2.1 (by omega) b5 hB.1 hB.2.1) dX8_undo_21 ?_
    rintro _ J1 ⟨rfl, g1, g2, g3, g4⟩
    refine r_aload_n (pc := 24) (a := 0) (i := 0) 0 rfl rfl dX8_undo_24 ?_
    refine r_get (pc := 25) ckX8 (by decide) rfl (j := 3) (by decide) rfl kf_X8_32 dX8_undo_25 ?_
    refine r_getN (pc := 28) ckX0 (by decide) rfl (j := 2) (by decide) (show _ = some (iv (I 30 9 - 1)) by rw [← g2]; rfl) kf_X8_214 dX8_undo_28 ?_
    refine r_iret (pc := 31) (st := []) rfl dX8_undo_31 ?_
    exact ⟨fun a => absurd a (by omega), fun _ => ⟨rfl, g1, g2, g3, g4⟩⟩
  · skip
    refine r_ldc (pc := 10) kc_X8_160 dX8_undo_10 ?_
    refine r_iret (pc := 12) (st := []) rfl dX8_undo_12 ?_
    exact ⟨fun _ => ⟨rfl, rfl⟩, fun a => absurd a (by omega)⟩

set_option maxRecDepth 100000 in
set_option maxHeartbeats 4000000 in
theorem kX9_undo (X : XC) {I : HD} (n0 : 0 ≤ I 30 9) (n1 : I 30 9 ≤ 24) : Cl X 6 mX9_undo [rv X 30] I (fun r J => (I 30 9 = 0 → r = some (iv (-1000002)) ∧ J = up I 30 0 0) ∧ (0 < I 30 9 → r = some (iv (I 30 9 - 1)) ∧ J = upA (up (up I 30 0 0) 30 9 (I 30 9 - 1)) 34 (cp127 (wasO I (I 30 9 - 1)) (I 34) 127))) := by
  refine Cl.of (by decide) (Nat.le_of_ble_eq_true rfl) ?_
  show Rn X 6 mX9_undo _ 0 [(0, rv X 30)] [] I
  refine r_aload_n (pc := 0) (a := 0) (i := 0) 0 rfl rfl dX9_undo_0 ?_
  refine r_iconst (pc := 1) dX9_undo_1 ?_
  refine r_put (pc := 2) 0 (ji := 0) rfl ckX9 (by decide) rfl rfl (by decide) (Nat.le_of_ble_eq_true rfl) kf_X9_54 rfl rfl rfl rfl dX9_undo_2 ?_
  refine r_aload_n (pc := 5) (a := 0) (i := 0) 0 rfl rfl dX9_undo_5 ?_
  refine r_get (pc := 6) ckX9 (by decide) rfl (j := 9) (by decide) (show _ = some (iv (I 30 9)) by rw [← (show up I 30 0 0 30 9 = I 30 9 from up_i (by decide))]; rfl) kf_X9_188 dX9_undo_6 ?_
  refine r_if_ne (pc := 9) 15 (by unfold rg; omega) dX9_undo_9 (by decide) (fun h9 => ?_) (fun h9 => ?_)
  · skip
    refine r_aload_n (pc := 15) (a := 0) (i := 0) 0 rfl rfl dX9_undo_15 ?_
    refine r_dup (pc := 16) rfl dX9_undo_16 ?_
    refine r_get (pc := 17) ckX9 (by decide) rfl (j := 9) (by decide) (show _ = some (iv (I 30 9)) by rw [← (show up I 30 0 0 30 9 = I 30 9 from up_i (by decide))]; rfl) kf_X9_188 dX9_undo_17 ?_
    refine r_iconst (pc := 20) dX9_undo_20 ?_
    refine r_isub (pc := 21) dX9_undo_21 ?_
    refine r_put (pc := 22) 9 (ji := 9) rfl ckX9 (by decide) rfl rfl (by decide) (Nat.le_of_ble_eq_true rfl) kf_X9_188 rfl rfl rfl rfl dX9_undo_22 ?_
    refine r_iconst (pc := 25) dX9_undo_25 ?_
    refine r_istore_n (pc := 26) (a := 1) (i := 1) rfl [(1, iv 0), (0, rv X 30)] (by decide) rfl dX9_undo_26 ?_
    refine r_I (J := upA (up (up I 30 0 0) 30 9 (I 30 9 - 1)) 34 (cp127 (wasO I (I 30 9 - 1)) (I 34) 0)) (by rw [cp127_0]; exact upA_e ((up_row (show (34 : Nat) ≠ 30 by decide)).trans (up_row (by decide)))) ?_
    have at27 : ∀ (n27 : Nat) (k : Int), (127 - k).toNat < n27 → (hk0 : 0 ≤ k) → (hk1 : k ≤ 127) → Rn X 6 mX9_undo (fun r J => (I 30 9 = 0 → r = some (iv (-1000002)) ∧ J = up I 30 0 0) ∧ (0 < I 30 9 → r = some (iv (I 30 9 - 1)) ∧ J = upA (up (up I 30 0 0) 30 9 (I 30 9 - 1)) 34 (cp127 (wasO I (I 30 9 - 1)) (I 34) 127))) 27 [(0, rv X 30), (1, iv k)] [] (upA (up (up I 30 0 0) 30 9 (I 30 9 - 1)) 34 (cp127 (wasO I (I 30 9 - 1)) (I 34) k)) := by
      intro n27
      induction n27 with
      | zero => intro k hm; omega
      | succ n27 ih27 =>
        intro k hm27 hk0 hk1
        refine r_iload_n (pc := 27) (a := 1) (i := 1) 1 rfl rfl dX9_undo_27 ?_
        refine r_bipush (pc := 28) rfl dX9_undo_28 ?_
        refine r_icmp_ge (pc := 30) 59 (by unfold rg; omega) (by unfold rg; omega) dX9_undo_30 (by decide) (fun h30 => ?_) (fun h30 => ?_)
        · skip
          refine r_aload_n (pc := 59) (a := 0) (i := 0) 0 rfl rfl dX9_undo_59 ?_
          refine r_get (pc := 60) ckX9 (by decide) rfl (j := 9) (by decide) (show _ = some (iv (I 30 9 - 1)) by rw [← (show (upA (up (up I 30 0 0) 30 9 (I 30 9 - 1)) 34 (cp127 (wasO I (I 30 9 - 1)) (I 34) k)) 30 9 = I 30 9 - 1 from (congrFun (upA_h (by decide)) _).trans up_s)]; rfl) kf_X9_188 dX9_undo_60 ?_
          refine r_iret (pc := 63) (st := []) rfl dX9_undo_63 ?_
          exact ⟨fun a => absurd a (by omega), fun _ => ⟨rfl, by rw [show k = 127 by omega]⟩⟩
        · skip
          refine r_aload_n (pc := 33) (a := 0) (i := 0) 0 rfl rfl dX9_undo_33 ?_
          refine r_get (pc := 34) ckX9 (by decide) rfl (j := 5) (by decide) rfl kf_X9_19 dX9_undo_34 ?_
          refine r_iload_n (pc := 37) (a := 1) (i := 1) 1 rfl rfl dX9_undo_37 ?_
          refine r_aload_n (pc := 38) (a := 0) (i := 0) 0 rfl rfl dX9_undo_38 ?_
          refine r_get (pc := 39) ckX9 (by decide) rfl (j := 8) (by decide) rfl kf_X9_25 dX9_undo_39 ?_
          refine r_bipush (pc := 42) rfl dX9_undo_42 ?_
          refine r_aload_n (pc := 44) (a := 0) (i := 0) 0 rfl rfl dX9_undo_44 ?_
          refine r_get (pc := 45) ckX9 (by decide) rfl (j := 9) (by decide) (show _ = some (iv (I 30 9 - 1)) by rw [← (show (upA (up (up I 30 0 0) 30 9 (I 30 9 - 1)) 34 (cp127 (wasO I (I 30 9 - 1)) (I 34) k)) 30 9 = I 30 9 - 1 from (congrFun (upA_h (by decide)) _).trans up_s)]; rfl) kf_X9_188 dX9_undo_45 ?_
          refine r_imul (pc := 48) dX9_undo_48 ?_
          refine r_iload_n (pc := 49) (a := 1) (i := 1) 1 rfl rfl dX9_undo_49 ?_
          refine r_iadd (pc := 50) dX9_undo_50 ?_
          refine r_iald (pc := 51) (z := wasO I (I 30 9 - 1) k) (by decide) rfl (by omega) (by omega) (by decide) (by rw [upA_h (by decide), up_row (by decide), up_row (by decide)]) dX9_undo_51 ?_
          refine r_iast (pc := 52) (by decide) (fun _ => rfl) (by omega) (by omega) (by decide) dX9_undo_52 ?_
          refine r_I (J := upA (up (up I 30 0 0) 30 9 (I 30 9 - 1)) 34 (cp127 (wasO I (I 30 9 - 1)) (I 34) (k + 1))) (cp127_s hk0 rfl) ?_
          refine r_iinc (pc := 53) 1 [(1, iv (k + 1)), (0, rv X 30)] rfl (by decide) rfl dX9_undo_53 ?_
          refine r_goto (pc := 56) 27 dX9_undo_56 (by decide) ?_
          refine r_lv [1, 0] [(0, rv X 30), (1, iv (k + 1))] rfl ?_
          exact ih27 (k + 1) (by omega) (by omega) (by omega)
    refine r_lv [1, 0] [(0, rv X 30), (1, iv 0)] rfl ?_
    exact at27 _ 0 (Nat.lt_succ_self _) (by omega) (by omega)
  · skip
    refine r_ldc (pc := 12) kc_X9_206 dX9_undo_12 ?_
    refine r_iret (pc := 14) (st := []) rfl dX9_undo_14 ?_
    exact ⟨fun _ => ⟨rfl, rfl⟩, fun a => absurd a (by omega)⟩

set_option maxRecDepth 100000 in
set_option maxHeartbeats 4000000 in
theorem kX8_image (X : XC) {I : HD} {O : OF} (hR : RepC O I 0) (hV : Val O) {j : Int} (hj : rg j) : Cl X 6 mX8_image [rv X 0, iv j] I (fun r J => (¬ (0 ≤ j ∧ j < 2) → r = some (iv (-1000001)) ∧ J = I) ∧ (0 ≤ j ∧ j < 2 → ¬ 0 < O 0 → r = some (iv (-1000002)) ∧ J = I) ∧ (0 ≤ j ∧ j < 2 → 0 < O 0 → r = some (iv 1) ∧ frO I J (2 + j.toNat) ∧ ofC I J 0 (2 + j.toNat))) := by
  refine Cl.of (by decide) (Nat.le_of_ble_eq_true rfl) ?_
  show Rn X 6 mX8_image _ 0 [(0, rv X 0), (1, iv j)] [] I
  unfold rg at hj
  have q0 := hV.a
  refine r_iload_n (pc := 0) (a := 1) (i := 1) 1 rfl rfl dX8_image_0 ?_
  refine r_callSi (pc := 1) (st := []) (As := [iv j]) okX8_isImage (by decide) trivial rfl (Nat.le_of_ble_eq_true rfl) km_X8_298 (kX8_isImage X (by unfold rg; omega)) dX8_image_1 ?_
  refine r_if_ne (pc := 4) 10 rg_bI dX8_image_4 (by decide) (fun h4 => ?_) (fun h4 => ?_)
  · skip
    have h4 := bI_n.mp h4
    refine r_aload_n (pc := 10) (a := 0) (i := 0) 0 rfl rfl dX8_image_10 ?_
    refine r_get (pc := 11) ckX8 (by decide) rfl (j := 2) (by decide) rfl kf_X8_25 dX8_image_11 ?_
    refine r_callVi (pc := 14) (st := []) (As := []) okX3_isThere (by decide) (oH_lt (show 0 < 28 by decide)) (cellO (show 0 < 28 by decide)) rfl rfl (Nat.le_of_ble_eq_true rfl) km_X8_197 (kX3_isThere X (by decide) hR hV ) dX8_image_14 ?_
    refine r_if_ne (pc := 17) 23 rg_bI dX8_image_17 (by decide) (fun h17 => ?_) (fun h17 => ?_)
    · skip
      have h17 := bI_n.mp h17
      refine r_aload_n (pc := 23) (a := 0) (i := 0) 0 rfl rfl dX8_image_23 ?_
      refine r_get (pc := 24) ckX8 (by decide) rfl (j := 4) (by decide) rfl kf_X8_36 dX8_image_24 ?_
      refine r_iload_n (pc := 27) (a := 1) (i := 1) 1 rfl rfl dX8_image_27 ?_
      refine r_aald (pc := 28) (g := (fun j => 45 + 9 * (2 + j))) (C := RX3) (by decide) rfl rfl (by omega) (by omega) (by decide) dX8_image_28 ?_
      refine r_aload_n (pc := 29) (a := 0) (i := 0) 0 rfl rfl dX8_image_29 ?_
      refine r_get (pc := 30) ckX8 (by decide) rfl (j := 2) (by decide) rfl kf_X8_25 dX8_image_30 ?_
      refine r_callV (pc := 33) (st := []) (As := [rv X (oH 0)]) okX3_takeOver (by decide) (oH_lt (show (2 + (j).toNat) < 28 by omega)) (cellO (show (2 + (j).toNat) < 28 by omega)) rfl rfl (Nat.le_of_ble_eq_true rfl) km_X8_144 (kX3_takeOver X (s := 0) (t := 2 + (j).toNat) (by decide) (by omega) (by omega)) dX8_image_33 ?_
      rintro _ J1 ⟨rfl, g1, g2⟩
      refine r_iconst (pc := 36) dX8_image_36 ?_
      refine r_iret (pc := 37) (st := []) rfl dX8_image_37 ?_
      exact ⟨fun a => absurd a (by omega), fun _ b => absurd b (by omega), fun _ _ => ⟨rfl, g1, g2⟩⟩
    · skip
      have h17 := bI_0.mp h17
      refine r_ldc (pc := 20) kc_X8_160 dX8_image_20 ?_
      refine r_iret (pc := 22) (st := []) rfl dX8_image_22 ?_
      exact ⟨fun a => absurd a (by omega), fun _ _ => ⟨rfl, rfl⟩, fun _ b => absurd b (by omega)⟩
  · skip
    have h4 := bI_0.mp h4
    refine r_ldc (pc := 7) kc_X8_73 dX8_image_7 ?_
    refine r_iret (pc := 9) (st := []) rfl dX8_image_9 ?_
    exact ⟨fun _ => ⟨rfl, rfl⟩, fun a => absurd a (by omega), fun a => absurd a (by omega)⟩

set_option maxRecDepth 100000 in
set_option maxHeartbeats 4000000 in
theorem kX9_image (X : XC) {I : HD} {O : OF} (hO : I 34 = O) (hT : I 30 7 = bI (0 < O 0)) (hV : Val O) {j : Int} (hj : rg j) : Cl X 6 mX9_image [rv X 30, iv j] I (fun r J => (¬ (0 ≤ j ∧ j < 2) → r = some (iv (-1000001)) ∧ J = up I 30 0 0) ∧ (0 ≤ j ∧ j < 2 → ¬ 0 < O 0 → r = some (iv (-1000002)) ∧ J = up I 30 0 0) ∧ (0 ≤ j ∧ j < 2 → 0 < O 0 → r = some (iv 1) ∧ J = up (upA (up I 30 0 0) 43 (blk (I 43) O j 127)) 42 j 1)) := by
  refine Cl.of (by decide) (Nat.le_of_ble_eq_true rfl) ?_
  show Rn X 6 mX9_image _ 0 [(0, rv X 30), (1, iv j)] [] I
  have hO2 : (up I 30 0 0) 34 = O := (up_row (by decide)).trans hO
  have hT2 : (up I 30 0 0) 30 7 = bI (0 < O 0) := (up_i (by decide)).trans hT
  unfold rg at hj
  have q0 := hV.a
  refine r_aload_n (pc := 0) (a := 0) (i := 0) 0 rfl rfl dX9_image_0 ?_
  refine r_iconst (pc := 1) dX9_image_1 ?_
  refine r_put (pc := 2) 0 (ji := 0) rfl ckX9 (by decide) rfl rfl (by decide) (Nat.le_of_ble_eq_true rfl) kf_X9_54 rfl rfl rfl rfl dX9_image_2 ?_
  refine r_iload_n (pc := 5) (a := 1) (i := 1) 1 rfl rfl dX9_image_5 ?_
  refine r_i2l (pc := 6) (by unfold rg; omega) dX9_image_6 ?_
  refine r_lconst (pc := 7) (z := 0) rfl dX9_image_7 ?_
  refine r_lconst (pc := 8) (z := 1) rfl dX9_image_8 ?_
  refine r_callSi (pc := 9) (st := []) (As := [jv j, jv 0, jv 1]) okX9_in (by decide) trivial rfl (Nat.le_of_ble_eq_true rfl) km_X9_64 (kX9_in X (by unfold rl; omega) (by unfold rl; omega) (by unfold rl; omega)) dX9_image_9 ?_
  refine r_if_ne (pc := 12) 18 rg_bI dX9_image_12 (by decide) (fun h12 => ?_) (fun h12 => ?_)
  · skip
    have h12 := bI_n.mp h12
    refine r_aload_n (pc := 18) (a := 0) (i := 0) 0 rfl rfl dX9_image_18 ?_
    refine r_get (pc := 19) ckX9 (by decide) rfl (j := 7) (by decide) (show _ = some (iv (bI (0 < O 0))) by rw [← hT2]; rfl) kf_X9_184 dX9_image_19 ?_
    refine r_if_ne (pc := 22) 28 rg_bI dX9_image_22 (by decide) (fun h22 => ?_) (fun h22 => ?_)
    · skip
      have h22 := bI_n.mp h22
      refine r_iconst (pc := 28) dX9_image_28 ?_
      refine r_istore_n (pc := 29) (a := 2) (i := 2) rfl [(2, iv 0), (0, rv X 30), (1, iv j)] (by decide) rfl dX9_image_29 ?_
      refine r_I (J := upA (up I 30 0 0) 43 (blk (I 43) O j 0)) (by rw [blk_0]; exact upA_e (up_row (by decide))) ?_
      have at30 : ∀ (n30 : Nat) (k : Int), (127 - k).toNat < n30 → (hk0 : 0 ≤ k) → (hk1 : k ≤ 127) → Rn X 6 mX9_image (fun r J => (¬ (0 ≤ j ∧ j < 2) → r = some (iv (-1000001)) ∧ J = up I 30 0 0) ∧ (0 ≤ j ∧ j < 2 → ¬ 0 < O 0 → r = some (iv (-1000002)) ∧ J = up I 30 0 0) ∧ (0 ≤ j ∧ j < 2 → 0 < O 0 → r = some (iv 1) ∧ J = up (upA (up I 30 0 0) 43 (blk (I 43) O j 127)) 42 j 1)) 30 [(0, rv X 30), (1, iv j), (2, iv k)] [] (upA (up I 30 0 0) 43 (blk (I 43) O j k)) := by
        intro n30
        induction n30 with
        | zero => intro k hm; omega
        | succ n30 ih30 =>
          intro k hm30 hk0 hk1
          refine r_iload_n (pc := 30) (a := 2) (i := 2) 2 rfl rfl dX9_image_30 ?_
          refine r_bipush (pc := 31) rfl dX9_image_31 ?_
          refine r_icmp_ge (pc := 33) 59 (by unfold rg; omega) (by unfold rg; omega) dX9_image_33 (by decide) (fun h33 => ?_) (fun h33 => ?_)
          · skip
            refine r_aload_n (pc := 59) (a := 0) (i := 0) 0 rfl rfl dX9_image_59 ?_
            refine r_get (pc := 60) ckX9 (by decide) rfl (j := 24) (by decide) rfl kf_X9_44 dX9_image_60 ?_
            refine r_iload_n (pc := 63) (a := 1) (i := 1) 1 rfl rfl dX9_image_63 ?_
            refine r_iconst (pc := 64) dX9_image_64 ?_
            refine r_zast (pc := 65) (by decide) (fun _ => rfl) (by omega) (by omega) (by decide) (rfl) dX9_image_65 ?_
            refine r_iconst (pc := 66) dX9_image_66 ?_
            refine r_iret (pc := 67) (st := []) rfl dX9_image_67 ?_
            exact ⟨fun a => absurd a (by omega), fun _ b => absurd b (by omega), fun _ _ => ⟨rfl, by rw [show k = 127 by omega]⟩⟩
          · skip
            refine r_aload_n (pc := 36) (a := 0) (i := 0) 0 rfl rfl dX9_image_36 ?_
            refine r_get (pc := 37) ckX9 (by decide) rfl (j := 25) (by decide) rfl kf_X9_48 dX9_image_37 ?_
            refine r_bipush (pc := 40) rfl dX9_image_40 ?_
            refine r_iload_n (pc := 42) (a := 1) (i := 1) 1 rfl rfl dX9_image_42 ?_
            refine r_imul (pc := 43) dX9_image_43 ?_
            refine r_iload_n (pc := 44) (a := 2) (i := 2) 2 rfl rfl dX9_image_44 ?_
            refine r_iadd (pc := 45) dX9_image_45 ?_
            refine r_aload_n (pc := 46) (a := 0) (i := 0) 0 rfl rfl dX9_image_46 ?_
            refine r_get (pc := 47) ckX9 (by decide) rfl (j := 5) (by decide) rfl kf_X9_19 dX9_image_47 ?_
            refine r_iload_n (pc := 50) (a := 2) (i := 2) 2 rfl rfl dX9_image_50 ?_
            refine r_iald (pc := 51) (z := O k) (by decide) rfl (by omega) (by omega) (by decide) ((congrFun (upA_h (by decide)) _).trans (congrFun hO2 _)) dX9_image_51 ?_
            refine r_iast (pc := 52) (by decide) (fun _ => rfl) (by omega) (by omega) (by decide) dX9_image_52 ?_
            refine r_I (J := upA (up I 30 0 0) 43 (blk (I 43) O j (k + 1))) (blk_s hk0 rfl) ?_
            refine r_iinc (pc := 53) 2 [(2, iv (k + 1)), (0, rv X 30), (1, iv j)] rfl (by decide) rfl dX9_image_53 ?_
            refine r_goto (pc := 56) 30 dX9_image_56 (by decide) ?_
            refine r_lv [1, 2, 0] [(0, rv X 30), (1, iv j), (2, iv (k + 1))] rfl ?_
            exact ih30 (k + 1) (by omega) (by omega) (by omega)
      refine r_lv [1, 2, 0] [(0, rv X 30), (1, iv j), (2, iv 0)] rfl ?_
      exact at30 _ 0 (Nat.lt_succ_self _) (by omega) (by omega)
    · skip
      have h22 := bI_0.mp h22
      refine r_ldc (pc := 25) kc_X9_206 dX9_image_25 ?_
      refine r_iret (pc := 27) (st := []) rfl dX9_image_27 ?_
      exact ⟨fun a => absurd a (by omega), fun _ _ => ⟨rfl, rfl⟩, fun _ b => absurd b (by omega)⟩
  · skip
    have h12 := bI_0.mp h12
    refine r_ldc (pc := 15) kc_X9_74 dX9_image_15 ?_
    refine r_iret (pc := 17) (st := []) rfl dX9_image_17 ?_
    exact ⟨fun _ => ⟨rfl, rfl⟩, fun a => absurd a (by omega), fun a => absurd a (by omega)⟩

set_option maxRecDepth 100000 in
set_option maxHeartbeats 4000000 in
theorem kX8_restore (X : XC) {I : HD} (hD : RD I I) {j : Int} (hj : rg j) : Cl X 6 mX8_restore [rv X 0, iv j] I (fun r J => (¬ (0 ≤ j ∧ j < 2) → r = some (iv (-1000001)) ∧ J = I) ∧ (0 ≤ j ∧ j < 2 → ¬ 0 < I (oH (2 + j.toNat)) 8 → r = some (iv (-1000002)) ∧ J = I) ∧ (0 ≤ j ∧ j < 2 → 0 < I (oH (2 + j.toNat)) 8 → r = some (iv 1) ∧ ofC I J (2 + j.toNat) 0 ∧ J 21 1 = 0 ∧ J 21 2 = 0 ∧ ∀ a, a ≠ 21 → (a < 45 ∨ 54 ≤ a) → J a = I a)) := by
  refine Cl.of (by decide) (Nat.le_of_ble_eq_true rfl) ?_
  show Rn X 6 mX8_restore _ 0 [(0, rv X 0), (1, iv j)] [] I
  unfold rg at hj
  have oe : ∀ x, oH x = 45 + 9 * x := fun _ => rfl
  refine r_iload_n (pc := 0) (a := 1) (i := 1) 1 rfl rfl dX8_restore_0 ?_
  refine r_callSi (pc := 1) (st := []) (As := [iv j]) okX8_isImage (by decide) trivial rfl (Nat.le_of_ble_eq_true rfl) km_X8_298 (kX8_isImage X (by unfold rg; omega)) dX8_restore_1 ?_
  refine r_if_ne (pc := 4) 10 rg_bI dX8_restore_4 (by decide) (fun h4 => ?_) (fun h4 => ?_)
  · skip
    have h4 := bI_n.mp h4
    obtain ⟨_, hr8, _⟩ := hD j h4.1 h4.2
    refine r_aload_n (pc := 10) (a := 0) (i := 0) 0 rfl rfl dX8_restore_10 ?_
    refine r_get (pc := 11) ckX8 (by decide) rfl (j := 4) (by decide) rfl kf_X8_36 dX8_restore_11 ?_
    refine r_iload_n (pc := 14) (a := 1) (i := 1) 1 rfl rfl dX8_restore_14 ?_
    refine r_aald (pc := 15) (g := (fun j => 45 + 9 * (2 + j))) (C := RX3) (by decide) rfl rfl (by omega) (by omega) (by decide) dX8_restore_15 ?_
    refine r_callVi (pc := 16) (st := []) (As := []) okX3_isThere (by decide) (oH_lt (show (2 + (j).toNat) < 28 by omega)) (cellO (show (2 + (j).toNat) < 28 by omega)) rfl rfl (Nat.le_of_ble_eq_true rfl) km_X8_197 (rX3_isThere X (by omega) hr8) dX8_restore_16 ?_
    refine r_if_ne (pc := 19) 25 rg_bI dX8_restore_19 (by decide) (fun h19 => ?_) (fun h19 => ?_)
    · skip
      have h19 := bI_n.mp h19
      refine r_aload_n (pc := 25) (a := 0) (i := 0) 0 rfl rfl dX8_restore_25 ?_
      refine r_get (pc := 26) ckX8 (by decide) rfl (j := 2) (by decide) rfl kf_X8_25 dX8_restore_26 ?_
      refine r_aload_n (pc := 29) (a := 0) (i := 0) 0 rfl rfl dX8_restore_29 ?_
      refine r_get (pc := 30) ckX8 (by decide) rfl (j := 4) (by decide) rfl kf_X8_36 dX8_restore_30 ?_
      refine r_iload_n (pc := 33) (a := 1) (i := 1) 1 rfl rfl dX8_restore_33 ?_
      refine r_aald (pc := 34) (g := (fun j => 45 + 9 * (2 + j))) (C := RX3) (by decide) rfl rfl (by omega) (by omega) (by decide) dX8_restore_34 ?_
      refine r_callV (pc := 35) (st := []) (As := [rv X (oH (2 + (j).toNat))]) okX3_takeOver (by decide) (oH_lt (show 0 < 28 by decide)) (cellO (show 0 < 28 by decide)) rfl rfl (Nat.le_of_ble_eq_true rfl) km_X8_144 (kX3_takeOver X (s := 2 + (j).toNat) (t := 0) (by omega) (by decide) (by omega)) dX8_restore_35 ?_
      rintro _ J1 ⟨rfl, g1, g2⟩
      refine r_aload_n (pc := 38) (a := 0) (i := 0) 0 rfl rfl dX8_restore_38 ?_
      refine r_get (pc := 39) ckX8 (by decide) rfl (j := 3) (by decide) rfl kf_X8_32 dX8_restore_39 ?_
      refine r_callVv (pc := 42) (st := []) (As := []) okX0_forget (by decide) (by decide) rfl rfl rfl (Nat.le_of_ble_eq_true rfl) km_X8_148 (kX0_forget X) dX8_restore_42 ?_
      refine r_iconst (pc := 45) dX8_restore_45 ?_
      refine r_iret (pc := 46) (st := []) rfl dX8_restore_46 ?_
      exact ⟨fun a => absurd a (by omega), fun _ b => absurd b (by omega), fun _ _ => ⟨rfl, (g2.up (Or.inl (by rw [oe]; omega))).up (Or.inl (by rw [oe]; omega)), (up_i (by decide)).trans up_s, up_s, fun a x y => (up_row x).trans ((up_row x).trans (g1 a (by rw [oe]; omega)))⟩⟩
    · skip
      have h19 := bI_0.mp h19
      refine r_ldc (pc := 22) kc_X8_160 dX8_restore_22 ?_
      refine r_iret (pc := 24) (st := []) rfl dX8_restore_24 ?_
      exact ⟨fun a => absurd a (by omega), fun _ _ => ⟨rfl, rfl⟩, fun _ b => absurd b (by omega)⟩
  · skip
    have h4 := bI_0.mp h4
    refine r_ldc (pc := 7) kc_X8_73 dX8_restore_7 ?_
    refine r_iret (pc := 9) (st := []) rfl dX8_restore_9 ?_
    exact ⟨fun _ => ⟨rfl, rfl⟩, fun a => absurd a (by omega), fun a => absurd a (by omega)⟩

set_option maxRecDepth 100000 in
set_option maxHeartbeats 4000000 in
theorem kX9_restore (X : XC) {I : HD} (hD : RD I I) {j : Int} (hj : rg j) : Cl X 6 mX9_restore [rv X 30, iv j] I (fun r J => (¬ (0 ≤ j ∧ j < 2) → r = some (iv (-1000001)) ∧ J = up I 30 0 0) ∧ (0 ≤ j ∧ j < 2 → ¬ 0 < I (oH (2 + j.toNat)) 8 → r = some (iv (-1000002)) ∧ J = up I 30 0 0) ∧ (0 ≤ j ∧ j < 2 → 0 < I (oH (2 + j.toNat)) 8 → r = some (iv 1) ∧ J = up (upA (up I 30 0 0) 34 (cp127 (imgO I j) (I 34) 127)) 30 9 0)) := by
  refine Cl.of (by decide) (Nat.le_of_ble_eq_true rfl) ?_
  show Rn X 6 mX9_restore _ 0 [(0, rv X 30), (1, iv j)] [] I
  unfold rg at hj
  refine r_aload_n (pc := 0) (a := 0) (i := 0) 0 rfl rfl dX9_restore_0 ?_
  refine r_iconst (pc := 1) dX9_restore_1 ?_
  refine r_put (pc := 2) 0 (ji := 0) rfl ckX9 (by decide) rfl rfl (by decide) (Nat.le_of_ble_eq_true rfl) kf_X9_54 rfl rfl rfl rfl dX9_restore_2 ?_
  refine r_iload_n (pc := 5) (a := 1) (i := 1) 1 rfl rfl dX9_restore_5 ?_
  refine r_i2l (pc := 6) (by unfold rg; omega) dX9_restore_6 ?_
  refine r_lconst (pc := 7) (z := 0) rfl dX9_restore_7 ?_
  refine r_lconst (pc := 8) (z := 1) rfl dX9_restore_8 ?_
  refine r_callSi (pc := 9) (st := []) (As := [jv j, jv 0, jv 1]) okX9_in (by decide) trivial rfl (Nat.le_of_ble_eq_true rfl) km_X9_64 (kX9_in X (by unfold rl; omega) (by unfold rl; omega) (by unfold rl; omega)) dX9_restore_9 ?_
  refine r_if_ne (pc := 12) 18 rg_bI dX9_restore_12 (by decide) (fun h12 => ?_) (fun h12 => ?_)
  · skip
    have h12 := bI_n.mp h12
    have hD4 := (hD j h12.1 (by omega)).1
    refine r_aload_n (pc := 18) (a := 0) (i := 0) 0 rfl rfl dX9_restore_18 ?_
    refine r_get (pc := 19) ckX9 (by decide) rfl (j := 24) (by decide) rfl kf_X9_44 dX9_restore_19 ?_
    refine r_iload_n (pc := 22) (a := 1) (i := 1) 1 rfl rfl dX9_restore_22 ?_
    refine r_zald (pc := 23) (z := bI (0 < I (oH (2 + j.toNat)) 8)) (by decide) rfl (by omega) (by omega) (by decide) ((congrFun (up_row (by decide)) _).trans hD4) dX9_restore_23 ?_
    refine r_if_ne (pc := 24) 30 rg_bI dX9_restore_24 (by decide) (fun h24 => ?_) (fun h24 => ?_)
    · skip
      have h24 := bI_n.mp h24
      refine r_iconst (pc := 30) dX9_restore_30 ?_
      refine r_istore_n (pc := 31) (a := 2) (i := 2) rfl [(2, iv 0), (0, rv X 30), (1, iv j)] (by decide) rfl dX9_restore_31 ?_
      refine r_I (J := upA (up I 30 0 0) 34 (cp127 (imgO I j) (I 34) 0)) (by rw [cp127_0]; exact upA_e (up_row (by decide))) ?_
      have at32 : ∀ (n32 : Nat) (k : Int), (127 - k).toNat < n32 → (hk0 : 0 ≤ k) → (hk1 : k ≤ 127) → Rn X 6 mX9_restore (fun r J => (¬ (0 ≤ j ∧ j < 2) → r = some (iv (-1000001)) ∧ J = up I 30 0 0) ∧ (0 ≤ j ∧ j < 2 → ¬ 0 < I (oH (2 + j.toNat)) 8 → r = some (iv (-1000002)) ∧ J = up I 30 0 0) ∧ (0 ≤ j ∧ j < 2 → 0 < I (oH (2 + j.toNat)) 8 → r = some (iv 1) ∧ J = up (upA (up I 30 0 0) 34 (cp127 (imgO I j) (I 34) 127)) 30 9 0)) 32 [(0, rv X 30), (1, iv j), (2, iv k)] [] (upA (up I 30 0 0) 34 (cp127 (imgO I j) (I 34) k)) := by
        intro n32
        induction n32 with
        | zero => intro k hm; omega
        | succ n32 ih32 =>
          intro k hm32 hk0 hk1
          refine r_iload_n (pc := 32) (a := 2) (i := 2) 2 rfl rfl dX9_restore_32 ?_
          refine r_bipush (pc := 33) rfl dX9_restore_33 ?_
          refine r_icmp_ge (pc := 35) 61 (by unfold rg; omega) (by unfold rg; omega) dX9_restore_35 (by decide) (fun h35 => ?_) (fun h35 => ?_)
          · skip
            refine r_aload_n (pc := 61) (a := 0) (i := 0) 0 rfl rfl dX9_restore_61 ?_
            refine r_iconst (pc := 62) dX9_restore_62 ?_
            refine r_put (pc := 63) 9 (ji := 9) rfl ckX9 (by decide) rfl rfl (by decide) (Nat.le_of_ble_eq_true rfl) kf_X9_188 rfl rfl rfl rfl dX9_restore_63 ?_
            refine r_iconst (pc := 66) dX9_restore_66 ?_
            refine r_iret (pc := 67) (st := []) rfl dX9_restore_67 ?_
            exact ⟨fun a => absurd a (by omega), fun _ b => absurd b (by omega), fun _ _ => ⟨rfl, by rw [show k = 127 by omega]⟩⟩
          · skip
            refine r_aload_n (pc := 38) (a := 0) (i := 0) 0 rfl rfl dX9_restore_38 ?_
            refine r_get (pc := 39) ckX9 (by decide) rfl (j := 5) (by decide) rfl kf_X9_19 dX9_restore_39 ?_
            refine r_iload_n (pc := 42) (a := 2) (i := 2) 2 rfl rfl dX9_restore_42 ?_
            refine r_aload_n (pc := 43) (a := 0) (i := 0) 0 rfl rfl dX9_restore_43 ?_
            refine r_get (pc := 44) ckX9 (by decide) rfl (j := 25) (by decide) rfl kf_X9_48 dX9_restore_44 ?_
            refine r_bipush (pc := 47) rfl dX9_restore_47 ?_
            refine r_iload_n (pc := 49) (a := 1) (i := 1) 1 rfl rfl dX9_restore_49 ?_
            refine r_imul (pc := 50) dX9_restore_50 ?_
            refine r_iload_n (pc := 51) (a := 2) (i := 2) 2 rfl rfl dX9_restore_51 ?_
            refine r_iadd (pc := 52) dX9_restore_52 ?_
            refine r_iald (pc := 53) (z := imgO I j k) (by decide) rfl (by omega) (by omega) (by decide) (by rw [upA_h (by decide), up_row (by decide)]) dX9_restore_53 ?_
            refine r_iast (pc := 54) (by decide) (fun _ => rfl) (by omega) (by omega) (by decide) dX9_restore_54 ?_
            refine r_I (J := upA (up I 30 0 0) 34 (cp127 (imgO I j) (I 34) (k + 1))) (cp127_s hk0 rfl) ?_
            refine r_iinc (pc := 55) 2 [(2, iv (k + 1)), (0, rv X 30), (1, iv j)] rfl (by decide) rfl dX9_restore_55 ?_
            refine r_goto (pc := 58) 32 dX9_restore_58 (by decide) ?_
            refine r_lv [1, 2, 0] [(0, rv X 30), (1, iv j), (2, iv (k + 1))] rfl ?_
            exact ih32 (k + 1) (by omega) (by omega) (by omega)
      refine r_lv [1, 2, 0] [(0, rv X 30), (1, iv j), (2, iv 0)] rfl ?_
      exact at32 _ 0 (Nat.lt_succ_self _) (by omega) (by omega)
    · skip
      have h24 := bI_0.mp h24
      refine r_ldc (pc := 27) kc_X9_206 dX9_restore_27 ?_
      refine r_iret (pc := 29) (st := []) rfl dX9_restore_29 ?_
      exact ⟨fun a => absurd a (by omega), fun _ _ => ⟨rfl, rfl⟩, fun _ b => absurd b (by omega)⟩
  · skip
    have h12 := bI_0.mp h12
    refine r_ldc (pc := 15) kc_X9_74 dX9_restore_15 ?_
    refine r_iret (pc := 17) (st := []) rfl dX9_restore_17 ?_
    exact ⟨fun _ => ⟨rfl, rfl⟩, fun a => absurd a (by omega), fun a => absurd a (by omega)⟩

set_option maxRecDepth 100000 in
set_option maxHeartbeats 4000000 in
theorem kX8_fault (X : XC) {I : HD} {z : Int} (hz : I 0 8 = z) : Cl X 0 mX8_fault [rv X 0] I (Ki z I) := by
  refine Cl.of (by decide) (Nat.le_of_ble_eq_true rfl) ?_
  show Rn X 0 mX8_fault _ 0 [(0, rv X 0)] [] I
  refine r_aload_n (pc := 0) (a := 0) (i := 0) 0 rfl rfl dX8_fault_0 ?_
  refine r_get (pc := 1) ckX8 (by decide) rfl (j := 8) (by decide) (show _ = some (iv z) by rw [← hz]; rfl) kf_X8_61 dX8_fault_1 ?_
  refine r_iret (pc := 4) (st := []) rfl dX8_fault_4 ?_
  exact ⟨rfl, rfl⟩

set_option maxRecDepth 100000 in
set_option maxHeartbeats 4000000 in
theorem kX9_fault (X : XC) {I : HD} {z : Int} (hz : I 30 12 = z) : Cl X 0 mX9_fault [rv X 30] I (Ki z (up I 30 0 0)) := by
  refine Cl.of (by decide) (Nat.le_of_ble_eq_true rfl) ?_
  show Rn X 0 mX9_fault _ 0 [(0, rv X 30)] [] I
  refine r_aload_n (pc := 0) (a := 0) (i := 0) 0 rfl rfl dX9_fault_0 ?_
  refine r_iconst (pc := 1) dX9_fault_1 ?_
  refine r_put (pc := 2) 0 (ji := 0) rfl ckX9 (by decide) rfl rfl (by decide) (Nat.le_of_ble_eq_true rfl) kf_X9_54 rfl rfl rfl rfl dX9_fault_2 ?_
  refine r_aload_n (pc := 5) (a := 0) (i := 0) 0 rfl rfl dX9_fault_5 ?_
  refine r_get (pc := 6) ckX9 (by decide) rfl (j := 12) (by decide) (show _ = some (iv z) by rw [← ((up_i (by decide)).trans hz : up I 30 0 0 30 12 = z)]; rfl) kf_X9_180 dX9_fault_6 ?_
  refine r_iret (pc := 9) (st := []) rfl dX9_fault_9 ?_
  exact ⟨rfl, rfl⟩

set_option maxRecDepth 100000 in
set_option maxHeartbeats 4000000 in
theorem kX8_status (X : XC) {I : HD} {z : Int} (hz : I 0 9 = z) : Cl X 0 mX8_status [rv X 0] I (Ki z I) := by
  refine Cl.of (by decide) (Nat.le_of_ble_eq_true rfl) ?_
  show Rn X 0 mX8_status _ 0 [(0, rv X 0)] [] I
  refine r_aload_n (pc := 0) (a := 0) (i := 0) 0 rfl rfl dX8_status_0 ?_
  refine r_get (pc := 1) ckX8 (by decide) rfl (j := 9) (by decide) (show _ = some (iv z) by rw [← hz]; rfl) kf_X8_65 dX8_status_1 ?_
  refine r_iret (pc := 4) (st := []) rfl dX8_status_4 ?_
  exact ⟨rfl, rfl⟩

set_option maxRecDepth 100000 in
set_option maxHeartbeats 4000000 in
theorem kX9_status (X : XC) {I : HD} {z : Int} (hz : I 30 1 = z) : Cl X 0 mX9_status [rv X 30] I (Ki z (up I 30 0 0)) := by
  refine Cl.of (by decide) (Nat.le_of_ble_eq_true rfl) ?_
  show Rn X 0 mX9_status _ 0 [(0, rv X 30)] [] I
  refine r_aload_n (pc := 0) (a := 0) (i := 0) 0 rfl rfl dX9_status_0 ?_
  refine r_iconst (pc := 1) dX9_status_1 ?_
  refine r_put (pc := 2) 0 (ji := 0) rfl ckX9 (by decide) rfl rfl (by decide) (Nat.le_of_ble_eq_true rfl) kf_X9_54 rfl rfl rfl rfl dX9_status_2 ?_
  refine r_aload_n (pc := 5) (a := 0) (i := 0) 0 rfl rfl dX9_status_5 ?_
  refine r_get (pc := 6) ckX9 (by decide) rfl (j := 1) (by decide) (show _ = some (iv z) by rw [← ((up_i (by decide)).trans hz : up I 30 0 0 30 1 = z)]; rfl) kf_X9_58 dX9_status_6 ?_
  refine r_iret (pc := 9) (st := []) rfl dX9_status_9 ?_
  exact ⟨rfl, rfl⟩

set_option maxRecDepth 100000 in
set_option maxHeartbeats 4000000 in
theorem kX8_trace (X : XC) {I : HD} (hH : RH I I) {i : Int} (hi : rg i) : Cl X 0 mX8_trace [rv X 0, iv i] I (Ki (if 0 ≤ i ∧ i < I 30 27 then I 44 i else -1000000) I) := by
  refine Cl.of (by decide) (Nat.le_of_ble_eq_true rfl) ?_
  show Rn X 0 mX8_trace _ 0 [(0, rv X 0), (1, iv i)] [] I
  unfold rg at hi
  have b1 := hH.2.1
  have b2 := hH.2.2.1
  refine r_iload_n (pc := 0) (a := 1) (i := 1) 1 rfl rfl dX8_trace_0 ?_
  refine r_if_lt (pc := 1) 27 (by unfold rg; omega) dX8_trace_1 (by decide) (fun h1 => ?_) (fun h1 => ?_)
  · skip
    refine r_ldc (pc := 27) kc_X8_226 dX8_trace_27 ?_
    refine r_iret (pc := 29) (st := []) rfl dX8_trace_29 ?_
    exact ⟨congrArg (fun q => some (iv q)) (by rw [if_neg (by omega)]), rfl⟩
  · skip
    refine r_iload_n (pc := 4) (a := 1) (i := 1) 1 rfl rfl dX8_trace_4 ?_
    refine r_aload_n (pc := 5) (a := 0) (i := 0) 0 rfl rfl dX8_trace_5 ?_
    refine r_get (pc := 6) ckX8 (by decide) rfl (j := 7) (by decide) rfl kf_X8_57 dX8_trace_6 ?_
    refine r_getN (pc := 9) ckX1 (by decide) rfl (j := 1) (by decide) (show _ = some (iv (I 30 27)) by rw [← hH.1]; rfl) kf_X8_313 dX8_trace_9 ?_
    refine r_icmp_ge (pc := 12) 27 (by unfold rg; omega) (by unfold rg; omega) dX8_trace_12 (by decide) (fun h12 => ?_) (fun h12 => ?_)
    · skip
      refine r_ldc (pc := 27) kc_X8_226 dX8_trace_27 ?_
      refine r_iret (pc := 29) (st := []) rfl dX8_trace_29 ?_
      exact ⟨congrArg (fun q => some (iv q)) (by rw [if_neg (by omega)]), rfl⟩
    · skip
      refine r_aload_n (pc := 15) (a := 0) (i := 0) 0 rfl rfl dX8_trace_15 ?_
      refine r_get (pc := 16) ckX8 (by decide) rfl (j := 7) (by decide) rfl kf_X8_57 dX8_trace_16 ?_
      refine r_getN (pc := 19) ckX1 (by decide) rfl (j := 0) (by decide) rfl kf_X8_316 dX8_trace_19 ?_
      refine r_iload_n (pc := 22) (a := 1) (i := 1) 1 rfl rfl dX8_trace_22 ?_
      refine r_iald (pc := 23) (z := I 44 i) (by decide) rfl (by omega) (by omega) (by decide) ((hH.2.2.2 i (by omega) (by omega))) dX8_trace_23 ?_
      refine r_goto (pc := 24) 29 dX8_trace_24 (by decide) ?_
      refine r_iret (pc := 29) (st := []) rfl dX8_trace_29 ?_
      exact ⟨congrArg (fun q => some (iv q)) (by rw [if_pos (by omega)]), rfl⟩

set_option maxRecDepth 100000 in
set_option maxHeartbeats 4000000 in
theorem kX9_trace (X : XC) {I : HD} (b1 : 0 ≤ I 30 27) (b2 : I 30 27 ≤ 16) {i : Int} (hi : rg i) : Cl X 2 mX9_trace [rv X 30, iv i] I (Ki (if 0 ≤ i ∧ i < I 30 27 then I 44 i else -1000000) (up I 30 0 0)) := by
  refine Cl.of (by decide) (Nat.le_of_ble_eq_true rfl) ?_
  show Rn X 2 mX9_trace _ 0 [(0, rv X 30), (1, iv i)] [] I
  unfold rg at hi
  refine r_aload_n (pc := 0) (a := 0) (i := 0) 0 rfl rfl dX9_trace_0 ?_
  refine r_iconst (pc := 1) dX9_trace_1 ?_
  refine r_put (pc := 2) 0 (ji := 0) rfl ckX9 (by decide) rfl rfl (by decide) (Nat.le_of_ble_eq_true rfl) kf_X9_54 rfl rfl rfl rfl dX9_trace_2 ?_
  refine r_iload_n (pc := 5) (a := 1) (i := 1) 1 rfl rfl dX9_trace_5 ?_
  refine r_i2l (pc := 6) (by unfold rg; omega) dX9_trace_6 ?_
  refine r_lconst (pc := 7) (z := 0) rfl dX9_trace_7 ?_
  refine r_aload_n (pc := 8) (a := 0) (i := 0) 0 rfl rfl dX9_trace_8 ?_
  refine r_get (pc := 9) ckX9 (by decide) rfl (j := 27) (by decide) (show _ = some (iv (I 30 27)) by rw [← (show up I 30 0 0 30 27 = I 30 27 from up_i (by decide))]; rfl) kf_X9_283 dX9_trace_9 ?_
  refine r_iconst (pc := 12) dX9_trace_12 ?_
  refine r_isub (pc := 13) dX9_trace_13 ?_
  refine r_i2l (pc := 14) (by unfold rg; omega) dX9_trace_14 ?_
  refine r_callSi (pc := 15) (st := []) (As := [jv i, jv 0, jv ((I 30 27) - 1)]) okX9_in (by decide) trivial rfl (Nat.le_of_ble_eq_true rfl) km_X9_64 (kX9_in X (by unfold rl; omega) (by unfold rl; omega) (by unfold rl; omega)) dX9_trace_15 ?_
  refine r_if_eq (pc := 18) 30 rg_bI dX9_trace_18 (by decide) (fun h18 => ?_) (fun h18 => ?_)
  · skip
    have h18 := bI_0.mp h18
    refine r_ldc (pc := 30) kc_X9_90 dX9_trace_30 ?_
    refine r_iret (pc := 32) (st := []) rfl dX9_trace_32 ?_
    exact ⟨congrArg (fun q => some (iv q)) (by rw [if_neg (by omega)]), rfl⟩
  · skip
    have h18 := bI_n.mp h18
    refine r_aload_n (pc := 21) (a := 0) (i := 0) 0 rfl rfl dX9_trace_21 ?_
    refine r_get (pc := 22) ckX9 (by decide) rfl (j := 26) (by decide) rfl kf_X9_51 dX9_trace_22 ?_
    refine r_iload_n (pc := 25) (a := 1) (i := 1) 1 rfl rfl dX9_trace_25 ?_
    refine r_iald (pc := 26) (z := I 44 i) (by decide) rfl (by omega) (by omega) (by decide) (congrFun (up_row (by decide)) _) dX9_trace_26 ?_
    refine r_goto (pc := 27) 32 dX9_trace_27 (by decide) ?_
    refine r_iret (pc := 32) (st := []) rfl dX9_trace_32 ?_
    exact ⟨congrArg (fun q => some (iv q)) (by rw [if_pos (by omega)]), rfl⟩

set_option maxRecDepth 100000 in
set_option maxHeartbeats 4000000 in
theorem kX8_missed (X : XC) {I : HD} {O : OF} (hR : RepC O I 0) (hV : Val O) {w : Int} (hw : rg w) : Cl X 8 mX8_missed [rv X 0, iv w] I (Ki (zMiss O w) I) := by
  refine Cl.of (by decide) (Nat.le_of_ble_eq_true rfl) ?_
  show Rn X 8 mX8_missed _ 0 [(0, rv X 0), (1, iv w)] [] I
  unfold rg at hw
  have q0 := hV.a
  refine r_aload_n (pc := 0) (a := 0) (i := 0) 0 rfl rfl dX8_missed_0 ?_
  refine r_get (pc := 1) ckX8 (by decide) rfl (j := 2) (by decide) rfl kf_X8_25 dX8_missed_1 ?_
  refine r_callVi (pc := 4) (st := []) (As := []) okX3_isThere (by decide) (oH_lt (show 0 < 28 by decide)) (cellO (show 0 < 28 by decide)) rfl rfl (Nat.le_of_ble_eq_true rfl) km_X8_197 (kX3_isThere X (by decide) hR hV ) dX8_missed_4 ?_
  refine r_if_ne (pc := 7) 13 rg_bI dX8_missed_7 (by decide) (fun h7 => ?_) (fun h7 => ?_)
  · skip
    have h7 := bI_n.mp h7
    refine r_iload_n (pc := 13) (a := 1) (i := 1) 1 rfl rfl dX8_missed_13 ?_
    rcases (by omega : w = 0 ∨ w = 1 ∨ (¬ w = 0 ∧ ¬ w = 1)) with hs | hs | hs
    · skip
      refine r_lsw (pc := 14) (off := 26) 40 (by unfold rg; omega) (by decide) (by rw [hs]; rfl) dX8_missed_14 (by decide) ?_
      refine r_aload_n (pc := 40) (a := 0) (i := 0) 0 rfl rfl dX8_missed_40 ?_
      refine r_get (pc := 41) ckX8 (by decide) rfl (j := 2) (by decide) rfl kf_X8_25 dX8_missed_41 ?_
      refine r_callVi (pc := 44) (st := []) (As := []) okX3_missedSet (by decide) (oH_lt (show 0 < 28 by decide)) (cellO (show 0 < 28 by decide)) rfl rfl (Nat.le_of_ble_eq_true rfl) km_X8_292 (kX3_missedSet X (by decide) hR hV ) dX8_missed_44 ?_
      refine r_iret (pc := 47) (st := []) rfl dX8_missed_47 ?_
      exact ⟨congrArg (fun q => some (iv q)) (by unfold zMiss; rw [if_pos (by omega), if_pos (by omega)]), rfl⟩
    · skip
      refine r_lsw (pc := 14) (off := 34) 48 (by unfold rg; omega) (by decide) (by rw [hs]; rfl) dX8_missed_14 (by decide) ?_
      refine r_aload_n (pc := 48) (a := 0) (i := 0) 0 rfl rfl dX8_missed_48 ?_
      refine r_get (pc := 49) ckX8 (by decide) rfl (j := 2) (by decide) rfl kf_X8_25 dX8_missed_49 ?_
      refine r_aload_n (pc := 52) (a := 0) (i := 0) 0 rfl rfl dX8_missed_52 ?_
      refine r_get (pc := 53) ckX8 (by decide) rfl (j := 2) (by decide) rfl kf_X8_25 dX8_missed_53 ?_
      refine r_callVi (pc := 56) (st := [rv X (oH 0)]) (As := []) okX3_goneSet (by decide) (oH_lt (show 0 < 28 by decide)) (cellO (show 0 < 28 by decide)) rfl rfl (Nat.le_of_ble_eq_true rfl) km_X8_295 (kX3_goneSet X (by decide) hR hV ) dX8_missed_56 ?_
      refine r_callVi (pc := 59) (st := []) (As := [iv ((bset (fun x => x < O 1 ∧ dk O x < 0) 16 : Nat) : Int)]) okX3_worthOf (by decide) (oH_lt (show 0 < 28 by decide)) (cellO (show 0 < 28 by decide)) rfl rfl (Nat.le_of_ble_eq_true rfl) km_X8_248 (kX3_worthOf X (by decide) hR hV (fun x => x < O 1 ∧ dk O x < 0)) dX8_missed_59 ?_
      refine r_iret (pc := 62) (st := []) rfl dX8_missed_62 ?_
      exact ⟨congrArg (fun q => some (iv q)) (by unfold zMiss; rw [if_pos (by omega), if_neg (by omega), if_pos (by omega)]), rfl⟩
    · skip
      refine r_lsw (pc := 14) (off := 49) 63 (by unfold rg; omega) (by decide) (by exact (if_neg (show ¬ ((0 : Int) = w) by omega)).trans ((if_neg (show ¬ ((1 : Int) = w) by omega)).trans (rfl))) dX8_missed_14 (by decide) ?_
      refine r_ldc (pc := 63) kc_X8_73 dX8_missed_63 ?_
      refine r_iret (pc := 65) (st := []) rfl dX8_missed_65 ?_
      exact ⟨congrArg (fun q => some (iv q)) (by unfold zMiss; rw [if_pos (by omega), if_neg (by omega), if_neg (by omega)]), rfl⟩
  · skip
    have h7 := bI_0.mp h7
    refine r_ldc (pc := 10) kc_X8_160 dX8_missed_10 ?_
    refine r_iret (pc := 12) (st := []) rfl dX8_missed_12 ?_
    exact ⟨congrArg (fun q => some (iv q)) (by unfold zMiss; rw [if_neg (by omega)]), rfl⟩

set_option maxRecDepth 100000 in
set_option maxHeartbeats 4000000 in
theorem kX9_missed (X : XC) {I : HD} {O : OF} (hO : I 34 = O) (hT : I 30 7 = bI (0 < O 0)) (hV : Val O) {w : Int} (hw : rg w) : Cl X 8 mX9_missed [rv X 30, iv w] I (Ki (zMiss O w) (up I 30 0 0)) := by
  refine Cl.of (by decide) (Nat.le_of_ble_eq_true rfl) ?_
  show Rn X 8 mX9_missed _ 0 [(0, rv X 30), (1, iv w)] [] I
  have hO2 : (up I 30 0 0) 34 = O := (up_row (by decide)).trans hO
  have hT2 : (up I 30 0 0) 30 7 = bI (0 < O 0) := (up_i (by decide)).trans hT
  unfold rg at hw
  have q0 := hV.a
  refine r_aload_n (pc := 0) (a := 0) (i := 0) 0 rfl rfl dX9_missed_0 ?_
  refine r_iconst (pc := 1) dX9_missed_1 ?_
  refine r_put (pc := 2) 0 (ji := 0) rfl ckX9 (by decide) rfl rfl (by decide) (Nat.le_of_ble_eq_true rfl) kf_X9_54 rfl rfl rfl rfl dX9_missed_2 ?_
  refine r_aload_n (pc := 5) (a := 0) (i := 0) 0 rfl rfl dX9_missed_5 ?_
  refine r_get (pc := 6) ckX9 (by decide) rfl (j := 7) (by decide) (show _ = some (iv (bI (0 < O 0))) by rw [← hT2]; rfl) kf_X9_184 dX9_missed_6 ?_
  refine r_if_ne (pc := 9) 15 rg_bI dX9_missed_9 (by decide) (fun h9 => ?_) (fun h9 => ?_)
  · skip
    have h9 := bI_n.mp h9
    refine r_iload_n (pc := 15) (a := 1) (i := 1) 1 rfl rfl dX9_missed_15 ?_
    refine r_i2l (pc := 16) (by unfold rg; omega) dX9_missed_16 ?_
    refine r_lconst (pc := 17) (z := 0) rfl dX9_missed_17 ?_
    refine r_lconst (pc := 18) (z := 1) rfl dX9_missed_18 ?_
    refine r_callSi (pc := 19) (st := []) (As := [jv w, jv 0, jv 1]) okX9_in (by decide) trivial rfl (Nat.le_of_ble_eq_true rfl) km_X9_64 (kX9_in X (by unfold rl; omega) (by unfold rl; omega) (by unfold rl; omega)) dX9_missed_19 ?_
    refine r_if_ne (pc := 22) 28 rg_bI dX9_missed_22 (by decide) (fun h22 => ?_) (fun h22 => ?_)
    · skip
      have h22 := bI_n.mp h22
      refine r_iconst (pc := 28) dX9_missed_28 ?_
      refine r_istore_n (pc := 29) (a := 2) (i := 2) rfl [(2, iv 0), (0, rv X 30), (1, iv w)] (by decide) rfl dX9_missed_29 ?_
      refine r_iconst (pc := 30) dX9_missed_30 ?_
      refine r_istore_n (pc := 31) (a := 3) (i := 3) rfl [(3, iv 0), (2, iv 0), (0, rv X 30), (1, iv w)] (by decide) rfl dX9_missed_31 ?_
      refine r_iconst (pc := 32) dX9_missed_32 ?_
      refine r_istore (pc := 33) [(4, iv 0), (3, iv 0), (2, iv 0), (0, rv X 30), (1, iv w)] (by decide) rfl dX9_missed_33 ?_
      have at35 : ∀ (n35 : Nat) (s : Int) (g : Int) (p : Int), (O 1 - p).toNat < n35 → (hp0 : 0 ≤ p) → (hp1 : p ≤ O 1) → (hs : s = ((bset (fun x => x < p ∧ mis O x) 16 : Nat) : Int)) → (hg : g = wsum O (fun x => x < O 1 ∧ dk O x < 0) p.toNat) → Rn X 8 mX9_missed (Ki (zMiss O w) (up I 30 0 0)) 35 [(0, rv X 30), (1, iv w), (2, iv s), (3, iv g), (4, iv p)] [] (up I 30 0 0) := by
        intro n35
        induction n35 with
        | zero => intro s g p hm; omega
        | succ n35 ih35 =>
          intro s g p hm35 hp0 hp1 hs hg
          refine r_iload (pc := 35) 4 rfl dX9_missed_35 ?_
          refine r_aload_n (pc := 37) (a := 0) (i := 0) 0 rfl rfl dX9_missed_37 ?_
          refine r_get (pc := 38) ckX9 (by decide) rfl (j := 5) (by decide) rfl kf_X9_19 dX9_missed_38 ?_
          refine r_iconst (pc := 41) dX9_missed_41 ?_
          refine r_iald (pc := 42) (z := O 1) (by decide) rfl (by omega) (by omega) (by decide) (congrFun hO2 _) dX9_missed_42 ?_
          refine r_icmp_ge (pc := 43) 97 (by unfold rg; omega) (by unfold rg; omega) dX9_missed_43 (by decide) (fun h43 => ?_) (fun h43 => ?_)
          · skip
            refine r_iload_n (pc := 97) (a := 1) (i := 1) 1 rfl rfl dX9_missed_97 ?_
            refine r_if_ne (pc := 98) 105 (by unfold rg; omega) dX9_missed_98 (by decide) (fun h98 => ?_) (fun h98 => ?_)
            · skip
              refine r_iload_n (pc := 105) (a := 3) (i := 3) 3 rfl rfl dX9_missed_105 ?_
              refine r_iret (pc := 106) (st := []) rfl dX9_missed_106 ?_
              exact ⟨congrArg (fun q => some (iv q)) (by unfold zMiss; rw [if_pos (by omega), if_neg (by omega), if_pos (by omega), hg, show p = O 1 by omega]), rfl⟩
            · skip
              refine r_iload_n (pc := 101) (a := 2) (i := 2) 2 rfl rfl dX9_missed_101 ?_
              refine r_goto (pc := 102) 106 dX9_missed_102 (by decide) ?_
              refine r_iret (pc := 106) (st := []) rfl dX9_missed_106 ?_
              exact ⟨congrArg (fun q => some (iv q)) (by unfold zMiss; rw [if_pos (by omega), if_pos (by omega), hs, show p = O 1 by omega]), rfl⟩
          · skip
            have qN := dkN_or O p
            have ql := @dk_lt O p
            have qp := hV.p hp0 (by omega)
            refine r_iload_n (pc := 46) (a := 2) (i := 2) 2 rfl rfl dX9_missed_46 ?_
            refine r_aload_n (pc := 47) (a := 0) (i := 0) 0 rfl rfl dX9_missed_47 ?_
            refine r_iload (pc := 48) 4 rfl dX9_missed_48 ?_
            refine r_callVi (pc := 50) (st := [iv s]) (As := [iv p]) okX9_isMissed (by decide) (by decide) rfl rfl rfl (Nat.le_of_ble_eq_true rfl) km_X9_244 (kX9_isMissed X hO2 hV (by omega) (by omega)) dX9_missed_50 ?_
            refine r_if_eq (pc := 53) 63 rg_bI dX9_missed_53 (by decide) (fun h53 => ?_) (fun h53 => ?_)
            · skip
              have h53 := bI_0.mp h53
              refine r_iconst (pc := 63) dX9_missed_63 ?_
              refine r_ior (pc := 64) (z := ((bset (fun x => x < p + 1 ∧ mis O x) 16 : Nat) : Int)) (by rw [hs, iI_or0, bs_skip h53]) dX9_missed_64 ?_
              refine r_istore_n (pc := 65) (a := 2) (i := 2) rfl [(2, iv ((bset (fun x => x < p + 1 ∧ mis O x) 16 : Nat) : Int)), (0, rv X 30), (1, iv w), (3, iv g), (4, iv p)] (by decide) rfl dX9_missed_65 ?_
              refine r_iload_n (pc := 66) (a := 3) (i := 3) 3 rfl rfl dX9_missed_66 ?_
              refine r_aload_n (pc := 67) (a := 0) (i := 0) 1 rfl rfl dX9_missed_67 ?_
              refine r_iload (pc := 68) 4 rfl dX9_missed_68 ?_
              refine r_callVi (pc := 70) (st := [iv g]) (As := [iv p]) okX9_deskOf (by decide) (by decide) rfl rfl rfl (Nat.le_of_ble_eq_true rfl) km_X9_203 (kX9_deskOf X hO2 hV (by omega) (by omega)) dX9_missed_70 ?_
              refine r_ldc (pc := 73) kc_X9_90 dX9_missed_73 ?_
              refine r_icmp_ne (pc := 75) 88 (by unfold rg; omega) (by unfold rg; omega) dX9_missed_75 (by decide) (fun h75 => ?_) (fun h75 => ?_)
              · skip
                refine r_iconst (pc := 88) dX9_missed_88 ?_
                refine r_iadd (pc := 89) dX9_missed_89 ?_
                refine r_istore_n (pc := 90) (a := 3) (i := 3) rfl [(3, iv (g + 0)), (2, iv ((bset (fun x => x < p + 1 ∧ mis O x) 16 : Nat) : Int)), (0, rv X 30), (1, iv w), (4, iv p)] (by decide) rfl dX9_missed_90 ?_
                refine r_iinc (pc := 91) 4 [(4, iv (p + 1)), (3, iv (g + 0)), (2, iv ((bset (fun x => x < p + 1 ∧ mis O x) 16 : Nat) : Int)), (0, rv X 30), (1, iv w)] rfl (by decide) rfl dX9_missed_91 ?_
                refine r_goto (pc := 94) 35 dX9_missed_94 (by decide) ?_
                refine r_lv [3, 4, 2, 1, 0] [(0, rv X 30), (1, iv w), (2, iv ((bset (fun x => x < p + 1 ∧ mis O x) 16 : Nat) : Int)), (3, iv (g + 0)), (4, iv (p + 1))] rfl ?_
                exact ih35 ((bset (fun x => x < p + 1 ∧ mis O x) 16 : Nat) : Int) (g + 0) (p + 1) (by omega) (by omega) (by omega) (rfl) (by rw [wsum_s hp0]; first | (rw [bI_t ⟨by omega, by omega⟩, Int.one_mul, hg]) | (rw [bI_f (fun q => by have := q.2; omega), Int.zero_mul, hg]))
              · skip
                refine r_aload_n (pc := 78) (a := 0) (i := 0) 1 rfl rfl dX9_missed_78 ?_
                refine r_iload (pc := 79) 4 rfl dX9_missed_79 ?_
                refine r_iconst (pc := 81) dX9_missed_81 ?_
                refine r_callVi (pc := 82) (st := [iv g]) (As := [iv p, iv 1]) okX9_of (by decide) (by decide) rfl rfl rfl (Nat.le_of_ble_eq_true rfl) km_X9_216 (kX9_of X hO2 hV (z := O (64 + 4 * p)) (by omega) (by omega) (by omega) (congrArg O (by omega))) dX9_missed_82 ?_
                refine r_goto (pc := 85) 89 dX9_missed_85 (by decide) ?_
                refine r_iadd (pc := 89) dX9_missed_89 ?_
                refine r_istore_n (pc := 90) (a := 3) (i := 3) rfl [(3, iv (g + (O (64 + 4 * p)))), (2, iv ((bset (fun x => x < p + 1 ∧ mis O x) 16 : Nat) : Int)), (0, rv X 30), (1, iv w), (4, iv p)] (by decide) rfl dX9_missed_90 ?_
                refine r_iinc (pc := 91) 4 [(4, iv (p + 1)), (3, iv (g + (O (64 + 4 * p)))), (2, iv ((bset (fun x => x < p + 1 ∧ mis O x) 16 : Nat) : Int)), (0, rv X 30), (1, iv w)] rfl (by decide) rfl dX9_missed_91 ?_
                refine r_goto (pc := 94) 35 dX9_missed_94 (by decide) ?_
                refine r_lv [3, 4, 2, 1, 0] [(0, rv X 30), (1, iv w), (2, iv ((bset (fun x => x < p + 1 ∧ mis O x) 16 : Nat) : Int)), (3, iv (g + (O (64 + 4 * p)))), (4, iv (p + 1))] rfl ?_
                exact ih35 ((bset (fun x => x < p + 1 ∧ mis O x) 16 : Nat) : Int) (g + (O (64 + 4 * p))) (p + 1) (by omega) (by omega) (by omega) (rfl) (by rw [wsum_s hp0]; first | (rw [bI_t ⟨by omega, by omega⟩, Int.one_mul, hg]) | (rw [bI_f (fun q => by have := q.2; omega), Int.zero_mul, hg]))
            · skip
              have h53 := bI_n.mp h53
              refine r_iconst (pc := 56) dX9_missed_56 ?_
              refine r_iload (pc := 57) 4 rfl dX9_missed_57 ?_
              refine r_ishl (pc := 59) (z := ((2 ^ (p).toNat : Nat) : Int)) (sh_1 (by omega) (by omega)) dX9_missed_59 ?_
              refine r_goto (pc := 60) 64 dX9_missed_60 (by decide) ?_
              refine r_ior (pc := 64) (z := ((bset (fun x => x < p + 1 ∧ mis O x) 16 : Nat) : Int)) (by rw [hs, bs_add (by omega) (by omega), bs_take h53]) dX9_missed_64 ?_
              refine r_istore_n (pc := 65) (a := 2) (i := 2) rfl [(2, iv ((bset (fun x => x < p + 1 ∧ mis O x) 16 : Nat) : Int)), (0, rv X 30), (1, iv w), (3, iv g), (4, iv p)] (by decide) rfl dX9_missed_65 ?_
              refine r_iload_n (pc := 66) (a := 3) (i := 3) 3 rfl rfl dX9_missed_66 ?_
              refine r_aload_n (pc := 67) (a := 0) (i := 0) 1 rfl rfl dX9_missed_67 ?_
              refine r_iload (pc := 68) 4 rfl dX9_missed_68 ?_
              refine r_callVi (pc := 70) (st := [iv g]) (As := [iv p]) okX9_deskOf (by decide) (by decide) rfl rfl rfl (Nat.le_of_ble_eq_true rfl) km_X9_203 (kX9_deskOf X hO2 hV (by omega) (by omega)) dX9_missed_70 ?_
              refine r_ldc (pc := 73) kc_X9_90 dX9_missed_73 ?_
              refine r_icmp_ne (pc := 75) 88 (by unfold rg; omega) (by unfold rg; omega) dX9_missed_75 (by decide) (fun h75 => ?_) (fun h75 => ?_)
              · skip
                refine r_iconst (pc := 88) dX9_missed_88 ?_
                refine r_iadd (pc := 89) dX9_missed_89 ?_
                refine r_istore_n (pc := 90) (a := 3) (i := 3) rfl [(3, iv (g + 0)), (2, iv ((bset (fun x => x < p + 1 ∧ mis O x) 16 : Nat) : Int)), (0, rv X 30), (1, iv w), (4, iv p)] (by decide) rfl dX9_missed_90 ?_
                refine r_iinc (pc := 91) 4 [(4, iv (p + 1)), (3, iv (g + 0)), (2, iv ((bset (fun x => x < p + 1 ∧ mis O x) 16 : Nat) : Int)), (0, rv X 30), (1, iv w)] rfl (by decide) rfl dX9_missed_91 ?_
                refine r_goto (pc := 94) 35 dX9_missed_94 (by decide) ?_
                refine r_lv [3, 4, 2, 1, 0] [(0, rv X 30), (1, iv w), (2, iv ((bset (fun x => x < p + 1 ∧ mis O x) 16 : Nat) : Int)), (3, iv (g + 0)), (4, iv (p + 1))] rfl ?_
                exact ih35 ((bset (fun x => x < p + 1 ∧ mis O x) 16 : Nat) : Int) (g + 0) (p + 1) (by omega) (by omega) (by omega) (rfl) (by rw [wsum_s hp0]; first | (rw [bI_t ⟨by omega, by omega⟩, Int.one_mul, hg]) | (rw [bI_f (fun q => by have := q.2; omega), Int.zero_mul, hg]))
              · skip
                refine r_aload_n (pc := 78) (a := 0) (i := 0) 1 rfl rfl dX9_missed_78 ?_
                refine r_iload (pc := 79) 4 rfl dX9_missed_79 ?_
                refine r_iconst (pc := 81) dX9_missed_81 ?_
                refine r_callVi (pc := 82) (st := [iv g]) (As := [iv p, iv 1]) okX9_of (by decide) (by decide) rfl rfl rfl (Nat.le_of_ble_eq_true rfl) km_X9_216 (kX9_of X hO2 hV (z := O (64 + 4 * p)) (by omega) (by omega) (by omega) (congrArg O (by omega))) dX9_missed_82 ?_
                refine r_goto (pc := 85) 89 dX9_missed_85 (by decide) ?_
                refine r_iadd (pc := 89) dX9_missed_89 ?_
                refine r_istore_n (pc := 90) (a := 3) (i := 3) rfl [(3, iv (g + (O (64 + 4 * p)))), (2, iv ((bset (fun x => x < p + 1 ∧ mis O x) 16 : Nat) : Int)), (0, rv X 30), (1, iv w), (4, iv p)] (by decide) rfl dX9_missed_90 ?_
                refine r_iinc (pc := 91) 4 [(4, iv (p + 1)), (3, iv (g + (O (64 + 4 * p)))), (2, iv ((bset (fun x => x < p + 1 ∧ mis O x) 16 : Nat) : Int)), (0, rv X 30), (1, iv w)] rfl (by decide) rfl dX9_missed_91 ?_
                refine r_goto (pc := 94) 35 dX9_missed_94 (by decide) ?_
                refine r_lv [3, 4, 2, 1, 0] [(0, rv X 30), (1, iv w), (2, iv ((bset (fun x => x < p + 1 ∧ mis O x) 16 : Nat) : Int)), (3, iv (g + (O (64 + 4 * p)))), (4, iv (p + 1))] rfl ?_
                exact ih35 ((bset (fun x => x < p + 1 ∧ mis O x) 16 : Nat) : Int) (g + (O (64 + 4 * p))) (p + 1) (by omega) (by omega) (by omega) (rfl) (by rw [wsum_s hp0]; first | (rw [bI_t ⟨by omega, by omega⟩, Int.one_mul, hg]) | (rw [bI_f (fun q => by have := q.2; omega), Int.zero_mul, hg]))
      refine r_lv [3, 4, 2, 1, 0] [(0, rv X 30), (1, iv w), (2, iv 0), (3, iv 0), (4, iv 0)] rfl ?_
      exact at35 _ 0 0 0 (Nat.lt_succ_self _) (by omega) (by omega) (bs_0 (fun x _ _ q => absurd q.1 (by omega))) (rfl)
    · skip
      have h22 := bI_0.mp h22
      refine r_ldc (pc := 25) kc_X9_74 dX9_missed_25 ?_
      refine r_iret (pc := 27) (st := []) rfl dX9_missed_27 ?_
      exact ⟨congrArg (fun q => some (iv q)) (by unfold zMiss; rw [if_pos (by omega), if_neg (by omega), if_neg (by omega)]), rfl⟩
  · skip
    have h9 := bI_0.mp h9
    refine r_ldc (pc := 12) kc_X9_206 dX9_missed_12 ?_
    refine r_iret (pc := 14) (st := []) rfl dX9_missed_14 ?_
    exact ⟨congrArg (fun q => some (iv q)) (by unfold zMiss; rw [if_neg (by omega)]), rfl⟩
