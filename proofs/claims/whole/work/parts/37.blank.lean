set_option maxRecDepth 100000 in
set_option maxHeartbeats 4000000 in
theorem kX3_bring (X : XC) {I : HD} {O : OF} {o : Nat} (h_o : o < 28) (hR : RepC O I o) (hV : Val O) {d : Int} (h0 : 0 ≤ d) (h1 : d < O 0) {q w n : Int} (hs : O 1 < 16) (hr : O (23 + 10 * d) < O (15 + 2 * d)) (hq : 1 ≤ q ∧ q ≤ 5) (hw : 0 ≤ w ∧ w ≤ 99) (hn : 0 ≤ n ∧ n ≤ 12) : Cl X 2 mX3_bring [rv X (oH o), iv q, iv d, iv w, iv n] I (fun r J => r = some (iv (O 1)) ∧ frO I J o ∧ RepC (cmO (adO O q w n) d (O 1)) J o) := by
  refine Cl.of (by decide) (Nat.le_of_ble_eq_true rfl) ?_
  show Rn X 2 mX3_bring _ 0 [(0, rv X (oH o)), (1, iv q), (2, iv d), (3, iv w), (4, iv n)] [] I
  have q0 := hV.a
  have q1 := hV.d h0 h1
  have hA := RepC.add (s := q) (w := w) (n := n) hV hR
  have hVA := hV.add hs hq hw hn
  have a0 : adO O q w n 0 = O 0 := adO_k q0.2.2.1 (by omega)
  have a1 : adO O q w n (15 + 2 * d) = O (15 + 2 * d) := adO_k q0.2.2.1 (by omega)
  have a2 : adO O q w n (23 + 10 * d) = O (23 + 10 * d) := adO_k q0.2.2.1 (by omega)
  refine r_aload_n (pc := 0) (a := 0) (i := 0) 0 rfl rfl dX3_bring_0 ?_
  refine r_get (pc := 1) ckX3 (oH_lt (h_o)) (cellO (h_o)) (j := 9) (by decide) (congrArg (fun q => some (iv q)) hR.f1) kf_X3_40 dX3_bring_1 ?_
  refine r_istore (pc := 4) [(5, iv (O 1)), (0, rv X (oH o)), (1, iv q), (2, iv d), (3, iv w), (4, iv n)] (by decide) rfl dX3_bring_4 ?_
  refine r_iload (pc := 6) 0 rfl dX3_bring_6 ?_
  refine r_bipush (pc := 8) rfl dX3_bring_8 ?_
  refine r_icmp_ge (pc := 10) 55 (by unfold rg; omega) (by unfold rg; omega) dX3_bring_10 (by decide) (fun h10 => ?_) (fun h10 => ?_)
  · exact absurd h10 (by omega)
  · skip
    refine r_aload_n (pc := 13) (a := 0) (i := 0) 1 rfl rfl dX3_bring_13 ?_
    refine r_get (pc := 14) ckX3 (oH_lt (h_o)) (cellO (h_o)) (j := 5) (by decide) rfl kf_X3_27 dX3_bring_14 ?_
    refine r_iload (pc := 17) 0 rfl dX3_bring_17 ?_
    refine r_iload_n (pc := 19) (a := 1) (i := 1) 2 rfl rfl dX3_bring_19 ?_
    refine r_iast (pc := 20) (oH_lt6 (h_o)) (cellO6 (h_o)) (by omega) (by omega) (by decide) dX3_bring_20 ?_
    refine r_aload_n (pc := 21) (a := 0) (i := 0) 1 rfl rfl dX3_bring_21 ?_
    refine r_get (pc := 22) ckX3 (oH_lt (h_o)) (cellO (h_o)) (j := 6) (by decide) rfl kf_X3_30 dX3_bring_22 ?_
    refine r_iload (pc := 25) 0 rfl dX3_bring_25 ?_
    refine r_iload_n (pc := 27) (a := 3) (i := 3) 4 rfl rfl dX3_bring_27 ?_
    refine r_iast (pc := 28) (oH_lt7 (h_o)) (cellO7 (h_o)) (by omega) (by omega) (by decide) dX3_bring_28 ?_
    refine r_aload_n (pc := 29) (a := 0) (i := 0) 1 rfl rfl dX3_bring_29 ?_
    refine r_get (pc := 30) ckX3 (oH_lt (h_o)) (cellO (h_o)) (j := 7) (by decide) rfl kf_X3_33 dX3_bring_30 ?_
    refine r_iload (pc := 33) 0 rfl dX3_bring_33 ?_
    refine r_iload (pc := 35) 5 rfl dX3_bring_35 ?_
    refine r_iast (pc := 37) (oH_lt8 (h_o)) (cellO8 (h_o)) (by omega) (by omega) (by decide) dX3_bring_37 ?_
    refine r_aload_n (pc := 38) (a := 0) (i := 0) 1 rfl rfl dX3_bring_38 ?_
    refine r_dup (pc := 39) rfl dX3_bring_39 ?_
    refine r_get (pc := 40) ckX3 (oH_lt (h_o)) (cellO (h_o)) (j := 9) (by decide) (congrArg (fun q => some (iv q)) (show (up (up (up I (oH o + 6) (O 1) q) (oH o + 7) (O 1) w) (oH o + 8) (O 1) n) (oH o) 9 = O 1 by rw [up_row (by omega), up_row (by omega), up_row (by omega)]; exact hR.f1)) kf_X3_40 dX3_bring_40 ?_
    refine r_iconst (pc := 43) dX3_bring_43 ?_
    refine r_iadd (pc := 44) dX3_bring_44 ?_
    refine r_put (pc := 45) 9 (ji := 9) rfl ckX3 (oH_lt (h_o)) (cellO (h_o)) (cellOp9 (h_o)) (by decide) (Nat.le_of_ble_eq_true rfl) kf_X3_40 rfl rfl rfl rfl dX3_bring_45 ?_
    refine r_aload_n (pc := 48) (a := 0) (i := 0) 1 rfl rfl dX3_bring_48 ?_
    refine r_iload (pc := 49) 0 rfl dX3_bring_49 ?_
    refine r_iload_n (pc := 51) (a := 2) (i := 2) 3 rfl rfl dX3_bring_51 ?_
    refine r_callV (pc := 52) (st := []) (As := [iv (O 1), iv d]) okX3_putOn (by decide) (oH_lt (h_o)) (cellO (h_o)) rfl rfl (Nat.le_of_ble_eq_true rfl) km_X3_55 (kX3_putOn X h_o hA.2 hVA (d := d) (p := O 1) (by omega) (by omega) (by omega)) dX3_bring_52 ?_
    rintro _ J3 ⟨rfl, f3, r3⟩
    refine r_iload (pc := 55) 0 rfl dX3_bring_55 ?_
    refine r_iret (pc := 57) (st := []) rfl dX3_bring_57 ?_
    exact ⟨rfl, fun a z => (f3 a z).trans (hA.1 a z), r3⟩

set_option maxRecDepth 100000 in
set_option maxHeartbeats 4000000 in
theorem kX8_blank (X : XC) {I : HD} {O : OF} (hO : I 34 = O) (hA : RA I I) (hB : RB I I) {d : Int} (hd : rg d) : Cl X 6 mX8_blank [rv X 0, iv d] I (fun q J => (¬ (0 ≤ d ∧ d < O 0) → q = some (iv (-1000001)) ∧ J = I) ∧ (0 ≤ d ∧ d < O 0 → ¬ (O (23 + 10 * d) < O (15 + 2 * d) ∧ O 1 < 16) → q = some (iv (-1000003)) ∧ J = I) ∧ (0 ≤ d ∧ d < O 0 → O (23 + 10 * d) < O (15 + 2 * d) ∧ O 1 < 16 → q = some (iv (O 1)) ∧ RepC (cmO (adO O 4 0 12) d (O 1)) J 0 ∧ RB (kpS I) J ∧ ∀ a, a ≠ 21 → (a < 45 ∨ (54 ≤ a ∧ a < 81)) → J a = I a)) := by
  refine Cl.of (by decide) (Nat.le_of_ble_eq_true rfl) ?_
  show Rn X 6 mX8_blank _ 0 [(0, rv X 0), (1, iv d)] [] I
  have hV : Val O := hO ▸ hA.1
  have hR : RepC O I 0 := hO ▸ hA.2.1
  have q0 := hV.a
  have oe : ∀ x, oH x = 45 + 9 * x := fun _ => rfl
  unfold rg at hd
  refine r_aload_n (pc := 0) (a := 0) (i := 0) 0 rfl rfl dX8_blank_0 ?_
  refine r_get (pc := 1) ckX8 (by decide) rfl (j := 2) (by decide) rfl kf_X8_25 dX8_blank_1 ?_
  refine r_iload_n (pc := 4) (a := 1) (i := 1) 1 rfl rfl dX8_blank_4 ?_
  refine r_callVi (pc := 5) (st := []) (As := [iv d]) okX3_hasDesk (by decide) (oH_lt (show 0 < 28 by decide)) (cellO (show 0 < 28 by decide)) rfl rfl (Nat.le_of_ble_eq_true rfl) km_X8_183 (kX3_hasDesk X (by decide) hR hV (by unfold rg; omega)) dX8_blank_5 ?_
  refine r_if_ne (pc := 8) 14 rg_bI dX8_blank_8 (by decide) (fun h8 => ?_) (fun h8 => ?_)
  · skip
    have h8 := bI_n.mp h8
    obtain ⟨hd0, hd1⟩ := h8
    have qd := hV.d hd0 hd1
    refine r_aload_n (pc := 14) (a := 0) (i := 0) 0 rfl rfl dX8_blank_14 ?_
    refine r_get (pc := 15) ckX8 (by decide) rfl (j := 2) (by decide) rfl kf_X8_25 dX8_blank_15 ?_
    refine r_iload_n (pc := 18) (a := 1) (i := 1) 1 rfl rfl dX8_blank_18 ?_
    refine r_callVi (pc := 19) (st := []) (As := [iv d]) okX3_hasRoom (by decide) (oH_lt (show 0 < 28 by decide)) (cellO (show 0 < 28 by decide)) rfl rfl (Nat.le_of_ble_eq_true rfl) km_X8_186 (kX3_hasRoom X (by decide) hR hV (by omega) (by omega)) dX8_blank_19 ?_
    refine r_if_eq (pc := 22) 37 rg_bI dX8_blank_22 (by decide) (fun h22 => ?_) (fun h22 => ?_)
    · skip
      have h22 := bI_0.mp h22
      refine r_ldc (pc := 37) kc_X8_125 dX8_blank_37 ?_
      refine r_iret (pc := 39) (st := []) rfl dX8_blank_39 ?_
      exact ⟨fun a => absurd a (by omega), fun _ _ => ⟨rfl, rfl⟩, fun _ b => absurd b (by omega)⟩
    · skip
      have h22 := bI_n.mp h22
      refine r_aload_n (pc := 25) (a := 0) (i := 0) 0 rfl rfl dX8_blank_25 ?_
      refine r_get (pc := 26) ckX8 (by decide) rfl (j := 2) (by decide) rfl kf_X8_25 dX8_blank_26 ?_
      refine r_getN (pc := 29) ckX3 (oH_lt (show 0 < 28 by decide)) (cellO (show 0 < 28 by decide)) (j := 9) (by decide) (show _ = some (iv (O 1)) by rw [← hR.f1]; rfl) kf_X8_190 dX8_blank_29 ?_
      refine r_bipush (pc := 32) rfl dX8_blank_32 ?_
      refine r_icmp_lt (pc := 34) 40 (by unfold rg; omega) (by unfold rg; omega) dX8_blank_34 (by decide) (fun h34 => ?_) (fun h34 => ?_)
      · skip
        refine r_aload_n (pc := 40) (a := 0) (i := 0) 0 rfl rfl dX8_blank_40 ?_
        refine r_get (pc := 41) ckX8 (by decide) rfl (j := 3) (by decide) rfl kf_X8_32 dX8_blank_41 ?_
        refine r_aload_n (pc := 44) (a := 0) (i := 0) 0 rfl rfl dX8_blank_44 ?_
        refine r_get (pc := 45) ckX8 (by decide) rfl (j := 2) (by decide) rfl kf_X8_25 dX8_blank_45 ?_
        refine r_callV (pc := 48) (st := []) (As := [rv X (oH 0)]) okX0_keep (by decide) (by decide) rfl rfl rfl (Nat.le_of_ble_eq_true rfl) km_X8_161 (kX0_keep X hA hB (by rw [hO]; exact (by omega))) dX8_blank_48 ?_
        rintro _ J1 ⟨rfl, hB1, hf1⟩
        have hR1 : RepC O J1 0 := hR.fr (fun a x y => hf1 a (by rw [oe] at x; omega) (by rw [oe] at y; omega))
        refine r_aload_n (pc := 51) (a := 0) (i := 0) 0 rfl rfl dX8_blank_51 ?_
        refine r_get (pc := 52) ckX8 (by decide) rfl (j := 2) (by decide) rfl kf_X8_25 dX8_blank_52 ?_
        refine r_iconst (pc := 55) dX8_blank_55 ?_
        refine r_iload_n (pc := 56) (a := 1) (i := 1) 1 rfl rfl dX8_blank_56 ?_
        refine r_iconst (pc := 57) dX8_blank_57 ?_
        refine r_bipush (pc := 58) rfl dX8_blank_58 ?_
        refine r_callV (pc := 60) (st := []) (As := [iv 4, iv d, iv 0, iv 12]) okX3_bring (by decide) (oH_lt (show 0 < 28 by decide)) (cellO (show 0 < 28 by decide)) rfl rfl (Nat.le_of_ble_eq_true rfl) km_X8_193 (kX3_bring X (by decide) hR1 hV (d := d) (q := 4) (w := 0) (n := 12) (by omega) (by omega) (by omega) (by omega) (by omega) (by omega) (by omega)) dX8_blank_60 ?_
        rintro _ J3 ⟨rfl, f3, r3⟩
        refine r_iret (pc := 63) (st := []) rfl dX8_blank_63 ?_
        exact ⟨fun a => absurd a (by omega), fun _ b => absurd b (by omega), fun _ _ => ⟨rfl, r3, hB1.cg rfl rfl (f3 21 (by rw [oe]; omega)) (fun a x y => f3 a (by rw [oe]; omega)), fun a x y => (f3 a (by rw [oe]; omega)).trans (hf1 a x (by omega))⟩⟩
      · skip
        refine r_ldc (pc := 37) kc_X8_125 dX8_blank_37 ?_
        refine r_iret (pc := 39) (st := []) rfl dX8_blank_39 ?_
        exact ⟨fun a => absurd a (by omega), fun _ _ => ⟨rfl, rfl⟩, fun _ b => absurd b (by omega)⟩
  · skip
    have h8 := bI_0.mp h8
    refine r_ldc (pc := 11) kc_X8_73 dX8_blank_11 ?_
    refine r_iret (pc := 13) (st := []) rfl dX8_blank_13 ?_
    exact ⟨fun _ => ⟨rfl, rfl⟩, fun a => absurd a (by omega), fun a => absurd a (by omega)⟩

set_option maxRecDepth 100000 in
set_option maxHeartbeats 4000000 in
theorem kX9_blank (X : XC) {I : HD} {O : OF} (hO : I 34 = O) (hV : Val O) (n0 : 0 ≤ I 30 9) (n1 : I 30 9 ≤ 24) {d : Int} (hd : rg d) : Cl X 6 mX9_blank [rv X 30, iv d] I (fun q J => (¬ (0 ≤ d ∧ d < O 0) → q = some (iv (-1000001)) ∧ J = up I 30 0 0) ∧ (0 ≤ d ∧ d < O 0 → ¬ (O (23 + 10 * d) < O (15 + 2 * d) ∧ O 1 < 16) → q = some (iv (-1000003)) ∧ J = up I 30 0 0) ∧ (0 ≤ d ∧ d < O 0 → O (23 + 10 * d) < O (15 + 2 * d) ∧ O 1 < 16 → q = some (iv (O 1)) ∧ J = upA (kpS (up I 30 0 0)) 34 (cmO (adO O 4 0 12) d (O 1)))) := by
  refine Cl.of (by decide) (Nat.le_of_ble_eq_true rfl) ?_
  show Rn X 6 mX9_blank _ 0 [(0, rv X 30), (1, iv d)] [] I
  have hO2 : (up I 30 0 0) 34 = O := (up_row (by decide)).trans hO
  have hOk : (kpS (up I 30 0 0)) 34 = O := kpS_34.trans hO2
  have q0 := hV.a
  unfold rg at hd
  refine r_aload_n (pc := 0) (a := 0) (i := 0) 0 rfl rfl dX9_blank_0 ?_
  refine r_iconst (pc := 1) dX9_blank_1 ?_
  refine r_put (pc := 2) 0 (ji := 0) rfl ckX9 (by decide) rfl rfl (by decide) (Nat.le_of_ble_eq_true rfl) kf_X9_54 rfl rfl rfl rfl dX9_blank_2 ?_
  refine r_aload_n (pc := 5) (a := 0) (i := 0) 0 rfl rfl dX9_blank_5 ?_
  refine r_iload_n (pc := 6) (a := 1) (i := 1) 1 rfl rfl dX9_blank_6 ?_
  refine r_callVi (pc := 7) (st := []) (As := [iv d]) okX9_isDesk (by decide) (by decide) rfl rfl rfl (Nat.le_of_ble_eq_true rfl) km_X9_219 (kX9_isDesk X hO2 hV (by unfold rg; omega)) dX9_blank_7 ?_
  refine r_if_ne (pc := 10) 16 rg_bI dX9_blank_10 (by decide) (fun h10 => ?_) (fun h10 => ?_)
  · skip
    have h10 := bI_n.mp h10
    obtain ⟨hd0, hd1⟩ := h10
    have qd := hV.d hd0 hd1
    refine r_aload_n (pc := 16) (a := 0) (i := 0) 0 rfl rfl dX9_blank_16 ?_
    refine r_iload_n (pc := 17) (a := 1) (i := 1) 1 rfl rfl dX9_blank_17 ?_
    refine r_callVi (pc := 18) (st := []) (As := [iv d]) okX9_hasRoom (by decide) (by decide) rfl rfl rfl (Nat.le_of_ble_eq_true rfl) km_X9_222 (kX9_hasRoom X hO2 hV (by omega) (by omega)) dX9_blank_18 ?_
    refine r_if_eq (pc := 21) 35 rg_bI dX9_blank_21 (by decide) (fun h21 => ?_) (fun h21 => ?_)
    · skip
      have h21 := bI_0.mp h21
      refine r_ldc (pc := 35) kc_X9_84 dX9_blank_35 ?_
      refine r_iret (pc := 37) (st := []) rfl dX9_blank_37 ?_
      exact ⟨fun a => absurd a (by omega), fun _ _ => ⟨rfl, rfl⟩, fun _ b => absurd b (by omega)⟩
    · skip
      have h21 := bI_n.mp h21
      refine r_aload_n (pc := 24) (a := 0) (i := 0) 0 rfl rfl dX9_blank_24 ?_
      refine r_get (pc := 25) ckX9 (by decide) rfl (j := 5) (by decide) rfl kf_X9_19 dX9_blank_25 ?_
      refine r_iconst (pc := 28) dX9_blank_28 ?_
      refine r_iald (pc := 29) (z := O 1) (by decide) rfl (by omega) (by omega) (by decide) (congrFun hO2 _) dX9_blank_29 ?_
      refine r_bipush (pc := 30) rfl dX9_blank_30 ?_
      refine r_icmp_ne (pc := 32) 38 (by unfold rg; omega) (by unfold rg; omega) dX9_blank_32 (by decide) (fun h32 => ?_) (fun h32 => ?_)
      · skip
        have hVA := hV.add (s := 4) (w := 0) (n := 12) (by omega) (by omega) (by omega) (by omega)
        have a0 : adO O 4 0 12 0 = O 0 := adO_k q0.2.2.1 (by omega)
        refine r_aload_n (pc := 38) (a := 0) (i := 0) 0 rfl rfl dX9_blank_38 ?_
        refine r_callVv (pc := 39) (st := []) (As := []) okX9_keep (by decide) (by decide) rfl rfl rfl (Nat.le_of_ble_eq_true rfl) km_X9_207 (kX9_keep X hO2 rfl ((up_i (by decide)).trans rfl) n0 n1) dX9_blank_39 ?_
        refine r_I (J := kpS (up I 30 0 0)) (by unfold kpS; rw [hO2, up_i (show (9 : Int) ≠ 0 by decide)]) ?_
        refine r_aload_n (pc := 42) (a := 0) (i := 0) 0 rfl rfl dX9_blank_42 ?_
        refine r_get (pc := 43) ckX9 (by decide) rfl (j := 5) (by decide) rfl kf_X9_19 dX9_blank_43 ?_
        refine r_iconst (pc := 46) dX9_blank_46 ?_
        refine r_iald (pc := 47) (z := O 1) (by decide) rfl (by omega) (by omega) (by decide) (congrFun hOk _) dX9_blank_47 ?_
        refine r_istore_n (pc := 48) (a := 2) (i := 2) rfl [(2, iv (O 1)), (0, rv X 30), (1, iv d)] (by decide) rfl dX9_blank_48 ?_
        refine r_aload_n (pc := 49) (a := 0) (i := 0) 1 rfl rfl dX9_blank_49 ?_
        refine r_get (pc := 50) ckX9 (by decide) rfl (j := 5) (by decide) rfl kf_X9_19 dX9_blank_50 ?_
        refine r_bipush (pc := 53) rfl dX9_blank_53 ?_
        refine r_iconst (pc := 55) dX9_blank_55 ?_
        refine r_iload_n (pc := 56) (a := 2) (i := 2) 0 rfl rfl dX9_blank_56 ?_
        refine r_imul (pc := 57) dX9_blank_57 ?_
        refine r_iadd (pc := 58) dX9_blank_58 ?_
        refine r_iconst (pc := 59) dX9_blank_59 ?_
        refine r_iast (pc := 60) (by decide) (fun _ => rfl) (by omega) (by omega) (by decide) dX9_blank_60 ?_
        refine r_aload_n (pc := 61) (a := 0) (i := 0) 1 rfl rfl dX9_blank_61 ?_
        refine r_get (pc := 62) ckX9 (by decide) rfl (j := 5) (by decide) rfl kf_X9_19 dX9_blank_62 ?_
        refine r_bipush (pc := 65) rfl dX9_blank_65 ?_
        refine r_iconst (pc := 67) dX9_blank_67 ?_
        refine r_iload_n (pc := 68) (a := 2) (i := 2) 0 rfl rfl dX9_blank_68 ?_
        refine r_imul (pc := 69) dX9_blank_69 ?_
        refine r_iadd (pc := 70) dX9_blank_70 ?_
        refine r_iconst (pc := 71) dX9_blank_71 ?_
        refine r_iadd (pc := 72) dX9_blank_72 ?_
        refine r_iconst (pc := 73) dX9_blank_73 ?_
        refine r_iast (pc := 74) (by decide) (fun _ => rfl) (by omega) (by omega) (by decide) dX9_blank_74 ?_
        refine r_aload_n (pc := 75) (a := 0) (i := 0) 1 rfl rfl dX9_blank_75 ?_
        refine r_get (pc := 76) ckX9 (by decide) rfl (j := 5) (by decide) rfl kf_X9_19 dX9_blank_76 ?_
        refine r_bipush (pc := 79) rfl dX9_blank_79 ?_
        refine r_iconst (pc := 81) dX9_blank_81 ?_
        refine r_iload_n (pc := 82) (a := 2) (i := 2) 0 rfl rfl dX9_blank_82 ?_
        refine r_imul (pc := 83) dX9_blank_83 ?_
        refine r_iadd (pc := 84) dX9_blank_84 ?_
        refine r_iconst (pc := 85) dX9_blank_85 ?_
        refine r_iadd (pc := 86) dX9_blank_86 ?_
        refine r_bipush (pc := 87) rfl dX9_blank_87 ?_
        refine r_iast (pc := 89) (by decide) (fun _ => rfl) (by omega) (by omega) (by decide) dX9_blank_89 ?_
        refine r_aload_n (pc := 90) (a := 0) (i := 0) 1 rfl rfl dX9_blank_90 ?_
        refine r_get (pc := 91) ckX9 (by decide) rfl (j := 5) (by decide) rfl kf_X9_19 dX9_blank_91 ?_
        refine r_bipush (pc := 94) rfl dX9_blank_94 ?_
        refine r_iconst (pc := 96) dX9_blank_96 ?_
        refine r_iload_n (pc := 97) (a := 2) (i := 2) 0 rfl rfl dX9_blank_97 ?_
        refine r_imul (pc := 98) dX9_blank_98 ?_
        refine r_iadd (pc := 99) dX9_blank_99 ?_
        refine r_iconst (pc := 100) dX9_blank_100 ?_
        refine r_iadd (pc := 101) dX9_blank_101 ?_
        refine r_iconst (pc := 102) dX9_blank_102 ?_
        refine r_iast (pc := 103) (by decide) (fun _ => rfl) (by omega) (by omega) (by decide) dX9_blank_103 ?_
        refine r_aload_n (pc := 104) (a := 0) (i := 0) 1 rfl rfl dX9_blank_104 ?_
        refine r_get (pc := 105) ckX9 (by decide) rfl (j := 5) (by decide) rfl kf_X9_19 dX9_blank_105 ?_
        refine r_iconst (pc := 108) dX9_blank_108 ?_
        refine r_dup2 (pc := 109) rfl rfl dX9_blank_109 ?_
        refine r_iald (pc := 110) (z := O 1) (by decide) rfl (by omega) (by omega) (by decide) (by rw [up_i (by omega), up_i (by omega), up_i (by omega), up_i (by omega)]; exact congrFun hOk _) dX9_blank_110 ?_
        refine r_iconst (pc := 111) dX9_blank_111 ?_
        refine r_iadd (pc := 112) dX9_blank_112 ?_
        refine r_iast (pc := 113) (by decide) (fun _ => rfl) (by omega) (by omega) (by decide) dX9_blank_113 ?_
        refine r_I (J := upA (kpS (up I 30 0 0)) 34 (adO O 4 0 12)) (adO_up hOk q0.2.2.1) ?_
        refine r_aload_n (pc := 114) (a := 0) (i := 0) 1 rfl rfl dX9_blank_114 ?_
        refine r_iload_n (pc := 115) (a := 1) (i := 1) 2 rfl rfl dX9_blank_115 ?_
        refine r_iload_n (pc := 116) (a := 2) (i := 2) 0 rfl rfl dX9_blank_116 ?_
        refine r_callVv (pc := 117) (st := []) (As := [iv d, iv (O 1)]) okX9_comes (by decide) (by decide) rfl rfl rfl (Nat.le_of_ble_eq_true rfl) km_X9_213 (kX9_comes X upA_s hVA (d := d) (p := O 1) (by omega) (by omega)) dX9_blank_117 ?_
        refine r_I (J := upA (kpS (up I 30 0 0)) 34 (cmO (adO O 4 0 12) d (O 1))) (upA_A) ?_
        refine r_iload_n (pc := 120) (a := 2) (i := 2) 0 rfl rfl dX9_blank_120 ?_
        refine r_iret (pc := 121) (st := []) rfl dX9_blank_121 ?_
        exact ⟨fun a => absurd a (by omega), fun _ b => absurd b (by omega), fun _ _ => ⟨rfl, rfl⟩⟩
      · skip
        refine r_ldc (pc := 35) kc_X9_84 dX9_blank_35 ?_
        refine r_iret (pc := 37) (st := []) rfl dX9_blank_37 ?_
        exact ⟨fun a => absurd a (by omega), fun _ _ => ⟨rfl, rfl⟩, fun _ b => absurd b (by omega)⟩
  · skip
    have h10 := bI_0.mp h10
    refine r_ldc (pc := 13) kc_X9_74 dX9_blank_13 ?_
    refine r_iret (pc := 15) (st := []) rfl dX9_blank_15 ?_
    exact ⟨fun _ => ⟨rfl, rfl⟩, fun a => absurd a (by omega), fun a => absurd a (by omega)⟩
