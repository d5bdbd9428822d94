set_option maxRecDepth 100000 in
set_option maxHeartbeats 4000000 in
theorem kX8_quarter (X : XC) {I : HD} {O : OF} (hO : I 34 = O) (hA : RA I I) (hB : RB I I) {s : Int} (hs : rg s) : Cl X 6 mX8_quarter [rv X 0, iv s] I (fun q J => (¬ 0 < O 0 → q = some (iv (-1000002)) ∧ J = I) ∧ (0 < O 0 → ¬ (1 ≤ s ∧ s ≤ 999999) → q = some (iv (-1000001)) ∧ J = I) ∧ (0 < O 0 → 1 ≤ s ∧ s ≤ 999999 → O 2 = 12 → q = some (iv (-1000002)) ∧ J = I) ∧ (0 < O 0 → 1 ≤ s ∧ s ≤ 999999 → ¬ O 2 = 12 → q = some (iv (if drw s < O (3 + O 2) then ((bset (tbg O 0) 16 : Nat) : Int) else 0)) ∧ RepC (quO O s) J 0 ∧ RB (kpS I) J ∧ ∀ a, a ≠ 21 → (a < 45 ∨ (54 ≤ a ∧ a < 81)) → J a = I a)) := by
  refine Cl.of (by decide) (Nat.le_of_ble_eq_true rfl) ?_
  show Rn X 6 mX8_quarter _ 0 [(0, rv X 0), (1, iv s)] [] I
  have hV : Val O := hO ▸ hA.1
  have hR : RepC O I 0 := hO ▸ hA.2.1
  have q0 := hV.a
  have oe : ∀ x, oH x = 45 + 9 * x := fun _ => rfl
  unfold rg at hs
  refine r_aload_n (pc := 0) (a := 0) (i := 0) 0 rfl rfl dX8_quarter_0 ?_
  refine r_get (pc := 1) ckX8 (by decide) rfl (j := 2) (by decide) rfl kf_X8_25 dX8_quarter_1 ?_
  refine r_callVi (pc := 4) (st := []) (As := []) okX3_isThere (by decide) (oH_lt (show 0 < 28 by decide)) (cellO (show 0 < 28 by decide)) rfl rfl (Nat.le_of_ble_eq_true rfl) km_X8_197 (kX3_isThere X (by decide) hR hV ) dX8_quarter_4 ?_
  refine r_if_ne (pc := 7) 13 rg_bI dX8_quarter_7 (by decide) (fun h7 => ?_) (fun h7 => ?_)
  · skip
    have h7 := bI_n.mp h7
    refine r_iload_n (pc := 13) (a := 1) (i := 1) 1 rfl rfl dX8_quarter_13 ?_
    refine r_iconst (pc := 14) dX8_quarter_14 ?_
    refine r_icmp_lt (pc := 15) 24 (by unfold rg; omega) (by unfold rg; omega) dX8_quarter_15 (by decide) (fun h15 => ?_) (fun h15 => ?_)
    · skip
      refine r_ldc (pc := 24) kc_X8_73 dX8_quarter_24 ?_
      refine r_iret (pc := 26) (st := []) rfl dX8_quarter_26 ?_
      exact ⟨fun a => absurd a (by omega), fun _ _ => ⟨rfl, rfl⟩, fun _ b => absurd b (by omega), fun _ b => absurd b (by omega)⟩
    · skip
      refine r_iload_n (pc := 18) (a := 1) (i := 1) 1 rfl rfl dX8_quarter_18 ?_
      refine r_ldc (pc := 19) kc_X8_200 dX8_quarter_19 ?_
      refine r_icmp_le (pc := 21) 27 (by unfold rg; omega) (by unfold rg; omega) dX8_quarter_21 (by decide) (fun h21 => ?_) (fun h21 => ?_)
      · skip
        refine r_aload_n (pc := 27) (a := 0) (i := 0) 0 rfl rfl dX8_quarter_27 ?_
        refine r_get (pc := 28) ckX8 (by decide) rfl (j := 2) (by decide) rfl kf_X8_25 dX8_quarter_28 ?_
        refine r_getN (pc := 31) ckX3 (oH_lt (show 0 < 28 by decide)) (cellO (show 0 < 28 by decide)) (j := 10) (by decide) (congrArg (fun q => some (iv q)) hR.f2) kf_X8_174 dX8_quarter_31 ?_
        refine r_bipush (pc := 34) rfl dX8_quarter_34 ?_
        refine r_icmp_lt (pc := 36) 42 (by unfold rg; omega) (by unfold rg; omega) dX8_quarter_36 (by decide) (fun h36 => ?_) (fun h36 => ?_)
        · skip
          have hw := hV.w (q := O 2) (by omega) (by omega)
          refine r_aload_n (pc := 42) (a := 0) (i := 0) 0 rfl rfl dX8_quarter_42 ?_
          refine r_get (pc := 43) ckX8 (by decide) rfl (j := 3) (by decide) rfl kf_X8_32 dX8_quarter_43 ?_
          refine r_aload_n (pc := 46) (a := 0) (i := 0) 0 rfl rfl dX8_quarter_46 ?_
          refine r_get (pc := 47) ckX8 (by decide) rfl (j := 2) (by decide) rfl kf_X8_25 dX8_quarter_47 ?_
          refine r_callV (pc := 50) (st := []) (As := [rv X (oH 0)]) okX0_keep (by decide) (by decide) rfl rfl rfl (Nat.le_of_ble_eq_true rfl) km_X8_161 (kX0_keep X hA hB (by rw [hO]; exact (by omega))) dX8_quarter_50 ?_
          rintro _ J1 ⟨rfl, hB1, hf1⟩
          have hR1 : RepC O J1 0 := hR.fr (fun a x y => hf1 a (by rw [oe] at x; omega) (by rw [oe] at y; omega))
          refine r_iload_n (pc := 53) (a := 1) (i := 1) 1 rfl rfl dX8_quarter_53 ?_
          refine r_i2l (pc := 54) (by unfold rg; omega) dX8_quarter_54 ?_
          refine r_ldc2 (pc := 55) kc_X8_201 dX8_quarter_55 ?_
          refine r_lmul (pc := 58) dX8_quarter_58 ?_
          refine r_ldc2 (pc := 59) kc_X8_203 dX8_quarter_59 ?_
          refine r_lrem (pc := 62) (z := (s * 16807) % 2147483647) (by decide) (lrem_n (n := 2147483647) (by omega) (by omega) (by decide) (by decide)) dX8_quarter_62 ?_
          refine r_ldc2 (pc := 63) kc_X8_205 dX8_quarter_63 ?_
          refine r_lrem (pc := 66) (z := ((s * 16807) % 2147483647) % 100) (by decide) (lrem_n (n := 100) (by omega) (by omega) (by decide) (by decide)) dX8_quarter_66 ?_
          refine r_lstore_n (pc := 67) (a := 2) (i := 2) rfl [(2, jv (((s * 16807) % 2147483647) % 100)), (0, rv X 0), (1, iv s)] (by decide) rfl dX8_quarter_67 ?_
          refine r_lload_n (pc := 68) (a := 2) (i := 2) 0 rfl rfl dX8_quarter_68 ?_
          refine r_aload_n (pc := 69) (a := 0) (i := 0) 1 rfl rfl dX8_quarter_69 ?_
          refine r_get (pc := 70) ckX8 (by decide) rfl (j := 2) (by decide) rfl kf_X8_25 dX8_quarter_70 ?_
          refine r_getN (pc := 73) ckX3 (oH_lt (show 0 < 28 by decide)) (cellO (show 0 < 28 by decide)) (j := 0) (by decide) rfl kf_X8_207 dX8_quarter_73 ?_
          refine r_aload_n (pc := 76) (a := 0) (i := 0) 1 rfl rfl dX8_quarter_76 ?_
          refine r_get (pc := 77) ckX8 (by decide) rfl (j := 2) (by decide) rfl kf_X8_25 dX8_quarter_77 ?_
          refine r_getN (pc := 80) ckX3 (oH_lt (show 0 < 28 by decide)) (cellO (show 0 < 28 by decide)) (j := 10) (by decide) (congrArg (fun q => some (iv q)) hR1.f2) kf_X8_174 dX8_quarter_80 ?_
          refine r_iald (pc := 83) (z := O (3 + O 2)) (oH_lt1 (show 0 < 28 by decide)) ((cellO1 (show 0 < 28 by decide)) _) (by omega) (by omega) (by decide) (hR1.wind (by omega) (by omega)) dX8_quarter_83 ?_
          refine r_i2l (pc := 84) (by unfold rg; omega) dX8_quarter_84 ?_
          refine r_lcif_ge (pc := 85) 99 (by unfold rl; omega) (by unfold rl; omega) dX8_quarter_85 dX8_quarter_86 (by decide) (fun h85 => ?_) (fun h85 => ?_)
          · skip
            refine r_iconst (pc := 99) dX8_quarter_99 ?_
            refine r_istore (pc := 100) [(4, iv 0), (2, jv (((s * 16807) % 2147483647) % 100)), (0, rv X 0), (1, iv s)] (by decide) rfl dX8_quarter_100 ?_
            refine r_aload_n (pc := 102) (a := 0) (i := 0) 2 rfl rfl dX8_quarter_102 ?_
            refine r_get (pc := 103) ckX8 (by decide) rfl (j := 2) (by decide) rfl kf_X8_25 dX8_quarter_103 ?_
            refine r_dup (pc := 106) rfl dX8_quarter_106 ?_
            refine r_getN (pc := 107) ckX3 (oH_lt (show 0 < 28 by decide)) (cellO (show 0 < 28 by decide)) (j := 10) (by decide) (congrArg (fun q => some (iv q)) hR1.f2) kf_X8_174 dX8_quarter_107 ?_
            refine r_iconst (pc := 110) dX8_quarter_110 ?_
            refine r_iadd (pc := 111) dX8_quarter_111 ?_
            refine r_putN (pc := 112) 10 (ji := 10) rfl ckX3 (oH_lt (show 0 < 28 by decide)) (cellO (show 0 < 28 by decide)) (cellOp10 (show 0 < 28 by decide)) (by decide) (Nat.le_of_ble_eq_true rfl) kf_X8_174 rfl rfl rfl rfl dX8_quarter_112 ?_
            refine r_iload (pc := 115) 0 rfl dX8_quarter_115 ?_
            refine r_iret (pc := 117) (st := []) rfl dX8_quarter_117 ?_
            have hn : ¬ drw s < O (3 + O 2) := by unfold drw; omega
            exact ⟨fun a => absurd a (by omega), fun _ b => absurd b (by omega), fun _ _ c => absurd c (by omega), fun _ _ _ => ⟨by rw [if_neg hn], by rw [quO_b hn]; exact RepC.qu hR1, hB1.cg rfl rfl (up_row (by decide)) (fun a x y => up_row (by first | omega | (rw [oe]; omega))), fun a x y => (up_row (by first | omega | (rw [oe]; omega))).trans (hf1 a x (by omega))⟩⟩
          · skip
            refine r_aload_n (pc := 89) (a := 0) (i := 0) 1 rfl rfl dX8_quarter_89 ?_
            refine r_get (pc := 90) ckX8 (by decide) rfl (j := 2) (by decide) rfl kf_X8_25 dX8_quarter_90 ?_
            refine r_callV (pc := 93) (st := []) (As := []) okX3_blow (by decide) (oH_lt (show 0 < 28 by decide)) (cellO (show 0 < 28 by decide)) rfl rfl (Nat.le_of_ble_eq_true rfl) km_X8_210 (kX3_blow X (by decide) hR1 hV) dX8_quarter_93 ?_
            rintro _ J2 ⟨rfl, hf2, hR2⟩
            refine r_goto (pc := 96) 100 dX8_quarter_96 (by decide) ?_
            refine r_istore (pc := 100) [(4, iv ((bset (tbg O 0) 16 : Nat) : Int)), (2, jv (((s * 16807) % 2147483647) % 100)), (0, rv X 0), (1, iv s)] (by decide) rfl dX8_quarter_100 ?_
            refine r_aload_n (pc := 102) (a := 0) (i := 0) 2 rfl rfl dX8_quarter_102 ?_
            refine r_get (pc := 103) ckX8 (by decide) rfl (j := 2) (by decide) rfl kf_X8_25 dX8_quarter_103 ?_
            refine r_dup (pc := 106) rfl dX8_quarter_106 ?_
            refine r_getN (pc := 107) ckX3 (oH_lt (show 0 < 28 by decide)) (cellO (show 0 < 28 by decide)) (j := 10) (by decide) (congrArg (fun q => some (iv q)) (hR2.f2.trans (blN_k (by omega) (by omega)))) kf_X8_174 dX8_quarter_107 ?_
            refine r_iconst (pc := 110) dX8_quarter_110 ?_
            refine r_iadd (pc := 111) dX8_quarter_111 ?_
            refine r_putN (pc := 112) 10 (ji := 10) rfl ckX3 (oH_lt (show 0 < 28 by decide)) (cellO (show 0 < 28 by decide)) (cellOp10 (show 0 < 28 by decide)) (by decide) (Nat.le_of_ble_eq_true rfl) kf_X8_174 rfl rfl rfl rfl dX8_quarter_112 ?_
            refine r_iload (pc := 115) 0 rfl dX8_quarter_115 ?_
            refine r_iret (pc := 117) (st := []) rfl dX8_quarter_117 ?_
            have hn : drw s < O (3 + O 2) := by unfold drw; omega
            have b2 : blN O (O 0) 2 = O 2 := blN_k (by omega) (by omega)
            exact ⟨fun a => absurd a (by omega), fun _ b => absurd b (by omega), fun _ _ c => absurd c (by omega), fun _ _ _ => ⟨by rw [if_pos hn], by rw [quO_a hV hn, ← b2]; exact RepC.qu hR2, (hB1.cg rfl rfl (hf2 21 (by rw [oe]; omega)) (fun a x y => hf2 a (by rw [oe]; omega))).cg rfl rfl (up_row (by decide)) (fun a x y => up_row (by first | omega | (rw [oe]; omega))), fun a x y => (up_row (by first | omega | (rw [oe]; omega))).trans ((hf2 a (by rw [oe]; omega)).trans (hf1 a x (by omega)))⟩⟩
        · skip
          refine r_ldc (pc := 39) kc_X8_160 dX8_quarter_39 ?_
          refine r_iret (pc := 41) (st := []) rfl dX8_quarter_41 ?_
          exact ⟨fun a => absurd a (by omega), fun _ b => absurd b (by omega), fun _ _ _ => ⟨rfl, rfl⟩, fun _ _ c => absurd c (by omega)⟩
      · skip
        refine r_ldc (pc := 24) kc_X8_73 dX8_quarter_24 ?_
        refine r_iret (pc := 26) (st := []) rfl dX8_quarter_26 ?_
        exact ⟨fun a => absurd a (by omega), fun _ _ => ⟨rfl, rfl⟩, fun _ b => absurd b (by omega), fun _ b => absurd b (by omega)⟩
  · skip
    have h7 := bI_0.mp h7
    refine r_ldc (pc := 10) kc_X8_160 dX8_quarter_10 ?_
    refine r_iret (pc := 12) (st := []) rfl dX8_quarter_12 ?_
    exact ⟨fun _ => ⟨rfl, rfl⟩, fun a => absurd a (by omega), fun a => absurd a (by omega), fun a => absurd a (by omega)⟩

set_option maxRecDepth 100000 in
set_option maxHeartbeats 4000000 in
theorem kX9_quarter (X : XC) {I : HD} {O : OF} (hO : I 34 = O) (hT : I 30 7 = bI (0 < O 0)) (hV : Val O) (n0 : 0 ≤ I 30 9) (n1 : I 30 9 ≤ 24) {s : Int} (hs : rg s) : Cl X 6 mX9_quarter [rv X 30, iv s] I (fun q J => (¬ 0 < O 0 → q = some (iv (-1000002)) ∧ J = up I 30 0 0) ∧ (0 < O 0 → ¬ (1 ≤ s ∧ s ≤ 999999) → q = some (iv (-1000001)) ∧ J = up I 30 0 0) ∧ (0 < O 0 → 1 ≤ s ∧ s ≤ 999999 → O 2 = 12 → q = some (iv (-1000002)) ∧ J = up I 30 0 0) ∧ (0 < O 0 → 1 ≤ s ∧ s ≤ 999999 → ¬ O 2 = 12 → q = some (iv (if drw s < O (3 + O 2) then ((bset (tbg O 0) 16 : Nat) : Int) else 0)) ∧ ∃ f, J = upA (upA (kpS (up I 30 0 0)) 38 f) 34 (quO O s))) := by
  refine Cl.of (by decide) (Nat.le_of_ble_eq_true rfl) ?_
  show Rn X 6 mX9_quarter _ 0 [(0, rv X 30), (1, iv s)] [] I
  have hO2 : (up I 30 0 0) 34 = O := (up_row (by decide)).trans hO
  have hOk : (kpS (up I 30 0 0)) 34 = O := kpS_34.trans hO2
  have q0 := hV.a
  have hT2 : (up I 30 0 0) 30 7 = bI (0 < O 0) := (up_i (by decide)).trans hT
  unfold rg at hs
  refine r_aload_n (pc := 0) (a := 0) (i := 0) 0 rfl rfl dX9_quarter_0 ?_
  refine r_iconst (pc := 1) dX9_quarter_1 ?_
  refine r_put (pc := 2) 0 (ji := 0) rfl ckX9 (by decide) rfl rfl (by decide) (Nat.le_of_ble_eq_true rfl) kf_X9_54 rfl rfl rfl rfl dX9_quarter_2 ?_
  refine r_aload_n (pc := 5) (a := 0) (i := 0) 0 rfl rfl dX9_quarter_5 ?_
  refine r_get (pc := 6) ckX9 (by decide) rfl (j := 7) (by decide) (show _ = some (iv (bI (0 < O 0))) by rw [← hT2]; rfl) kf_X9_184 dX9_quarter_6 ?_
  refine r_if_ne (pc := 9) 15 rg_bI dX9_quarter_9 (by decide) (fun h9 => ?_) (fun h9 => ?_)
  · skip
    have h9 := bI_n.mp h9
    refine r_iload_n (pc := 15) (a := 1) (i := 1) 1 rfl rfl dX9_quarter_15 ?_
    refine r_i2l (pc := 16) (by unfold rg; omega) dX9_quarter_16 ?_
    refine r_lconst (pc := 17) (z := 1) rfl dX9_quarter_17 ?_
    refine r_ldc2 (pc := 18) kc_X9_228 dX9_quarter_18 ?_
    refine r_callSi (pc := 21) (st := []) (As := [jv s, jv 1, jv 999999]) okX9_in (by decide) trivial rfl (Nat.le_of_ble_eq_true rfl) km_X9_64 (kX9_in X (by unfold rl; omega) (by unfold rl; omega) (by unfold rl; omega)) dX9_quarter_21 ?_
    refine r_if_ne (pc := 24) 30 rg_bI dX9_quarter_24 (by decide) (fun h24 => ?_) (fun h24 => ?_)
    · skip
      have h24 := bI_n.mp h24
      refine r_aload_n (pc := 30) (a := 0) (i := 0) 0 rfl rfl dX9_quarter_30 ?_
      refine r_get (pc := 31) ckX9 (by decide) rfl (j := 5) (by decide) rfl kf_X9_19 dX9_quarter_31 ?_
      refine r_iconst (pc := 34) dX9_quarter_34 ?_
      refine r_iald (pc := 35) (z := O 2) (by decide) rfl (by omega) (by omega) (by decide) (congrFun hO2 _) dX9_quarter_35 ?_
      refine r_bipush (pc := 36) rfl dX9_quarter_36 ?_
      refine r_icmp_ne (pc := 38) 44 (by unfold rg; omega) (by unfold rg; omega) dX9_quarter_38 (by decide) (fun h38 => ?_) (fun h38 => ?_)
      · skip
        have hw := hV.w (q := O 2) (by omega) (by omega)
        refine r_aload_n (pc := 44) (a := 0) (i := 0) 0 rfl rfl dX9_quarter_44 ?_
        refine r_callVv (pc := 45) (st := []) (As := []) okX9_keep (by decide) (by decide) rfl rfl rfl (Nat.le_of_ble_eq_true rfl) km_X9_207 (kX9_keep X hO2 rfl ((up_i (by decide)).trans rfl) n0 n1) dX9_quarter_45 ?_
        refine r_I (J := kpS (up I 30 0 0)) (by unfold kpS; rw [hO2, up_i (show (9 : Int) ≠ 0 by decide)]) ?_
        refine r_iload_n (pc := 48) (a := 1) (i := 1) 1 rfl rfl dX9_quarter_48 ?_
        refine r_i2l (pc := 49) (by unfold rg; omega) dX9_quarter_49 ?_
        refine r_ldc2 (pc := 50) kc_X9_230 dX9_quarter_50 ?_
        refine r_lmul (pc := 53) dX9_quarter_53 ?_
        refine r_ldc2 (pc := 54) kc_X9_232 dX9_quarter_54 ?_
        refine r_lrem (pc := 57) (z := (s * 16807) % 2147483647) (by decide) (lrem_n (n := 2147483647) (by omega) (by omega) (by decide) (by decide)) dX9_quarter_57 ?_
        refine r_lstore_n (pc := 58) (a := 2) (i := 2) rfl [(2, jv ((s * 16807) % 2147483647)), (0, rv X 30), (1, iv s)] (by decide) rfl dX9_quarter_58 ?_
        refine r_iconst (pc := 59) dX9_quarter_59 ?_
        refine r_istore (pc := 60) [(4, iv 0), (2, jv ((s * 16807) % 2147483647)), (0, rv X 30), (1, iv s)] (by decide) rfl dX9_quarter_60 ?_
        refine r_lload_n (pc := 62) (a := 2) (i := 2) 1 rfl rfl dX9_quarter_62 ?_
        refine r_ldc2 (pc := 63) kc_X9_234 dX9_quarter_63 ?_
        refine r_lrem (pc := 66) (z := ((s * 16807) % 2147483647) % 100) (by decide) (lrem_n (n := 100) (by omega) (by omega) (by decide) (by decide)) dX9_quarter_66 ?_
        refine r_aload_n (pc := 67) (a := 0) (i := 0) 2 rfl rfl dX9_quarter_67 ?_
        refine r_get (pc := 68) ckX9 (by decide) rfl (j := 5) (by decide) rfl kf_X9_19 dX9_quarter_68 ?_
        refine r_iconst (pc := 71) dX9_quarter_71 ?_
        refine r_aload_n (pc := 72) (a := 0) (i := 0) 2 rfl rfl dX9_quarter_72 ?_
        refine r_get (pc := 73) ckX9 (by decide) rfl (j := 5) (by decide) rfl kf_X9_19 dX9_quarter_73 ?_
        refine r_iconst (pc := 76) dX9_quarter_76 ?_
        refine r_iald (pc := 77) (z := O 2) (by decide) rfl (by omega) (by omega) (by decide) (congrFun hOk _) dX9_quarter_77 ?_
        refine r_iadd (pc := 78) dX9_quarter_78 ?_
        refine r_iald (pc := 79) (z := O (3 + O 2)) (by decide) rfl (by omega) (by omega) (by decide) (congrFun hOk _) dX9_quarter_79 ?_
        refine r_i2l (pc := 80) (by unfold rg; omega) dX9_quarter_80 ?_
        refine r_lcif_ge (pc := 81) 135 (by unfold rl; omega) (by unfold rl; omega) dX9_quarter_81 dX9_quarter_82 (by decide) (fun h81 => ?_) (fun h81 => ?_)
        · skip
          refine r_aload_n (pc := 135) (a := 0) (i := 0) 2 rfl rfl dX9_quarter_135 ?_
          refine r_get (pc := 136) ckX9 (by decide) rfl (j := 5) (by decide) rfl kf_X9_19 dX9_quarter_136 ?_
          refine r_iconst (pc := 139) dX9_quarter_139 ?_
          refine r_dup2 (pc := 140) rfl rfl dX9_quarter_140 ?_
          refine r_iald (pc := 141) (z := O 2) (by decide) rfl (by omega) (by omega) (by decide) (by first | exact congrFun hOk _ | exact (congrFun upA_s _).trans (blN_k (by omega) (by omega))) dX9_quarter_141 ?_
          refine r_iconst (pc := 142) dX9_quarter_142 ?_
          refine r_iadd (pc := 143) dX9_quarter_143 ?_
          refine r_iast (pc := 144) (by decide) (fun _ => rfl) (by omega) (by omega) (by decide) dX9_quarter_144 ?_
          refine r_iload (pc := 145) 0 rfl dX9_quarter_145 ?_
          refine r_iret (pc := 147) (st := []) rfl dX9_quarter_147 ?_
          have hn : ¬ drw s < O (3 + O 2) := by unfold drw; omega
          exact ⟨fun a => absurd a (by omega), fun _ b => absurd b (by omega), fun _ _ c => absurd c (by omega), fun _ _ _ => ⟨by rw [if_neg hn], _, by rw [quO_b hn, upA_id, upA_i, hOk]⟩⟩
        · skip
          refine r_aload_n (pc := 85) (a := 0) (i := 0) 2 rfl rfl dX9_quarter_85 ?_
          refine r_callV (pc := 86) (st := []) (As := []) okX9_layLeft (by decide) (by decide) rfl rfl rfl (Nat.le_of_ble_eq_true rfl) km_X9_236 (kX9_layLeft X hOk hV) dX9_quarter_86 ?_
          rintro _ _ ⟨rfl, f, rfl, hf⟩
          refine r_aload_n (pc := 89) (a := 0) (i := 0) 2 rfl rfl dX9_quarter_89 ?_
          refine r_callV (pc := 90) (st := []) (As := []) okX9_gust (by decide) (by decide) rfl rfl rfl (Nat.le_of_ble_eq_true rfl) km_X9_239 (kX9_gust X ((upA_h (by decide)).trans hOk) hV (e := 0) (by omega) (by rw [upA_s]; exact hf)) dX9_quarter_90 ?_
          rintro _ _ ⟨rfl, g, rfl, hg⟩
          refine r_I (J := upA (kpS (up I 30 0 0)) 38 g) (upA_A) ?_
          refine r_istore (pc := 93) [(4, iv ((bset (tbg O 0) 16 : Nat) : Int)), (2, jv ((s * 16807) % 2147483647)), (0, rv X 30), (1, iv s)] (by decide) rfl dX9_quarter_93 ?_
          refine r_iconst (pc := 95) dX9_quarter_95 ?_
          refine r_istore (pc := 96) [(5, iv 0), (4, iv ((bset (tbg O 0) 16 : Nat) : Int)), (2, jv ((s * 16807) % 2147483647)), (0, rv X 30), (1, iv s)] (by decide) rfl dX9_quarter_96 ?_
          refine r_I (J := upA (upA (kpS (up I 30 0 0)) 38 g) 34 (blN O 0)) (by rw [blN_0]; exact upA_e ((upA_h (by decide)).trans hOk)) ?_
          have at98 : ∀ (n98 : Nat) (d : Int), (O 0 - d).toNat < n98 → (hd0 : 0 ≤ d) → (hd1 : d ≤ O 0) → Rn X 6 mX9_quarter (fun q J => (¬ 0 < O 0 → q = some (iv (-1000002)) ∧ J = up I 30 0 0) ∧ (0 < O 0 → ¬ (1 ≤ s ∧ s ≤ 999999) → q = some (iv (-1000001)) ∧ J = up I 30 0 0) ∧ (0 < O 0 → 1 ≤ s ∧ s ≤ 999999 → O 2 = 12 → q = some (iv (-1000002)) ∧ J = up I 30 0 0) ∧ (0 < O 0 → 1 ≤ s ∧ s ≤ 999999 → ¬ O 2 = 12 → q = some (iv (if drw s < O (3 + O 2) then ((bset (tbg O 0) 16 : Nat) : Int) else 0)) ∧ ∃ f, J = upA (upA (kpS (up I 30 0 0)) 38 f) 34 (quO O s))) 98 [(0, rv X 30), (1, iv s), (2, jv (s * 16807 % 2147483647)), (4, iv ((bset (tbg O 0) 16 : Nat) : Int)), (5, iv d)] [] (upA (upA (kpS (up I 30 0 0)) 38 g) 34 (blN O d)) := by
            intro n98
            induction n98 with
            | zero => intro d hm; omega
            | succ n98 ih98 =>
              intro d hm98 hd0 hd1
              refine r_iload (pc := 98) 4 rfl dX9_quarter_98 ?_
              refine r_aload_n (pc := 100) (a := 0) (i := 0) 0 rfl rfl dX9_quarter_100 ?_
              refine r_get (pc := 101) ckX9 (by decide) rfl (j := 5) (by decide) rfl kf_X9_19 dX9_quarter_101 ?_
              refine r_iconst (pc := 104) dX9_quarter_104 ?_
              refine r_iald (pc := 105) (z := O 0) (by decide) rfl (by omega) (by omega) (by decide) ((congrFun upA_s _).trans (blN_k (by omega) (by omega))) dX9_quarter_105 ?_
              refine r_icmp_ge (pc := 106) 135 (by unfold rg; omega) (by unfold rg; omega) dX9_quarter_106 (by decide) (fun h106 => ?_) (fun h106 => ?_)
              · skip
                refine r_aload_n (pc := 135) (a := 0) (i := 0) 0 rfl rfl dX9_quarter_135 ?_
                refine r_get (pc := 136) ckX9 (by decide) rfl (j := 5) (by decide) rfl kf_X9_19 dX9_quarter_136 ?_
                refine r_iconst (pc := 139) dX9_quarter_139 ?_
                refine r_dup2 (pc := 140) rfl rfl dX9_quarter_140 ?_
                refine r_iald (pc := 141) (z := O 2) (by decide) rfl (by omega) (by omega) (by decide) (by first | exact congrFun hOk _ | exact (congrFun upA_s _).trans (blN_k (by omega) (by omega))) dX9_quarter_141 ?_
                refine r_iconst (pc := 142) dX9_quarter_142 ?_
                refine r_iadd (pc := 143) dX9_quarter_143 ?_
                refine r_iast (pc := 144) (by decide) (fun _ => rfl) (by omega) (by omega) (by decide) dX9_quarter_144 ?_
                refine r_iload (pc := 145) 3 rfl dX9_quarter_145 ?_
                refine r_iret (pc := 147) (st := []) rfl dX9_quarter_147 ?_
                have hn : drw s < O (3 + O 2) := by unfold drw; omega
                have b2 : blN O (O 0) 2 = O 2 := blN_k (by omega) (by omega)
                exact ⟨fun a => absurd a (by omega), fun _ b => absurd b (by omega), fun _ _ c => absurd c (by omega), fun _ _ _ => ⟨by rw [if_pos hn], g, by rw [quO_a hV hn, upA_u, b2, show d = O 0 by omega]⟩⟩
              · skip
                have h1 : d < O 0 := by omega
                have q1 := hV.d hd0 h1
                refine r_aload_n (pc := 109) (a := 0) (i := 0) 0 rfl rfl dX9_quarter_109 ?_
                refine r_get (pc := 110) ckX9 (by decide) rfl (j := 5) (by decide) rfl kf_X9_19 dX9_quarter_110 ?_
                refine r_bipush (pc := 113) rfl dX9_quarter_113 ?_
                refine r_bipush (pc := 115) rfl dX9_quarter_115 ?_
                refine r_iload (pc := 117) 4 rfl dX9_quarter_117 ?_
                refine r_imul (pc := 119) dX9_quarter_119 ?_
                refine r_iadd (pc := 120) dX9_quarter_120 ?_
                refine r_aload_n (pc := 121) (a := 0) (i := 0) 0 rfl rfl dX9_quarter_121 ?_
                refine r_get (pc := 122) ckX9 (by decide) rfl (j := 20) (by decide) rfl kf_X9_31 dX9_quarter_122 ?_
                refine r_iload (pc := 125) 4 rfl dX9_quarter_125 ?_
                refine r_iald (pc := 127) (z := O (23 + 10 * d) - tfv O d 1) (by decide) rfl (by omega) (by omega) (by decide) (by rw [upA_h (by decide), upA_s]; exact hg d hd0 h1) dX9_quarter_127 ?_
                refine r_iast (pc := 128) (by decide) (fun _ => rfl) (by omega) (by omega) (by decide) dX9_quarter_128 ?_
                refine r_I (J := upA (upA (kpS (up I 30 0 0)) 38 g) 34 (blN O (d + 1))) (blN_s hd0 rfl) ?_
                refine r_iinc (pc := 129) 4 [(5, iv (d + 1)), (0, rv X 30), (1, iv s), (2, jv (s * 16807 % 2147483647)), (4, iv ((bset (tbg O 0) 16 : Nat) : Int))] rfl (by decide) rfl dX9_quarter_129 ?_
                refine r_goto (pc := 132) 98 dX9_quarter_132 (by decide) ?_
                refine r_lv [1, 2, 3, 4, 0] [(0, rv X 30), (1, iv s), (2, jv (s * 16807 % 2147483647)), (4, iv ((bset (tbg O 0) 16 : Nat) : Int)), (5, iv (d + 1))] rfl ?_
                exact ih98 (d + 1) (by omega) (by omega) (by omega)
          refine r_lv [3, 4, 2, 1, 0] [(0, rv X 30), (1, iv s), (2, jv ((s * 16807) % 2147483647)), (4, iv ((bset (tbg O 0) 16 : Nat) : Int)), (5, iv 0)] rfl ?_
          exact at98 _ 0 (Nat.lt_succ_self _) (by omega) (by omega)
      · skip
        refine r_ldc (pc := 41) kc_X9_206 dX9_quarter_41 ?_
        refine r_iret (pc := 43) (st := []) rfl dX9_quarter_43 ?_
        exact ⟨fun a => absurd a (by omega), fun _ b => absurd b (by omega), fun _ _ _ => ⟨rfl, rfl⟩, fun _ _ c => absurd c (by omega)⟩
    · skip
      have h24 := bI_0.mp h24
      refine r_ldc (pc := 27) kc_X9_74 dX9_quarter_27 ?_
      refine r_iret (pc := 29) (st := []) rfl dX9_quarter_29 ?_
      exact ⟨fun a => absurd a (by omega), fun _ _ => ⟨rfl, rfl⟩, fun _ b => absurd b (by omega), fun _ b => absurd b (by omega)⟩
  · skip
    have h9 := bI_0.mp h9
    refine r_ldc (pc := 12) kc_X9_206 dX9_quarter_12 ?_
    refine r_iret (pc := 14) (st := []) rfl dX9_quarter_14 ?_
    exact ⟨fun _ => ⟨rfl, rfl⟩, fun a => absurd a (by omega), fun a => absurd a (by omega), fun a => absurd a (by omega)⟩
