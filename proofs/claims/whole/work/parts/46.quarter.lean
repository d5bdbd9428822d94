set_option maxRecDepth 100000 in
set_option maxHeartbeats 4000000 in
theorem kX8_quarter (X : XC) {I : HD} {O : OF} (hO : I 34 = O) (hA : RA I I) (hB : RB I I) {s : Int} (hs : rg s) : Cl X 6 mX8_quarter [rv X 0, iv s] I (fun q J => (¬ 0 < O 0 → q = some (iv (-1000002)) ∧ J = I) ∧ (0 < O 0 → ¬ (1 ≤ s ∧ s ≤ 999999) → q = some (iv (-1000001)) ∧ J = I) ∧ (0 < O 0 → 1 ≤ s ∧ s ≤ 999999 → O 2 = 12 → q = some (iv (-1000002)) ∧ J = I) ∧ (0 < O 0 → 1 ≤ s ∧ s ≤ 999999 → ¬ O 2 = 12 → q = some (iv (if drw s < O (3 + O 2) then ((bset (tbg O 0) 16 : Nat) : Int) else 0)) ∧ RepC (quO O s) J 0 ∧ RB (kpS I) J ∧ ∀ a, a ≠ 21 → (a < 45 ∨ (54 ≤ a ∧ a < 81)) → J a = I a)) := by
  refine Cl.of (by decide) (Nat.le_of_ble_eq_true rfl) ?_
  show Rn X 6 mX8_quarter _ 0 [(0, rv X 0), (1, iv s)] [] I
  have hV : Val O := hO ▸ hA.1
  have hR : RepC O I 0 := hO ▸ hA.2.1
  have q0 := hV.a
  have oe : ∀ x, oH x = 45 + 9 * x := fun _ => rfl
  unfold rg at hs
  refine r_aload_n (pc := 0) (a := 0) (i := 0) 0 rfl rfl dX8_quarter_0 ?_
  refine r_get (pc := 1) ckX8 (by decide) rfl (j := 2) (by decide) rfl kf_X8_25 dX8_quarter_1 ?_
  refine r_callVi (pc := 4) (st := []) (As := []) okX3_isThere (by decide) (oH_lt (show 0 < 28 by decide)) (cellO (show 0 < 28 by decide)) rfl rfl (Nat.le_of_ble_eq_true rfl) km_X8_197 (kX3_isThere X (by decide) hR hV ) dX8_quarter_4 ?_
  refine r_if_ne (pc := 7) 13 rg_bI dX8_quarter_7 (by decide) (fun h7 => ?_) (fun h7 => ?_)
  · skip
    have h7 := bI_n.mp h7
    refine r_iload_n (pc := 13) (a := 1) (i := 1) 1 rfl rfl dX8_quarter_13 ?_
    refine r_iconst (pc := 14) dX8_quarter_14 ?_
    refine r_icmp_lt (pc := 15) 24 (by unfold rg; omega) (by unfold rg; omega) dX8_quarter_15 (by decide) (fun h15 => ?_) (fun h15 => ?_)
    · skip
      refine r_ldc (pc := 24) kc_X8_73 dX8_quarter_24 ?_
      refine r_iret (pc := 26) (st := []) rfl dX8_quarter_26 ?_
      exact ⟨fun a => absurd a (by omega), fun _ _ => ⟨rfl, rfl⟩, fun _ b => absurd b (by omega), fun _ b => absurd b (by omega)⟩
    · skip
      refine r_iload_n (pc := 18) (a := 1) (i := 1) 1 rfl rfl dX8_quarter_18 ?_
      refine r_ldc (pc := 19) kc_X8_200 dX8_quarter_19 ?_
      refine r_icmp_le (pc := 21) 27 (by unfold rg; omega) (by unfold rg; omega) dX8_quarter_21 (by decide) (fun h21 => ?_) (fun h21 => ?_)
      · skip
        refine r_aload_n (pc := 27) (a := 0) (i := 0) 0 rfl rfl dX8_quarter_27 ?_
        refine r_get (pc := 28) ckX8 (by decide) rfl (j := 2) (by decide) rfl kf_X8_25 dX8_quarter_28 ?_
        refine r_getN (pc := 31) ckX3 (oH_lt (show 0 < 28 by decide)) (cellO (show 0 < 28 by decide)) (j := 10) (by decide) (congrArg (fun q => some (iv q)) hR.f2) kf_X8_174 dX8_quarter_31 ?_
        refine r_bipush (pc := 34) rfl dX8_quarter_34 ?_
        refine r_icmp_lt (pc := 36) 42 (by unfold rg; omega) (by unfold rg; omega) dX8_quarter_36 (by decide) (fun h36 => ?_) (fun h36 => ?_)
        · skip
          have hw := hV.w (q := O 2) (by omega) (by omega)
          refine r_aload_n (pc := 42) (a := 0) (i := 0) 0 rfl rfl dX8_quarter_42 ?_
          refine r_get (pc := 43) ckX8 (by decide) rfl (j := 3) (by decide) rfl kf_X8_32 dX8_quarter_43 ?_
          refine r_aload_n (pc := 46) (a := 0) (i := 0) 0 rfl rfl dX8_quarter_46 ?_
          refine r_get (pc := 47) ckX8 (by decide) rfl (j := 2) (by decide) rfl kf_X8_25 dX8_quarter_47 ?_
          refine r_callV (pc := 50) (st := []) (As := [rv X (oH 0)]) okX0_keep (by decide) (by decide) rfl rfl rfl (Nat.le_of_ble_eq_true rfl) km_X8_161 (kX0_keep X hA hB (by rw [hO]; exact (by omega))) dX8_quarter_50 ?_
          rintro _ J1 ⟨rfl, hB1, hf1⟩
          have hR1 : RepC O J1 0 := hR.fr (fun a x y => hf1 a (by rw [oe] at x; omega) (by rw [oe] at y; omega))
          refine r_iload_n (pc := 53) (a := 1) (i := 1) 1 rfl rfl dX8_quarter_53 ?_
          refine r_i2l (pc := 54) (by unfold rg; omega) dX8_quarter_54 ?_
          refine r_ldc2 (pc := 55) kc_X8_201 dX8_quarter_55 ?_
          refine r_lmul (pc := 58) dX8_quarter_58 ?_
          refine r_ldc2 (pc := 59) kc_X8_203 dX8_quarter_59 ?_
          refine r_lrem (pc := 62) (z := (s * 16807) % 2147483647) (by decide) (lrem_n (n := 2147483647) (by omega) (by omega) (by decide) (by decide)) dX8_quarter_62 ?_
          refine r_ldc2 (pc := 63) kc_X8_205 dX8_quarter_63 ?_
          refine r_lrem (pc := 66) (z := ((s * 16807) % 2147483647) % 100) (by decide) (lrem_n (n := 100) (by omega) (by omega) (by decide) (by decide)) dX8_quarter_66 ?_
          refine r_lstore_n (pc := 67) (a := 2) (i := 2) rfl [(2, jv (((s * 16807) % 2147483647) % 100)), (0, rv X 0), (1, iv s)] (by decide) rfl dX8_quarter_67 ?_
          refine r_lload_n (pc := 68) (a := 2) (i := 2) 0 rfl rfl dX8_quarter_68 ?_
          refine r_aload_n (pc := 69) (a := 0) (i := 0) 1 rfl rfl dX8_quarter_69 ?_
          refine r_get (pc := 70) ckX8 (by decide) rfl (j := 2) (by decide) rfl kf_X8_25 dX8_quarter_70 ?_
          refine r_getN (pc := 73) ckX3 (oH_lt (show 0 < 28 by decide)) (cellO (show 0 < 28 by decide)) (j := 0) (by decide) rfl kf_X8_207 dX8_quarter_73 ?_
          refine r_aload_n (pc := 76) (a := 0) (i := 0) 1 rfl rfl dX8_quarter_76 ?_
          refine r_get (pc := 77) ckX8 (by decide) rfl (j := 2) (by decide) rfl kf_X8_25 dX8_quarter_77 ?_
          refine r_getN (pc := 80) ckX3 (oH_lt (show 0 < 28 by decide)) (cellO (show 0 < 28 by decide)) (j := 10) (by decide) (congrArg (fun q => some (iv q)) hR1.f2) kf_X8_174 dX8_quarter_80 ?_
          refine r_iald (pc := 83) (z := O (3 + O 2)) (oH_lt1 (show 0 < 28 by decide)) ((cellO1 (show 0 < 28 by decide)) _) (by omega) (by omega) (by decide) (hR1.wind (by omega) (by omega)) dX8_quarter_83 ?_
          refine r_i2l (pc := 84) (by unfold rg; omega) dX8_quarter_84 ?_
          refine r_lcif_ge (pc := 85) 99 (by unfold rl; omega) (by unfold rl; omega) dX8_quarter_85 dX8_quarter_86 (by decide) (fun h85 => ?_) (fun h85 => ?_)
          · skip
            refine r_iconst (pc := 99) dX8_quarter_99 ?_
            refine r_istore (pc := 100) [(4, iv 0), (2, jv (((s * 16807) % 2147483647) % 100)), (0, rv X 0), (1, iv s)] (by decide) rfl dX8_quarter_100 ?_
            refine r_aload_n (pc := 102) (a := 0) (i := 0) 2 rfl rfl dX8_quarter_102 ?_
            refine r_get (pc := 103) ckX8 (by decide) rfl (j := 2) (by decide) rfl kf_X8_25 dX8_quarter_103 ?_
            refine r_dup (pc := 106) rfl dX8_quarter_106 ?_
            refine r_getN (pc := 107) ckX3 (oH_lt (show 0 < 28 by decide)) (cellO (show 0 < 28 by decide)) (j := 10) (by decide) (congrArg (fun q => some (iv q)) hR1.f2) kf_X8_174 dX8_quarter_107 ?_
            refine r_iconst (pc := 110) dX8_quarter_110 ?_
            refine r_iadd (pc := 111) dX8_quarter_111 ?_
            refine r_putN (pc := 112) 10 (ji := 10) rfl ckX3 (oH_lt (show 0 < 28 by decide)) (cellO (show 0 < 28 by decide)) (cellOp10 (show 0 < 28 by decide)) (by decide) (Nat.le_of_ble_eq_true rfl) kf_X8_174 rfl rfl rfl rfl dX8_quarter_112 ?_
            refine r_iload (pc := 115) 0 rfl dX8_quarter_115 ?_
            refine r_iret (pc := 117) (st := []) rfl dX8_quarter_117 ?_
            have hn : ¬ drw s < O (3 + O 2) := by unfold drw; omega
            exact ⟨fun a => absurd a (by omega), fun _ b => absurd b (by omega), fun _ _ c => absurd c (by omega), fun _ _ _ => ⟨by rw [if_neg hn], by rw [quO_b hn]; exact RepC.qu hR1, hB1.cg rfl rfl (up_row (by decide)) (fun a x y => up_row (by first | omega | (rw [oe]; omega))), fun a x y => (up_row (by first | omega | (rw [oe]; omega))).trans (hf1 a x (by omega))⟩⟩
          · skip
            refine r_aload_n (pc := 89) (a := 0) (i := 0) 1 rfl rfl dX8_quarter_89 ?_
            refine r_get (pc := 90) ckX8 (by decide) rfl (j := 2) (by decide) rfl kf_X8_25 dX8_quarter_90 ?_
            refine r_callV (pc := 93) (st := []) (As := []) okX3_blow (by decide) (oH_lt (show 0 < 28 by decide)) (cellO (show 0 < 28 by decide)) rfl rfl (Nat.le_of_ble_eq_true rfl) km_X8_210 (kX3_blow X (by decide) hR1 hV) dX8_quarter_93 ?_
            rintro _ J2 ⟨rfl, hf2, hR2⟩
            refine r_goto (pc := 96) 100 dX8_quarter_96 (by decide) ?_
            refine r_istore (pc := 100) [(4, iv ((bset (tbg O 0) 16 : Nat) : Int)), (2, jv (((s * 16807) % 2147483647) % 100)), (0, rv X 0), (1, iv s)] (by decide) rfl dX8_quarter_100 ?_
            refine r_aload_n (pc := 102) (a := 0) (i := 0) 2 rfl rfl dX8_quarter_102 ?_
            refine r_get (pc := 103) ckX8 (by decide) rfl (j := 2) (by decide) rfl kf_X8_25 dX8_quarter_103 ?_
            refine r_dup (pc := 106) rfl dX8_quarter_106 ?_
            refine r_getN (pc := 107) ckX3 (oH_lt (show 0 < 28 by decide)) (cellO (show 0 < 28 by decide)) (j := 10) (by decide) (congrArg (fun q => some (iv q)) (hR2.f2.trans (blN_k (by omega) (by omega)))) kf_X8_174 dX8_quarter_107 ?_
            refine r_iconst (pc := 110) dX8_quarter_110 ?_
            refine r_iadd (pc := 111) dX8_quarter_111 ?_
            refine r_putN (pc := 112) 10 (ji := 10) rfl ckX3 (oH_lt (show 0 < 28 by decide)) (cellO (show 0 < 28 by decide)) (cellOp10 (show 0 < 28 by decide)) (by decide) (Nat.le_of_ble_eq_true rfl) kf_X8_174 rfl rfl rfl rfl dX8_quarter_112 ?_
            refine r_iload (pc := 115) 0 rfl dX8_quarter_115 ?_
            refine r_iret (pc := 117) (st := []) rfl dX8_quarter_117 ?_
            have hn : drw s < O (3 + O 2) := by unfold drw; omega
            have b2 : blN O (O 0) 2 = O 2 := blN_k (by omega) (by omega)
            exact ⟨fun a => absurd a (by omega), fun _ b => absurd b (by omega), fun _ _ c => absurd c (by omega), fun _ _ _ => ⟨by rw [if_pos hn], by rw [quO_a hV hn, ← b2]; exact RepC.qu hR2, (hB1.cg rfl rfl (hf2 21 (by rw [oe]; omega)) (fun a x y => hf2 a (by rw [oe]; omega))).cg rfl rfl (up_row (by decide)) (fun a x y => up_row (by first | omega | (rw [oe]; omega))), fun a x y => (up_row (by first | omega | (rw [oe]; omega))).trans ((hf2 a (by rw [oe]; omega)).trans (hf1 a x (by omega)))⟩⟩
        · skip
          refine r_ldc (pc := 39) kc_X8_160 dX8_quarter_39 ?_
          refine r_iret (pc := 41) (st := []) rfl dX8_quarter_41 ?_
          exact ⟨fun a => absurd a (by omega), fun _ b => absurd b (by omega), fun _ _ _ => ⟨rfl, rfl⟩, fun _ _ c => absurd c (by omega)⟩
      · skip
        refine r_ldc (pc := 24) kc_X8_73 dX8_quarter_24 ?_
        refine r_iret (pc := 26) (st := []) rfl dX8_quarter_26 ?_
        exact ⟨fun a => absurd a (by omega), fun _ _ => ⟨rfl, rfl⟩, fun _ b => absurd b (by omega), fun _ b => absurd b (by omega)⟩
  · skip
    have h7 := bI_0.mp h7
    refine r_ldc (pc := 10) kc_X8_160 dX8_quarter_10 ?_
    refine r_iret (pc := 12) (st := []) rfl dX8_quarter_12 ?_
    exact ⟨fun _ => ⟨rfl, rfl⟩, fun a => absurd a (by omega), fun a => absurd a (by omega), fun a => absurd a (by omega)⟩
