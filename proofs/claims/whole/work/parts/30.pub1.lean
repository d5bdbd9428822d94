set_option maxRecDepth 100000 in
set_option maxHeartbeats 4000000 in
theorem kX8_sheet (X : XC) {I : HD} {O : OF} (hR : RepC O I 0) (hV : Val O) {p w : Int} (hp : rg p) (hw : rg w) : Cl X 6 mX8_sheet [rv X 0, iv p, iv w] I (Ki (zSheet O p w) I) := by
  refine Cl.of (by decide) (Nat.le_of_ble_eq_true rfl) ?_
  show Rn X 6 mX8_sheet _ 0 [(0, rv X 0), (1, iv p), (2, iv w)] [] I
  unfold rg at hp hw
  have q0 := hV.a
  refine r_aload_n (pc := 0) (a := 0) (i := 0) 0 rfl rfl dX8_sheet_0 ?_
  refine r_get (pc := 1) ckX8 (by decide) rfl (j := 2) (by decide) rfl kf_X8_25 dX8_sheet_1 ?_
  refine r_iload_n (pc := 4) (a := 1) (i := 1) 1 rfl rfl dX8_sheet_4 ?_
  refine r_callVi (pc := 5) (st := []) (As := [iv p]) okX3_hasSheet (by decide) (oH_lt (show 0 < 28 by decide)) (cellO (show 0 < 28 by decide)) rfl rfl (Nat.le_of_ble_eq_true rfl) km_X8_154 (kX3_hasSheet X (by decide) hR hV (by unfold rg; omega)) dX8_sheet_5 ?_
  refine r_if_ne (pc := 8) 14 rg_bI dX8_sheet_8 (by decide) (fun h8 => ?_) (fun h8 => ?_)
  · skip
    have h8 := bI_n.mp h8
    refine r_iload_n (pc := 14) (a := 2) (i := 2) 2 rfl rfl dX8_sheet_14 ?_
    rcases (by omega : (w < 0 ∨ 5 < w) ∨ w = 0 ∨ w = 1 ∨ w = 2 ∨ w = 3 ∨ w = 4 ∨ w = 5) with hs | hs | hs | hs | hs | hs | hs
    · skip
      refine r_tsOut (pc := 15) 156 (by unfold rg; omega) hs dX8_sheet_15 (by decide) ?_
      refine r_ldc (pc := 156) kc_X8_73 dX8_sheet_156 ?_
      refine r_iret (pc := 158) (st := []) rfl dX8_sheet_158 ?_
      exact ⟨congrArg (fun q => some (iv q)) (by unfold zSheet; rw [if_pos (by omega), if_neg (by omega), if_neg (by omega), if_neg (by omega), if_neg (by omega), if_neg (by omega), if_neg (by omega)]), rfl⟩
    · skip
      refine r_tsIn (pc := 15) (c := 0) 52 hs (by unfold rg; omega) (by omega) (by omega) (off := 37) rfl dX8_sheet_15 (by decide) ?_
      have qp := hV.p h8.1 h8.2
      refine r_aload_n (pc := 52) (a := 0) (i := 0) 0 rfl rfl dX8_sheet_52 ?_
      refine r_get (pc := 53) ckX8 (by decide) rfl (j := 2) (by decide) rfl kf_X8_25 dX8_sheet_53 ?_
      refine r_getN (pc := 56) ckX3 (oH_lt (show 0 < 28 by decide)) (cellO (show 0 < 28 by decide)) (j := 6) (by decide) rfl kf_X8_220 dX8_sheet_56 ?_
      refine r_iload_n (pc := 59) (a := 1) (i := 1) 1 rfl rfl dX8_sheet_59 ?_
      refine r_iald (pc := 60) (z := O (64 + 4 * p)) (oH_lt7 (show 0 < 28 by decide)) ((cellO7 (show 0 < 28 by decide)) _) (by omega) (by omega) (by decide) (hR.wrth (by omega) (by omega)) dX8_sheet_60 ?_
      refine r_iret (pc := 61) (st := []) rfl dX8_sheet_61 ?_
      exact ⟨congrArg (fun q => some (iv q)) (by unfold zSheet; rw [if_pos (by omega), if_pos (by omega)]), rfl⟩
    · skip
      refine r_tsIn (pc := 15) (c := 1) 62 hs (by unfold rg; omega) (by omega) (by omega) (off := 47) rfl dX8_sheet_15 (by decide) ?_
      have qp := hV.p h8.1 h8.2
      refine r_aload_n (pc := 62) (a := 0) (i := 0) 0 rfl rfl dX8_sheet_62 ?_
      refine r_get (pc := 63) ckX8 (by decide) rfl (j := 2) (by decide) rfl kf_X8_25 dX8_sheet_63 ?_
      refine r_getN (pc := 66) ckX3 (oH_lt (show 0 < 28 by decide)) (cellO (show 0 < 28 by decide)) (j := 7) (by decide) rfl kf_X8_177 dX8_sheet_66 ?_
      refine r_iload_n (pc := 69) (a := 1) (i := 1) 1 rfl rfl dX8_sheet_69 ?_
      refine r_iald (pc := 70) (z := O (65 + 4 * p)) (oH_lt8 (show 0 < 28 by decide)) ((cellO8 (show 0 < 28 by decide)) _) (by omega) (by omega) (by decide) (hR.need (by omega) (by omega)) dX8_sheet_70 ?_
      refine r_iret (pc := 71) (st := []) rfl dX8_sheet_71 ?_
      exact ⟨congrArg (fun q => some (iv q)) (by unfold zSheet; rw [if_pos (by omega), if_neg (by omega), if_pos (by omega)]), rfl⟩
    · skip
      refine r_tsIn (pc := 15) (c := 2) 72 hs (by unfold rg; omega) (by omega) (by omega) (off := 57) rfl dX8_sheet_15 (by decide) ?_
      refine r_aload_n (pc := 72) (a := 0) (i := 0) 0 rfl rfl dX8_sheet_72 ?_
      refine r_get (pc := 73) ckX8 (by decide) rfl (j := 2) (by decide) rfl kf_X8_25 dX8_sheet_73 ?_
      refine r_iload_n (pc := 76) (a := 1) (i := 1) 1 rfl rfl dX8_sheet_76 ?_
      refine r_callVi (pc := 77) (st := []) (As := [iv p]) okX3_isGone (by decide) (oH_lt (show 0 < 28 by decide)) (cellO (show 0 < 28 by decide)) rfl rfl (Nat.le_of_ble_eq_true rfl) km_X8_223 (kX3_isGone X (by decide) hR hV (by omega) (by omega)) dX8_sheet_77 ?_
      refine r_if_eq (pc := 80) 88 rg_bI dX8_sheet_80 (by decide) (fun h80 => ?_) (fun h80 => ?_)
      · skip
        have h80 := bI_0.mp h80
        refine r_aload_n (pc := 88) (a := 0) (i := 0) 0 rfl rfl dX8_sheet_88 ?_
        refine r_get (pc := 89) ckX8 (by decide) rfl (j := 2) (by decide) rfl kf_X8_25 dX8_sheet_89 ?_
        refine r_iload_n (pc := 92) (a := 1) (i := 1) 1 rfl rfl dX8_sheet_92 ?_
        refine r_callVi (pc := 93) (st := []) (As := [iv p]) okX3_deskOf (by decide) (oH_lt (show 0 < 28 by decide)) (cellO (show 0 < 28 by decide)) rfl rfl (Nat.le_of_ble_eq_true rfl) km_X8_157 (kX3_deskOf X (by decide) hR hV (by omega) (by omega)) dX8_sheet_93 ?_
        refine r_iret (pc := 96) (st := []) rfl dX8_sheet_96 ?_
        exact ⟨congrArg (fun q => some (iv q)) (by unfold zSheet; rw [if_pos (by omega), if_neg (by omega), if_neg (by omega), if_pos (by omega)]; exact (dkN_b (by omega)).symm), rfl⟩
      · skip
        have h80 := bI_n.mp h80
        refine r_ldc (pc := 83) kc_X8_226 dX8_sheet_83 ?_
        refine r_goto (pc := 85) 96 dX8_sheet_85 (by decide) ?_
        refine r_iret (pc := 96) (st := []) rfl dX8_sheet_96 ?_
        exact ⟨congrArg (fun q => some (iv q)) (by unfold zSheet; rw [if_pos (by omega), if_neg (by omega), if_neg (by omega), if_pos (by omega)]; exact (dkN_a h80).symm), rfl⟩
    · skip
      refine r_tsIn (pc := 15) (c := 3) 97 hs (by unfold rg; omega) (by omega) (by omega) (off := 82) rfl dX8_sheet_15 (by decide) ?_
      refine r_aload_n (pc := 97) (a := 0) (i := 0) 0 rfl rfl dX8_sheet_97 ?_
      refine r_get (pc := 98) ckX8 (by decide) rfl (j := 2) (by decide) rfl kf_X8_25 dX8_sheet_98 ?_
      refine r_iload_n (pc := 101) (a := 1) (i := 1) 1 rfl rfl dX8_sheet_101 ?_
      refine r_callVi (pc := 102) (st := []) (As := [iv p]) okX3_isGone (by decide) (oH_lt (show 0 < 28 by decide)) (cellO (show 0 < 28 by decide)) rfl rfl (Nat.le_of_ble_eq_true rfl) km_X8_223 (kX3_isGone X (by decide) hR hV (by omega) (by omega)) dX8_sheet_102 ?_
      refine r_if_eq (pc := 105) 113 rg_bI dX8_sheet_105 (by decide) (fun h105 => ?_) (fun h105 => ?_)
      · skip
        have h105 := bI_0.mp h105
        refine r_aload_n (pc := 113) (a := 0) (i := 0) 0 rfl rfl dX8_sheet_113 ?_
        refine r_get (pc := 114) ckX8 (by decide) rfl (j := 2) (by decide) rfl kf_X8_25 dX8_sheet_114 ?_
        refine r_iload_n (pc := 117) (a := 1) (i := 1) 1 rfl rfl dX8_sheet_117 ?_
        refine r_callVi (pc := 118) (st := []) (As := [iv p]) okX3_above (by decide) (oH_lt (show 0 < 28 by decide)) (cellO (show 0 < 28 by decide)) rfl rfl (Nat.le_of_ble_eq_true rfl) km_X8_164 (kX3_above X (by decide) hR hV (by omega) (by omega)) dX8_sheet_118 ?_
        refine r_iret (pc := 121) (st := []) rfl dX8_sheet_121 ?_
        exact ⟨congrArg (fun q => some (iv q)) (by unfold zSheet; rw [if_pos (by omega), if_neg (by omega), if_neg (by omega), if_neg (by omega), if_pos (by omega)]; rw [if_neg h105]), rfl⟩
      · skip
        have h105 := bI_n.mp h105
        refine r_ldc (pc := 108) kc_X8_226 dX8_sheet_108 ?_
        refine r_goto (pc := 110) 121 dX8_sheet_110 (by decide) ?_
        refine r_iret (pc := 121) (st := []) rfl dX8_sheet_121 ?_
        exact ⟨congrArg (fun q => some (iv q)) (by unfold zSheet; rw [if_pos (by omega), if_neg (by omega), if_neg (by omega), if_neg (by omega), if_pos (by omega)]; rw [if_pos h105]), rfl⟩
    · skip
      refine r_tsIn (pc := 15) (c := 4) 122 hs (by unfold rg; omega) (by omega) (by omega) (off := 107) rfl dX8_sheet_15 (by decide) ?_
      refine r_aload_n (pc := 122) (a := 0) (i := 0) 0 rfl rfl dX8_sheet_122 ?_
      refine r_get (pc := 123) ckX8 (by decide) rfl (j := 2) (by decide) rfl kf_X8_25 dX8_sheet_123 ?_
      refine r_iload_n (pc := 126) (a := 1) (i := 1) 1 rfl rfl dX8_sheet_126 ?_
      refine r_callVi (pc := 127) (st := []) (As := [iv p]) okX3_isMet (by decide) (oH_lt (show 0 < 28 by decide)) (cellO (show 0 < 28 by decide)) rfl rfl (Nat.le_of_ble_eq_true rfl) km_X8_227 (kX3_isMet X (by decide) hR hV (by omega) (by omega)) dX8_sheet_127 ?_
      refine r_if_eq (pc := 130) 137 rg_bI dX8_sheet_130 (by decide) (fun h130 => ?_) (fun h130 => ?_)
      · skip
        have h130 := bI_0.mp h130
        refine r_iconst (pc := 137) dX8_sheet_137 ?_
        refine r_iret (pc := 138) (st := []) rfl dX8_sheet_138 ?_
        exact ⟨congrArg (fun q => some (iv q)) (by unfold zSheet; rw [if_pos (by omega), if_neg (by omega), if_neg (by omega), if_neg (by omega), if_neg (by omega), if_pos (by omega)]; exact (bI_f h130).symm), rfl⟩
      · skip
        have h130 := bI_n.mp h130
        refine r_iconst (pc := 133) dX8_sheet_133 ?_
        refine r_goto (pc := 134) 138 dX8_sheet_134 (by decide) ?_
        refine r_iret (pc := 138) (st := []) rfl dX8_sheet_138 ?_
        exact ⟨congrArg (fun q => some (iv q)) (by unfold zSheet; rw [if_pos (by omega), if_neg (by omega), if_neg (by omega), if_neg (by omega), if_neg (by omega), if_pos (by omega)]; exact (bI_t h130).symm), rfl⟩
    · skip
      refine r_tsIn (pc := 15) (c := 5) 139 hs (by unfold rg; omega) (by omega) (by omega) (off := 124) rfl dX8_sheet_15 (by decide) ?_
      refine r_aload_n (pc := 139) (a := 0) (i := 0) 0 rfl rfl dX8_sheet_139 ?_
      refine r_get (pc := 140) ckX8 (by decide) rfl (j := 2) (by decide) rfl kf_X8_25 dX8_sheet_140 ?_
      refine r_iload_n (pc := 143) (a := 1) (i := 1) 1 rfl rfl dX8_sheet_143 ?_
      refine r_callVi (pc := 144) (st := []) (As := [iv p]) okX3_isMissed (by decide) (oH_lt (show 0 < 28 by decide)) (cellO (show 0 < 28 by decide)) rfl rfl (Nat.le_of_ble_eq_true rfl) km_X8_230 (kX3_isMissed X (by decide) hR hV (by omega) (by omega)) dX8_sheet_144 ?_
      refine r_if_eq (pc := 147) 154 rg_bI dX8_sheet_147 (by decide) (fun h147 => ?_) (fun h147 => ?_)
      · skip
        have h147 := bI_0.mp h147
        refine r_iconst (pc := 154) dX8_sheet_154 ?_
        refine r_iret (pc := 155) (st := []) rfl dX8_sheet_155 ?_
        exact ⟨congrArg (fun q => some (iv q)) (by unfold zSheet; rw [if_pos (by omega), if_neg (by omega), if_neg (by omega), if_neg (by omega), if_neg (by omega), if_neg (by omega), if_pos (by omega)]; exact (bI_f h147).symm), rfl⟩
      · skip
        have h147 := bI_n.mp h147
        refine r_iconst (pc := 150) dX8_sheet_150 ?_
        refine r_goto (pc := 151) 155 dX8_sheet_151 (by decide) ?_
        refine r_iret (pc := 155) (st := []) rfl dX8_sheet_155 ?_
        exact ⟨congrArg (fun q => some (iv q)) (by unfold zSheet; rw [if_pos (by omega), if_neg (by omega), if_neg (by omega), if_neg (by omega), if_neg (by omega), if_neg (by omega), if_pos (by omega)]; exact (bI_t h147).symm), rfl⟩
  · skip
    have h8 := bI_0.mp h8
    refine r_ldc (pc := 11) kc_X8_73 dX8_sheet_11 ?_
    refine r_iret (pc := 13) (st := []) rfl dX8_sheet_13 ?_
    exact ⟨congrArg (fun q => some (iv q)) (by unfold zSheet; rw [if_neg (by omega)]), rfl⟩

set_option maxRecDepth 100000 in
set_option maxHeartbeats 4000000 in
theorem kX9_sheet (X : XC) {I : HD} {O : OF} (hO : I 34 = O) (hV : Val O) {p w : Int} (hp : rg p) (hw : rg w) : Cl X 6 mX9_sheet [rv X 30, iv p, iv w] I (Ki (zSheet O p w) (up I 30 0 0)) := by
  refine Cl.of (by decide) (Nat.le_of_ble_eq_true rfl) ?_
  show Rn X 6 mX9_sheet _ 0 [(0, rv X 30), (1, iv p), (2, iv w)] [] I
  have hO2 : (up I 30 0 0) 34 = O := (up_row (by decide)).trans hO
  unfold rg at hp hw
  have q0 := hV.a
  refine r_aload_n (pc := 0) (a := 0) (i := 0) 0 rfl rfl dX9_sheet_0 ?_
  refine r_iconst (pc := 1) dX9_sheet_1 ?_
  refine r_put (pc := 2) 0 (ji := 0) rfl ckX9 (by decide) rfl rfl (by decide) (Nat.le_of_ble_eq_true rfl) kf_X9_54 rfl rfl rfl rfl dX9_sheet_2 ?_
  refine r_aload_n (pc := 5) (a := 0) (i := 0) 0 rfl rfl dX9_sheet_5 ?_
  refine r_iload_n (pc := 6) (a := 1) (i := 1) 1 rfl rfl dX9_sheet_6 ?_
  refine r_callVi (pc := 7) (st := []) (As := [iv p]) okX9_isSheet (by decide) (by decide) rfl rfl rfl (Nat.le_of_ble_eq_true rfl) km_X9_200 (kX9_isSheet X hO2 hV (by unfold rg; omega)) dX9_sheet_7 ?_
  refine r_if_eq (pc := 10) 25 rg_bI dX9_sheet_10 (by decide) (fun h10 => ?_) (fun h10 => ?_)
  · skip
    have h10 := bI_0.mp h10
    refine r_ldc (pc := 25) kc_X9_74 dX9_sheet_25 ?_
    refine r_iret (pc := 27) (st := []) rfl dX9_sheet_27 ?_
    exact ⟨congrArg (fun q => some (iv q)) (by unfold zSheet; by_cases q : 0 ≤ p ∧ p < O 1; (rw [if_pos q, if_neg (by omega), if_neg (by omega), if_neg (by omega), if_neg (by omega), if_neg (by omega), if_neg (by omega)]); (rw [if_neg q])), rfl⟩
  · skip
    have h10 := bI_n.mp h10
    refine r_iload_n (pc := 13) (a := 2) (i := 2) 2 rfl rfl dX9_sheet_13 ?_
    refine r_i2l (pc := 14) (by unfold rg; omega) dX9_sheet_14 ?_
    refine r_lconst (pc := 15) (z := 0) rfl dX9_sheet_15 ?_
    refine r_ldc2 (pc := 16) kc_X9_242 dX9_sheet_16 ?_
    refine r_callSi (pc := 19) (st := []) (As := [jv w, jv 0, jv 5]) okX9_in (by decide) trivial rfl (Nat.le_of_ble_eq_true rfl) km_X9_64 (kX9_in X (by unfold rl; omega) (by unfold rl; omega) (by unfold rl; omega)) dX9_sheet_19 ?_
    refine r_if_ne (pc := 22) 28 rg_bI dX9_sheet_22 (by decide) (fun h22 => ?_) (fun h22 => ?_)
    · skip
      have h22 := bI_n.mp h22
      have qN := dkN_or O p
      have ql := @dk_lt O p
      have qp := hV.p h10.1 h10.2
      refine r_aload_n (pc := 28) (a := 0) (i := 0) 0 rfl rfl dX9_sheet_28 ?_
      refine r_iload_n (pc := 29) (a := 1) (i := 1) 1 rfl rfl dX9_sheet_29 ?_
      refine r_callVi (pc := 30) (st := []) (As := [iv p]) okX9_deskOf (by decide) (by decide) rfl rfl rfl (Nat.le_of_ble_eq_true rfl) km_X9_203 (kX9_deskOf X hO2 hV (by omega) (by omega)) dX9_sheet_30 ?_
      refine r_istore_n (pc := 33) (a := 3) (i := 3) rfl [(3, iv (dkN O p)), (0, rv X 30), (1, iv p), (2, iv w)] (by decide) rfl dX9_sheet_33 ?_
      refine r_iload_n (pc := 34) (a := 2) (i := 2) 3 rfl rfl dX9_sheet_34 ?_
      rcases (by omega : (w < 0 ∨ 4 < w) ∨ w = 0 ∨ w = 1 ∨ w = 2 ∨ w = 3 ∨ w = 4) with hs | hs | hs | hs | hs | hs
      · skip
        refine r_tsOut (pc := 35) 117 (by unfold rg; omega) hs dX9_sheet_35 (by decide) ?_
        refine r_aload_n (pc := 117) (a := 0) (i := 0) 1 rfl rfl dX9_sheet_117 ?_
        refine r_iload_n (pc := 118) (a := 1) (i := 1) 2 rfl rfl dX9_sheet_118 ?_
        refine r_callVi (pc := 119) (st := []) (As := [iv p]) okX9_isMissed (by decide) (by decide) rfl rfl rfl (Nat.le_of_ble_eq_true rfl) km_X9_244 (kX9_isMissed X hO2 hV (by omega) (by omega)) dX9_sheet_119 ?_
        refine r_if_eq (pc := 122) 129 rg_bI dX9_sheet_122 (by decide) (fun h122 => ?_) (fun h122 => ?_)
        · skip
          have h122 := bI_0.mp h122
          refine r_iconst (pc := 129) dX9_sheet_129 ?_
          refine r_iret (pc := 130) (st := []) rfl dX9_sheet_130 ?_
          exact ⟨congrArg (fun q => some (iv q)) (by unfold zSheet; rw [if_pos (by omega), if_neg (by omega), if_neg (by omega), if_neg (by omega), if_neg (by omega), if_neg (by omega), if_pos (by omega)]; exact (bI_f h122).symm), rfl⟩
        · skip
          have h122 := bI_n.mp h122
          refine r_iconst (pc := 125) dX9_sheet_125 ?_
          refine r_goto (pc := 126) 130 dX9_sheet_126 (by decide) ?_
          refine r_iret (pc := 130) (st := []) rfl dX9_sheet_130 ?_
          exact ⟨congrArg (fun q => some (iv q)) (by unfold zSheet; rw [if_pos (by omega), if_neg (by omega), if_neg (by omega), if_neg (by omega), if_neg (by omega), if_neg (by omega), if_pos (by omega)]; exact (bI_t h122).symm), rfl⟩
      · skip
        refine r_tsIn (pc := 35) (c := 0) 68 hs (by unfold rg; omega) (by omega) (by omega) (off := 33) rfl dX9_sheet_35 (by decide) ?_
        refine r_aload_n (pc := 68) (a := 0) (i := 0) 1 rfl rfl dX9_sheet_68 ?_
        refine r_iload_n (pc := 69) (a := 1) (i := 1) 2 rfl rfl dX9_sheet_69 ?_
        refine r_iconst (pc := 70) dX9_sheet_70 ?_
        refine r_callVi (pc := 71) (st := []) (As := [iv p, iv 1]) okX9_of (by decide) (by decide) rfl rfl rfl (Nat.le_of_ble_eq_true rfl) km_X9_216 (kX9_of X hO2 hV (z := O (64 + 4 * p)) (by omega) (by omega) (by omega) (congrArg O (by omega))) dX9_sheet_71 ?_
        refine r_iret (pc := 74) (st := []) rfl dX9_sheet_74 ?_
        exact ⟨congrArg (fun q => some (iv q)) (by unfold zSheet; rw [if_pos (by omega), if_pos (by omega)]), rfl⟩
      · skip
        refine r_tsIn (pc := 35) (c := 1) 75 hs (by unfold rg; omega) (by omega) (by omega) (off := 40) rfl dX9_sheet_35 (by decide) ?_
        refine r_aload_n (pc := 75) (a := 0) (i := 0) 1 rfl rfl dX9_sheet_75 ?_
        refine r_iload_n (pc := 76) (a := 1) (i := 1) 2 rfl rfl dX9_sheet_76 ?_
        refine r_iconst (pc := 77) dX9_sheet_77 ?_
        refine r_callVi (pc := 78) (st := []) (As := [iv p, iv 2]) okX9_of (by decide) (by decide) rfl rfl rfl (Nat.le_of_ble_eq_true rfl) km_X9_216 (kX9_of X hO2 hV (z := O (65 + 4 * p)) (by omega) (by omega) (by omega) (congrArg O (by omega))) dX9_sheet_78 ?_
        refine r_iret (pc := 81) (st := []) rfl dX9_sheet_81 ?_
        exact ⟨congrArg (fun q => some (iv q)) (by unfold zSheet; rw [if_pos (by omega), if_neg (by omega), if_pos (by omega)]), rfl⟩
      · skip
        refine r_tsIn (pc := 35) (c := 2) 82 hs (by unfold rg; omega) (by omega) (by omega) (off := 47) rfl dX9_sheet_35 (by decide) ?_
        refine r_iload_n (pc := 82) (a := 3) (i := 3) 0 rfl rfl dX9_sheet_82 ?_
        refine r_iret (pc := 83) (st := []) rfl dX9_sheet_83 ?_
        exact ⟨congrArg (fun q => some (iv q)) (by unfold zSheet; rw [if_pos (by omega), if_neg (by omega), if_neg (by omega), if_pos (by omega)]), rfl⟩
      · skip
        refine r_tsIn (pc := 35) (c := 3) 84 hs (by unfold rg; omega) (by omega) (by omega) (off := 49) rfl dX9_sheet_35 (by decide) ?_
        refine r_iload_n (pc := 84) (a := 3) (i := 3) 0 rfl rfl dX9_sheet_84 ?_
        refine r_ldc (pc := 85) kc_X9_90 dX9_sheet_85 ?_
        refine r_icmp_ne (pc := 87) 95 (by unfold rg; omega) (by unfold rg; omega) dX9_sheet_87 (by decide) (fun h87 => ?_) (fun h87 => ?_)
        · skip
          have hd0 : 0 ≤ dk O p := by omega
          have hd9 : dkN O p = dk O p := dkN_b hd0
          have hd1 := (dk_on hd0).1
          have qa := ab_r hd0
          refine r_aload_n (pc := 95) (a := 0) (i := 0) 1 rfl rfl dX9_sheet_95 ?_
          refine r_iload_n (pc := 96) (a := 3) (i := 3) 0 rfl rfl dX9_sheet_96 ?_
          refine r_callVi (pc := 97) (st := []) (As := [iv (dkN O p)]) (D2 := 0) okX9_manyOn (by decide) (by decide) rfl rfl rfl (Nat.le_of_ble_eq_true rfl) km_X9_191 ((by rw [hd9]; exact kX9_manyOn X hO2 hV hd0 hd1)) dX9_sheet_97 ?_
          refine r_iconst (pc := 100) dX9_sheet_100 ?_
          refine r_isub (pc := 101) dX9_sheet_101 ?_
          refine r_aload_n (pc := 102) (a := 0) (i := 0) 1 rfl rfl dX9_sheet_102 ?_
          refine r_iload_n (pc := 103) (a := 3) (i := 3) 0 rfl rfl dX9_sheet_103 ?_
          refine r_iload_n (pc := 104) (a := 1) (i := 1) 2 rfl rfl dX9_sheet_104 ?_
          refine r_callVi (pc := 105) (st := [iv ((O (23 + 10 * dk O p)) - 1)]) (As := [iv (dkN O p), iv p]) (D2 := 1) okX9_placeOf (by decide) (by decide) rfl rfl rfl (Nat.le_of_ble_eq_true rfl) km_X9_197 ((by rw [hd9]; exact kX9_placeOf X hO2 hV hd0 hd1 (k9 := O (23 + 10 * dk O p) - 1 - ab O p) (by omega) (by omega) (ab_3 hd0))) dX9_sheet_105 ?_
          refine r_isub (pc := 108) dX9_sheet_108 ?_
          refine r_iret (pc := 109) (st := []) rfl dX9_sheet_109 ?_
          exact ⟨congrArg (fun q => some (iv q)) (by unfold zSheet; rw [if_pos (by omega), if_neg (by omega), if_neg (by omega), if_neg (by omega), if_pos (by omega)]; rw [if_neg (by omega)]; omega), rfl⟩
        · skip
          refine r_ldc (pc := 90) kc_X9_90 dX9_sheet_90 ?_
          refine r_goto (pc := 92) 109 dX9_sheet_92 (by decide) ?_
          refine r_iret (pc := 109) (st := []) rfl dX9_sheet_109 ?_
          exact ⟨congrArg (fun q => some (iv q)) (by unfold zSheet; rw [if_pos (by omega), if_neg (by omega), if_neg (by omega), if_neg (by omega), if_pos (by omega)]; rw [if_pos (by omega)]), rfl⟩
      · skip
        refine r_tsIn (pc := 35) (c := 4) 110 hs (by unfold rg; omega) (by omega) (by omega) (off := 75) rfl dX9_sheet_35 (by decide) ?_
        refine r_aload_n (pc := 110) (a := 0) (i := 0) 1 rfl rfl dX9_sheet_110 ?_
        refine r_iload_n (pc := 111) (a := 1) (i := 1) 2 rfl rfl dX9_sheet_111 ?_
        refine r_iconst (pc := 112) dX9_sheet_112 ?_
        refine r_callVi (pc := 113) (st := []) (As := [iv p, iv 3]) okX9_of (by decide) (by decide) rfl rfl rfl (Nat.le_of_ble_eq_true rfl) km_X9_216 (kX9_of X hO2 hV (z := O (66 + 4 * p)) (by omega) (by omega) (by omega) (congrArg O (by omega))) dX9_sheet_113 ?_
        refine r_iret (pc := 116) (st := []) rfl dX9_sheet_116 ?_
        exact ⟨congrArg (fun q => some (iv q)) (by unfold zSheet; rw [if_pos (by omega), if_neg (by omega), if_neg (by omega), if_neg (by omega), if_neg (by omega), if_pos (by omega)]; exact bI_01 (by omega)), rfl⟩
    · skip
      have h22 := bI_0.mp h22
      refine r_ldc (pc := 25) kc_X9_74 dX9_sheet_25 ?_
      refine r_iret (pc := 27) (st := []) rfl dX9_sheet_27 ?_
      exact ⟨congrArg (fun q => some (iv q)) (by unfold zSheet; by_cases q : 0 ≤ p ∧ p < O 1; (rw [if_pos q, if_neg (by omega), if_neg (by omega), if_neg (by omega), if_neg (by omega), if_neg (by omega), if_neg (by omega)]); (rw [if_neg q])), rfl⟩

set_option maxRecDepth 100000 in
set_option maxHeartbeats 4000000 in
theorem kX8_kind (X : XC) {I : HD} {O : OF} (hR : RepC O I 0) (hV : Val O) {p : Int} (hp : rg p) : Cl X 6 mX8_kind [rv X 0, iv p] I (Ki (zKind O p) I) := by
  refine Cl.of (by decide) (Nat.le_of_ble_eq_true rfl) ?_
  show Rn X 6 mX8_kind _ 0 [(0, rv X 0), (1, iv p)] [] I
  unfold rg at hp
  have q0 := hV.a
  refine r_aload_n (pc := 0) (a := 0) (i := 0) 0 rfl rfl dX8_kind_0 ?_
  refine r_get (pc := 1) ckX8 (by decide) rfl (j := 2) (by decide) rfl kf_X8_25 dX8_kind_1 ?_
  refine r_iload_n (pc := 4) (a := 1) (i := 1) 1 rfl rfl dX8_kind_4 ?_
  refine r_callVi (pc := 5) (st := []) (As := [iv p]) okX3_hasSheet (by decide) (oH_lt (show 0 < 28 by decide)) (cellO (show 0 < 28 by decide)) rfl rfl (Nat.le_of_ble_eq_true rfl) km_X8_154 (kX3_hasSheet X (by decide) hR hV (by unfold rg; omega)) dX8_kind_5 ?_
  refine r_if_eq (pc := 8) 23 rg_bI dX8_kind_8 (by decide) (fun h8 => ?_) (fun h8 => ?_)
  · skip
    have h8 := bI_0.mp h8
    refine r_ldc (pc := 23) kc_X8_73 dX8_kind_23 ?_
    refine r_iret (pc := 25) (st := []) rfl dX8_kind_25 ?_
    exact ⟨congrArg (fun q => some (iv q)) (by unfold zKind; rw [if_neg (by omega)]), rfl⟩
  · skip
    have h8 := bI_n.mp h8
    have qp := hV.p h8.1 h8.2
    refine r_aload_n (pc := 11) (a := 0) (i := 0) 0 rfl rfl dX8_kind_11 ?_
    refine r_get (pc := 12) ckX8 (by decide) rfl (j := 2) (by decide) rfl kf_X8_25 dX8_kind_12 ?_
    refine r_getN (pc := 15) ckX3 (oH_lt (show 0 < 28 by decide)) (cellO (show 0 < 28 by decide)) (j := 5) (by decide) rfl kf_X8_301 dX8_kind_15 ?_
    refine r_iload_n (pc := 18) (a := 1) (i := 1) 1 rfl rfl dX8_kind_18 ?_
    refine r_iald (pc := 19) (z := O (63 + 4 * p)) (oH_lt6 (show 0 < 28 by decide)) ((cellO6 (show 0 < 28 by decide)) _) (by omega) (by omega) (by decide) (hR.sort (by omega) (by omega)) dX8_kind_19 ?_
    refine r_goto (pc := 20) 25 dX8_kind_20 (by decide) ?_
    refine r_iret (pc := 25) (st := []) rfl dX8_kind_25 ?_
    exact ⟨congrArg (fun q => some (iv q)) (by unfold zKind; rw [if_pos (by omega)]), rfl⟩

set_option maxRecDepth 100000 in
set_option maxHeartbeats 4000000 in
theorem kX9_kind (X : XC) {I : HD} {O : OF} (hO : I 34 = O) (hV : Val O) {p : Int} (hp : rg p) : Cl X 6 mX9_kind [rv X 30, iv p] I (Ki (zKind O p) (up I 30 0 0)) := by
  refine Cl.of (by decide) (Nat.le_of_ble_eq_true rfl) ?_
  show Rn X 6 mX9_kind _ 0 [(0, rv X 30), (1, iv p)] [] I
  have hO2 : (up I 30 0 0) 34 = O := (up_row (by decide)).trans hO
  unfold rg at hp
  have q0 := hV.a
  refine r_aload_n (pc := 0) (a := 0) (i := 0) 0 rfl rfl dX9_kind_0 ?_
  refine r_iconst (pc := 1) dX9_kind_1 ?_
  refine r_put (pc := 2) 0 (ji := 0) rfl ckX9 (by decide) rfl rfl (by decide) (Nat.le_of_ble_eq_true rfl) kf_X9_54 rfl rfl rfl rfl dX9_kind_2 ?_
  refine r_aload_n (pc := 5) (a := 0) (i := 0) 0 rfl rfl dX9_kind_5 ?_
  refine r_iload_n (pc := 6) (a := 1) (i := 1) 1 rfl rfl dX9_kind_6 ?_
  refine r_callVi (pc := 7) (st := []) (As := [iv p]) okX9_isSheet (by decide) (by decide) rfl rfl rfl (Nat.le_of_ble_eq_true rfl) km_X9_200 (kX9_isSheet X hO2 hV (by unfold rg; omega)) dX9_kind_7 ?_
  refine r_if_eq (pc := 10) 22 rg_bI dX9_kind_10 (by decide) (fun h10 => ?_) (fun h10 => ?_)
  · skip
    have h10 := bI_0.mp h10
    refine r_ldc (pc := 22) kc_X9_74 dX9_kind_22 ?_
    refine r_iret (pc := 24) (st := []) rfl dX9_kind_24 ?_
    exact ⟨congrArg (fun q => some (iv q)) (by unfold zKind; rw [if_neg (by omega)]), rfl⟩
  · skip
    have h10 := bI_n.mp h10
    have qp := hV.p h10.1 h10.2
    refine r_aload_n (pc := 13) (a := 0) (i := 0) 0 rfl rfl dX9_kind_13 ?_
    refine r_iload_n (pc := 14) (a := 1) (i := 1) 1 rfl rfl dX9_kind_14 ?_
    refine r_iconst (pc := 15) dX9_kind_15 ?_
    refine r_callVi (pc := 16) (st := []) (As := [iv p, iv 0]) okX9_of (by decide) (by decide) rfl rfl rfl (Nat.le_of_ble_eq_true rfl) km_X9_216 (kX9_of X hO2 hV (z := O (63 + 4 * p)) (by omega) (by omega) (by omega) (congrArg O (by omega))) dX9_kind_16 ?_
    refine r_goto (pc := 19) 24 dX9_kind_19 (by decide) ?_
    refine r_iret (pc := 24) (st := []) rfl dX9_kind_24 ?_
    exact ⟨congrArg (fun q => some (iv q)) (by unfold zKind; rw [if_pos (by omega)]), rfl⟩

set_option maxRecDepth 100000 in
set_option maxHeartbeats 4000000 in
theorem kX8_desk (X : XC) {I : HD} {O : OF} (hR : RepC O I 0) (hV : Val O) {d w : Int} (hd : rg d) (hw : rg w) : Cl X 6 mX8_desk [rv X 0, iv d, iv w] I (Ki (zDesk O d w) I) := by
  refine Cl.of (by decide) (Nat.le_of_ble_eq_true rfl) ?_
  show Rn X 6 mX8_desk _ 0 [(0, rv X 0), (1, iv d), (2, iv w)] [] I
  unfold rg at hd hw
  have q0 := hV.a
  refine r_aload_n (pc := 0) (a := 0) (i := 0) 0 rfl rfl dX8_desk_0 ?_
  refine r_get (pc := 1) ckX8 (by decide) rfl (j := 2) (by decide) rfl kf_X8_25 dX8_desk_1 ?_
  refine r_iload_n (pc := 4) (a := 1) (i := 1) 1 rfl rfl dX8_desk_4 ?_
  refine r_callVi (pc := 5) (st := []) (As := [iv d]) okX3_hasDesk (by decide) (oH_lt (show 0 < 28 by decide)) (cellO (show 0 < 28 by decide)) rfl rfl (Nat.le_of_ble_eq_true rfl) km_X8_183 (kX3_hasDesk X (by decide) hR hV (by unfold rg; omega)) dX8_desk_5 ?_
  refine r_if_ne (pc := 8) 14 rg_bI dX8_desk_8 (by decide) (fun h8 => ?_) (fun h8 => ?_)
  · skip
    have h8 := bI_n.mp h8
    have q1 := hV.d h8.1 h8.2
    refine r_iload_n (pc := 14) (a := 2) (i := 2) 2 rfl rfl dX8_desk_14 ?_
    refine r_bipush (pc := 15) rfl dX8_desk_15 ?_
    refine r_icmp_lt (pc := 17) 53 (by unfold rg; omega) (by unfold rg; omega) dX8_desk_17 (by decide) (fun h17 => ?_) (fun h17 => ?_)
    · skip
      refine r_iload_n (pc := 53) (a := 2) (i := 2) 2 rfl rfl dX8_desk_53 ?_
      rcases (by omega : (w < 0 ∨ 2 < w) ∨ w = 0 ∨ w = 1 ∨ w = 2) with hs | hs | hs | hs
      · skip
        refine r_tsOut (pc := 54) 110 (by unfold rg; omega) hs dX8_desk_54 (by decide) ?_
        refine r_ldc (pc := 110) kc_X8_73 dX8_desk_110 ?_
        refine r_iret (pc := 112) (st := []) rfl dX8_desk_112 ?_
        exact ⟨congrArg (fun q => some (iv q)) (by unfold zDesk; rw [if_pos (by omega), if_neg (by omega), if_neg (by omega), if_neg (by omega), if_neg (by omega)]), rfl⟩
      · skip
        refine r_tsIn (pc := 54) (c := 0) 80 hs (by unfold rg; omega) (by omega) (by omega) (off := 26) rfl dX8_desk_54 (by decide) ?_
        refine r_aload_n (pc := 80) (a := 0) (i := 0) 0 rfl rfl dX8_desk_80 ?_
        refine r_get (pc := 81) ckX8 (by decide) rfl (j := 2) (by decide) rfl kf_X8_25 dX8_desk_81 ?_
        refine r_getN (pc := 84) ckX3 (oH_lt (show 0 < 28 by decide)) (cellO (show 0 < 28 by decide)) (j := 1) (by decide) rfl kf_X8_236 dX8_desk_84 ?_
        refine r_iload_n (pc := 87) (a := 1) (i := 1) 1 rfl rfl dX8_desk_87 ?_
        refine r_iald (pc := 88) (z := O (15 + 2 * d)) (oH_lt2 (show 0 < 28 by decide)) ((cellO2 (show 0 < 28 by decide)) _) (by omega) (by omega) (by decide) (hR.room (by omega) (by omega)) dX8_desk_88 ?_
        refine r_iret (pc := 89) (st := []) rfl dX8_desk_89 ?_
        exact ⟨congrArg (fun q => some (iv q)) (by unfold zDesk; rw [if_pos (by omega), if_pos (by omega)]), rfl⟩
      · skip
        refine r_tsIn (pc := 54) (c := 1) 90 hs (by unfold rg; omega) (by omega) (by omega) (off := 36) rfl dX8_desk_54 (by decide) ?_
        refine r_aload_n (pc := 90) (a := 0) (i := 0) 0 rfl rfl dX8_desk_90 ?_
        refine r_get (pc := 91) ckX8 (by decide) rfl (j := 2) (by decide) rfl kf_X8_25 dX8_desk_91 ?_
        refine r_getN (pc := 94) ckX3 (oH_lt (show 0 < 28 by decide)) (cellO (show 0 < 28 by decide)) (j := 2) (by decide) rfl kf_X8_239 dX8_desk_94 ?_
        refine r_iload_n (pc := 97) (a := 1) (i := 1) 1 rfl rfl dX8_desk_97 ?_
        refine r_iald (pc := 98) (z := O (16 + 2 * d)) (oH_lt3 (show 0 < 28 by decide)) ((cellO3 (show 0 < 28 by decide)) _) (by omega) (by omega) (by decide) (hR.ston (by omega) (by omega)) dX8_desk_98 ?_
        refine r_iret (pc := 99) (st := []) rfl dX8_desk_99 ?_
        exact ⟨congrArg (fun q => some (iv q)) (by unfold zDesk; rw [if_pos (by omega), if_neg (by omega), if_pos (by omega)]), rfl⟩
      · skip
        refine r_tsIn (pc := 54) (c := 2) 100 hs (by unfold rg; omega) (by omega) (by omega) (off := 46) rfl dX8_desk_54 (by decide) ?_
        refine r_aload_n (pc := 100) (a := 0) (i := 0) 0 rfl rfl dX8_desk_100 ?_
        refine r_get (pc := 101) ckX8 (by decide) rfl (j := 2) (by decide) rfl kf_X8_25 dX8_desk_101 ?_
        refine r_getN (pc := 104) ckX3 (oH_lt (show 0 < 28 by decide)) (cellO (show 0 < 28 by decide)) (j := 3) (by decide) rfl kf_X8_187 dX8_desk_104 ?_
        refine r_iload_n (pc := 107) (a := 1) (i := 1) 1 rfl rfl dX8_desk_107 ?_
        refine r_iald (pc := 108) (z := O (23 + 10 * d)) (oH_lt4 (show 0 < 28 by decide)) ((cellO4 (show 0 < 28 by decide)) _) (by omega) (by omega) (by decide) (hR.hgt (by omega) (by omega)) dX8_desk_108 ?_
        refine r_iret (pc := 109) (st := []) rfl dX8_desk_109 ?_
        exact ⟨congrArg (fun q => some (iv q)) (by unfold zDesk; rw [if_pos (by omega), if_neg (by omega), if_neg (by omega), if_pos (by omega)]), rfl⟩
    · skip
      refine r_iload_n (pc := 20) (a := 2) (i := 2) 2 rfl rfl dX8_desk_20 ?_
      refine r_bipush (pc := 21) rfl dX8_desk_21 ?_
      refine r_isub (pc := 23) dX8_desk_23 ?_
      refine r_istore_n (pc := 24) (a := 3) (i := 3) rfl [(3, iv (w - 10)), (0, rv X 0), (1, iv d), (2, iv w)] (by decide) rfl dX8_desk_24 ?_
      refine r_iload_n (pc := 25) (a := 3) (i := 3) 0 rfl rfl dX8_desk_25 ?_
      refine r_aload_n (pc := 26) (a := 0) (i := 0) 1 rfl rfl dX8_desk_26 ?_
      refine r_get (pc := 27) ckX8 (by decide) rfl (j := 2) (by decide) rfl kf_X8_25 dX8_desk_27 ?_
      refine r_getN (pc := 30) ckX3 (oH_lt (show 0 < 28 by decide)) (cellO (show 0 < 28 by decide)) (j := 3) (by decide) rfl kf_X8_187 dX8_desk_30 ?_
      refine r_iload_n (pc := 33) (a := 1) (i := 1) 2 rfl rfl dX8_desk_33 ?_
      refine r_iald (pc := 34) (z := O (23 + 10 * d)) (oH_lt4 (show 0 < 28 by decide)) ((cellO4 (show 0 < 28 by decide)) _) (by omega) (by omega) (by decide) (hR.hgt (by omega) (by omega)) dX8_desk_34 ?_
      refine r_icmp_ge (pc := 35) 50 (by unfold rg; omega) (by unfold rg; omega) dX8_desk_35 (by decide) (fun h35 => ?_) (fun h35 => ?_)
      · skip
        refine r_ldc (pc := 50) kc_X8_226 dX8_desk_50 ?_
        refine r_iret (pc := 52) (st := []) rfl dX8_desk_52 ?_
        exact ⟨congrArg (fun q => some (iv q)) (by unfold zDesk; rw [if_pos (by omega), if_neg (by omega), if_neg (by omega), if_neg (by omega), if_pos (by omega)]; rw [if_neg (by omega)]), rfl⟩
      · skip
        refine r_aload_n (pc := 38) (a := 0) (i := 0) 1 rfl rfl dX8_desk_38 ?_
        refine r_get (pc := 39) ckX8 (by decide) rfl (j := 2) (by decide) rfl kf_X8_25 dX8_desk_39 ?_
        refine r_iload_n (pc := 42) (a := 1) (i := 1) 2 rfl rfl dX8_desk_42 ?_
        refine r_iload_n (pc := 43) (a := 3) (i := 3) 0 rfl rfl dX8_desk_43 ?_
        refine r_callVi (pc := 44) (st := []) (As := [iv d, iv (w - 10)]) okX3_at (by decide) (oH_lt (show 0 < 28 by decide)) (cellO (show 0 < 28 by decide)) rfl rfl (Nat.le_of_ble_eq_true rfl) km_X8_233 (kX3_at X (by decide) hR hV (by omega) (by omega) (by omega) (by omega)) dX8_desk_44 ?_
        refine r_goto (pc := 47) 52 dX8_desk_47 (by decide) ?_
        refine r_iret (pc := 52) (st := []) rfl dX8_desk_52 ?_
        exact ⟨congrArg (fun q => some (iv q)) (by unfold zDesk; rw [if_pos (by omega), if_neg (by omega), if_neg (by omega), if_neg (by omega), if_pos (by omega)]; rw [if_pos (by omega)]), rfl⟩
  · skip
    have h8 := bI_0.mp h8
    refine r_ldc (pc := 11) kc_X8_73 dX8_desk_11 ?_
    refine r_iret (pc := 13) (st := []) rfl dX8_desk_13 ?_
    exact ⟨congrArg (fun q => some (iv q)) (by unfold zDesk; rw [if_neg (by omega)]), rfl⟩

set_option maxRecDepth 100000 in
set_option maxHeartbeats 4000000 in
theorem kX9_desk (X : XC) {I : HD} {O : OF} (hO : I 34 = O) (hV : Val O) {d w : Int} (hd : rg d) (hw : rg w) : Cl X 6 mX9_desk [rv X 30, iv d, iv w] I (Ki (zDesk O d w) (up I 30 0 0)) := by
  refine Cl.of (by decide) (Nat.le_of_ble_eq_true rfl) ?_
  show Rn X 6 mX9_desk _ 0 [(0, rv X 30), (1, iv d), (2, iv w)] [] I
  have hO2 : (up I 30 0 0) 34 = O := (up_row (by decide)).trans hO
  unfold rg at hd hw
  have q0 := hV.a
  refine r_aload_n (pc := 0) (a := 0) (i := 0) 0 rfl rfl dX9_desk_0 ?_
  refine r_iconst (pc := 1) dX9_desk_1 ?_
  refine r_put (pc := 2) 0 (ji := 0) rfl ckX9 (by decide) rfl rfl (by decide) (Nat.le_of_ble_eq_true rfl) kf_X9_54 rfl rfl rfl rfl dX9_desk_2 ?_
  refine r_aload_n (pc := 5) (a := 0) (i := 0) 0 rfl rfl dX9_desk_5 ?_
  refine r_iload_n (pc := 6) (a := 1) (i := 1) 1 rfl rfl dX9_desk_6 ?_
  refine r_callVi (pc := 7) (st := []) (As := [iv d]) okX9_isDesk (by decide) (by decide) rfl rfl rfl (Nat.le_of_ble_eq_true rfl) km_X9_219 (kX9_isDesk X hO2 hV (by unfold rg; omega)) dX9_desk_7 ?_
  refine r_if_eq (pc := 10) 31 rg_bI dX9_desk_10 (by decide) (fun h10 => ?_) (fun h10 => ?_)
  · skip
    have h10 := bI_0.mp h10
    refine r_ldc (pc := 31) kc_X9_74 dX9_desk_31 ?_
    refine r_iret (pc := 33) (st := []) rfl dX9_desk_33 ?_
    exact ⟨congrArg (fun q => some (iv q)) (by unfold zDesk; by_cases q : 0 ≤ d ∧ d < O 0; (rw [if_pos q, if_neg (by omega), if_neg (by omega), if_neg (by omega), if_neg (by omega)]); (rw [if_neg q])), rfl⟩
  · skip
    have h10 := bI_n.mp h10
    refine r_iload_n (pc := 13) (a := 2) (i := 2) 2 rfl rfl dX9_desk_13 ?_
    refine r_i2l (pc := 14) (by unfold rg; omega) dX9_desk_14 ?_
    refine r_lconst (pc := 15) (z := 0) rfl dX9_desk_15 ?_
    refine r_ldc2 (pc := 16) kc_X9_72 dX9_desk_16 ?_
    refine r_callSi (pc := 19) (st := []) (As := [jv w, jv 0, jv 2]) okX9_in (by decide) trivial rfl (Nat.le_of_ble_eq_true rfl) km_X9_64 (kX9_in X (by unfold rl; omega) (by unfold rl; omega) (by unfold rl; omega)) dX9_desk_19 ?_
    refine r_if_ne (pc := 22) 34 rg_bI dX9_desk_22 (by decide) (fun h22 => ?_) (fun h22 => ?_)
    · skip
      have h22 := bI_n.mp h22
      have q1 := hV.d h10.1 h10.2
      have h0 : 0 ≤ d := h10.1
      refine r_iload_n (pc := 34) (a := 2) (i := 2) 2 rfl rfl dX9_desk_34 ?_
      refine r_iconst (pc := 35) dX9_desk_35 ?_
      refine r_icmp_ge (pc := 36) 53 (by unfold rg; omega) (by unfold rg; omega) dX9_desk_36 (by decide) (fun h36 => ?_) (fun h36 => ?_)
      · skip
        refine r_iload_n (pc := 53) (a := 2) (i := 2) 2 rfl rfl dX9_desk_53 ?_
        refine r_iconst (pc := 54) dX9_desk_54 ?_
        refine r_icmp_ne (pc := 55) 66 (by unfold rg; omega) (by unfold rg; omega) dX9_desk_55 (by decide) (fun h55 => ?_) (fun h55 => ?_)
        · skip
          refine r_iload_n (pc := 66) (a := 2) (i := 2) 2 rfl rfl dX9_desk_66 ?_
          refine r_bipush (pc := 67) rfl dX9_desk_67 ?_
          refine r_isub (pc := 69) dX9_desk_69 ?_
          refine r_aload_n (pc := 70) (a := 0) (i := 0) 0 rfl rfl dX9_desk_70 ?_
          refine r_iload_n (pc := 71) (a := 1) (i := 1) 1 rfl rfl dX9_desk_71 ?_
          refine r_callVi (pc := 72) (st := [iv (w - 10)]) (As := [iv d]) okX9_manyOn (by decide) (by decide) rfl rfl rfl (Nat.le_of_ble_eq_true rfl) km_X9_191 (kX9_manyOn X hO2 hV (by omega) (by omega)) dX9_desk_72 ?_
          refine r_icmp_ge (pc := 75) 90 (by unfold rg; omega) (by unfold rg; omega) dX9_desk_75 (by decide) (fun h75 => ?_) (fun h75 => ?_)
          · skip
            refine r_ldc (pc := 90) kc_X9_90 dX9_desk_90 ?_
            refine r_iret (pc := 92) (st := []) rfl dX9_desk_92 ?_
            exact ⟨congrArg (fun q => some (iv q)) (by unfold zDesk; rw [if_pos (by omega), if_neg (by omega), if_neg (by omega), if_neg (by omega), if_pos (by omega)]; rw [if_neg (by omega)]), rfl⟩
          · skip
            refine r_aload_n (pc := 78) (a := 0) (i := 0) 0 rfl rfl dX9_desk_78 ?_
            refine r_iload_n (pc := 79) (a := 1) (i := 1) 1 rfl rfl dX9_desk_79 ?_
            refine r_iload_n (pc := 80) (a := 2) (i := 2) 2 rfl rfl dX9_desk_80 ?_
            refine r_bipush (pc := 81) rfl dX9_desk_81 ?_
            refine r_isub (pc := 83) dX9_desk_83 ?_
            refine r_callVi (pc := 84) (st := []) (As := [iv d, iv (w - 10)]) okX9_lies (by decide) (by decide) rfl rfl rfl (Nat.le_of_ble_eq_true rfl) km_X9_194 (kX9_lies X hO2 hV (by omega) (by omega) (by omega) (by omega)) dX9_desk_84 ?_
            refine r_goto (pc := 87) 92 dX9_desk_87 (by decide) ?_
            refine r_iret (pc := 92) (st := []) rfl dX9_desk_92 ?_
            exact ⟨congrArg (fun q => some (iv q)) (by unfold zDesk; rw [if_pos (by omega), if_neg (by omega), if_neg (by omega), if_neg (by omega), if_pos (by omega)]; rw [if_pos (by omega)]), rfl⟩
        · skip
          refine r_aload_n (pc := 58) (a := 0) (i := 0) 0 rfl rfl dX9_desk_58 ?_
          refine r_iload_n (pc := 59) (a := 1) (i := 1) 1 rfl rfl dX9_desk_59 ?_
          refine r_callVi (pc := 60) (st := []) (As := [iv d]) okX9_manyOn (by decide) (by decide) rfl rfl rfl (Nat.le_of_ble_eq_true rfl) km_X9_191 (kX9_manyOn X hO2 hV (by omega) (by omega)) dX9_desk_60 ?_
          refine r_goto (pc := 63) 92 dX9_desk_63 (by decide) ?_
          refine r_iret (pc := 92) (st := []) rfl dX9_desk_92 ?_
          exact ⟨congrArg (fun q => some (iv q)) (by unfold zDesk; rw [if_pos (by omega), if_neg (by omega), if_neg (by omega), if_pos (by omega)]), rfl⟩
      · skip
        refine r_aload_n (pc := 39) (a := 0) (i := 0) 0 rfl rfl dX9_desk_39 ?_
        refine r_get (pc := 40) ckX9 (by decide) rfl (j := 5) (by decide) rfl kf_X9_19 dX9_desk_40 ?_
        refine r_bipush (pc := 43) rfl dX9_desk_43 ?_
        refine r_iconst (pc := 45) dX9_desk_45 ?_
        refine r_iload_n (pc := 46) (a := 1) (i := 1) 1 rfl rfl dX9_desk_46 ?_
        refine r_imul (pc := 47) dX9_desk_47 ?_
        refine r_iadd (pc := 48) dX9_desk_48 ?_
        refine r_iload_n (pc := 49) (a := 2) (i := 2) 2 rfl rfl dX9_desk_49 ?_
        refine r_iadd (pc := 50) dX9_desk_50 ?_
        refine r_iald (pc := 51) (z := O (15 + 2 * d + w)) (by decide) rfl (by omega) (by omega) (by decide) (congrFun hO2 _) dX9_desk_51 ?_
        refine r_iret (pc := 52) (st := []) rfl dX9_desk_52 ?_
        exact ⟨congrArg (fun q => some (iv q)) (by unfold zDesk; rw [if_pos (by omega)]; rcases (by omega : w = 0 ∨ w = 1) with q | q; (rw [if_pos q]; exact congrArg O (by omega)); (rw [if_neg (by omega), if_pos q]; exact congrArg O (by omega))), rfl⟩
    · skip
      have h22 := bI_0.mp h22
      refine r_iload_n (pc := 25) (a := 2) (i := 2) 2 rfl rfl dX9_desk_25 ?_
      refine r_bipush (pc := 26) rfl dX9_desk_26 ?_
      refine r_icmp_ge (pc := 28) 34 (by unfold rg; omega) (by unfold rg; omega) dX9_desk_28 (by decide) (fun h28 => ?_) (fun h28 => ?_)
      · skip
        have q1 := hV.d h10.1 h10.2
        have h0 : 0 ≤ d := h10.1
        refine r_iload_n (pc := 34) (a := 2) (i := 2) 2 rfl rfl dX9_desk_34 ?_
        refine r_iconst (pc := 35) dX9_desk_35 ?_
        refine r_icmp_ge (pc := 36) 53 (by unfold rg; omega) (by unfold rg; omega) dX9_desk_36 (by decide) (fun h36 => ?_) (fun h36 => ?_)
        · skip
          refine r_iload_n (pc := 53) (a := 2) (i := 2) 2 rfl rfl dX9_desk_53 ?_
          refine r_iconst (pc := 54) dX9_desk_54 ?_
          refine r_icmp_ne (pc := 55) 66 (by unfold rg; omega) (by unfold rg; omega) dX9_desk_55 (by decide) (fun h55 => ?_) (fun h55 => ?_)
          · skip
            refine r_iload_n (pc := 66) (a := 2) (i := 2) 2 rfl rfl dX9_desk_66 ?_
            refine r_bipush (pc := 67) rfl dX9_desk_67 ?_
            refine r_isub (pc := 69) dX9_desk_69 ?_
            refine r_aload_n (pc := 70) (a := 0) (i := 0) 0 rfl rfl dX9_desk_70 ?_
            refine r_iload_n (pc := 71) (a := 1) (i := 1) 1 rfl rfl dX9_desk_71 ?_
            refine r_callVi (pc := 72) (st := [iv (w - 10)]) (As := [iv d]) okX9_manyOn (by decide) (by decide) rfl rfl rfl (Nat.le_of_ble_eq_true rfl) km_X9_191 (kX9_manyOn X hO2 hV (by omega) (by omega)) dX9_desk_72 ?_
            refine r_icmp_ge (pc := 75) 90 (by unfold rg; omega) (by unfold rg; omega) dX9_desk_75 (by decide) (fun h75 => ?_) (fun h75 => ?_)
            · skip
              refine r_ldc (pc := 90) kc_X9_90 dX9_desk_90 ?_
              refine r_iret (pc := 92) (st := []) rfl dX9_desk_92 ?_
              exact ⟨congrArg (fun q => some (iv q)) (by unfold zDesk; rw [if_pos (by omega), if_neg (by omega), if_neg (by omega), if_neg (by omega), if_pos (by omega)]; rw [if_neg (by omega)]), rfl⟩
            · skip
              refine r_aload_n (pc := 78) (a := 0) (i := 0) 0 rfl rfl dX9_desk_78 ?_
              refine r_iload_n (pc := 79) (a := 1) (i := 1) 1 rfl rfl dX9_desk_79 ?_
              refine r_iload_n (pc := 80) (a := 2) (i := 2) 2 rfl rfl dX9_desk_80 ?_
              refine r_bipush (pc := 81) rfl dX9_desk_81 ?_
              refine r_isub (pc := 83) dX9_desk_83 ?_
              refine r_callVi (pc := 84) (st := []) (As := [iv d, iv (w - 10)]) okX9_lies (by decide) (by decide) rfl rfl rfl (Nat.le_of_ble_eq_true rfl) km_X9_194 (kX9_lies X hO2 hV (by omega) (by omega) (by omega) (by omega)) dX9_desk_84 ?_
              refine r_goto (pc := 87) 92 dX9_desk_87 (by decide) ?_
              refine r_iret (pc := 92) (st := []) rfl dX9_desk_92 ?_
              exact ⟨congrArg (fun q => some (iv q)) (by unfold zDesk; rw [if_pos (by omega), if_neg (by omega), if_neg (by omega), if_neg (by omega), if_pos (by omega)]; rw [if_pos (by omega)]), rfl⟩
          · skip
            refine r_aload_n (pc := 58) (a := 0) (i := 0) 0 rfl rfl dX9_desk_58 ?_
            refine r_iload_n (pc := 59) (a := 1) (i := 1) 1 rfl rfl dX9_desk_59 ?_
            refine r_callVi (pc := 60) (st := []) (As := [iv d]) okX9_manyOn (by decide) (by decide) rfl rfl rfl (Nat.le_of_ble_eq_true rfl) km_X9_191 (kX9_manyOn X hO2 hV (by omega) (by omega)) dX9_desk_60 ?_
            refine r_goto (pc := 63) 92 dX9_desk_63 (by decide) ?_
            refine r_iret (pc := 92) (st := []) rfl dX9_desk_92 ?_
            exact ⟨congrArg (fun q => some (iv q)) (by unfold zDesk; rw [if_pos (by omega), if_neg (by omega), if_neg (by omega), if_pos (by omega)]), rfl⟩
        · skip
          refine r_aload_n (pc := 39) (a := 0) (i := 0) 0 rfl rfl dX9_desk_39 ?_
          refine r_get (pc := 40) ckX9 (by decide) rfl (j := 5) (by decide) rfl kf_X9_19 dX9_desk_40 ?_
          refine r_bipush (pc := 43) rfl dX9_desk_43 ?_
          refine r_iconst (pc := 45) dX9_desk_45 ?_
          refine r_iload_n (pc := 46) (a := 1) (i := 1) 1 rfl rfl dX9_desk_46 ?_
          refine r_imul (pc := 47) dX9_desk_47 ?_
          refine r_iadd (pc := 48) dX9_desk_48 ?_
          refine r_iload_n (pc := 49) (a := 2) (i := 2) 2 rfl rfl dX9_desk_49 ?_
          refine r_iadd (pc := 50) dX9_desk_50 ?_
          refine r_iald (pc := 51) (z := O (15 + 2 * d + w)) (by decide) rfl (by omega) (by omega) (by decide) (congrFun hO2 _) dX9_desk_51 ?_
          refine r_iret (pc := 52) (st := []) rfl dX9_desk_52 ?_
          exact ⟨congrArg (fun q => some (iv q)) (by unfold zDesk; rw [if_pos (by omega)]; rcases (by omega : w = 0 ∨ w = 1) with q | q; (rw [if_pos q]; exact congrArg O (by omega)); (rw [if_neg (by omega), if_pos q]; exact congrArg O (by omega))), rfl⟩
      · skip
        refine r_ldc (pc := 31) kc_X9_74 dX9_desk_31 ?_
        refine r_iret (pc := 33) (st := []) rfl dX9_desk_33 ?_
        exact ⟨congrArg (fun q => some (iv q)) (by unfold zDesk; by_cases q : 0 ≤ d ∧ d < O 0; (rw [if_pos q, if_neg (by omega), if_neg (by omega), if_neg (by omega), if_neg (by omega)]); (rw [if_neg q])), rfl⟩

set_option maxRecDepth 100000 in
set_option maxHeartbeats 4000000 in
theorem kX8_window (X : XC) {I : HD} {O : OF} (hR : RepC O I 0) (hV : Val O) : Cl X 6 mX8_window [rv X 0] I (Ki (zWin O) I) := by
  refine Cl.of (by decide) (Nat.le_of_ble_eq_true rfl) ?_
  show Rn X 6 mX8_window _ 0 [(0, rv X 0)] [] I
  have q0 := hV.a
  refine r_aload_n (pc := 0) (a := 0) (i := 0) 0 rfl rfl dX8_window_0 ?_
  refine r_get (pc := 1) ckX8 (by decide) rfl (j := 2) (by decide) rfl kf_X8_25 dX8_window_1 ?_
  refine r_callVi (pc := 4) (st := []) (As := []) okX3_isThere (by decide) (oH_lt (show 0 < 28 by decide)) (cellO (show 0 < 28 by decide)) rfl rfl (Nat.le_of_ble_eq_true rfl) km_X8_197 (kX3_isThere X (by decide) hR hV ) dX8_window_4 ?_
  refine r_if_ne (pc := 7) 13 rg_bI dX8_window_7 (by decide) (fun h7 => ?_) (fun h7 => ?_)
  · skip
    have h7 := bI_n.mp h7
    refine r_iconst (pc := 13) dX8_window_13 ?_
    refine r_istore_n (pc := 14) (a := 1) (i := 1) rfl [(1, iv 0), (0, rv X 0)] (by decide) rfl dX8_window_14 ?_
    refine r_iconst (pc := 15) dX8_window_15 ?_
    refine r_istore_n (pc := 16) (a := 2) (i := 2) rfl [(2, iv 0), (1, iv 0), (0, rv X 0)] (by decide) rfl dX8_window_16 ?_
    have at17 : ∀ (n17 : Nat) (t : Int) (d : Int), (O 0 - d).toNat < n17 → (hd0 : 0 ≤ d) → (hd1 : d ≤ O 0) → (ht : t = wnd O d.toNat) → Rn X 6 mX8_window (Ki (zWin O) I) 17 [(0, rv X 0), (1, iv t), (2, iv d)] [] I := by
      intro n17
      induction n17 with
      | zero => intro t d hm; omega
      | succ n17 ih17 =>
        intro t d hm17 hd0 hd1 ht
        refine r_iload_n (pc := 17) (a := 2) (i := 2) 2 rfl rfl dX8_window_17 ?_
        refine r_aload_n (pc := 18) (a := 0) (i := 0) 0 rfl rfl dX8_window_18 ?_
        refine r_get (pc := 19) ckX8 (by decide) rfl (j := 2) (by decide) rfl kf_X8_25 dX8_window_19 ?_
        refine r_getN (pc := 22) ckX3 (oH_lt (show 0 < 28 by decide)) (cellO (show 0 < 28 by decide)) (j := 8) (by decide) (show _ = some (iv (O 0)) by rw [← hR.f0]; rfl) kf_X8_151 dX8_window_22 ?_
        refine r_icmp_ge (pc := 25) 55 (by unfold rg; omega) (by unfold rg; omega) dX8_window_25 (by decide) (fun h25 => ?_) (fun h25 => ?_)
        · skip
          refine r_iload_n (pc := 55) (a := 1) (i := 1) 1 rfl rfl dX8_window_55 ?_
          refine r_iret (pc := 56) (st := []) rfl dX8_window_56 ?_
          exact ⟨by unfold zWin; rw [if_pos (by omega), ht, show d = O 0 by omega], rfl⟩
        · skip
          refine r_iload_n (pc := 28) (a := 1) (i := 1) 1 rfl rfl dX8_window_28 ?_
          refine r_aload_n (pc := 29) (a := 0) (i := 0) 0 rfl rfl dX8_window_29 ?_
          refine r_get (pc := 30) ckX8 (by decide) rfl (j := 2) (by decide) rfl kf_X8_25 dX8_window_30 ?_
          refine r_iload_n (pc := 33) (a := 2) (i := 2) 2 rfl rfl dX8_window_33 ?_
          refine r_iconst (pc := 34) dX8_window_34 ?_
          refine r_callVi (pc := 35) (st := [iv t]) (As := [iv d, iv 1]) okX3_lostFrom (by decide) (oH_lt (show 0 < 28 by decide)) (cellO (show 0 < 28 by decide)) rfl rfl (Nat.le_of_ble_eq_true rfl) km_X8_276 (kX3_lostFrom X (by decide) hR hV (by omega) (by omega) (by omega) (by omega)) dX8_window_35 ?_
          refine r_aload_n (pc := 38) (a := 0) (i := 0) 0 rfl rfl dX8_window_38 ?_
          refine r_get (pc := 39) ckX8 (by decide) rfl (j := 2) (by decide) rfl kf_X8_25 dX8_window_39 ?_
          refine r_iload_n (pc := 42) (a := 2) (i := 2) 2 rfl rfl dX8_window_42 ?_
          refine r_callVi (pc := 43) (st := [iv (lost O d 1), iv t]) (As := [iv d]) okX3_lostThrough (by decide) (oH_lt (show 0 < 28 by decide)) (cellO (show 0 < 28 by decide)) rfl rfl (Nat.le_of_ble_eq_true rfl) km_X8_289 (kX3_lostThrough X (by decide) hR hV (by omega) (by omega)) dX8_window_43 ?_
          refine r_iadd (pc := 46) dX8_window_46 ?_
          refine r_iadd (pc := 47) dX8_window_47 ?_
          refine r_istore_n (pc := 48) (a := 1) (i := 1) rfl [(1, iv (t + ((lost O d 1) + (lth O d)))), (0, rv X 0), (2, iv d)] (by decide) rfl dX8_window_48 ?_
          refine r_iinc (pc := 49) 2 [(2, iv (d + 1)), (1, iv (t + ((lost O d 1) + (lth O d)))), (0, rv X 0)] rfl (by decide) rfl dX8_window_49 ?_
          refine r_goto (pc := 52) 17 dX8_window_52 (by decide) ?_
          refine r_lv [2, 1, 0] [(0, rv X 0), (1, iv (t + ((lost O d 1) + (lth O d)))), (2, iv (d + 1))] rfl ?_
          exact ih17 (t + ((lost O d 1) + (lth O d))) (d + 1) (by omega) (by omega) (by omega) (by rw [ht, wnd_s hd0])
    refine r_lv [2, 1, 0] [(0, rv X 0), (1, iv 0), (2, iv 0)] rfl ?_
    exact at17 _ 0 0 (Nat.lt_succ_self _) (by omega) (by omega) (rfl)
  · skip
    have h7 := bI_0.mp h7
    refine r_ldc (pc := 10) kc_X8_160 dX8_window_10 ?_
    refine r_iret (pc := 12) (st := []) rfl dX8_window_12 ?_
    exact ⟨by unfold zWin; rw [if_neg (by omega)], rfl⟩
