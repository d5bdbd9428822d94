/-! ===== 94: the constructors ===== -/
theorem blX0 : ∀ j, j < 3 → defaultValue (tyX0 j) = vp_V [.null, iv 0, iv 0] j := by
  intro j hj
  rcases (show j = 0 ∨ j = 1 ∨ j = 2 by omega) with rfl | rfl | rfl <;> rfl
theorem blX1 : ∀ j, j < 2 → defaultValue (tyX1 j) = vp_V [.null, iv 0] j := by
  intro j hj
  rcases (show j = 0 ∨ j = 1 by omega) with rfl | rfl <;> rfl
theorem blX2 : ∀ j, j < 3 → defaultValue (tyX2 j) = vp_V [.null, iv 0, iv 0] j := by
  intro j hj
  rcases (show j = 0 ∨ j = 1 ∨ j = 2 by omega) with rfl | rfl | rfl <;> rfl
theorem blX3 : ∀ j, j < 12 → defaultValue (tyX3 j) = vp_V [.null, .null, .null, .null, .null, .null, .null, .null, iv 0, iv 0, iv 0, iv 0] j := by
  intro j hj
  rcases (show j = 0 ∨ j = 1 ∨ j = 2 ∨ j = 3 ∨ j = 4 ∨ j = 5 ∨ j = 6 ∨ j = 7 ∨ j = 8 ∨ j = 9 ∨ j = 10 ∨ j = 11 by omega) with rfl | rfl | rfl | rfl | rfl | rfl | rfl | rfl | rfl | rfl | rfl | rfl <;> rfl
theorem blX4 : ∀ j, j < 8 → defaultValue (tyX4 j) = vp_V [.null, .null, iv 0, iv 0, iv 0, iv 0, iv 0, iv 0] j := by
  intro j hj
  rcases (show j = 0 ∨ j = 1 ∨ j = 2 ∨ j = 3 ∨ j = 4 ∨ j = 5 ∨ j = 6 ∨ j = 7 by omega) with rfl | rfl | rfl | rfl | rfl | rfl | rfl | rfl <;> rfl
theorem blX5 : ∀ j, j < 3 → defaultValue (tyX5 j) = vp_V [.null, iv 0, iv 0] j := by
  intro j hj
  rcases (show j = 0 ∨ j = 1 ∨ j = 2 by omega) with rfl | rfl | rfl <;> rfl
theorem blX6 : ∀ j, j < 2 → defaultValue (tyX6 j) = vp_V [.null, iv 0] j := by
  intro j hj
  rcases (show j = 0 ∨ j = 1 by omega) with rfl | rfl <;> rfl
theorem blX7 : ∀ j, j < 2 → defaultValue (tyX7 j) = vp_V [.null, iv 0] j := by
  intro j hj
  rcases (show j = 0 ∨ j = 1 by omega) with rfl | rfl <;> rfl
theorem blX8 : ∀ j, j < 10 → defaultValue (tyX8 j) = vp_V [.null, .null, .null, .null, .null, .null, .null, .null, iv 0, iv 0] j := by
  intro j hj
  rcases (show j = 0 ∨ j = 1 ∨ j = 2 ∨ j = 3 ∨ j = 4 ∨ j = 5 ∨ j = 6 ∨ j = 7 ∨ j = 8 ∨ j = 9 by omega) with rfl | rfl | rfl | rfl | rfl | rfl | rfl | rfl | rfl | rfl <;> rfl
theorem blX9 : ∀ j, j < 28 → defaultValue (tyX9 j) = vp_V [iv 0, iv 0, .null, .null, .null, .null, .null, iv 0, .null, iv 0, .null, iv 0, iv 0, iv 0, iv 0, iv 0, iv 0, iv 0, iv 0, iv 0, .null, .null, .null, .null, .null, .null, .null, iv 0] j := by
  intro j hj
  rcases (show j = 0 ∨ j = 1 ∨ j = 2 ∨ j = 3 ∨ j = 4 ∨ j = 5 ∨ j = 6 ∨ j = 7 ∨ j = 8 ∨ j = 9 ∨ j = 10 ∨ j = 11 ∨ j = 12 ∨ j = 13 ∨ j = 14 ∨ j = 15 ∨ j = 16 ∨ j = 17 ∨ j = 18 ∨ j = 19 ∨ j = 20 ∨ j = 21 ∨ j = 22 ∨ j = 23 ∨ j = 24 ∨ j = 25 ∨ j = 26 ∨ j = 27 by omega) with rfl | rfl | rfl | rfl | rfl | rfl | rfl | rfl | rfl | rfl | rfl | rfl | rfl | rfl | rfl | rfl | rfl | rfl | rfl | rfl | rfl | rfl | rfl | rfl | rfl | rfl | rfl | rfl <;> rfl
set_option maxHeartbeats 100000 in
set_option maxRecDepth 20000 in
theorem kiX3 {X : XC} (hX : PX X) {w n : Nat} {F : FE} (hw : w < 28) (hn : n = pos (oH w) + 1) (hF : F (oH w) = .inr (3, [.null, .null, .null, .null, .null, .null, .null, .null, iv 0, iv 0, iv 0, iv 0])) : CB X 1 8 108 mX3_init [rv X (oH w)] n F (n + 8) (fl X F (oH w) (oH w + 9)) := by
  refine CB.of (by decide +kernel) (Nat.le_of_ble_eq_true rfl) ?_
  have e0 : oH w = 45 + 9 * w := rfl
  have hz : ∀ j, I0 (oH w + j) = fun _ => 0 := fun j => I0_z (by omega) (by omega) (by omega)
  show Rb X 1 8 108 mX3_init (n + 8) _ 0 [(0, rv X (oH w))] [] n F 0 0
  refine b_aload_n 0 rfl rfl dX3_init_0 ?_
  refine b_obj ko_X3_3 (by omega) (by decide) dX3_init_1 ?_
  refine b_aload_n 0 rfl rfl dX3_init_4 ?_
  refine b_bipush rfl dX3_init_5 ?_
  refine b_newa (atype := .int) (h := oH w + 1) (t := 0) (N := 12) (a0 := (12, .inl (fun _ => 0))) hX (oH_lt1 hw) (by have := pos_o (w := w) (j := 1) hw (by decide); omega) rfl (fun _ => rfl) rfl (by decide) (by decide) kar_int (by omega) (by omega) dX3_init_7 ?_
  refine b_putF (h := oH w) (fs := [.null, .null, .null, .null, .null, .null, .null, .null, iv 0, iv 0, iv 0, iv 0]) 0 ckX3 (oH_lt hw) (by omega) ((uF_n (by omega)).trans (hF)) (by decide) (by show 0 < 12; decide) kf_X3_9 rfl rfl rfl (ckX3.2.2.1 0 (by decide)) rfl rfl dX3_init_9 ?_
  refine b_aload_n 0 rfl rfl dX3_init_12 ?_
  refine b_iconst dX3_init_13 ?_
  refine b_newa (atype := .int) (h := oH w + 2) (t := 0) (N := 4) (a0 := (4, .inl (fun _ => 0))) hX (oH_lt2 hw) (by have := pos_o (w := w) (j := 2) hw (by decide); omega) rfl (fun _ => rfl) rfl (by decide) (by decide) kar_int (by omega) (by omega) dX3_init_14 ?_
  refine b_putF (h := oH w) (fs := [rv X (oH w + 1), .null, .null, .null, .null, .null, .null, .null, iv 0, iv 0, iv 0, iv 0]) 1 ckX3 (oH_lt hw) (by omega) ((uF_n (by omega)).trans (uF_s)) (by decide) (by show 1 < 12; decide) kf_X3_15 rfl rfl rfl (ckX3.2.2.1 1 (by decide)) rfl rfl dX3_init_16 ?_
  refine b_aload_n 0 rfl rfl dX3_init_19 ?_
  refine b_iconst dX3_init_20 ?_
  refine b_newa (atype := .int) (h := oH w + 3) (t := 0) (N := 4) (a0 := (4, .inl (fun _ => 0))) hX (oH_lt3 hw) (by have := pos_o (w := w) (j := 3) hw (by decide); omega) rfl (fun _ => rfl) rfl (by decide) (by decide) kar_int (by omega) (by omega) dX3_init_21 ?_
  refine b_putF (h := oH w) (fs := [rv X (oH w + 1), rv X (oH w + 2), .null, .null, .null, .null, .null, .null, iv 0, iv 0, iv 0, iv 0]) 2 ckX3 (oH_lt hw) (by omega) ((uF_n (by omega)).trans (uF_s)) (by decide) (by show 2 < 12; decide) kf_X3_18 rfl rfl rfl (ckX3.2.2.1 2 (by decide)) rfl rfl dX3_init_23 ?_
  refine b_aload_n 0 rfl rfl dX3_init_26 ?_
  refine b_iconst dX3_init_27 ?_
  refine b_newa (atype := .int) (h := oH w + 4) (t := 0) (N := 4) (a0 := (4, .inl (fun _ => 0))) hX (oH_lt4 hw) (by have := pos_o (w := w) (j := 4) hw (by decide); omega) rfl (fun _ => rfl) rfl (by decide) (by decide) kar_int (by omega) (by omega) dX3_init_28 ?_
  refine b_putF (h := oH w) (fs := [rv X (oH w + 1), rv X (oH w + 2), rv X (oH w + 3), .null, .null, .null, .null, .null, iv 0, iv 0, iv 0, iv 0]) 3 ckX3 (oH_lt hw) (by omega) ((uF_n (by omega)).trans (uF_s)) (by decide) (by show 3 < 12; decide) kf_X3_21 rfl rfl rfl (ckX3.2.2.1 3 (by decide)) rfl rfl dX3_init_30 ?_
  refine b_aload_n 0 rfl rfl dX3_init_33 ?_
  refine b_bipush rfl dX3_init_34 ?_
  refine b_newa (atype := .int) (h := oH w + 5) (t := 0) (N := 36) (a0 := (36, .inl (fun _ => 0))) hX (oH_lt5 hw) (by have := pos_o (w := w) (j := 5) hw (by decide); omega) rfl (fun _ => rfl) rfl (by decide) (by decide) kar_int (by omega) (by omega) dX3_init_36 ?_
  refine b_putF (h := oH w) (fs := [rv X (oH w + 1), rv X (oH w + 2), rv X (oH w + 3), rv X (oH w + 4), .null, .null, .null, .null, iv 0, iv 0, iv 0, iv 0]) 4 ckX3 (oH_lt hw) (by omega) ((uF_n (by omega)).trans (uF_s)) (by decide) (by show 4 < 12; decide) kf_X3_24 rfl rfl rfl (ckX3.2.2.1 4 (by decide)) rfl rfl dX3_init_38 ?_
  refine b_aload_n 0 rfl rfl dX3_init_41 ?_
  refine b_bipush rfl dX3_init_42 ?_
  refine b_newa (atype := .int) (h := oH w + 6) (t := 0) (N := 16) (a0 := (16, .inl (fun _ => 0))) hX (oH_lt6 hw) (by have := pos_o (w := w) (j := 6) hw (by decide); omega) rfl (fun _ => rfl) rfl (by decide) (by decide) kar_int (by omega) (by omega) dX3_init_44 ?_
  refine b_putF (h := oH w) (fs := [rv X (oH w + 1), rv X (oH w + 2), rv X (oH w + 3), rv X (oH w + 4), rv X (oH w + 5), .null, .null, .null, iv 0, iv 0, iv 0, iv 0]) 5 ckX3 (oH_lt hw) (by omega) ((uF_n (by omega)).trans (uF_s)) (by decide) (by show 5 < 12; decide) kf_X3_27 rfl rfl rfl (ckX3.2.2.1 5 (by decide)) rfl rfl dX3_init_46 ?_
  refine b_aload_n 0 rfl rfl dX3_init_49 ?_
  refine b_bipush rfl dX3_init_50 ?_
  refine b_newa (atype := .int) (h := oH w + 7) (t := 0) (N := 16) (a0 := (16, .inl (fun _ => 0))) hX (oH_lt7 hw) (by have := pos_o (w := w) (j := 7) hw (by decide); omega) rfl (fun _ => rfl) rfl (by decide) (by decide) kar_int (by omega) (by omega) dX3_init_52 ?_
  refine b_putF (h := oH w) (fs := [rv X (oH w + 1), rv X (oH w + 2), rv X (oH w + 3), rv X (oH w + 4), rv X (oH w + 5), rv X (oH w + 6), .null, .null, iv 0, iv 0, iv 0, iv 0]) 6 ckX3 (oH_lt hw) (by omega) ((uF_n (by omega)).trans (uF_s)) (by decide) (by show 6 < 12; decide) kf_X3_30 rfl rfl rfl (ckX3.2.2.1 6 (by decide)) rfl rfl dX3_init_54 ?_
  refine b_aload_n 0 rfl rfl dX3_init_57 ?_
  refine b_bipush rfl dX3_init_58 ?_
  refine b_newa (atype := .int) (h := oH w + 8) (t := 0) (N := 16) (a0 := (16, .inl (fun _ => 0))) hX (oH_lt8 hw) (by have := pos_o (w := w) (j := 8) hw (by decide); omega) rfl (fun _ => rfl) rfl (by decide) (by decide) kar_int (by omega) (by omega) dX3_init_60 ?_
  refine b_putF (h := oH w) (fs := [rv X (oH w + 1), rv X (oH w + 2), rv X (oH w + 3), rv X (oH w + 4), rv X (oH w + 5), rv X (oH w + 6), rv X (oH w + 7), .null, iv 0, iv 0, iv 0, iv 0]) 7 ckX3 (oH_lt hw) (by omega) ((uF_n (by omega)).trans (uF_s)) (by decide) (by show 7 < 12; decide) kf_X3_33 rfl rfl rfl (ckX3.2.2.1 7 (by decide)) rfl rfl dX3_init_62 ?_
  refine b_aload_n 0 rfl rfl dX3_init_65 ?_
  refine b_iconst dX3_init_66 ?_
  refine b_put (h := oH w) (fs := [rv X (oH w + 1), rv X (oH w + 2), rv X (oH w + 3), rv X (oH w + 4), rv X (oH w + 5), rv X (oH w + 6), rv X (oH w + 7), rv X (oH w + 8), iv 0, iv 0, iv 0, iv 0]) 8 ckX3 (oH_lt hw) (by omega) (uF_s) (by decide) (by show 8 < 12; decide) kf_X3_36 rfl (ckX3.2.2.1 8 (by decide)) rfl rfl dX3_init_67 ?_
  refine b_aload_n 0 rfl rfl dX3_init_70 ?_
  refine b_iconst dX3_init_71 ?_
  refine b_put (h := oH w) (fs := [rv X (oH w + 1), rv X (oH w + 2), rv X (oH w + 3), rv X (oH w + 4), rv X (oH w + 5), rv X (oH w + 6), rv X (oH w + 7), rv X (oH w + 8), iv 0, iv 0, iv 0, iv 0]) 9 ckX3 (oH_lt hw) (by omega) (uF_s) (by decide) (by show 9 < 12; decide) kf_X3_40 rfl (ckX3.2.2.1 9 (by decide)) rfl rfl dX3_init_72 ?_
  refine b_aload_n 0 rfl rfl dX3_init_75 ?_
  refine b_iconst dX3_init_76 ?_
  refine b_put (h := oH w) (fs := [rv X (oH w + 1), rv X (oH w + 2), rv X (oH w + 3), rv X (oH w + 4), rv X (oH w + 5), rv X (oH w + 6), rv X (oH w + 7), rv X (oH w + 8), iv 0, iv 0, iv 0, iv 0]) 10 ckX3 (oH_lt hw) (by omega) (uF_s) (by decide) (by show 10 < 12; decide) kf_X3_43 rfl (ckX3.2.2.1 10 (by decide)) rfl rfl dX3_init_77 ?_
  refine b_aload_n 0 rfl rfl dX3_init_80 ?_
  refine b_iconst dX3_init_81 ?_
  refine b_put (h := oH w) (fs := [rv X (oH w + 1), rv X (oH w + 2), rv X (oH w + 3), rv X (oH w + 4), rv X (oH w + 5), rv X (oH w + 6), rv X (oH w + 7), rv X (oH w + 8), iv 0, iv 0, iv 0, iv 0]) 11 ckX3 (oH_lt hw) (by omega) (uF_s) (by decide) (by show 11 < 12; decide) kf_X3_46 rfl (ckX3.2.2.1 11 (by decide)) rfl rfl dX3_init_82 ?_
  refine b_vret rfl dX3_init_85 (by omega) (by omega) (by omega) (fun h hh hp => ?_)
  by_cases q : oH w ≤ h ∧ h < oH w + 9
  · rw [fl_i q]
    rcases (show h = oH w ∨ h = oH w + 1 ∨ h = oH w + 2 ∨ h = oH w + 3 ∨ h = oH w + 4 ∨ h = oH w + 5 ∨ h = oH w + 6 ∨ h = oH w + 7 ∨ h = oH w + 8 by omega) with rfl | rfl | rfl | rfl | rfl | rfl | rfl | rfl | rfl
    · rw [cellO hw, show I0 (oH w) = fun _ => 0 from hz 0]; exact .inl ((uF_s).trans rfl)
    · rw [cellO1 hw I0]; unfold oiv; rw [hz 1]; exact .inl (((uF_n (by omega)).trans ((uF_n (by omega)).trans ((uF_n (by omega)).trans ((uF_n (by omega)).trans ((uF_n (by omega)).trans ((uF_n (by omega)).trans ((uF_n (by omega)).trans ((uF_n (by omega)).trans ((uF_n (by omega)).trans ((uF_n (by omega)).trans ((uF_n (by omega)).trans ((uF_n (by omega)).trans ((uF_n (by omega)).trans ((uF_n (by omega)).trans ((uF_n (by omega)).trans ((uF_n (by omega)).trans ((uF_n (by omega)).trans ((uF_n (by omega)).trans ((uF_n (by omega)).trans (uF_s)))))))))))))))))))).trans rfl)
    · rw [cellO2 hw I0]; unfold oiv; rw [hz 2]; exact .inl (((uF_n (by omega)).trans ((uF_n (by omega)).trans ((uF_n (by omega)).trans ((uF_n (by omega)).trans ((uF_n (by omega)).trans ((uF_n (by omega)).trans ((uF_n (by omega)).trans ((uF_n (by omega)).trans ((uF_n (by omega)).trans ((uF_n (by omega)).trans ((uF_n (by omega)).trans ((uF_n (by omega)).trans ((uF_n (by omega)).trans ((uF_n (by omega)).trans ((uF_n (by omega)).trans ((uF_n (by omega)).trans ((uF_n (by omega)).trans (uF_s)))))))))))))))))).trans rfl)
    · rw [cellO3 hw I0]; unfold oiv; rw [hz 3]; exact .inl (((uF_n (by omega)).trans ((uF_n (by omega)).trans ((uF_n (by omega)).trans ((uF_n (by omega)).trans ((uF_n (by omega)).trans ((uF_n (by omega)).trans ((uF_n (by omega)).trans ((uF_n (by omega)).trans ((uF_n (by omega)).trans ((uF_n (by omega)).trans ((uF_n (by omega)).trans ((uF_n (by omega)).trans ((uF_n (by omega)).trans ((uF_n (by omega)).trans ((uF_n (by omega)).trans (uF_s)))))))))))))))).trans rfl)
    · rw [cellO4 hw I0]; unfold oiv; rw [hz 4]; exact .inl (((uF_n (by omega)).trans ((uF_n (by omega)).trans ((uF_n (by omega)).trans ((uF_n (by omega)).trans ((uF_n (by omega)).trans ((uF_n (by omega)).trans ((uF_n (by omega)).trans ((uF_n (by omega)).trans ((uF_n (by omega)).trans ((uF_n (by omega)).trans ((uF_n (by omega)).trans ((uF_n (by omega)).trans ((uF_n (by omega)).trans (uF_s)))))))))))))).trans rfl)
    · rw [cellO5 hw I0]; unfold oiv; rw [hz 5]; exact .inl (((uF_n (by omega)).trans ((uF_n (by omega)).trans ((uF_n (by omega)).trans ((uF_n (by omega)).trans ((uF_n (by omega)).trans ((uF_n (by omega)).trans ((uF_n (by omega)).trans ((uF_n (by omega)).trans ((uF_n (by omega)).trans ((uF_n (by omega)).trans ((uF_n (by omega)).trans (uF_s)))))))))))).trans rfl)
    · rw [cellO6 hw I0]; unfold oiv; rw [hz 6]; exact .inl (((uF_n (by omega)).trans ((uF_n (by omega)).trans ((uF_n (by omega)).trans ((uF_n (by omega)).trans ((uF_n (by omega)).trans ((uF_n (by omega)).trans ((uF_n (by omega)).trans ((uF_n (by omega)).trans ((uF_n (by omega)).trans (uF_s)))))))))).trans rfl)
    · rw [cellO7 hw I0]; unfold oiv; rw [hz 7]; exact .inl (((uF_n (by omega)).trans ((uF_n (by omega)).trans ((uF_n (by omega)).trans ((uF_n (by omega)).trans ((uF_n (by omega)).trans ((uF_n (by omega)).trans ((uF_n (by omega)).trans (uF_s)))))))).trans rfl)
    · rw [cellO8 hw I0]; unfold oiv; rw [hz 8]; exact .inl (((uF_n (by omega)).trans ((uF_n (by omega)).trans ((uF_n (by omega)).trans ((uF_n (by omega)).trans ((uF_n (by omega)).trans (uF_s)))))).trans rfl)
  · rw [fl_o q]; refine .inl ?_
    repeat rw [uF_n (by omega)]
theorem pos_r0 : ∀ r, r < 8 → pos (10 + r) = pos (2 + r) + 1 := by decide +kernel
theorem pos_r (r : Nat) (h : r < 8) : pos (iH r) = pos (rH r) + 1 := pos_r0 r h
set_option maxHeartbeats 100000 in
set_option maxRecDepth 20000 in
theorem kiX5 {X : XC} (hX : PX X) {r n : Nat} {F : FE} (hr : r < 8) (hn : n = pos (rH r) + 1) (hF : F (rH r) = .inr (5, [.null, iv 0, iv 0])) : CB X 1 1 40 mX5_init [rv X (rH r)] n F (n + 1) (fl X (fl X F (rH r) (rH r + 1)) (iH r) (iH r + 1)) := by
  refine CB.of (by decide +kernel) (Nat.le_of_ble_eq_true rfl) ?_
  have e0 : rH r = 2 + r := rfl
  have e9 : iH r = 10 + r := rfl
  have hz : I0 (iH r) = fun _ => 0 := I0_z (by omega) (by omega) (by omega)
  have e1 : I0 (rH r) 1 = -1 := by unfold I0; rw [if_pos (by omega)]
  have e2 : I0 (rH r) 2 = 0 := by unfold I0; rw [if_neg (by omega), if_neg (by omega), if_neg (by omega)]
  show Rb X 1 1 40 mX5_init (n + 1) _ 0 [(0, rv X (rH r))] [] n F 0 0
  refine b_aload_n 0 rfl rfl dX5_init_0 ?_
  refine b_obj ko_X5_3 (by omega) (by decide) dX5_init_1 ?_
  refine b_aload_n 0 rfl rfl dX5_init_4 ?_
  refine b_bipush rfl dX5_init_5 ?_
  refine b_newa (atype := .int) (h := iH r) (t := 0) (N := 40) (a0 := (40, .inl (fun _ => 0))) hX (iH_lt hr) (by have := pos_r r hr; omega) rfl (fun _ => rfl) rfl (by decide) (by decide) kar_int (by omega) (by omega) dX5_init_7 ?_
  refine b_putF (h := rH r) (fs := [.null, iv 0, iv 0]) 0 ckX5 (rH_lt hr) (by omega) ((uF_n (by omega)).trans (hF)) (by decide) (by show 0 < 3; decide) kf_X5_9 rfl rfl rfl (ckX5.2.2.1 0 (by decide)) rfl rfl dX5_init_9 ?_
  refine b_aload_n 0 rfl rfl dX5_init_12 ?_
  refine b_iconst dX5_init_13 ?_
  refine b_put (h := rH r) (fs := [rv X (iH r), iv 0, iv 0]) 1 ckX5 (rH_lt hr) (by omega) (uF_s) (by decide) (by show 1 < 3; decide) kf_X5_15 rfl (ckX5.2.2.1 1 (by decide)) rfl rfl dX5_init_14 ?_
  refine b_aload_n 0 rfl rfl dX5_init_17 ?_
  refine b_iconst dX5_init_18 ?_
  refine b_put (h := rH r) (fs := [rv X (iH r), iv (-1), iv 0]) 2 ckX5 (rH_lt hr) (by omega) (uF_s) (by decide) (by show 2 < 3; decide) kf_X5_19 rfl (ckX5.2.2.1 2 (by decide)) rfl rfl dX5_init_19 ?_
  refine b_vret rfl dX5_init_22 (by omega) (by omega) (by omega) (fun h hh hp => ?_)
  by_cases q1 : h = iH r
  · subst q1; rw [fl_i (by omega), cellRi hr I0]; unfold oiv; rw [hz]; exact .inl (((uF_n (by omega)).trans ((uF_n (by omega)).trans ((uF_n (by omega)).trans (uF_s)))).trans rfl)
  · by_cases q2 : h = rH r
    · subst q2; rw [fl_o (by omega), fl_i (by omega), cellR hr, e1, e2]; exact .inl ((uF_s).trans rfl)
    · rw [fl_o (by omega), fl_o (by omega)]; refine .inl ?_
      repeat rw [uF_n (by omega)]
set_option maxHeartbeats 100000 in
set_option maxRecDepth 20000 in
theorem kiX7 {X : XC} (hX : PX X) {F : FE} (hF : F 19 = .inr (7, [.null, iv 0])) : CB X 1 1 500 mX7_init [rv X 19] 4 F 5 (fl X F 19 21) := by
  refine CB.of (by decide +kernel) (Nat.le_of_ble_eq_true rfl) ?_
  show Rb X 1 1 500 mX7_init 5 _ 0 [(0, rv X 19)] [] 4 F 0 0
  refine b_aload_n 0 rfl rfl dX7_init_0 ?_
  refine b_obj ko_X7_3 (by omega) (by decide) dX7_init_1 ?_
  refine b_aload_n 0 rfl rfl dX7_init_4 ?_
  refine b_sipush rfl dX7_init_5 ?_
  refine b_newa (atype := .byte) (h := 20) (t := 1) (N := 500) (a0 := (500, .inl (fun _ => 0))) hX (by decide) (by decide) rfl (fun _ => rfl) rfl (by decide) (by decide) kar_byte (by omega) (by omega) dX7_init_8 ?_
  refine b_putF (h := 19) (fs := [.null, iv 0]) 0 ckX7 (by decide) (by decide) ((uF_n (by omega)).trans (hF)) (by decide) (by show 0 < 2; decide) kf_X7_9 rfl rfl rfl (ckX7.2.2.1 0 (by decide)) rfl rfl dX7_init_10 ?_
  refine b_aload_n 0 rfl rfl dX7_init_13 ?_
  refine b_iconst dX7_init_14 ?_
  refine b_put (h := 19) (fs := [rv X 20, iv 0]) 1 ckX7 (by decide) (by decide) (uF_s) (by decide) (by show 1 < 2; decide) kf_X7_15 rfl (ckX7.2.2.1 1 (by decide)) rfl rfl dX7_init_15 ?_
  refine b_vret rfl dX7_init_18 (by omega) (by omega) (by omega) (fun h hh hp => ?_)
  by_cases q : 19 ≤ h ∧ h < 21
  · rw [fl_i q]
    rcases (show h = 19 ∨ h = 20 by omega) with rfl | rfl
    · exact .inl ((uF_s).trans rfl)
    · exact .inl (((uF_n (by omega)).trans ((uF_n (by omega)).trans (uF_s))).trans rfl)
  · rw [fl_o q]; refine .inl ?_
    repeat rw [uF_n (by omega)]
set_option maxHeartbeats 100000 in
set_option maxRecDepth 20000 in
theorem kiX2 {X : XC} (hX : PX X) {F : FE} (hF : F 24 = .inr (2, [.null, iv 0, iv 0])) : CB X 1 1 4 mX2_init [rv X 24] 243 F 244 (fl X F 24 26) := by
  refine CB.of (by decide +kernel) (Nat.le_of_ble_eq_true rfl) ?_
  show Rb X 1 1 4 mX2_init 244 _ 0 [(0, rv X 24)] [] 243 F 0 0
  refine b_aload_n 0 rfl rfl dX2_init_0 ?_
  refine b_obj ko_X2_3 (by omega) (by decide) dX2_init_1 ?_
  refine b_aload_n 0 rfl rfl dX2_init_4 ?_
  refine b_iconst dX2_init_5 ?_
  refine b_newa (atype := .long) (h := 25) (t := 2) (N := 4) (a0 := (4, .inr (.inl (fun _ => 0)))) hX (by decide) (by decide) rfl (fun _ => rfl) rfl (by decide) (by decide) kar_long (by omega) (by omega) dX2_init_6 ?_
  refine b_putF (h := 24) (fs := [.null, iv 0, iv 0]) 0 ckX2 (by decide) (by decide) ((uF_n (by omega)).trans (hF)) (by decide) (by show 0 < 3; decide) kf_X2_9 rfl rfl rfl (ckX2.2.2.1 0 (by decide)) rfl rfl dX2_init_8 ?_
  refine b_aload_n 0 rfl rfl dX2_init_11 ?_
  refine b_iconst dX2_init_12 ?_
  refine b_put (h := 24) (fs := [rv X 25, iv 0, iv 0]) 1 ckX2 (by decide) (by decide) (uF_s) (by decide) (by show 1 < 3; decide) kf_X2_15 rfl (ckX2.2.2.1 1 (by decide)) rfl rfl dX2_init_13 ?_
  refine b_aload_n 0 rfl rfl dX2_init_16 ?_
  refine b_iconst dX2_init_17 ?_
  refine b_put (h := 24) (fs := [rv X 25, iv 0, iv 0]) 2 ckX2 (by decide) (by decide) (uF_s) (by decide) (by show 2 < 3; decide) kf_X2_19 rfl (ckX2.2.2.1 2 (by decide)) rfl rfl dX2_init_18 ?_
  refine b_vret rfl dX2_init_21 (by omega) (by omega) (by omega) (fun h hh hp => ?_)
  by_cases q : 24 ≤ h ∧ h < 26
  · rw [fl_i q]
    rcases (show h = 24 ∨ h = 25 by omega) with rfl | rfl
    · exact .inl ((uF_s).trans rfl)
    · exact .inl (((uF_n (by omega)).trans ((uF_n (by omega)).trans ((uF_n (by omega)).trans (uF_s)))).trans rfl)
  · rw [fl_o q]; refine .inl ?_
    repeat rw [uF_n (by omega)]
set_option maxHeartbeats 100000 in
set_option maxRecDepth 20000 in
theorem kiX6 {X : XC} (hX : PX X) {F : FE} (hF : F 26 = .inr (6, [.null, iv 0])) : CB X 1 1 7 mX6_init [rv X 26] 245 F 246 (fl X F 26 28) := by
  refine CB.of (by decide +kernel) (Nat.le_of_ble_eq_true rfl) ?_
  show Rb X 1 1 7 mX6_init 246 _ 0 [(0, rv X 26)] [] 245 F 0 0
  refine b_aload_n 0 rfl rfl dX6_init_0 ?_
  refine b_obj ko_X6_3 (by omega) (by decide) dX6_init_1 ?_
  refine b_aload_n 0 rfl rfl dX6_init_4 ?_
  refine b_bipush rfl dX6_init_5 ?_
  refine b_newa (atype := .int) (h := 27) (t := 0) (N := 7) (a0 := (7, .inl (fun _ => 0))) hX (by decide) (by decide) rfl (fun _ => rfl) rfl (by decide) (by decide) kar_int (by omega) (by omega) dX6_init_7 ?_
  refine b_putF (h := 26) (fs := [.null, iv 0]) 0 ckX6 (by decide) (by decide) ((uF_n (by omega)).trans (hF)) (by decide) (by show 0 < 2; decide) kf_X6_9 rfl rfl rfl (ckX6.2.2.1 0 (by decide)) rfl rfl dX6_init_9 ?_
  refine b_aload_n 0 rfl rfl dX6_init_12 ?_
  refine b_iconst dX6_init_13 ?_
  refine b_put (h := 26) (fs := [rv X 27, iv 0]) 1 ckX6 (by decide) (by decide) (uF_s) (by decide) (by show 1 < 2; decide) kf_X6_15 rfl (ckX6.2.2.1 1 (by decide)) rfl rfl dX6_init_14 ?_
  refine b_vret rfl dX6_init_17 (by omega) (by omega) (by omega) (fun h hh hp => ?_)
  by_cases q : 26 ≤ h ∧ h < 28
  · rw [fl_i q]
    rcases (show h = 26 ∨ h = 27 by omega) with rfl | rfl
    · exact .inl ((uF_s).trans rfl)
    · exact .inl (((uF_n (by omega)).trans ((uF_n (by omega)).trans (uF_s))).trans rfl)
  · rw [fl_o q]; refine .inl ?_
    repeat rw [uF_n (by omega)]
set_option maxHeartbeats 100000 in
set_option maxRecDepth 20000 in
theorem kiX1 {X : XC} (hX : PX X) {F : FE} (hF : F 28 = .inr (1, [.null, iv 0])) : CB X 1 1 16 mX1_init [rv X 28] 247 F 248 (fl X F 28 30) := by
  refine CB.of (by decide +kernel) (Nat.le_of_ble_eq_true rfl) ?_
  show Rb X 1 1 16 mX1_init 248 _ 0 [(0, rv X 28)] [] 247 F 0 0
  refine b_aload_n 0 rfl rfl dX1_init_0 ?_
  refine b_obj ko_X1_1 (by omega) (by decide) dX1_init_1 ?_
  refine b_aload_n 0 rfl rfl dX1_init_4 ?_
  refine b_bipush rfl dX1_init_5 ?_
  refine b_newa (atype := .int) (h := 29) (t := 0) (N := 16) (a0 := (16, .inl (fun _ => 0))) hX (by decide) (by decide) rfl (fun _ => rfl) rfl (by decide) (by decide) kar_int (by omega) (by omega) dX1_init_7 ?_
  refine b_putF (h := 28) (fs := [.null, iv 0]) 0 ckX1 (by decide) (by decide) ((uF_n (by omega)).trans (hF)) (by decide) (by show 0 < 2; decide) kf_X1_9 rfl rfl rfl (ckX1.2.2.1 0 (by decide)) rfl rfl dX1_init_9 ?_
  refine b_aload_n 0 rfl rfl dX1_init_12 ?_
  refine b_iconst dX1_init_13 ?_
  refine b_put (h := 28) (fs := [rv X 29, iv 0]) 1 ckX1 (by decide) (by decide) (uF_s) (by decide) (by show 1 < 2; decide) kf_X1_13 rfl (ckX1.2.2.1 1 (by decide)) rfl rfl dX1_init_14 ?_
  refine b_vret rfl dX1_init_17 (by omega) (by omega) (by omega) (fun h hh hp => ?_)
  by_cases q : 28 ≤ h ∧ h < 30
  · rw [fl_i q]
    rcases (show h = 28 ∨ h = 29 by omega) with rfl | rfl
    · exact .inl ((uF_s).trans rfl)
    · exact .inl (((uF_n (by omega)).trans ((uF_n (by omega)).trans (uF_s))).trans rfl)
  · rw [fl_o q]; refine .inl ?_
    repeat rw [uF_n (by omega)]
set_option maxHeartbeats 100000 in
set_option maxRecDepth 20000 in
theorem kiX4 {X : XC} (hX : PX X) {F : FE} (hF : F 18 = .inr (4, [.null, .null, iv 0, iv 0, iv 0, iv 0, iv 0, iv 0])) : CB X 2 11 622 mX4_init [rv X 18] 3 F 14 (fl X (fl X F 18 21) 54 63) := by
  refine CB.of (by decide +kernel) (Nat.le_of_ble_eq_true rfl) ?_
  have e9 : oH 1 = 54 := rfl
  show Rb X 2 11 622 mX4_init 14 _ 0 [(0, rv X 18)] [] 3 F 0 0
  refine b_aload_n 0 rfl rfl dX4_init_0 ?_
  refine b_obj ko_X4_3 (by omega) (by decide) dX4_init_1 ?_
  refine b_aload_n 0 rfl rfl dX4_init_4 ?_
  refine b_new (h := 19) (fs := [.null, iv 0]) hX ckX7 (by decide) (by decide) blX7 kl_X4_9 ki_X7 kn_X7 (by omega) (by omega) dX4_init_5 ?_
  refine b_dup dX4_init_8 ?_
  refine b_newN (h := 19) okX7_init (by decide) (Nat.le_of_ble_eq_true rfl) kx_X4_11 (by omega) (by omega) (kiX7 hX (uF_s)) dX4_init_9 ?_
  refine b_putF (h := 18) (fs := [.null, .null, iv 0, iv 0, iv 0, iv 0, iv 0, iv 0]) 0 ckX4 (by decide) (by decide) ((fl_o (by omega)).trans ((uF_n (by omega)).trans (hF))) (by decide) (by show 0 < 8; decide) kf_X4_12 rfl rfl rfl (ckX4.2.2.1 0 (by decide)) rfl rfl dX4_init_12 ?_
  refine b_aload_n 0 rfl rfl dX4_init_15 ?_
  refine b_new (h := 54) (fs := [.null, .null, .null, .null, .null, .null, .null, .null, iv 0, iv 0, iv 0, iv 0]) hX ckX3 (by decide) (by decide) blX3 kl_X4_18 ki_X3 kn_X3 (by omega) (by omega) dX4_init_16 ?_
  refine b_dup dX4_init_19 ?_
  refine b_newN (h := 54) okX3_init (by decide) (Nat.le_of_ble_eq_true rfl) kx_X4_20 (by omega) (by omega) (kiX3 (w := 1) hX (by decide) (by decide) (uF_s)) dX4_init_20 ?_
  refine b_putF (h := 18) (fs := [rv X 19, .null, iv 0, iv 0, iv 0, iv 0, iv 0, iv 0]) 1 ckX4 (by decide) (by decide) ((fl_o (by omega)).trans ((uF_n (by omega)).trans (uF_s))) (by decide) (by show 1 < 8; decide) kf_X4_21 rfl rfl rfl (ckX4.2.2.1 1 (by decide)) rfl rfl dX4_init_23 ?_
  refine b_aload_n 0 rfl rfl dX4_init_26 ?_
  refine b_iconst dX4_init_27 ?_
  refine b_put (h := 18) (fs := [rv X 19, rv X 54, iv 0, iv 0, iv 0, iv 0, iv 0, iv 0]) 2 ckX4 (by decide) (by decide) (uF_s) (by decide) (by show 2 < 8; decide) kf_X4_25 rfl (ckX4.2.2.1 2 (by decide)) rfl rfl dX4_init_28 ?_
  refine b_aload_n 0 rfl rfl dX4_init_31 ?_
  refine b_iconst dX4_init_32 ?_
  refine b_put (h := 18) (fs := [rv X 19, rv X 54, iv 0, iv 0, iv 0, iv 0, iv 0, iv 0]) 3 ckX4 (by decide) (by decide) (uF_s) (by decide) (by show 3 < 8; decide) kf_X4_29 rfl (ckX4.2.2.1 3 (by decide)) rfl rfl dX4_init_33 ?_
  refine b_aload_n 0 rfl rfl dX4_init_36 ?_
  refine b_iconst dX4_init_37 ?_
  refine b_put (h := 18) (fs := [rv X 19, rv X 54, iv 0, iv 0, iv 0, iv 0, iv 0, iv 0]) 4 ckX4 (by decide) (by decide) (uF_s) (by decide) (by show 4 < 8; decide) kf_X4_32 rfl (ckX4.2.2.1 4 (by decide)) rfl rfl dX4_init_38 ?_
  refine b_aload_n 0 rfl rfl dX4_init_41 ?_
  refine b_iconst dX4_init_42 ?_
  refine b_put (h := 18) (fs := [rv X 19, rv X 54, iv 0, iv 0, iv 0, iv 0, iv 0, iv 0]) 5 ckX4 (by decide) (by decide) (uF_s) (by decide) (by show 5 < 8; decide) kf_X4_35 rfl (ckX4.2.2.1 5 (by decide)) rfl rfl dX4_init_43 ?_
  refine b_aload_n 0 rfl rfl dX4_init_46 ?_
  refine b_iconst dX4_init_47 ?_
  refine b_put (h := 18) (fs := [rv X 19, rv X 54, iv 0, iv 0, iv 0, iv 0, iv 0, iv 0]) 6 ckX4 (by decide) (by decide) (uF_s) (by decide) (by show 6 < 8; decide) kf_X4_38 rfl (ckX4.2.2.1 6 (by decide)) rfl rfl dX4_init_48 ?_
  refine b_aload_n 0 rfl rfl dX4_init_51 ?_
  refine b_iconst dX4_init_52 ?_
  refine b_put (h := 18) (fs := [rv X 19, rv X 54, iv 0, iv 0, iv 0, iv 0, iv 0, iv 0]) 7 ckX4 (by decide) (by decide) (uF_s) (by decide) (by show 7 < 8; decide) kf_X4_41 rfl (ckX4.2.2.1 7 (by decide)) rfl rfl dX4_init_53 ?_
  refine b_vret rfl dX4_init_56 (by omega) (by omega) (by omega) (fun h hh hp => ?_)
  by_cases q : 54 ≤ h ∧ h < 63
  · rw [fl_i q]; refine .inl ?_
    repeat rw [uF_n (by omega)]
    exact fl_i q
  · rw [fl_o q]
    by_cases q2 : 18 ≤ h ∧ h < 21
    · rw [fl_i q2]
      rcases (show h = 18 ∨ h = 19 ∨ h = 20 by omega) with rfl | rfl | rfl
      · exact .inl ((uF_s).trans rfl)
      · refine .inl ?_
        repeat first | rw [uF_n (by omega)] | rw [fl_o (by omega)]
        exact fl_i (by omega)
      · refine .inl ?_
        repeat first | rw [uF_n (by omega)] | rw [fl_o (by omega)]
        exact fl_i (by omega)
    · rw [fl_o q2]; refine .inl ?_
      repeat first | rw [uF_n (by omega)] | rw [fl_o (by omega)]
