set_option maxRecDepth 100000 in
set_option maxHeartbeats 4000000 in
theorem kX3_takeOver (X : XC) {I : HD} {s t : Nat} (h_s : s < 28) (h_t : t < 28) (hst : s ≠ t) : Cl X 1 mX3_takeOver [rv X (oH t), rv X (oH s)] I (fun r J => r = none ∧ frO I J t ∧ ofC I J s t) := by
  refine Cl.of (by decide) (Nat.le_of_ble_eq_true rfl) ?_
  show Rn X 1 mX3_takeOver _ 0 [(0, rv X (oH t)), (1, rv X (oH s))] [] I
  have hne : oH s ≠ oH t := by show ¬ 45 + 9 * s = 45 + 9 * t; omega
  refine r_aload_n (pc := 0) (a := 1) (i := 1) 1 rfl rfl dX3_takeOver_0 ?_
  refine r_get (pc := 1) ckX3 (oH_lt (h_s)) (cellO (h_s)) (j := 0) (by decide) rfl kf_X3_9 dX3_takeOver_1 ?_
  refine r_iconst (pc := 4) dX3_takeOver_4 ?_
  refine r_aload_n (pc := 5) (a := 0) (i := 0) 0 rfl rfl dX3_takeOver_5 ?_
  refine r_get (pc := 6) ckX3 (oH_lt (h_t)) (cellO (h_t)) (j := 0) (by decide) rfl kf_X3_9 dX3_takeOver_6 ?_
  refine r_iconst (pc := 9) dX3_takeOver_9 ?_
  refine r_bipush (pc := 10) rfl dX3_takeOver_10 ?_
  refine r_copy (pc := 12) (sp := 0) (dp := 0) (n := 12) (oH_lt1 (h_s)) (oH_lt1 (h_t)) ((cellO1 (h_s)) _) (cellO1 (h_t)) (by omega) (by omega) (by omega) (by omega) (by omega) (by decide) (by decide) (by decide) (Nat.le_of_ble_eq_true rfl) kmcp_X3 dX3_takeOver_12 ?_
  obtain ⟨I1, eI1⟩ : ∃ J, J = upA I (oH t + 1) (cpyF (I (oH s + 1)) (I (oH t + 1)) 0 0 12) := ⟨_, rfl⟩
  refine r_I (J := I1) eI1.symm ?_
  have c1 := cpd_s (j := 0) hst (by decide) rfl cpd_0 eI1
  refine r_aload_n (pc := 15) (a := 1) (i := 1) 1 rfl rfl dX3_takeOver_15 ?_
  refine r_get (pc := 16) ckX3 (oH_lt (h_s)) (cellO (h_s)) (j := 1) (by decide) rfl kf_X3_15 dX3_takeOver_16 ?_
  refine r_iconst (pc := 19) dX3_takeOver_19 ?_
  refine r_aload_n (pc := 20) (a := 0) (i := 0) 0 rfl rfl dX3_takeOver_20 ?_
  refine r_get (pc := 21) ckX3 (oH_lt (h_t)) (cellO (h_t)) (j := 1) (by decide) rfl kf_X3_15 dX3_takeOver_21 ?_
  refine r_iconst (pc := 24) dX3_takeOver_24 ?_
  refine r_iconst (pc := 25) dX3_takeOver_25 ?_
  refine r_copy (pc := 26) (sp := 0) (dp := 0) (n := 4) (oH_lt2 (h_s)) (oH_lt2 (h_t)) ((cellO2 (h_s)) _) (cellO2 (h_t)) (by omega) (by omega) (by omega) (by omega) (by omega) (by decide) (by decide) (by decide) (Nat.le_of_ble_eq_true rfl) kmcp_X3 dX3_takeOver_26 ?_
  obtain ⟨I2, eI2⟩ : ∃ J, J = upA I1 (oH t + 2) (cpyF (I1 (oH s + 2)) (I1 (oH t + 2)) 0 0 4) := ⟨_, rfl⟩
  refine r_I (J := I2) eI2.symm ?_
  have c2 := cpd_s (j := 1) hst (by decide) rfl c1 eI2
  refine r_aload_n (pc := 29) (a := 1) (i := 1) 1 rfl rfl dX3_takeOver_29 ?_
  refine r_get (pc := 30) ckX3 (oH_lt (h_s)) (cellO (h_s)) (j := 2) (by decide) rfl kf_X3_18 dX3_takeOver_30 ?_
  refine r_iconst (pc := 33) dX3_takeOver_33 ?_
  refine r_aload_n (pc := 34) (a := 0) (i := 0) 0 rfl rfl dX3_takeOver_34 ?_
  refine r_get (pc := 35) ckX3 (oH_lt (h_t)) (cellO (h_t)) (j := 2) (by decide) rfl kf_X3_18 dX3_takeOver_35 ?_
  refine r_iconst (pc := 38) dX3_takeOver_38 ?_
  refine r_iconst (pc := 39) dX3_takeOver_39 ?_
  refine r_copy (pc := 40) (sp := 0) (dp := 0) (n := 4) (oH_lt3 (h_s)) (oH_lt3 (h_t)) ((cellO3 (h_s)) _) (cellO3 (h_t)) (by omega) (by omega) (by omega) (by omega) (by omega) (by decide) (by decide) (by decide) (Nat.le_of_ble_eq_true rfl) kmcp_X3 dX3_takeOver_40 ?_
  obtain ⟨I3, eI3⟩ : ∃ J, J = upA I2 (oH t + 3) (cpyF (I2 (oH s + 3)) (I2 (oH t + 3)) 0 0 4) := ⟨_, rfl⟩
  refine r_I (J := I3) eI3.symm ?_
  have c3 := cpd_s (j := 2) hst (by decide) rfl c2 eI3
  refine r_aload_n (pc := 43) (a := 1) (i := 1) 1 rfl rfl dX3_takeOver_43 ?_
  refine r_get (pc := 44) ckX3 (oH_lt (h_s)) (cellO (h_s)) (j := 3) (by decide) rfl kf_X3_21 dX3_takeOver_44 ?_
  refine r_iconst (pc := 47) dX3_takeOver_47 ?_
  refine r_aload_n (pc := 48) (a := 0) (i := 0) 0 rfl rfl dX3_takeOver_48 ?_
  refine r_get (pc := 49) ckX3 (oH_lt (h_t)) (cellO (h_t)) (j := 3) (by decide) rfl kf_X3_21 dX3_takeOver_49 ?_
  refine r_iconst (pc := 52) dX3_takeOver_52 ?_
  refine r_iconst (pc := 53) dX3_takeOver_53 ?_
  refine r_copy (pc := 54) (sp := 0) (dp := 0) (n := 4) (oH_lt4 (h_s)) (oH_lt4 (h_t)) ((cellO4 (h_s)) _) (cellO4 (h_t)) (by omega) (by omega) (by omega) (by omega) (by omega) (by decide) (by decide) (by decide) (Nat.le_of_ble_eq_true rfl) kmcp_X3 dX3_takeOver_54 ?_
  obtain ⟨I4, eI4⟩ : ∃ J, J = upA I3 (oH t + 4) (cpyF (I3 (oH s + 4)) (I3 (oH t + 4)) 0 0 4) := ⟨_, rfl⟩
  refine r_I (J := I4) eI4.symm ?_
  have c4 := cpd_s (j := 3) hst (by decide) rfl c3 eI4
  refine r_aload_n (pc := 57) (a := 1) (i := 1) 1 rfl rfl dX3_takeOver_57 ?_
  refine r_get (pc := 58) ckX3 (oH_lt (h_s)) (cellO (h_s)) (j := 4) (by decide) rfl kf_X3_24 dX3_takeOver_58 ?_
  refine r_iconst (pc := 61) dX3_takeOver_61 ?_
  refine r_aload_n (pc := 62) (a := 0) (i := 0) 0 rfl rfl dX3_takeOver_62 ?_
  refine r_get (pc := 63) ckX3 (oH_lt (h_t)) (cellO (h_t)) (j := 4) (by decide) rfl kf_X3_24 dX3_takeOver_63 ?_
  refine r_iconst (pc := 66) dX3_takeOver_66 ?_
  refine r_bipush (pc := 67) rfl dX3_takeOver_67 ?_
  refine r_copy (pc := 69) (sp := 0) (dp := 0) (n := 36) (oH_lt5 (h_s)) (oH_lt5 (h_t)) ((cellO5 (h_s)) _) (cellO5 (h_t)) (by omega) (by omega) (by omega) (by omega) (by omega) (by decide) (by decide) (by decide) (Nat.le_of_ble_eq_true rfl) kmcp_X3 dX3_takeOver_69 ?_
  obtain ⟨I5, eI5⟩ : ∃ J, J = upA I4 (oH t + 5) (cpyF (I4 (oH s + 5)) (I4 (oH t + 5)) 0 0 36) := ⟨_, rfl⟩
  refine r_I (J := I5) eI5.symm ?_
  have c5 := cpd_s (j := 4) hst (by decide) rfl c4 eI5
  refine r_aload_n (pc := 72) (a := 1) (i := 1) 1 rfl rfl dX3_takeOver_72 ?_
  refine r_get (pc := 73) ckX3 (oH_lt (h_s)) (cellO (h_s)) (j := 5) (by decide) rfl kf_X3_27 dX3_takeOver_73 ?_
  refine r_iconst (pc := 76) dX3_takeOver_76 ?_
  refine r_aload_n (pc := 77) (a := 0) (i := 0) 0 rfl rfl dX3_takeOver_77 ?_
  refine r_get (pc := 78) ckX3 (oH_lt (h_t)) (cellO (h_t)) (j := 5) (by decide) rfl kf_X3_27 dX3_takeOver_78 ?_
  refine r_iconst (pc := 81) dX3_takeOver_81 ?_
  refine r_bipush (pc := 82) rfl dX3_takeOver_82 ?_
  refine r_copy (pc := 84) (sp := 0) (dp := 0) (n := 16) (oH_lt6 (h_s)) (oH_lt6 (h_t)) ((cellO6 (h_s)) _) (cellO6 (h_t)) (by omega) (by omega) (by omega) (by omega) (by omega) (by decide) (by decide) (by decide) (Nat.le_of_ble_eq_true rfl) kmcp_X3 dX3_takeOver_84 ?_
  obtain ⟨I6, eI6⟩ : ∃ J, J = upA I5 (oH t + 6) (cpyF (I5 (oH s + 6)) (I5 (oH t + 6)) 0 0 16) := ⟨_, rfl⟩
  refine r_I (J := I6) eI6.symm ?_
  have c6 := cpd_s (j := 5) hst (by decide) rfl c5 eI6
  refine r_aload_n (pc := 87) (a := 1) (i := 1) 1 rfl rfl dX3_takeOver_87 ?_
  refine r_get (pc := 88) ckX3 (oH_lt (h_s)) (cellO (h_s)) (j := 6) (by decide) rfl kf_X3_30 dX3_takeOver_88 ?_
  refine r_iconst (pc := 91) dX3_takeOver_91 ?_
  refine r_aload_n (pc := 92) (a := 0) (i := 0) 0 rfl rfl dX3_takeOver_92 ?_
  refine r_get (pc := 93) ckX3 (oH_lt (h_t)) (cellO (h_t)) (j := 6) (by decide) rfl kf_X3_30 dX3_takeOver_93 ?_
  refine r_iconst (pc := 96) dX3_takeOver_96 ?_
  refine r_bipush (pc := 97) rfl dX3_takeOver_97 ?_
  refine r_copy (pc := 99) (sp := 0) (dp := 0) (n := 16) (oH_lt7 (h_s)) (oH_lt7 (h_t)) ((cellO7 (h_s)) _) (cellO7 (h_t)) (by omega) (by omega) (by omega) (by omega) (by omega) (by decide) (by decide) (by decide) (Nat.le_of_ble_eq_true rfl) kmcp_X3 dX3_takeOver_99 ?_
  obtain ⟨I7, eI7⟩ : ∃ J, J = upA I6 (oH t + 7) (cpyF (I6 (oH s + 7)) (I6 (oH t + 7)) 0 0 16) := ⟨_, rfl⟩
  refine r_I (J := I7) eI7.symm ?_
  have c7 := cpd_s (j := 6) hst (by decide) rfl c6 eI7
  refine r_aload_n (pc := 102) (a := 1) (i := 1) 1 rfl rfl dX3_takeOver_102 ?_
  refine r_get (pc := 103) ckX3 (oH_lt (h_s)) (cellO (h_s)) (j := 7) (by decide) rfl kf_X3_33 dX3_takeOver_103 ?_
  refine r_iconst (pc := 106) dX3_takeOver_106 ?_
  refine r_aload_n (pc := 107) (a := 0) (i := 0) 0 rfl rfl dX3_takeOver_107 ?_
  refine r_get (pc := 108) ckX3 (oH_lt (h_t)) (cellO (h_t)) (j := 7) (by decide) rfl kf_X3_33 dX3_takeOver_108 ?_
  refine r_iconst (pc := 111) dX3_takeOver_111 ?_
  refine r_bipush (pc := 112) rfl dX3_takeOver_112 ?_
  refine r_copy (pc := 114) (sp := 0) (dp := 0) (n := 16) (oH_lt8 (h_s)) (oH_lt8 (h_t)) ((cellO8 (h_s)) _) (cellO8 (h_t)) (by omega) (by omega) (by omega) (by omega) (by omega) (by decide) (by decide) (by decide) (Nat.le_of_ble_eq_true rfl) kmcp_X3 dX3_takeOver_114 ?_
  obtain ⟨I8, eI8⟩ : ∃ J, J = upA I7 (oH t + 8) (cpyF (I7 (oH s + 8)) (I7 (oH t + 8)) 0 0 16) := ⟨_, rfl⟩
  refine r_I (J := I8) eI8.symm ?_
  have c8 := cpd_s (j := 7) hst (by decide) rfl c7 eI8
  refine r_aload_n (pc := 117) (a := 0) (i := 0) 0 rfl rfl dX3_takeOver_117 ?_
  refine r_aload_n (pc := 118) (a := 1) (i := 1) 1 rfl rfl dX3_takeOver_118 ?_
  refine r_get (pc := 119) ckX3 (oH_lt (h_s)) (cellO (h_s)) (j := 8) (by decide) rfl kf_X3_36 dX3_takeOver_119 ?_
  refine r_put (pc := 122) 8 (ji := 8) rfl ckX3 (oH_lt (h_t)) (cellO (h_t)) (cellOp8 (h_t)) (by decide) (Nat.le_of_ble_eq_true rfl) kf_X3_36 rfl rfl rfl rfl dX3_takeOver_122 ?_
  refine r_aload_n (pc := 125) (a := 0) (i := 0) 0 rfl rfl dX3_takeOver_125 ?_
  refine r_aload_n (pc := 126) (a := 1) (i := 1) 1 rfl rfl dX3_takeOver_126 ?_
  refine r_get (pc := 127) ckX3 (oH_lt (h_s)) (cellO (h_s)) (j := 9) (by decide) (show _ = some (iv (I8 (oH s) 9)) by rw [← (show (up I8 (oH t) 8 (I8 (oH s) 8)) (oH s) 9 = I8 (oH s) 9 by simp only [up_row hne])]; rfl) kf_X3_40 dX3_takeOver_127 ?_
  refine r_put (pc := 130) 9 (ji := 9) rfl ckX3 (oH_lt (h_t)) (cellO (h_t)) (cellOp9 (h_t)) (by decide) (Nat.le_of_ble_eq_true rfl) kf_X3_40 rfl rfl rfl rfl dX3_takeOver_130 ?_
  refine r_aload_n (pc := 133) (a := 0) (i := 0) 0 rfl rfl dX3_takeOver_133 ?_
  refine r_aload_n (pc := 134) (a := 1) (i := 1) 1 rfl rfl dX3_takeOver_134 ?_
  refine r_get (pc := 135) ckX3 (oH_lt (h_s)) (cellO (h_s)) (j := 10) (by decide) (show _ = some (iv (I8 (oH s) 10)) by rw [← (show (up (up I8 (oH t) 8 (I8 (oH s) 8)) (oH t) 9 (I8 (oH s) 9)) (oH s) 10 = I8 (oH s) 10 by simp only [up_row hne])]; rfl) kf_X3_43 dX3_takeOver_135 ?_
  refine r_put (pc := 138) 10 (ji := 10) rfl ckX3 (oH_lt (h_t)) (cellO (h_t)) (cellOp10 (h_t)) (by decide) (Nat.le_of_ble_eq_true rfl) kf_X3_43 rfl rfl rfl rfl dX3_takeOver_138 ?_
  refine r_aload_n (pc := 141) (a := 0) (i := 0) 0 rfl rfl dX3_takeOver_141 ?_
  refine r_aload_n (pc := 142) (a := 1) (i := 1) 1 rfl rfl dX3_takeOver_142 ?_
  refine r_get (pc := 143) ckX3 (oH_lt (h_s)) (cellO (h_s)) (j := 11) (by decide) (show _ = some (iv (I8 (oH s) 11)) by rw [← (show (up (up (up I8 (oH t) 8 (I8 (oH s) 8)) (oH t) 9 (I8 (oH s) 9)) (oH t) 10 (I8 (oH s) 10)) (oH s) 11 = I8 (oH s) 11 by simp only [up_row hne])]; rfl) kf_X3_46 dX3_takeOver_143 ?_
  refine r_put (pc := 146) 11 (ji := 11) rfl ckX3 (oH_lt (h_t)) (cellO (h_t)) (cellOp11 (h_t)) (by decide) (Nat.le_of_ble_eq_true rfl) kf_X3_46 rfl rfl rfl rfl dX3_takeOver_146 ?_
  refine r_vret (pc := 149) (st := []) rfl dX3_takeOver_149 ?_
  exact ⟨rfl, cpd_8 hst c8 rfl⟩

set_option maxRecDepth 100000 in
set_option maxHeartbeats 4000000 in
theorem kX3_clear (X : XC) {I : HD} {o : Nat} (h_o : o < 28) : Cl X 0 mX3_clear [rv X (oH o)] I (Kv (up (up (up (up I (oH o) 8 0) (oH o) 9 0) (oH o) 10 0) (oH o) 11 0)) := by
  refine Cl.of (by decide) (Nat.le_of_ble_eq_true rfl) ?_
  show Rn X 0 mX3_clear _ 0 [(0, rv X (oH o))] [] I
  refine r_aload_n (pc := 0) (a := 0) (i := 0) 0 rfl rfl dX3_clear_0 ?_
  refine r_iconst (pc := 1) dX3_clear_1 ?_
  refine r_put (pc := 2) 8 (ji := 8) rfl ckX3 (oH_lt (h_o)) (cellO (h_o)) (cellOp8 (h_o)) (by decide) (Nat.le_of_ble_eq_true rfl) kf_X3_36 rfl rfl rfl rfl dX3_clear_2 ?_
  refine r_aload_n (pc := 5) (a := 0) (i := 0) 0 rfl rfl dX3_clear_5 ?_
  refine r_iconst (pc := 6) dX3_clear_6 ?_
  refine r_put (pc := 7) 9 (ji := 9) rfl ckX3 (oH_lt (h_o)) (cellO (h_o)) (cellOp9 (h_o)) (by decide) (Nat.le_of_ble_eq_true rfl) kf_X3_40 rfl rfl rfl rfl dX3_clear_7 ?_
  refine r_aload_n (pc := 10) (a := 0) (i := 0) 0 rfl rfl dX3_clear_10 ?_
  refine r_iconst (pc := 11) dX3_clear_11 ?_
  refine r_put (pc := 12) 10 (ji := 10) rfl ckX3 (oH_lt (h_o)) (cellO (h_o)) (cellOp10 (h_o)) (by decide) (Nat.le_of_ble_eq_true rfl) kf_X3_43 rfl rfl rfl rfl dX3_clear_12 ?_
  refine r_aload_n (pc := 15) (a := 0) (i := 0) 0 rfl rfl dX3_clear_15 ?_
  refine r_iconst (pc := 16) dX3_clear_16 ?_
  refine r_put (pc := 17) 11 (ji := 11) rfl ckX3 (oH_lt (h_o)) (cellO (h_o)) (cellOp11 (h_o)) (by decide) (Nat.le_of_ble_eq_true rfl) kf_X3_46 rfl rfl rfl rfl dX3_clear_17 ?_
  refine r_vret (pc := 20) (st := []) rfl dX3_clear_20 ?_
  exact ⟨rfl, rfl⟩

set_option maxRecDepth 100000 in
set_option maxHeartbeats 4000000 in
theorem rX3_at (X : XC) {I : HD} {o : Nat} (h_o : o < 28) {d k : Int} (h2 : 0 ≤ d * 9 + k) (h3 : d * 9 + k < 36) : Cl X 0 mX3_at [rv X (oH o), iv d, iv k] I (Ki (I (oH o + 5) (d * 9 + k)) I) := by
  refine Cl.of (by decide) (Nat.le_of_ble_eq_true rfl) ?_
  show Rn X 0 mX3_at _ 0 [(0, rv X (oH o)), (1, iv d), (2, iv k)] [] I
  refine r_aload_n (pc := 0) (a := 0) (i := 0) 0 rfl rfl dX3_at_0 ?_
  refine r_get (pc := 1) ckX3 (oH_lt (h_o)) (cellO (h_o)) (j := 4) (by decide) rfl kf_X3_24 dX3_at_1 ?_
  refine r_iload_n (pc := 4) (a := 1) (i := 1) 1 rfl rfl dX3_at_4 ?_
  refine r_bipush (pc := 5) rfl dX3_at_5 ?_
  refine r_imul (pc := 7) dX3_at_7 ?_
  refine r_iload_n (pc := 8) (a := 2) (i := 2) 2 rfl rfl dX3_at_8 ?_
  refine r_iadd (pc := 9) dX3_at_9 ?_
  refine r_iald (pc := 10) (z := I (oH o + 5) ((d * 9) + k)) (oH_lt5 (h_o)) ((cellO5 (h_o)) _) (by omega) (by omega) (by decide) (rfl) dX3_at_10 ?_
  refine r_iret (pc := 11) (st := []) rfl dX3_at_11 ?_
  exact ⟨rfl, rfl⟩

set_option maxRecDepth 100000 in
set_option maxHeartbeats 4000000 in
theorem kX3_putOn (X : XC) {I : HD} {O : OF} {o : Nat} (h_o : o < 28) (hR : RepC O I o) (hV : Val O) {d : Int} (h0 : 0 ≤ d) (h1 : d < O 0) {p : Int} (hr : O (23 + 10 * d) < O (15 + 2 * d)) : Cl X 1 mX3_putOn [rv X (oH o), iv p, iv d] I (fun r J => r = none ∧ frO I J o ∧ RepC (cmO O d p) J o) := by
  refine Cl.of (by decide) (Nat.le_of_ble_eq_true rfl) ?_
  show Rn X 1 mX3_putOn _ 0 [(0, rv X (oH o)), (1, iv p), (2, iv d)] [] I
  have q0 := hV.a
  have q1 := hV.d h0 h1
  refine r_aload_n (pc := 0) (a := 0) (i := 0) 0 rfl rfl dX3_putOn_0 ?_
  refine r_iload_n (pc := 1) (a := 2) (i := 2) 2 rfl rfl dX3_putOn_1 ?_
  refine r_callVi (pc := 2) (st := []) (As := [iv d]) okX3_hasRoom (by decide) (oH_lt (h_o)) (cellO (h_o)) rfl rfl (Nat.le_of_ble_eq_true rfl) km_X3_59 (kX3_hasRoom X h_o hR hV (by omega) (by omega)) dX3_putOn_2 ?_
  refine r_if_eq (pc := 5) 35 rg_bI dX3_putOn_5 (by decide) (fun h5 => ?_) (fun h5 => ?_)
  · exact absurd (bI_0.mp h5) (by omega)
  · skip
    have h5 := bI_n.mp h5
    refine r_aload_n (pc := 8) (a := 0) (i := 0) 0 rfl rfl dX3_putOn_8 ?_
    refine r_get (pc := 9) ckX3 (oH_lt (h_o)) (cellO (h_o)) (j := 4) (by decide) rfl kf_X3_24 dX3_putOn_9 ?_
    refine r_iload_n (pc := 12) (a := 2) (i := 2) 2 rfl rfl dX3_putOn_12 ?_
    refine r_bipush (pc := 13) rfl dX3_putOn_13 ?_
    refine r_imul (pc := 15) dX3_putOn_15 ?_
    refine r_aload_n (pc := 16) (a := 0) (i := 0) 0 rfl rfl dX3_putOn_16 ?_
    refine r_get (pc := 17) ckX3 (oH_lt (h_o)) (cellO (h_o)) (j := 3) (by decide) rfl kf_X3_21 dX3_putOn_17 ?_
    refine r_iload_n (pc := 20) (a := 2) (i := 2) 2 rfl rfl dX3_putOn_20 ?_
    refine r_iald (pc := 21) (z := O (23 + 10 * d)) (oH_lt4 (h_o)) ((cellO4 (h_o)) _) (by omega) (by omega) (by decide) (hR.hgt (by omega) (by omega)) dX3_putOn_21 ?_
    refine r_iadd (pc := 22) dX3_putOn_22 ?_
    refine r_iload_n (pc := 23) (a := 1) (i := 1) 1 rfl rfl dX3_putOn_23 ?_
    refine r_iast (pc := 24) (oH_lt5 (h_o)) (cellO5 (h_o)) (by omega) (by omega) (by decide) dX3_putOn_24 ?_
    refine r_aload_n (pc := 25) (a := 0) (i := 0) 0 rfl rfl dX3_putOn_25 ?_
    refine r_get (pc := 26) ckX3 (oH_lt (h_o)) (cellO (h_o)) (j := 3) (by decide) rfl kf_X3_21 dX3_putOn_26 ?_
    refine r_iload_n (pc := 29) (a := 2) (i := 2) 2 rfl rfl dX3_putOn_29 ?_
    refine r_dup2 (pc := 30) rfl rfl dX3_putOn_30 ?_
    refine r_iald (pc := 31) (z := O (23 + 10 * d)) (oH_lt4 (h_o)) ((cellO4 (h_o)) _) (by omega) (by omega) (by decide) ((show (up I (oH o + 5) ((d * 9) + (O (23 + 10 * d))) p) (oH o + 4) d = O (23 + 10 * d) by rw [up_row (by omega)]; exact hR.hgt h0 h1)) dX3_putOn_31 ?_
    refine r_iconst (pc := 32) dX3_putOn_32 ?_
    refine r_iadd (pc := 33) dX3_putOn_33 ?_
    refine r_iast (pc := 34) (oH_lt4 (h_o)) (cellO4 (h_o)) (by omega) (by omega) (by decide) dX3_putOn_34 ?_
    refine r_vret (pc := 35) (st := []) rfl dX3_putOn_35 ?_
    exact ⟨rfl, RepC.come hV hR h0 h1 hr rfl⟩

set_option maxRecDepth 100000 in
set_option maxHeartbeats 4000000 in
theorem kX3_takeOff (X : XC) {I : HD} {O : OF} {o : Nat} (h_o : o < 28) (hR : RepC O I o) (hV : Val O) {p : Int} (hp0 : 0 ≤ p) (hp1 : p < O 1) (hdk : 0 ≤ dk O p) : Cl X 4 mX3_takeOff [rv X (oH o), iv p] I (fun r J => r = none ∧ frO I J o ∧ RepC (lvO O (dk O p) (O (23 + 10 * dk O p) - 1 - ab O p)) J o) := by
  refine Cl.of (by decide) (Nat.le_of_ble_eq_true rfl) ?_
  show Rn X 4 mX3_takeOff _ 0 [(0, rv X (oH o)), (1, iv p)] [] I
  have q0 := hV.a
  have ql := @dk_lt O p
  have h1 := (dk_on hdk).1
  have q1 := hV.d hdk h1
  have qa := ab_r hdk
  refine r_aload_n (pc := 0) (a := 0) (i := 0) 0 rfl rfl dX3_takeOff_0 ?_
  refine r_iload_n (pc := 1) (a := 1) (i := 1) 1 rfl rfl dX3_takeOff_1 ?_
  refine r_callVi (pc := 2) (st := []) (As := [iv p]) okX3_deskOf (by decide) (oH_lt (h_o)) (cellO (h_o)) rfl rfl (Nat.le_of_ble_eq_true rfl) km_X3_63 (kX3_deskOf X h_o hR hV (by omega) (by omega)) dX3_takeOff_2 ?_
  refine r_istore_n (pc := 5) (a := 2) (i := 2) rfl [(2, iv (dk O p)), (0, rv X (oH o)), (1, iv p)] (by decide) rfl dX3_takeOff_5 ?_
  refine r_iload_n (pc := 6) (a := 2) (i := 2) 0 rfl rfl dX3_takeOff_6 ?_
  refine r_if_ge (pc := 7) 11 (by unfold rg; omega) dX3_takeOff_7 (by decide) (fun h7 => ?_) (fun h7 => ?_)
  · skip
    refine r_aload_n (pc := 11) (a := 0) (i := 0) 1 rfl rfl dX3_takeOff_11 ?_
    refine r_get (pc := 12) ckX3 (oH_lt (h_o)) (cellO (h_o)) (j := 3) (by decide) rfl kf_X3_21 dX3_takeOff_12 ?_
    refine r_iload_n (pc := 15) (a := 2) (i := 2) 0 rfl rfl dX3_takeOff_15 ?_
    refine r_iald (pc := 16) (z := O (23 + 10 * (dk O p))) (oH_lt4 (h_o)) ((cellO4 (h_o)) _) (by omega) (by omega) (by decide) (hR.hgt (by omega) (by omega)) dX3_takeOff_16 ?_
    refine r_iconst (pc := 17) dX3_takeOff_17 ?_
    refine r_isub (pc := 18) dX3_takeOff_18 ?_
    refine r_istore_n (pc := 19) (a := 3) (i := 3) rfl [(3, iv ((O (23 + 10 * (dk O p))) - 1)), (2, iv (dk O p)), (0, rv X (oH o)), (1, iv p)] (by decide) rfl dX3_takeOff_19 ?_
    refine r_iload_n (pc := 20) (a := 3) (i := 3) 0 rfl rfl dX3_takeOff_20 ?_
    refine r_aload_n (pc := 21) (a := 0) (i := 0) 2 rfl rfl dX3_takeOff_21 ?_
    refine r_iload_n (pc := 22) (a := 1) (i := 1) 3 rfl rfl dX3_takeOff_22 ?_
    refine r_callVi (pc := 23) (st := [iv ((O (23 + 10 * (dk O p))) - 1)]) (As := [iv p]) okX3_above (by decide) (oH_lt (h_o)) (cellO (h_o)) rfl rfl (Nat.le_of_ble_eq_true rfl) km_X3_67 (kX3_above X h_o hR hV (by omega) (by omega)) dX3_takeOff_23 ?_
    refine r_isub (pc := 26) dX3_takeOff_26 ?_
    refine r_istore (pc := 27) [(4, iv (((O (23 + 10 * (dk O p))) - 1) - (ab O p))), (3, iv ((O (23 + 10 * (dk O p))) - 1)), (2, iv (dk O p)), (0, rv X (oH o)), (1, iv p)] (by decide) rfl dX3_takeOff_27 ?_
    refine r_I (J := upA I (oH o + 5) (shF (I (oH o + 5)) (dk O p * 9 + (O (23 + 10 * dk O p) - 1 - ab O p)) (dk O p * 9 + (O (23 + 10 * dk O p) - 1 - ab O p)))) (by rw [shF_0]; exact upA_z) ?_
    have at29 : ∀ (n29 : Nat) (i : Int), (O (23 + 10 * dk O p) - 1 - i).toNat < n29 → (hi0 : O (23 + 10 * dk O p) - 1 - ab O p ≤ i) → (hi1 : i ≤ O (23 + 10 * dk O p) - 1) → Rn X 4 mX3_takeOff (fun r J => r = none ∧ frO I J o ∧ RepC (lvO O (dk O p) (O (23 + 10 * dk O p) - 1 - ab O p)) J o) 29 [(0, rv X (oH o)), (1, iv p), (2, iv (dk O p)), (3, iv (O (23 + 10 * dk O p) - 1)), (4, iv i)] [] (upA I (oH o + 5) (shF (I (oH o + 5)) (dk O p * 9 + (O (23 + 10 * dk O p) - 1 - ab O p)) (dk O p * 9 + i))) := by
      intro n29
      induction n29 with
      | zero => intro i hm; omega
      | succ n29 ih29 =>
        intro i hm29 hi0 hi1
        refine r_iload (pc := 29) 4 rfl dX3_takeOff_29 ?_
        refine r_iload_n (pc := 31) (a := 3) (i := 3) 3 rfl rfl dX3_takeOff_31 ?_
        refine r_icmp_ge (pc := 32) 62 (by unfold rg; omega) (by unfold rg; omega) dX3_takeOff_32 (by decide) (fun h32 => ?_) (fun h32 => ?_)
        · skip
          refine r_aload_n (pc := 62) (a := 0) (i := 0) 0 rfl rfl dX3_takeOff_62 ?_
          refine r_get (pc := 63) ckX3 (oH_lt (h_o)) (cellO (h_o)) (j := 3) (by decide) rfl kf_X3_21 dX3_takeOff_63 ?_
          refine r_iload_n (pc := 66) (a := 2) (i := 2) 2 rfl rfl dX3_takeOff_66 ?_
          refine r_iload_n (pc := 67) (a := 3) (i := 3) 3 rfl rfl dX3_takeOff_67 ?_
          refine r_iast (pc := 68) (oH_lt4 (h_o)) (cellO4 (h_o)) (by omega) (by omega) (by decide) dX3_takeOff_68 ?_
          refine r_vret (pc := 69) (st := []) rfl dX3_takeOff_69 ?_
          exact ⟨rfl, RepC.leave hV hR hdk h1 (by omega) (by omega) (by rw [show O (23 + 10 * dk O p) - 1 = i by omega])⟩
        · skip
          refine r_aload_n (pc := 35) (a := 0) (i := 0) 0 rfl rfl dX3_takeOff_35 ?_
          refine r_get (pc := 36) ckX3 (oH_lt (h_o)) (cellO (h_o)) (j := 4) (by decide) rfl kf_X3_24 dX3_takeOff_36 ?_
          refine r_iload_n (pc := 39) (a := 2) (i := 2) 2 rfl rfl dX3_takeOff_39 ?_
          refine r_bipush (pc := 40) rfl dX3_takeOff_40 ?_
          refine r_imul (pc := 42) dX3_takeOff_42 ?_
          refine r_iload (pc := 43) 4 rfl dX3_takeOff_43 ?_
          refine r_iadd (pc := 45) dX3_takeOff_45 ?_
          refine r_aload_n (pc := 46) (a := 0) (i := 0) 0 rfl rfl dX3_takeOff_46 ?_
          refine r_iload_n (pc := 47) (a := 2) (i := 2) 2 rfl rfl dX3_takeOff_47 ?_
          refine r_iload (pc := 48) 4 rfl dX3_takeOff_48 ?_
          refine r_iconst (pc := 50) dX3_takeOff_50 ?_
          refine r_iadd (pc := 51) dX3_takeOff_51 ?_
          refine r_callVi (pc := 52) (st := [iv (((dk O p) * 9) + i), rv X (oH o + 5)]) (As := [iv (dk O p), iv (i + 1)]) okX3_at (by decide) (oH_lt (h_o)) (cellO (h_o)) rfl rfl (Nat.le_of_ble_eq_true rfl) km_X3_70 (rX3_at X h_o (by omega) (by omega)) dX3_takeOff_52 ?_
          refine r_iast (pc := 55) (oH_lt5 (h_o)) (cellO5 (h_o)) (by omega) (by omega) (by decide) dX3_takeOff_55 ?_
          refine r_I (J := upA I (oH o + 5) (shF (I (oH o + 5)) (dk O p * 9 + (O (23 + 10 * dk O p) - 1 - ab O p)) (dk O p * 9 + (i + 1)))) (shF_s (by omega) (by omega) (by rw [upA_s]; unfold shF; rw [if_neg (by omega), show dk O p * 9 + (i + 1) = dk O p * 9 + i + 1 by omega])) ?_
          refine r_iinc (pc := 56) 4 [(4, iv (i + 1)), (0, rv X (oH o)), (1, iv p), (2, iv (dk O p)), (3, iv (O (23 + 10 * dk O p) - 1))] rfl (by decide) rfl dX3_takeOff_56 ?_
          refine r_goto (pc := 59) 29 dX3_takeOff_59 (by decide) ?_
          refine r_lv [1, 2, 3, 4, 0] [(0, rv X (oH o)), (1, iv p), (2, iv (dk O p)), (3, iv (O (23 + 10 * dk O p) - 1)), (4, iv (i + 1))] rfl ?_
          exact ih29 (i + 1) (by omega) (by omega) (by omega)
    refine r_lv [3, 4, 2, 1, 0] [(0, rv X (oH o)), (1, iv p), (2, iv (dk O p)), (3, iv ((O (23 + 10 * (dk O p))) - 1)), (4, iv (((O (23 + 10 * (dk O p))) - 1) - (ab O p)))] rfl ?_
    exact at29 _ (((O (23 + 10 * (dk O p))) - 1) - (ab O p)) (Nat.lt_succ_self _) (by omega) (by omega)
  · exact absurd h7 (by omega)
