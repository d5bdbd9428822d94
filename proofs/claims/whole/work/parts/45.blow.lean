set_option maxRecDepth 100000 in
set_option maxHeartbeats 4000000 in
theorem kX3_blow (X : XC) {I : HD} {O : OF} {o : Nat} (h_o : o < 28) (hR : RepC O I o) (hV : Val O) : Cl X 3 mX3_blow [rv X (oH o)] I (fun r J => r = some (iv ((bset (tbg O 0) 16 : Nat) : Int)) ∧ frO I J o ∧ RepC (blN O (O 0)) J o) := by
  refine Cl.of (by decide) (Nat.le_of_ble_eq_true rfl) ?_
  show Rn X 3 mX3_blow _ 0 [(0, rv X (oH o))] [] I
  have q0 := hV.a
  refine r_aload_n (pc := 0) (a := 0) (i := 0) 0 rfl rfl dX3_blow_0 ?_
  refine r_iconst (pc := 1) dX3_blow_1 ?_
  refine r_callVi (pc := 2) (st := []) (As := [iv 0]) okX3_takenByGust (by decide) (oH_lt (h_o)) (cellO (h_o)) rfl rfl (Nat.le_of_ble_eq_true rfl) km_X3_94 (kX3_takenByGust X h_o hR hV (by omega) (by omega)) dX3_blow_2 ?_
  refine r_istore_n (pc := 5) (a := 1) (i := 1) rfl [(1, iv ((bset (tbg O 0) 16 : Nat) : Int)), (0, rv X (oH o))] (by decide) rfl dX3_blow_5 ?_
  refine r_iconst (pc := 6) dX3_blow_6 ?_
  refine r_istore_n (pc := 7) (a := 2) (i := 2) rfl [(2, iv 0), (1, iv ((bset (tbg O 0) 16 : Nat) : Int)), (0, rv X (oH o))] (by decide) rfl dX3_blow_7 ?_
  have at8 : ∀ (n8 : Nat) (J : HD) (d : Int), (O 0 - d).toNat < n8 → (hd0 : 0 ≤ d) → (hd1 : d ≤ O 0) → (hfJ : frO I J o) → (hJ : RepC (blN O d) J o) → Rn X 3 mX3_blow (fun r J => r = some (iv ((bset (tbg O 0) 16 : Nat) : Int)) ∧ frO I J o ∧ RepC (blN O (O 0)) J o) 8 [(0, rv X (oH o)), (1, iv ((bset (tbg O 0) 16 : Nat) : Int)), (2, iv d)] [] J := by
    intro n8
    induction n8 with
    | zero => intro J d hm; omega
    | succ n8 ih8 =>
      intro J d hm8 hd0 hd1 hfJ hJ
      have b0 : blN O d 0 = O 0 := blN_k (by omega) (by omega)
      refine r_iload_n (pc := 8) (a := 2) (i := 2) 2 rfl rfl dX3_blow_8 ?_
      refine r_aload_n (pc := 9) (a := 0) (i := 0) 0 rfl rfl dX3_blow_9 ?_
      refine r_get (pc := 10) ckX3 (oH_lt (h_o)) (cellO (h_o)) (j := 8) (by decide) (congrArg (fun q => some (iv q)) ((hJ.f0).trans (blN_k (by omega) (by omega)))) kf_X3_36 dX3_blow_10 ?_
      refine r_icmp_ge (pc := 13) 37 (by unfold rg; omega) (by unfold rg; omega) dX3_blow_13 (by decide) (fun h13 => ?_) (fun h13 => ?_)
      · skip
        refine r_iload_n (pc := 37) (a := 1) (i := 1) 1 rfl rfl dX3_blow_37 ?_
        refine r_iret (pc := 38) (st := []) rfl dX3_blow_38 ?_
        exact ⟨rfl, hfJ, by rw [show O 0 = d by omega]; exact hJ⟩
      · skip
        have h1 : d < O 0 := by omega
        have q1 := hV.d hd0 h1
        refine r_aload_n (pc := 16) (a := 0) (i := 0) 0 rfl rfl dX3_blow_16 ?_
        refine r_get (pc := 17) ckX3 (oH_lt (h_o)) (cellO (h_o)) (j := 3) (by decide) rfl kf_X3_21 dX3_blow_17 ?_
        refine r_iload_n (pc := 20) (a := 2) (i := 2) 2 rfl rfl dX3_blow_20 ?_
        refine r_dup2 (pc := 21) rfl rfl dX3_blow_21 ?_
        refine r_iald (pc := 22) (z := O (23 + 10 * d)) (oH_lt4 (h_o)) ((cellO4 (h_o)) _) (by omega) (by omega) (by decide) (((hJ.hgt hd0 (by rw [b0]; exact h1)).trans (blN_g (by omega)))) dX3_blow_22 ?_
        refine r_aload_n (pc := 23) (a := 0) (i := 0) 0 rfl rfl dX3_blow_23 ?_
        refine r_iload_n (pc := 24) (a := 2) (i := 2) 2 rfl rfl dX3_blow_24 ?_
        refine r_iconst (pc := 25) dX3_blow_25 ?_
        refine r_callVi (pc := 26) (st := [iv (O (23 + 10 * d)), iv d, rv X (oH o + 4)]) (As := [iv d, iv 1]) (D2 := 1) okX3_takenFrom (by decide) (oH_lt (h_o)) (cellO (h_o)) rfl rfl (Nat.le_of_ble_eq_true rfl) km_X3_91 ((by have := kX3_takenFrom X h_o hJ (hV.blow (n := d) (by omega)) (d := d) (n := 1) hd0 (by rw [b0]; exact h1) (by omega) (by omega); rw [show (1 : Int).toNat = 1 from rfl, tfv_bl hV (by omega) hd0 h1 (Int.le_refl d)] at this; exact this)) dX3_blow_26 ?_
        refine r_isub (pc := 29) dX3_blow_29 ?_
        refine r_iast (pc := 30) (oH_lt4 (h_o)) (cellO4 (h_o)) (by omega) (by omega) (by decide) dX3_blow_30 ?_
        refine r_iinc (pc := 31) 2 [(2, iv (d + 1)), (0, rv X (oH o)), (1, iv ((bset (tbg O 0) 16 : Nat) : Int))] rfl (by decide) rfl dX3_blow_31 ?_
        refine r_goto (pc := 34) 8 dX3_blow_34 (by decide) ?_
        refine r_lv [1, 2, 0] [(0, rv X (oH o)), (1, iv ((bset (tbg O 0) 16 : Nat) : Int)), (2, iv (d + 1))] rfl ?_
        exact ih8 (up J (oH o + 4) d ((O (23 + 10 * d)) - (tfv O d 1))) (d + 1) (by omega) (by omega) (by omega) (hfJ.up (by omega) (by omega)) (RepC.blow hV hd0 h1 hJ rfl)
  refine r_lv [2, 1, 0] [(0, rv X (oH o)), (1, iv ((bset (tbg O 0) 16 : Nat) : Int)), (2, iv 0)] rfl ?_
  exact at8 _ I 0 (Nat.lt_succ_self _) (by omega) (by omega) (frO.rf) (by rw [blN_0]; exact hR)
