set_option maxRecDepth 100000 in
set_option maxHeartbeats 4000000 in
theorem kX8_standingRows (X : XC) {I : HD} (hE : RE I I) : Cl X 1 mX8_standingRows [rv X 0] I (Ki (stn (I 31) 8) I) := by
  refine Cl.of (by decide) (Nat.le_of_ble_eq_true rfl) ?_
  show Rn X 1 mX8_standingRows _ 0 [(0, rv X 0)] [] I
  refine r_iconst (pc := 0) dX8_standingRows_0 ?_
  refine r_istore_n (pc := 1) (a := 1) (i := 1) rfl [(1, iv 0), (0, rv X 0)] (by decide) rfl dX8_standingRows_1 ?_
  refine r_iconst (pc := 2) dX8_standingRows_2 ?_
  refine r_istore_n (pc := 3) (a := 2) (i := 2) rfl [(2, iv 0), (1, iv 0), (0, rv X 0)] (by decide) rfl dX8_standingRows_3 ?_
  have at4 : ∀ (n4 : Nat) (t : Int) (r : Int), (8 - r).toNat < n4 → (hr0 : 0 ≤ r) → (hr1 : r ≤ 8) → (ht : t = stn (I 31) r.toNat) → Rn X 1 mX8_standingRows (Ki (stn (I 31) 8) I) 4 [(0, rv X 0), (1, iv t), (2, iv r)] [] I := by
    intro n4
    induction n4 with
    | zero => intro t r hm; omega
    | succ n4 ih4 =>
      intro t r hm4 hr0 hr1 ht
      refine r_iload_n (pc := 4) (a := 2) (i := 2) 2 rfl rfl dX8_standingRows_4 ?_
      refine r_bipush (pc := 5) rfl dX8_standingRows_5 ?_
      refine r_icmp_ge (pc := 7) 31 (by unfold rg; omega) (by unfold rg; omega) dX8_standingRows_7 (by decide) (fun h7 => ?_) (fun h7 => ?_)
      · skip
        refine r_iload_n (pc := 31) (a := 1) (i := 1) 1 rfl rfl dX8_standingRows_31 ?_
        refine r_iret (pc := 32) (st := []) rfl dX8_standingRows_32 ?_
        exact ⟨by rw [ht, show r = 8 by omega]; rfl, rfl⟩
      · skip
        obtain ⟨g1, g2, g3, g4, g5⟩ := hE r hr0 (by omega)
        refine r_aload_n (pc := 10) (a := 0) (i := 0) 0 rfl rfl dX8_standingRows_10 ?_
        refine r_get (pc := 11) ckX8 (by decide) rfl (j := 0) (by decide) rfl kf_X8_11 dX8_standingRows_11 ?_
        refine r_iload_n (pc := 14) (a := 2) (i := 2) 2 rfl rfl dX8_standingRows_14 ?_
        refine r_aald (pc := 15) (g := (fun j => 2 + j)) (C := RX5) (by decide) rfl rfl (by omega) (by omega) (by decide) dX8_standingRows_15 ?_
        refine r_callVi (pc := 16) (st := []) (As := []) okX5_isMissing (by decide) (rH_lt (show ((r).toNat) < 8 by omega)) (cellR (show ((r).toNat) < 8 by omega)) rfl rfl (Nat.le_of_ble_eq_true rfl) km_X8_85 (kX5_isMissing X (show r.toNat < 8 by omega) g1 (by unfold rg; omega)) dX8_standingRows_16 ?_
        refine r_if_ne (pc := 19) 25 rg_bI dX8_standingRows_19 (by decide) (fun h19 => ?_) (fun h19 => ?_)
        · skip
          have h19 := bI_n.mp h19
          refine r_iinc (pc := 25) 2 [(2, iv (r + 1)), (0, rv X 0), (1, iv t)] rfl (by decide) rfl dX8_standingRows_25 ?_
          refine r_goto (pc := 28) 4 dX8_standingRows_28 (by decide) ?_
          refine r_lv [1, 2, 0] [(0, rv X 0), (1, iv t), (2, iv (r + 1))] rfl ?_
          exact ih4 t (r + 1) (by omega) (by omega) (by omega) (by rw [stn_s hr0]; first | (rw [bI_f (by omega)]; omega) | (rw [bI_t (by omega)]; omega))
        · skip
          have h19 := bI_0.mp h19
          refine r_iinc (pc := 22) 1 [(1, iv (t + 1)), (0, rv X 0), (2, iv r)] rfl (by decide) rfl dX8_standingRows_22 ?_
          refine r_iinc (pc := 25) 2 [(2, iv (r + 1)), (1, iv (t + 1)), (0, rv X 0)] rfl (by decide) rfl dX8_standingRows_25 ?_
          refine r_goto (pc := 28) 4 dX8_standingRows_28 (by decide) ?_
          refine r_lv [2, 1, 0] [(0, rv X 0), (1, iv (t + 1)), (2, iv (r + 1))] rfl ?_
          exact ih4 (t + 1) (r + 1) (by omega) (by omega) (by omega) (by rw [stn_s hr0]; first | (rw [bI_f (by omega)]; omega) | (rw [bI_t (by omega)]; omega))
  refine r_lv [2, 1, 0] [(0, rv X 0), (1, iv 0), (2, iv 0)] rfl ?_
  exact at4 _ 0 0 (Nat.lt_succ_self _) (by omega) (by omega) (rfl)
