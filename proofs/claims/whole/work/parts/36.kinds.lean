set_option maxRecDepth 100000 in
set_option maxHeartbeats 4000000 in
theorem kX1_isKind (X : XC) {I : HD} {k : Int} (h : rg k) : Cl X 0 mX1_isKind [iv k] I (Ki (bI (0 ≤ k ∧ k < 6)) I) := by
  refine Cl.of (by decide) (Nat.le_of_ble_eq_true rfl) ?_
  show Rn X 0 mX1_isKind _ 0 [(0, iv k)] [] I
  unfold rg at h
  refine r_iload_n (pc := 0) (a := 0) (i := 0) 0 rfl rfl dX1_isKind_0 ?_
  refine r_if_lt (pc := 1) 14 (by unfold rg; omega) dX1_isKind_1 (by decide) (fun h1 => ?_) (fun h1 => ?_)
  · skip
    refine r_iconst (pc := 14) dX1_isKind_14 ?_
    refine r_zret (pc := 15) (st := []) rfl (rfl) dX1_isKind_15 ?_
    exact ⟨by rw [bI_f (by omega)], rfl⟩
  · skip
    refine r_iload_n (pc := 4) (a := 0) (i := 0) 0 rfl rfl dX1_isKind_4 ?_
    refine r_bipush (pc := 5) rfl dX1_isKind_5 ?_
    refine r_icmp_ge (pc := 7) 14 (by unfold rg; omega) (by unfold rg; omega) dX1_isKind_7 (by decide) (fun h7 => ?_) (fun h7 => ?_)
    · skip
      refine r_iconst (pc := 14) dX1_isKind_14 ?_
      refine r_zret (pc := 15) (st := []) rfl (rfl) dX1_isKind_15 ?_
      exact ⟨by rw [bI_f (by omega)], rfl⟩
    · skip
      refine r_iconst (pc := 10) dX1_isKind_10 ?_
      refine r_goto (pc := 11) 15 dX1_isKind_11 (by decide) ?_
      refine r_zret (pc := 15) (st := []) rfl (rfl) dX1_isKind_15 ?_
      exact ⟨by rw [bI_t (by omega)], rfl⟩

set_option maxRecDepth 100000 in
set_option maxHeartbeats 4000000 in
theorem kX1_isOneOf (X : XC) {I : HD} {k w : Int} (hk0 : 0 ≤ k) (hk1 : k < 6) (hw0 : 0 ≤ w) (hw1 : w < 6) : Cl X 1 mX1_isOneOf [iv k, iv w] I (Ki (bI (oneOf k w)) I) := by
  refine Cl.of (by decide) (Nat.le_of_ble_eq_true rfl) ?_
  show Rn X 1 mX1_isOneOf _ 0 [(0, iv k), (1, iv w)] [] I
  refine r_iload_n (pc := 0) (a := 0) (i := 0) 0 rfl rfl dX1_isOneOf_0 ?_
  refine r_istore_n (pc := 1) (a := 2) (i := 2) rfl [(2, iv k), (0, iv k), (1, iv w)] (by decide) rfl dX1_isOneOf_1 ?_
  refine r_iconst (pc := 2) dX1_isOneOf_2 ?_
  refine r_istore_n (pc := 3) (a := 3) (i := 3) rfl [(3, iv 0), (2, iv k), (0, iv k), (1, iv w)] (by decide) rfl dX1_isOneOf_3 ?_
  have at4 : ∀ (n4 : Nat) (a : Int) (t : Int), (6 - t).toNat < n4 → (ht : (a = -1 ∧ t ≤ 5) ∨ (a = 0 ∧ t ≤ 4) ∨ ((a = 1 ∨ a = 5) ∧ t ≤ 3) ∨ ((a = 2 ∨ a = 4) ∧ t ≤ 2) ∨ (a = 3 ∧ t ≤ 1)) → (ht0 : 0 ≤ t) → (ho : oneOf k w ↔ oneOf a w) → Rn X 1 mX1_isOneOf (Ki (bI (oneOf k w)) I) 4 [(0, iv k), (1, iv w), (2, iv a), (3, iv t)] [] I := by
    intro n4
    induction n4 with
    | zero => intro a t hm; omega
    | succ n4 ih4 =>
      intro a t hm4 ht ht0 ho
      refine r_iload_n (pc := 4) (a := 3) (i := 3) 3 rfl rfl dX1_isOneOf_4 ?_
      refine r_bipush (pc := 5) rfl dX1_isOneOf_5 ?_
      refine r_icmp_ge (pc := 7) 36 (by unfold rg; omega) (by unfold rg; omega) dX1_isOneOf_7 (by decide) (fun h7 => ?_) (fun h7 => ?_)
      · exact absurd h7 (by omega)
      · skip
        refine r_iload_n (pc := 10) (a := 2) (i := 2) 2 rfl rfl dX1_isOneOf_10 ?_
        refine r_callSi (pc := 11) (st := []) (As := [iv a]) okX1_isKind (by decide) trivial rfl (Nat.le_of_ble_eq_true rfl) km_X1_17 (kX1_isKind X (by unfold rg; omega)) dX1_isOneOf_11 ?_
        refine r_if_eq (pc := 14) 36 rg_bI dX1_isOneOf_14 (by decide) (fun h14 => ?_) (fun h14 => ?_)
        · skip
          have h14 := bI_0.mp h14
          refine r_iconst (pc := 36) dX1_isOneOf_36 ?_
          refine r_zret (pc := 37) (st := []) rfl (rfl) dX1_isOneOf_37 ?_
          exact ⟨by rw [bI_f (fun q => by have q2 := ho.mp q; unfold oneOf at q2; omega)], rfl⟩
        · skip
          have h14 := bI_n.mp h14
          refine r_iload_n (pc := 17) (a := 2) (i := 2) 2 rfl rfl dX1_isOneOf_17 ?_
          refine r_iload_n (pc := 18) (a := 1) (i := 1) 1 rfl rfl dX1_isOneOf_18 ?_
          refine r_icmp_ne (pc := 19) 24 (by unfold rg; omega) (by unfold rg; omega) dX1_isOneOf_19 (by decide) (fun h19 => ?_) (fun h19 => ?_)
          · skip
            have hr := roW (j := a) (by omega) (by omega) rfl
            refine r_gets (pc := 24) 0 (by decide) kg_0 dX1_isOneOf_24 ?_
            refine r_iload_n (pc := 27) (a := 2) (i := 2) 2 rfl rfl dX1_isOneOf_27 ?_
            refine r_tald (pc := 28) (z := roT 0 a.toNat) 0 (by decide) (by omega) (by omega) (rfl) dX1_isOneOf_28 ?_
            refine r_istore_n (pc := 29) (a := 2) (i := 2) rfl [(2, iv (roT 0 a.toNat)), (0, iv k), (1, iv w), (3, iv t)] (by decide) rfl dX1_isOneOf_29 ?_
            refine r_iinc (pc := 30) 3 [(3, iv (t + 1)), (2, iv (roT 0 a.toNat)), (0, iv k), (1, iv w)] rfl (by decide) rfl dX1_isOneOf_30 ?_
            refine r_goto (pc := 33) 4 dX1_isOneOf_33 (by decide) ?_
            refine r_lv [2, 3, 1, 0] [(0, iv k), (1, iv w), (2, iv (roT 0 a.toNat)), (3, iv (t + 1))] rfl ?_
            exact ih4 (roT 0 a.toNat) (t + 1) (by omega) (by omega) (by omega) (by rw [ho]; unfold oneOf; omega)
          · skip
            refine r_iconst (pc := 22) dX1_isOneOf_22 ?_
            refine r_zret (pc := 23) (st := []) rfl (rfl) dX1_isOneOf_23 ?_
            exact ⟨by rw [bI_t (ho.mpr (by unfold oneOf; omega))], rfl⟩
  refine r_lv [2, 3, 1, 0] [(0, iv k), (1, iv w), (2, iv k), (3, iv 0)] rfl ?_
  exact at4 _ k 0 (Nat.lt_succ_self _) (by omega) (by omega) (Iff.rfl)

set_option maxRecDepth 100000 in
set_option maxHeartbeats 4000000 in
theorem kX9_isOf (X : XC) {I : HD} {k w : Int} (hk0 : 0 ≤ k) (hk1 : k < 6) (hw0 : 0 ≤ w) (hw1 : w < 6) (hk2 : 1 ≤ k) : Cl X 0 mX9_isOf [iv k, iv w] I (Ki (bI (oneOf k w)) I) := by
  refine Cl.of (by decide) (Nat.le_of_ble_eq_true rfl) ?_
  show Rn X 0 mX9_isOf _ 0 [(0, iv k), (1, iv w)] [] I
  refine r_iload_n (pc := 0) (a := 1) (i := 1) 1 rfl rfl dX9_isOf_0 ?_
  refine r_if_eq (pc := 1) 29 (by unfold rg; omega) dX9_isOf_1 (by decide) (fun h1 => ?_) (fun h1 => ?_)
  · skip
    refine r_iconst (pc := 29) dX9_isOf_29 ?_
    refine r_goto (pc := 30) 34 dX9_isOf_30 (by decide) ?_
    refine r_zret (pc := 34) (st := []) rfl (rfl) dX9_isOf_34 ?_
    exact ⟨by rw [bI_t (by unfold oneOf; omega)], rfl⟩
  · skip
    refine r_iload_n (pc := 4) (a := 0) (i := 0) 0 rfl rfl dX9_isOf_4 ?_
    refine r_iload_n (pc := 5) (a := 1) (i := 1) 1 rfl rfl dX9_isOf_5 ?_
    refine r_icmp_eq (pc := 6) 29 (by unfold rg; omega) (by unfold rg; omega) dX9_isOf_6 (by decide) (fun h6 => ?_) (fun h6 => ?_)
    · skip
      refine r_iconst (pc := 29) dX9_isOf_29 ?_
      refine r_goto (pc := 30) 34 dX9_isOf_30 (by decide) ?_
      refine r_zret (pc := 34) (st := []) rfl (rfl) dX9_isOf_34 ?_
      exact ⟨by rw [bI_t (by unfold oneOf; omega)], rfl⟩
    · skip
      refine r_iload_n (pc := 9) (a := 1) (i := 1) 1 rfl rfl dX9_isOf_9 ?_
      refine r_iconst (pc := 10) dX9_isOf_10 ?_
      refine r_icmp_ne (pc := 11) 19 (by unfold rg; omega) (by unfold rg; omega) dX9_isOf_11 (by decide) (fun h11 => ?_) (fun h11 => ?_)
      · skip
        refine r_iload_n (pc := 19) (a := 1) (i := 1) 1 rfl rfl dX9_isOf_19 ?_
        refine r_iconst (pc := 20) dX9_isOf_20 ?_
        refine r_icmp_ne (pc := 21) 33 (by unfold rg; omega) (by unfold rg; omega) dX9_isOf_21 (by decide) (fun h21 => ?_) (fun h21 => ?_)
        · skip
          refine r_iconst (pc := 33) dX9_isOf_33 ?_
          refine r_zret (pc := 34) (st := []) rfl (rfl) dX9_isOf_34 ?_
          exact ⟨by rw [bI_f (by unfold oneOf; omega)], rfl⟩
        · skip
          refine r_iload_n (pc := 24) (a := 0) (i := 0) 0 rfl rfl dX9_isOf_24 ?_
          refine r_iconst (pc := 25) dX9_isOf_25 ?_
          refine r_icmp_ne (pc := 26) 33 (by unfold rg; omega) (by unfold rg; omega) dX9_isOf_26 (by decide) (fun h26 => ?_) (fun h26 => ?_)
          · skip
            refine r_iconst (pc := 33) dX9_isOf_33 ?_
            refine r_zret (pc := 34) (st := []) rfl (rfl) dX9_isOf_34 ?_
            exact ⟨by rw [bI_f (by unfold oneOf; omega)], rfl⟩
          · skip
            refine r_iconst (pc := 29) dX9_isOf_29 ?_
            refine r_goto (pc := 30) 34 dX9_isOf_30 (by decide) ?_
            refine r_zret (pc := 34) (st := []) rfl (rfl) dX9_isOf_34 ?_
            exact ⟨by rw [bI_t (by unfold oneOf; omega)], rfl⟩
      · skip
        refine r_iload_n (pc := 14) (a := 0) (i := 0) 0 rfl rfl dX9_isOf_14 ?_
        refine r_iconst (pc := 15) dX9_isOf_15 ?_
        refine r_icmp_lt (pc := 16) 29 (by unfold rg; omega) (by unfold rg; omega) dX9_isOf_16 (by decide) (fun h16 => ?_) (fun h16 => ?_)
        · skip
          refine r_iconst (pc := 29) dX9_isOf_29 ?_
          refine r_goto (pc := 30) 34 dX9_isOf_30 (by decide) ?_
          refine r_zret (pc := 34) (st := []) rfl (rfl) dX9_isOf_34 ?_
          exact ⟨by rw [bI_t (by unfold oneOf; omega)], rfl⟩
        · skip
          refine r_iload_n (pc := 19) (a := 1) (i := 1) 1 rfl rfl dX9_isOf_19 ?_
          refine r_iconst (pc := 20) dX9_isOf_20 ?_
          refine r_icmp_ne (pc := 21) 33 (by unfold rg; omega) (by unfold rg; omega) dX9_isOf_21 (by decide) (fun h21 => ?_) (fun h21 => ?_)
          · skip
            refine r_iconst (pc := 33) dX9_isOf_33 ?_
            refine r_zret (pc := 34) (st := []) rfl (rfl) dX9_isOf_34 ?_
            exact ⟨by rw [bI_f (by unfold oneOf; omega)], rfl⟩
          · skip
            refine r_iload_n (pc := 24) (a := 0) (i := 0) 0 rfl rfl dX9_isOf_24 ?_
            refine r_iconst (pc := 25) dX9_isOf_25 ?_
            refine r_icmp_ne (pc := 26) 33 (by unfold rg; omega) (by unfold rg; omega) dX9_isOf_26 (by decide) (fun h26 => ?_) (fun h26 => ?_)
            · skip
              refine r_iconst (pc := 33) dX9_isOf_33 ?_
              refine r_zret (pc := 34) (st := []) rfl (rfl) dX9_isOf_34 ?_
              exact ⟨by rw [bI_f (by unfold oneOf; omega)], rfl⟩
            · skip
              refine r_iconst (pc := 29) dX9_isOf_29 ?_
              refine r_goto (pc := 30) 34 dX9_isOf_30 (by decide) ?_
              refine r_zret (pc := 34) (st := []) rfl (rfl) dX9_isOf_34 ?_
              exact ⟨by rw [bI_t (by unfold oneOf; omega)], rfl⟩

set_option maxRecDepth 100000 in
set_option maxHeartbeats 4000000 in
theorem kX8_as (X : XC) {I : HD} {O : OF} (hR : RepC O I 0) (hV : Val O) {p w : Int} (hp : rg p) (hw : rg w) : Cl X 3 mX8_as [rv X 0, iv p, iv w] I (fun q J => (¬ (0 ≤ p ∧ p < O 1 ∧ 0 ≤ w ∧ w < 6) → q = some (iv (-1000001)) ∧ J = I) ∧ (0 ≤ p ∧ p < O 1 ∧ 0 ≤ w ∧ w < 6 → ¬ oneOf (O (63 + 4 * p)) w → q = some (iv (-1000013)) ∧ J = up I 0 9 3) ∧ (0 ≤ p ∧ p < O 1 ∧ 0 ≤ w ∧ w < 6 → oneOf (O (63 + 4 * p)) w → q = some (iv p) ∧ J = up I 0 9 0)) := by
  refine Cl.of (by decide) (Nat.le_of_ble_eq_true rfl) ?_
  show Rn X 3 mX8_as _ 0 [(0, rv X 0), (1, iv p), (2, iv w)] [] I
  unfold rg at hp hw
  have q0 := hV.a
  refine r_aload_n (pc := 0) (a := 0) (i := 0) 0 rfl rfl dX8_as_0 ?_
  refine r_get (pc := 1) ckX8 (by decide) rfl (j := 2) (by decide) rfl kf_X8_25 dX8_as_1 ?_
  refine r_iload_n (pc := 4) (a := 1) (i := 1) 1 rfl rfl dX8_as_4 ?_
  refine r_callVi (pc := 5) (st := []) (As := [iv p]) okX3_hasSheet (by decide) (oH_lt (show 0 < 28 by decide)) (cellO (show 0 < 28 by decide)) rfl rfl (Nat.le_of_ble_eq_true rfl) km_X8_154 (kX3_hasSheet X (by decide) hR hV (by unfold rg; omega)) dX8_as_5 ?_
  refine r_if_eq (pc := 8) 18 rg_bI dX8_as_8 (by decide) (fun h8 => ?_) (fun h8 => ?_)
  · skip
    have h8 := bI_0.mp h8
    refine r_ldc (pc := 18) kc_X8_73 dX8_as_18 ?_
    refine r_iret (pc := 20) (st := []) rfl dX8_as_20 ?_
    exact ⟨fun _ => ⟨rfl, rfl⟩, fun a => absurd a (by omega), fun a => absurd a (by omega)⟩
  · skip
    have h8 := bI_n.mp h8
    refine r_iload_n (pc := 11) (a := 2) (i := 2) 2 rfl rfl dX8_as_11 ?_
    refine r_callSi (pc := 12) (st := []) (As := [iv w]) okX1_isKind (by decide) trivial rfl (Nat.le_of_ble_eq_true rfl) km_X8_304 (kX1_isKind X (by unfold rg; omega)) dX8_as_12 ?_
    refine r_if_ne (pc := 15) 21 rg_bI dX8_as_15 (by decide) (fun h15 => ?_) (fun h15 => ?_)
    · skip
      have h15 := bI_n.mp h15
      have qp := hV.p h8.1 h8.2
      refine r_aload_n (pc := 21) (a := 0) (i := 0) 0 rfl rfl dX8_as_21 ?_
      refine r_get (pc := 22) ckX8 (by decide) rfl (j := 2) (by decide) rfl kf_X8_25 dX8_as_22 ?_
      refine r_getN (pc := 25) ckX3 (oH_lt (show 0 < 28 by decide)) (cellO (show 0 < 28 by decide)) (j := 5) (by decide) rfl kf_X8_301 dX8_as_25 ?_
      refine r_iload_n (pc := 28) (a := 1) (i := 1) 1 rfl rfl dX8_as_28 ?_
      refine r_iald (pc := 29) (z := O (63 + 4 * p)) (oH_lt6 (show 0 < 28 by decide)) ((cellO6 (show 0 < 28 by decide)) _) (by omega) (by omega) (by decide) (hR.sort (by omega) (by omega)) dX8_as_29 ?_
      refine r_iload_n (pc := 30) (a := 2) (i := 2) 2 rfl rfl dX8_as_30 ?_
      refine r_callSi (pc := 31) (st := []) (As := [iv (O (63 + 4 * p)), iv w]) okX1_isOneOf (by decide) trivial rfl (Nat.le_of_ble_eq_true rfl) km_X8_307 (kX1_isOneOf X (by omega) (by omega) (by omega) (by omega)) dX8_as_31 ?_
      refine r_if_ne (pc := 34) 43 rg_bI dX8_as_34 (by decide) (fun h34 => ?_) (fun h34 => ?_)
      · skip
        have h34 := bI_n.mp h34
        refine r_aload_n (pc := 43) (a := 0) (i := 0) 0 rfl rfl dX8_as_43 ?_
        refine r_iload_n (pc := 44) (a := 1) (i := 1) 1 rfl rfl dX8_as_44 ?_
        refine r_callVi (pc := 45) (st := []) (As := [iv p]) okX8_well (by decide) (by decide) rfl rfl rfl (Nat.le_of_ble_eq_true rfl) km_X8_82 (kX8_well X) dX8_as_45 ?_
        refine r_iret (pc := 48) (st := []) rfl dX8_as_48 ?_
        exact ⟨fun a => absurd a (by omega), fun _ b => absurd h34 b, fun _ _ => ⟨rfl, rfl⟩⟩
      · skip
        have h34 := bI_0.mp h34
        refine r_aload_n (pc := 37) (a := 0) (i := 0) 0 rfl rfl dX8_as_37 ?_
        refine r_iconst (pc := 38) dX8_as_38 ?_
        refine r_callVi (pc := 39) (st := []) (As := [iv 3]) okX8_found (by decide) (by decide) rfl rfl rfl (Nat.le_of_ble_eq_true rfl) km_X8_74 (kX8_found X (by unfold rg; omega)) dX8_as_39 ?_
        refine r_iret (pc := 42) (st := []) rfl dX8_as_42 ?_
        exact ⟨fun a => absurd a (by omega), fun _ _ => ⟨rfl, rfl⟩, fun _ b => absurd b h34⟩
    · skip
      have h15 := bI_0.mp h15
      refine r_ldc (pc := 18) kc_X8_73 dX8_as_18 ?_
      refine r_iret (pc := 20) (st := []) rfl dX8_as_20 ?_
      exact ⟨fun _ => ⟨rfl, rfl⟩, fun a => absurd a (by omega), fun a => absurd a (by omega)⟩

set_option maxRecDepth 100000 in
set_option maxHeartbeats 4000000 in
theorem kX9_as (X : XC) {I : HD} {O : OF} (hO : I 34 = O) (hV : Val O) {p w : Int} (hp : rg p) (hw : rg w) : Cl X 3 mX9_as [rv X 30, iv p, iv w] I (fun q J => (¬ (0 ≤ p ∧ p < O 1 ∧ 0 ≤ w ∧ w < 6) → q = some (iv (-1000001)) ∧ J = up I 30 0 0) ∧ (0 ≤ p ∧ p < O 1 ∧ 0 ≤ w ∧ w < 6 → ¬ oneOf (O (63 + 4 * p)) w → q = some (iv (-1000013)) ∧ J = up (up (up I 30 0 0) 30 1 0) 30 1 3) ∧ (0 ≤ p ∧ p < O 1 ∧ 0 ≤ w ∧ w < 6 → oneOf (O (63 + 4 * p)) w → q = some (iv p) ∧ J = up (up I 30 0 0) 30 1 0)) := by
  refine Cl.of (by decide) (Nat.le_of_ble_eq_true rfl) ?_
  show Rn X 3 mX9_as _ 0 [(0, rv X 30), (1, iv p), (2, iv w)] [] I
  have hO2 : (up I 30 0 0) 34 = O := (up_row (by decide)).trans hO
  unfold rg at hp hw
  have q0 := hV.a
  refine r_aload_n (pc := 0) (a := 0) (i := 0) 0 rfl rfl dX9_as_0 ?_
  refine r_iconst (pc := 1) dX9_as_1 ?_
  refine r_put (pc := 2) 0 (ji := 0) rfl ckX9 (by decide) rfl rfl (by decide) (Nat.le_of_ble_eq_true rfl) kf_X9_54 rfl rfl rfl rfl dX9_as_2 ?_
  refine r_aload_n (pc := 5) (a := 0) (i := 0) 0 rfl rfl dX9_as_5 ?_
  refine r_iload_n (pc := 6) (a := 1) (i := 1) 1 rfl rfl dX9_as_6 ?_
  refine r_callVi (pc := 7) (st := []) (As := [iv p]) okX9_isSheet (by decide) (by decide) rfl rfl rfl (Nat.le_of_ble_eq_true rfl) km_X9_200 (kX9_isSheet X hO2 hV (by unfold rg; omega)) dX9_as_7 ?_
  refine r_if_eq (pc := 10) 25 rg_bI dX9_as_10 (by decide) (fun h10 => ?_) (fun h10 => ?_)
  · skip
    have h10 := bI_0.mp h10
    refine r_ldc (pc := 25) kc_X9_74 dX9_as_25 ?_
    refine r_iret (pc := 27) (st := []) rfl dX9_as_27 ?_
    exact ⟨fun _ => ⟨rfl, rfl⟩, fun a => absurd a (by omega), fun a => absurd a (by omega)⟩
  · skip
    have h10 := bI_n.mp h10
    refine r_iload_n (pc := 13) (a := 2) (i := 2) 2 rfl rfl dX9_as_13 ?_
    refine r_i2l (pc := 14) (by unfold rg; omega) dX9_as_14 ?_
    refine r_lconst (pc := 15) (z := 0) rfl dX9_as_15 ?_
    refine r_ldc2 (pc := 16) kc_X9_242 dX9_as_16 ?_
    refine r_callSi (pc := 19) (st := []) (As := [jv w, jv 0, jv 5]) okX9_in (by decide) trivial rfl (Nat.le_of_ble_eq_true rfl) km_X9_64 (kX9_in X (by unfold rl; omega) (by unfold rl; omega) (by unfold rl; omega)) dX9_as_19 ?_
    refine r_if_ne (pc := 22) 28 rg_bI dX9_as_22 (by decide) (fun h22 => ?_) (fun h22 => ?_)
    · skip
      have h22 := bI_n.mp h22
      have qp := hV.p h10.1 h10.2
      have hO3 : (up (up I 30 0 0) 30 1 0) 34 = O := (up_row (by decide)).trans hO2
      refine r_aload_n (pc := 28) (a := 0) (i := 0) 0 rfl rfl dX9_as_28 ?_
      refine r_iconst (pc := 29) dX9_as_29 ?_
      refine r_put (pc := 30) 1 (ji := 1) rfl ckX9 (by decide) rfl rfl (by decide) (Nat.le_of_ble_eq_true rfl) kf_X9_58 rfl rfl rfl rfl dX9_as_30 ?_
      refine r_aload_n (pc := 33) (a := 0) (i := 0) 0 rfl rfl dX9_as_33 ?_
      refine r_iload_n (pc := 34) (a := 1) (i := 1) 1 rfl rfl dX9_as_34 ?_
      refine r_iconst (pc := 35) dX9_as_35 ?_
      refine r_callVi (pc := 36) (st := []) (As := [iv p, iv 0]) okX9_of (by decide) (by decide) rfl rfl rfl (Nat.le_of_ble_eq_true rfl) km_X9_216 (kX9_of X hO3 hV (z := O (63 + 4 * p)) (by omega) (by omega) (by omega) (congrArg O (by omega))) dX9_as_36 ?_
      refine r_iload_n (pc := 39) (a := 2) (i := 2) 2 rfl rfl dX9_as_39 ?_
      refine r_callSi (pc := 40) (st := []) (As := [iv (O (63 + 4 * p)), iv w]) okX9_isOf (by decide) trivial rfl (Nat.le_of_ble_eq_true rfl) km_X9_279 (kX9_isOf X (by omega) (by omega) (by omega) (by omega) (by omega)) dX9_as_40 ?_
      refine r_if_eq (pc := 43) 50 rg_bI dX9_as_43 (by decide) (fun h43 => ?_) (fun h43 => ?_)
      · skip
        have h43 := bI_0.mp h43
        refine r_aload_n (pc := 50) (a := 0) (i := 0) 0 rfl rfl dX9_as_50 ?_
        refine r_iconst (pc := 51) dX9_as_51 ?_
        refine r_callVi (pc := 52) (st := []) (As := [iv 3]) okX9_finding (by decide) (by decide) rfl rfl rfl (Nat.le_of_ble_eq_true rfl) km_X9_75 (kX9_finding X) dX9_as_52 ?_
        refine r_iret (pc := 55) (st := []) rfl dX9_as_55 ?_
        exact ⟨fun a => absurd a (by omega), fun _ _ => ⟨rfl, rfl⟩, fun _ b => absurd b h43⟩
      · skip
        have h43 := bI_n.mp h43
        refine r_iload_n (pc := 46) (a := 1) (i := 1) 1 rfl rfl dX9_as_46 ?_
        refine r_goto (pc := 47) 55 dX9_as_47 (by decide) ?_
        refine r_iret (pc := 55) (st := []) rfl dX9_as_55 ?_
        exact ⟨fun a => absurd a (by omega), fun _ b => absurd h43 b, fun _ _ => ⟨rfl, rfl⟩⟩
    · skip
      have h22 := bI_0.mp h22
      refine r_ldc (pc := 25) kc_X9_74 dX9_as_25 ?_
      refine r_iret (pc := 27) (st := []) rfl dX9_as_27 ?_
      exact ⟨fun _ => ⟨rfl, rfl⟩, fun a => absurd a (by omega), fun a => absurd a (by omega)⟩
