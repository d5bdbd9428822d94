set_option maxRecDepth 100000 in
set_option maxHeartbeats 800000 in
theorem kX9_must (X : XC) {I : HD} {c : Int → Int} {L : Int} {s : Ps} (hM : MS I c L s) {b : Int} {B : Prop} (hb : (b = 1 ∧ B) ∨ (b = 0 ∧ ¬ B)) : Cl X 2 mX9_must [rv X 30, iv b] I (fun r J => r = none ∧ fM3 I J ∧ MS J c L (pMu c L B s)) := by
  refine Cl.of (by decide) (Nat.le_of_ble_eq_true rfl) ?_
  show Rn X 2 mX9_must _ 0 [(0, rv X 30), (1, iv b)] [] I
  obtain ⟨hA, he, hea, her0, her3⟩ := id hM
  obtain ⟨hT, hf0, hf1, a2, a3, a4, a5⟩ := id hA
  have hL5 := hT.2.2.1
  have hkr := tkK_r (c := c) (L := L) (f := s.1)
  have hnr := tkN_r (c := c) (L := L) (f := s.1) hf1
  have hrt := rt_r hkr
  refine r_iload_n (pc := 0) (a := 1) (i := 1) 1 rfl rfl dX9_must_0 ?_
  refine r_if_ne (pc := 1) 9 (by unfold rg; omega) dX9_must_1 (by decide) (fun h1 => ?_) (fun h1 => ?_)
  · skip
    refine r_aload_n (pc := 9) (a := 0) (i := 0) 0 rfl rfl dX9_must_9 ?_
    refine r_get (pc := 10) ckX9 (by decide) rfl (j := 18) (by decide) (congrArg (fun q => some (iv q)) he) kf_X9_112 dX9_must_10 ?_
    refine r_if_ne (pc := 13) 20 (by unfold rg; omega) dX9_must_13 (by decide) (fun h13 => ?_) (fun h13 => ?_)
    · skip
      refine r_vret (pc := 20) (st := []) rfl dX9_must_20 ?_
      exact ⟨rfl, fM3.rf, by rw [pMu_x (by omega)]; exact hM⟩
    · skip
      refine r_aload_n (pc := 16) (a := 0) (i := 0) 0 rfl rfl dX9_must_16 ?_
      refine r_callV (pc := 17) (st := []) (As := []) (D2 := 1) okX9_next (by decide) (by decide) rfl rfl rfl (Nat.le_of_ble_eq_true rfl) km_X9_115 (kNxt X hM (by omega)) dX9_must_17 ?_
      rintro _ J2 ⟨rfl, m2, m3⟩
      refine r_vret (pc := 20) (st := []) rfl dX9_must_20 ?_
      have hB : B := by rcases hb with q | q; exact q.2; omega
      exact ⟨rfl, m2, by rw [pMu_t (by omega) hB]; exact m3⟩
  · skip
    refine r_aload_n (pc := 4) (a := 0) (i := 0) 0 rfl rfl dX9_must_4 ?_
    refine r_iconst (pc := 5) dX9_must_5 ?_
    refine r_callV (pc := 6) (st := []) (As := [iv 1]) (D2 := 0) okX9_bad (by decide) (by decide) rfl rfl rfl (Nat.le_of_ble_eq_true rfl) km_X9_121 (kBad X hM (by decide) (by decide)) dX9_must_6 ?_
    rintro _ J1 ⟨rfl, g2, g3, g4⟩
    have g5 := g3.2.2.2
    refine r_aload_n (pc := 9) (a := 0) (i := 0) 0 rfl rfl dX9_must_9 ?_
    refine r_get (pc := 10) ckX9 (by decide) rfl (j := 18) (by decide) (congrArg (fun q => some (iv q)) g3.2.1) kf_X9_112 dX9_must_10 ?_
    refine r_if_ne (pc := 13) 20 (by unfold rg; omega) dX9_must_13 (by decide) (fun h13 => ?_) (fun h13 => ?_)
    · skip
      refine r_vret (pc := 20) (st := []) rfl dX9_must_20 ?_
      refine ⟨rfl, g2, ?_⟩
      have hB : ¬ B := by rcases hb with q | q; omega; exact q.2
      by_cases q : s.2.2 = 0
      · rw [pMu_f q hB]; rw [pBad_t q] at g3; exact g3
      · rw [pMu_x q]; rw [pBad_x q] at g3; exact g3
    · skip
      refine r_aload_n (pc := 16) (a := 0) (i := 0) 0 rfl rfl dX9_must_16 ?_
      refine r_callVv (pc := 17) (st := []) (As := []) (D2 := 1) okX9_next (by decide) (by decide) rfl rfl rfl (Nat.le_of_ble_eq_true rfl) km_X9_115 ((absurd h13 g4 : Cl X 1 mX9_next [rv X 30] J1 (Kv J1))) dX9_must_17 ?_
      refine r_vret (pc := 20) (st := []) rfl dX9_must_20 ?_
      refine ⟨rfl, g2, ?_⟩
      have hB : ¬ B := by rcases hb with q | q; omega; exact q.2
      by_cases q : s.2.2 = 0
      · rw [pMu_f q hB]; rw [pBad_t q] at g3; exact g3
      · rw [pMu_x q]; rw [pBad_x q] at g3; exact g3

set_option maxRecDepth 100000 in
set_option maxHeartbeats 800000 in
theorem kX9_figures (X : XC) {I : HD} {c : Int → Int} {L : Int} {s : Ps} (hM : MS I c L s) : Cl X 0 mX9_figures [rv X 30] I (Ki (fgV c L s.1) I) := by
  refine Cl.of (by decide) (Nat.le_of_ble_eq_true rfl) ?_
  show Rn X 0 mX9_figures _ 0 [(0, rv X 30)] [] I
  obtain ⟨hA, he, hea, her0, her3⟩ := id hM
  obtain ⟨hT, hf0, hf1, a2, a3, a4, a5⟩ := id hA
  have hL5 := hT.2.2.1
  have hkr := tkK_r (c := c) (L := L) (f := s.1)
  have hnr := tkN_r (c := c) (L := L) (f := s.1) hf1
  have hrt := rt_r hkr
  refine r_iconst (pc := 0) dX9_figures_0 ?_
  refine r_istore_n (pc := 1) (a := 1) (i := 1) rfl [(1, iv 0), (0, rv X 30)] (by decide) rfl dX9_figures_1 ?_
  refine r_aload_n (pc := 2) (a := 0) (i := 0) 1 rfl rfl dX9_figures_2 ?_
  refine r_get (pc := 3) ckX9 (by decide) rfl (j := 16) (by decide) (congrArg (fun q => some (iv q)) a3) kf_X9_97 dX9_figures_3 ?_
  refine r_istore_n (pc := 6) (a := 2) (i := 2) rfl [(2, iv s.1), (1, iv 0), (0, rv X 30)] (by decide) rfl dX9_figures_6 ?_
  have at7 : ∀ (n7 : Nat) (v : Int) (k : Int), (tkN c L s.1 - k).toNat < n7 → (hk0 : s.1 ≤ k) → (hk1 : k ≤ tkN c L s.1) → (hv : v = tvN c s.1 (k - s.1).toNat) → (hkk : s.1 < k → tkK c L s.1 = 2) → Rn X 0 mX9_figures (Ki (fgV c L s.1) I) 7 [(0, rv X 30), (1, iv v), (2, iv k)] [] I := by
    intro n7
    induction n7 with
    | zero => intro v k hm; omega
    | succ n7 ih7 =>
      intro v k hm7 hk0 hk1 hv hkk
      refine r_iload_n (pc := 7) (a := 2) (i := 2) 2 rfl rfl dX9_figures_7 ?_
      refine r_aload_n (pc := 8) (a := 0) (i := 0) 0 rfl rfl dX9_figures_8 ?_
      refine r_get (pc := 9) ckX9 (by decide) rfl (j := 17) (by decide) (congrArg (fun q => some (iv q)) a4) kf_X9_109 dX9_figures_9 ?_
      refine r_icmp_ge (pc := 12) 44 (by unfold rg; omega) (by unfold rg; omega) dX9_figures_12 (by decide) (fun h12 => ?_) (fun h12 => ?_)
      · skip
        refine r_iload_n (pc := 44) (a := 1) (i := 1) 1 rfl rfl dX9_figures_44 ?_
        refine r_iret (pc := 45) (st := []) rfl dX9_figures_45 ?_
        exact ⟨congrArg (fun q => some (iv q)) (fg_e hk0 hk1 hv hkk (by omega)), rfl⟩
      · skip
        refine r_aload_n (pc := 15) (a := 0) (i := 0) 0 rfl rfl dX9_figures_15 ?_
        refine r_get (pc := 16) ckX9 (by decide) rfl (j := 15) (by decide) (congrArg (fun q => some (iv q)) a2) kf_X9_100 dX9_figures_16 ?_
        refine r_iconst (pc := 19) dX9_figures_19 ?_
        refine r_icmp_ne (pc := 20) 44 (by unfold rg; omega) (by unfold rg; omega) dX9_figures_20 (by decide) (fun h20 => ?_) (fun h20 => ?_)
        · skip
          refine r_iload_n (pc := 44) (a := 1) (i := 1) 1 rfl rfl dX9_figures_44 ?_
          refine r_iret (pc := 45) (st := []) rfl dX9_figures_45 ?_
          exact ⟨congrArg (fun q => some (iv q)) (fg_e hk0 hk1 hv hkk (by omega)), rfl⟩
        · skip
          refine r_bipush (pc := 23) rfl dX9_figures_23 ?_
          refine r_iload_n (pc := 25) (a := 1) (i := 1) 1 rfl rfl dX9_figures_25 ?_
          refine r_imul (pc := 26) dX9_figures_26 ?_
          refine r_aload_n (pc := 27) (a := 0) (i := 0) 0 rfl rfl dX9_figures_27 ?_
          refine r_get (pc := 28) ckX9 (by decide) rfl (j := 10) (by decide) rfl kf_X9_28 dX9_figures_28 ?_
          refine r_iload_n (pc := 31) (a := 2) (i := 2) 2 rfl rfl dX9_figures_31 ?_
          refine r_iald (pc := 32) (z := c k) (by decide) rfl (by omega) (by omega) (by decide) ((hT.2.2.2 _ (by omega) (by omega)).2.2) dX9_figures_32 ?_
          refine r_iadd (pc := 33) dX9_figures_33 ?_
          refine r_bipush (pc := 34) rfl dX9_figures_34 ?_
          refine r_isub (pc := 36) dX9_figures_36 ?_
          refine r_istore_n (pc := 37) (a := 1) (i := 1) rfl [(1, iv (((10 * v) + (c k)) - 48)), (0, rv X 30), (2, iv k)] (by decide) rfl dX9_figures_37 ?_
          refine r_iinc (pc := 38) 2 [(2, iv (k + 1)), (1, iv (((10 * v) + (c k)) - 48)), (0, rv X 30)] rfl (by decide) rfl dX9_figures_38 ?_
          refine r_goto (pc := 41) 7 dX9_figures_41 (by decide) ?_
          refine r_lv [2, 1, 0] [(0, rv X 30), (1, iv (((10 * v) + (c k)) - 48)), (2, iv (k + 1))] rfl ?_
          exact ih7 (((10 * v) + (c k)) - 48) (k + 1) (by omega) (by omega) (by omega) (by rw [tvN_s hk0, hv]; omega) (fun q => by omega)
  refine r_lv [2, 1, 0] [(0, rv X 30), (1, iv 0), (2, iv s.1)] rfl ?_
  exact at7 _ 0 s.1 (Nat.lt_succ_self _) (by omega) (by omega) (by rw [Int.sub_self]; rfl) (fun q => by omega)

set_option maxRecDepth 100000 in
set_option maxHeartbeats 800000 in
theorem kX9_number (X : XC) {I : HD} {c : Int → Int} {L : Int} {s : Ps} (hM : MS I c L s) {lo hi : Int} (hlo : rg lo) (hhi : rg hi) : Cl X 3 mX9_number [rv X 30, iv lo, iv hi] I (fun r J => ∃ v, r = some (iv v) ∧ fM3 I J ∧ MS J c L (pNm c L lo hi s) ∧ ((pNm c L lo hi s).2.2 = 0 → v = tkV c L s.1)) := by
  refine Cl.of (by decide) (Nat.le_of_ble_eq_true rfl) ?_
  show Rn X 3 mX9_number _ 0 [(0, rv X 30), (1, iv lo), (2, iv hi)] [] I
  obtain ⟨hA, he, hea, her0, her3⟩ := id hM
  obtain ⟨hT, hf0, hf1, a2, a3, a4, a5⟩ := id hA
  have hL5 := hT.2.2.1
  have hkr := tkK_r (c := c) (L := L) (f := s.1)
  have hnr := tkN_r (c := c) (L := L) (f := s.1) hf1
  have hrt := rt_r hkr
  unfold rg at hlo hhi
  have hfg := fgV_r (c := c) (L := L) (f := s.1)
  refine r_aload_n (pc := 0) (a := 0) (i := 0) 0 rfl rfl dX9_number_0 ?_
  refine r_get (pc := 1) ckX9 (by decide) rfl (j := 18) (by decide) (congrArg (fun q => some (iv q)) he) kf_X9_112 dX9_number_1 ?_
  refine r_if_le (pc := 4) 9 (by unfold rg; omega) dX9_number_4 (by decide) (fun h4 => ?_) (fun h4 => ?_)
  · skip
    refine r_aload_n (pc := 9) (a := 0) (i := 0) 0 rfl rfl dX9_number_9 ?_
    refine r_callVi (pc := 10) (st := []) (As := []) (D2 := 0) okX9_figures (by decide) (by decide) rfl rfl rfl (Nat.le_of_ble_eq_true rfl) km_X9_125 (kX9_figures X hM) dX9_number_10 ?_
    refine r_istore_n (pc := 13) (a := 3) (i := 3) rfl [(3, iv (fgV c L s.1)), (0, rv X 30), (1, iv lo), (2, iv hi)] (by decide) rfl dX9_number_13 ?_
    refine r_aload_n (pc := 14) (a := 0) (i := 0) 1 rfl rfl dX9_number_14 ?_
    refine r_get (pc := 15) ckX9 (by decide) rfl (j := 15) (by decide) (congrArg (fun q => some (iv q)) a2) kf_X9_100 dX9_number_15 ?_
    refine r_iconst (pc := 18) dX9_number_18 ?_
    refine r_icmp_ne (pc := 19) 39 (by unfold rg; omega) (by unfold rg; omega) dX9_number_19 (by decide) (fun h19 => ?_) (fun h19 => ?_)
    · skip
      refine r_aload_n (pc := 39) (a := 0) (i := 0) 1 rfl rfl dX9_number_39 ?_
      refine r_aload_n (pc := 40) (a := 0) (i := 0) 1 rfl rfl dX9_number_40 ?_
      refine r_get (pc := 41) ckX9 (by decide) rfl (j := 15) (by decide) (congrArg (fun q => some (iv q)) a2) kf_X9_100 dX9_number_41 ?_
      refine r_iconst (pc := 44) dX9_number_44 ?_
      refine r_icmp_ne (pc := 45) 52 (by unfold rg; omega) (by unfold rg; omega) dX9_number_45 (by decide) (fun h45 => ?_) (fun h45 => ?_)
      · skip
        refine r_iconst (pc := 52) dX9_number_52 ?_
        refine r_callV (pc := 53) (st := []) (As := [iv 0]) (D2 := 2) okX9_must (by decide) (by decide) rfl rfl rfl (Nat.le_of_ble_eq_true rfl) km_X9_129 (kX9_must X hM (B := tkK c L s.1 = 2) (by omega)) dX9_number_53 ?_
        rintro _ J2 ⟨rfl, m2, m3⟩
        refine r_iload_n (pc := 56) (a := 3) (i := 3) 0 rfl rfl dX9_number_56 ?_
        refine r_iret (pc := 57) (st := []) rfl dX9_number_57 ?_
        have e : pNm c L lo hi s = pMu c L (tkK c L s.1 = 2) s := if_neg (fun q => nm_in q.2.1 q.2.2 (by omega))
        exact ⟨_, rfl, m2, by rw [e]; exact m3, fun q => by rw [e] at q; have := (pMu_e q).2.1; unfold fgV; rw [if_pos this]⟩
      · skip
        refine r_iconst (pc := 48) dX9_number_48 ?_
        refine r_goto (pc := 49) 53 dX9_number_49 (by decide) ?_
        refine r_callV (pc := 53) (st := []) (As := [iv 1]) (D2 := 2) okX9_must (by decide) (by decide) rfl rfl rfl (Nat.le_of_ble_eq_true rfl) km_X9_129 (kX9_must X hM (B := tkK c L s.1 = 2) (by omega)) dX9_number_53 ?_
        rintro _ J2 ⟨rfl, m2, m3⟩
        refine r_iload_n (pc := 56) (a := 3) (i := 3) 0 rfl rfl dX9_number_56 ?_
        refine r_iret (pc := 57) (st := []) rfl dX9_number_57 ?_
        have e : pNm c L lo hi s = pMu c L (tkK c L s.1 = 2) s := if_neg (fun q => nm_in q.2.1 q.2.2 (by omega))
        exact ⟨_, rfl, m2, by rw [e]; exact m3, fun q => by rw [e] at q; have := (pMu_e q).2.1; unfold fgV; rw [if_pos this]⟩
    · skip
      refine r_iload_n (pc := 22) (a := 3) (i := 3) 0 rfl rfl dX9_number_22 ?_
      refine r_i2l (pc := 23) (by unfold rg; omega) dX9_number_23 ?_
      refine r_iload_n (pc := 24) (a := 1) (i := 1) 2 rfl rfl dX9_number_24 ?_
      refine r_i2l (pc := 25) (by unfold rg; omega) dX9_number_25 ?_
      refine r_iload_n (pc := 26) (a := 2) (i := 2) 3 rfl rfl dX9_number_26 ?_
      refine r_i2l (pc := 27) (by unfold rg; omega) dX9_number_27 ?_
      refine r_callSi (pc := 28) (st := []) (As := [jv (fgV c L s.1), jv lo, jv hi]) okX9_in (by decide) trivial rfl (Nat.le_of_ble_eq_true rfl) km_X9_64 (kX9_in X (by unfold rl; omega) (by unfold rl; omega) (by unfold rl; omega)) dX9_number_28 ?_
      refine r_if_ne (pc := 31) 39 rg_bI dX9_number_31 (by decide) (fun h31 => ?_) (fun h31 => ?_)
      · skip
        have h31 := bI_n.mp h31
        refine r_aload_n (pc := 39) (a := 0) (i := 0) 1 rfl rfl dX9_number_39 ?_
        refine r_aload_n (pc := 40) (a := 0) (i := 0) 1 rfl rfl dX9_number_40 ?_
        refine r_get (pc := 41) ckX9 (by decide) rfl (j := 15) (by decide) (congrArg (fun q => some (iv q)) a2) kf_X9_100 dX9_number_41 ?_
        refine r_iconst (pc := 44) dX9_number_44 ?_
        refine r_icmp_ne (pc := 45) 52 (by unfold rg; omega) (by unfold rg; omega) dX9_number_45 (by decide) (fun h45 => ?_) (fun h45 => ?_)
        · skip
          refine r_iconst (pc := 52) dX9_number_52 ?_
          refine r_callV (pc := 53) (st := []) (As := [iv 0]) (D2 := 2) okX9_must (by decide) (by decide) rfl rfl rfl (Nat.le_of_ble_eq_true rfl) km_X9_129 (kX9_must X hM (B := tkK c L s.1 = 2) (by omega)) dX9_number_53 ?_
          rintro _ J2 ⟨rfl, m2, m3⟩
          refine r_iload_n (pc := 56) (a := 3) (i := 3) 0 rfl rfl dX9_number_56 ?_
          refine r_iret (pc := 57) (st := []) rfl dX9_number_57 ?_
          have e : pNm c L lo hi s = pMu c L (tkK c L s.1 = 2) s := if_neg (fun q => nm_in q.2.1 q.2.2 (by omega))
          exact ⟨_, rfl, m2, by rw [e]; exact m3, fun q => by rw [e] at q; have := (pMu_e q).2.1; unfold fgV; rw [if_pos this]⟩
        · skip
          refine r_iconst (pc := 48) dX9_number_48 ?_
          refine r_goto (pc := 49) 53 dX9_number_49 (by decide) ?_
          refine r_callV (pc := 53) (st := []) (As := [iv 1]) (D2 := 2) okX9_must (by decide) (by decide) rfl rfl rfl (Nat.le_of_ble_eq_true rfl) km_X9_129 (kX9_must X hM (B := tkK c L s.1 = 2) (by omega)) dX9_number_53 ?_
          rintro _ J2 ⟨rfl, m2, m3⟩
          refine r_iload_n (pc := 56) (a := 3) (i := 3) 0 rfl rfl dX9_number_56 ?_
          refine r_iret (pc := 57) (st := []) rfl dX9_number_57 ?_
          have e : pNm c L lo hi s = pMu c L (tkK c L s.1 = 2) s := if_neg (fun q => nm_in q.2.1 q.2.2 (by omega))
          exact ⟨_, rfl, m2, by rw [e]; exact m3, fun q => by rw [e] at q; have := (pMu_e q).2.1; unfold fgV; rw [if_pos this]⟩
      · skip
        have h31 := bI_0.mp h31
        refine r_aload_n (pc := 34) (a := 0) (i := 0) 1 rfl rfl dX9_number_34 ?_
        refine r_iconst (pc := 35) dX9_number_35 ?_
        refine r_callV (pc := 36) (st := []) (As := [iv 2]) (D2 := 0) okX9_bad (by decide) (by decide) rfl rfl rfl (Nat.le_of_ble_eq_true rfl) km_X9_121 (kBad X hM (by decide) (by decide)) dX9_number_36 ?_
        rintro _ J1 ⟨rfl, g2, g3, g4⟩
        rw [pBad_t (by omega)] at g3
        have b2 : J1 30 15 = rt (tkK c L s.1) := g3.1.2.2.2.1
        refine r_aload_n (pc := 39) (a := 0) (i := 0) 1 rfl rfl dX9_number_39 ?_
        refine r_aload_n (pc := 40) (a := 0) (i := 0) 1 rfl rfl dX9_number_40 ?_
        refine r_get (pc := 41) ckX9 (by decide) rfl (j := 15) (by decide) (congrArg (fun q => some (iv q)) b2) kf_X9_100 dX9_number_41 ?_
        refine r_iconst (pc := 44) dX9_number_44 ?_
        refine r_icmp_ne (pc := 45) 52 (by unfold rg; omega) (by unfold rg; omega) dX9_number_45 (by decide) (fun h45 => ?_) (fun h45 => ?_)
        · skip
          refine r_iconst (pc := 52) dX9_number_52 ?_
          refine r_callV (pc := 53) (st := []) (As := [iv 0]) (D2 := 2) okX9_must (by decide) (by decide) rfl rfl rfl (Nat.le_of_ble_eq_true rfl) km_X9_129 (kX9_must X g3 (B := tkK c L s.1 = 2) (by omega)) dX9_number_53 ?_
          rintro _ J3 ⟨rfl, m2, m3⟩
          refine r_iload_n (pc := 56) (a := 3) (i := 3) 0 rfl rfl dX9_number_56 ?_
          refine r_iret (pc := 57) (st := []) rfl dX9_number_57 ?_
          rw [pNm_b (by omega) (by omega) (nm_out (c := c) (L := L) (f := s.1) (by omega) (by omega))]
          rw [pMu_x (show ¬ (2 : Int) = 0 by decide)] at m3
          exact ⟨_, rfl, g2.tr m2, m3, fun e => absurd (show (2 : Int) = 0 from e) (by decide)⟩
        · skip
          refine r_iconst (pc := 48) dX9_number_48 ?_
          refine r_goto (pc := 49) 53 dX9_number_49 (by decide) ?_
          refine r_callV (pc := 53) (st := []) (As := [iv 1]) (D2 := 2) okX9_must (by decide) (by decide) rfl rfl rfl (Nat.le_of_ble_eq_true rfl) km_X9_129 (kX9_must X g3 (B := tkK c L s.1 = 2) (by omega)) dX9_number_53 ?_
          rintro _ J3 ⟨rfl, m2, m3⟩
          refine r_iload_n (pc := 56) (a := 3) (i := 3) 0 rfl rfl dX9_number_56 ?_
          refine r_iret (pc := 57) (st := []) rfl dX9_number_57 ?_
          rw [pNm_b (by omega) (by omega) (nm_out (c := c) (L := L) (f := s.1) (by omega) (by omega))]
          rw [pMu_x (show ¬ (2 : Int) = 0 by decide)] at m3
          exact ⟨_, rfl, g2.tr m2, m3, fun e => absurd (show (2 : Int) = 0 from e) (by decide)⟩
  · skip
    refine r_iconst (pc := 7) dX9_number_7 ?_
    refine r_iret (pc := 8) (st := []) rfl dX9_number_8 ?_
    exact ⟨0, rfl, fM3.rf, by rw [pNm_x (by omega)]; exact hM, fun e => by rw [pNm_x (by omega)] at e; omega⟩

set_option maxRecDepth 100000 in
set_option maxHeartbeats 800000 in
theorem kX9_mustEnd (X : XC) {I : HD} {c : Int → Int} {L : Int} {s : Ps} (hM : MS I c L s) : Cl X 3 mX9_mustEnd [rv X 30] I (fun r J => r = none ∧ fM3 I J ∧ MS J c L (pSm c L s)) := by
  refine Cl.of (by decide) (Nat.le_of_ble_eq_true rfl) ?_
  show Rn X 3 mX9_mustEnd _ 0 [(0, rv X 30)] [] I
  obtain ⟨hA, he, hea, her0, her3⟩ := id hM
  obtain ⟨hT, hf0, hf1, a2, a3, a4, a5⟩ := id hA
  have hL5 := hT.2.2.1
  have hkr := tkK_r (c := c) (L := L) (f := s.1)
  have hnr := tkN_r (c := c) (L := L) (f := s.1) hf1
  have hrt := rt_r hkr
  refine r_aload_n (pc := 0) (a := 0) (i := 0) 0 rfl rfl dX9_mustEnd_0 ?_
  refine r_get (pc := 1) ckX9 (by decide) rfl (j := 18) (by decide) (congrArg (fun q => some (iv q)) he) kf_X9_112 dX9_mustEnd_1 ?_
  refine r_if_ne (pc := 4) 24 (by unfold rg; omega) dX9_mustEnd_4 (by decide) (fun h4 => ?_) (fun h4 => ?_)
  · skip
    refine r_vret (pc := 24) (st := []) rfl dX9_mustEnd_24 ?_
    exact ⟨rfl, fM3.rf, by rw [show pSm c L s = s from pMu_x (by omega)]; exact hM⟩
  · skip
    refine r_aload_n (pc := 7) (a := 0) (i := 0) 0 rfl rfl dX9_mustEnd_7 ?_
    refine r_aload_n (pc := 8) (a := 0) (i := 0) 0 rfl rfl dX9_mustEnd_8 ?_
    refine r_get (pc := 9) ckX9 (by decide) rfl (j := 15) (by decide) (congrArg (fun q => some (iv q)) a2) kf_X9_100 dX9_mustEnd_9 ?_
    refine r_iconst (pc := 12) dX9_mustEnd_12 ?_
    refine r_icmp_ne (pc := 13) 20 (by unfold rg; omega) (by unfold rg; omega) dX9_mustEnd_13 (by decide) (fun h13 => ?_) (fun h13 => ?_)
    · skip
      refine r_iconst (pc := 20) dX9_mustEnd_20 ?_
      refine r_callV (pc := 21) (st := []) (As := [iv 0]) (D2 := 2) okX9_must (by decide) (by decide) rfl rfl rfl (Nat.le_of_ble_eq_true rfl) km_X9_129 (kX9_must X hM (B := tkK c L s.1 = 3) (by omega)) dX9_mustEnd_21 ?_
      rintro _ J2 ⟨rfl, m2, m3⟩
      refine r_vret (pc := 24) (st := []) rfl dX9_mustEnd_24 ?_
      exact ⟨rfl, m2, m3⟩
    · skip
      refine r_iconst (pc := 16) dX9_mustEnd_16 ?_
      refine r_goto (pc := 17) 21 dX9_mustEnd_17 (by decide) ?_
      refine r_callV (pc := 21) (st := []) (As := [iv 1]) (D2 := 2) okX9_must (by decide) (by decide) rfl rfl rfl (Nat.le_of_ble_eq_true rfl) km_X9_129 (kX9_must X hM (B := tkK c L s.1 = 3) (by omega)) dX9_mustEnd_21 ?_
      rintro _ J2 ⟨rfl, m2, m3⟩
      refine r_vret (pc := 24) (st := []) rfl dX9_mustEnd_24 ?_
      exact ⟨rfl, m2, m3⟩

set_option maxRecDepth 100000 in
set_option maxHeartbeats 800000 in
theorem kX9_begins (X : XC) {I : HD} {c : Int → Int} {L : Int} {s : Ps} (hM : MS I c L s) (h0 : s.2.2 = 0) (hF : eqF I s.2.1) {k m : Int} (k0 : 0 ≤ k) (k1 : k < 127) (hr : rg (s.2.1 k)) (hm : rg m) : Cl X 3 mX9_begins [rv X 30, iv k, iv m] I (fun r J => r = none ∧ fM3 I J ∧ MS J c L (bgS c L k m s)) := by
  refine Cl.of (by decide) (Nat.le_of_ble_eq_true rfl) ?_
  show Rn X 3 mX9_begins _ 0 [(0, rv X 30), (1, iv k), (2, iv m)] [] I
  obtain ⟨hA, he, hea, her0, her3⟩ := id hM
  obtain ⟨hT, hf0, hf1, a2, a3, a4, a5⟩ := id hA
  have hL5 := hT.2.2.1
  have hkr := tkK_r (c := c) (L := L) (f := s.1)
  have hnr := tkN_r (c := c) (L := L) (f := s.1) hf1
  have hrt := rt_r hkr
  unfold rg at hr hm
  refine r_aload_n (pc := 0) (a := 0) (i := 0) 0 rfl rfl dX9_begins_0 ?_
  refine r_get (pc := 1) ckX9 (by decide) rfl (j := 6) (by decide) rfl kf_X9_22 dX9_begins_1 ?_
  refine r_iload_n (pc := 4) (a := 1) (i := 1) 1 rfl rfl dX9_begins_4 ?_
  refine r_iald (pc := 5) (z := s.2.1 k) (by decide) rfl (by omega) (by omega) (by decide) (hF _ (by omega) (by omega)) dX9_begins_5 ?_
  refine r_iload_n (pc := 6) (a := 2) (i := 2) 2 rfl rfl dX9_begins_6 ?_
  refine r_icmp_ne (pc := 7) 15 (by unfold rg; omega) (by unfold rg; omega) dX9_begins_7 (by decide) (fun h7 => ?_) (fun h7 => ?_)
  · skip
    refine r_aload_n (pc := 15) (a := 0) (i := 0) 0 rfl rfl dX9_begins_15 ?_
    refine r_iconst (pc := 16) dX9_begins_16 ?_
    refine r_callV (pc := 17) (st := []) (As := [iv 1]) (D2 := 2) okX9_must (by decide) (by decide) rfl rfl rfl (Nat.le_of_ble_eq_true rfl) km_X9_129 (kX9_must X hM (B := True) (Or.inl ⟨rfl, trivial⟩)) dX9_begins_17 ?_
    rintro _ J2 ⟨rfl, m2, m3⟩
    refine r_vret (pc := 20) (st := []) rfl dX9_begins_20 ?_
    rw [bgS_f h7]
    rw [pMu_t h0 trivial] at m3
    exact ⟨rfl, m2, m3⟩
  · skip
    refine r_aload_n (pc := 10) (a := 0) (i := 0) 0 rfl rfl dX9_begins_10 ?_
    refine r_iconst (pc := 11) dX9_begins_11 ?_
    refine r_callV (pc := 12) (st := []) (As := [iv 3]) (D2 := 0) okX9_bad (by decide) (by decide) rfl rfl rfl (Nat.le_of_ble_eq_true rfl) km_X9_121 (kBad X hM (by decide) (by decide)) dX9_begins_12 ?_
    rintro _ J1 ⟨rfl, g2, g3, g4⟩
    rw [pBad_t h0] at g3
    refine r_aload_n (pc := 15) (a := 0) (i := 0) 0 rfl rfl dX9_begins_15 ?_
    refine r_iconst (pc := 16) dX9_begins_16 ?_
    refine r_callV (pc := 17) (st := []) (As := [iv 1]) (D2 := 2) okX9_must (by decide) (by decide) rfl rfl rfl (Nat.le_of_ble_eq_true rfl) km_X9_129 (kX9_must X g3 (B := True) (Or.inl ⟨rfl, trivial⟩)) dX9_begins_17 ?_
    rintro _ J3 ⟨rfl, m2, m3⟩
    refine r_vret (pc := 20) (st := []) rfl dX9_begins_20 ?_
    rw [bgS_t h7]
    rw [pMu_x (show ¬ (3 : Int) = 0 by decide)] at m3
    exact ⟨rfl, g2.tr m2, m3⟩
