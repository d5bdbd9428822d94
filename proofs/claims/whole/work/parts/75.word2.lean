set_option maxRecDepth 100000 in
set_option maxHeartbeats 800000 in
theorem kX4_isWord (X : XC) {I : HD} {c : Int → Int} {L f : Int} (hA : atC I c L f) {i : Nat} (hi : i < 8) : Cl X 4 mX4_isWord [rv X 18, .ref (X.2.2.2.2 (10 + i))] I (Ki (bI (isW c L i f)) I) := by
  refine Cl.of (by decide) (Nat.le_of_ble_eq_true rfl) ?_
  show Rn X 4 mX4_isWord _ 0 [(0, rv X 18), (1, .ref (X.2.2.2.2 (10 + i)))] [] I
  obtain ⟨hT, hf0, hf1, a2, a3, a4, a5⟩ := id hA
  have hL5 := hT.2.2.1
  have hkr := tkK_r (c := c) (L := L) (f := f)
  have hnr := tkN_r (c := c) (L := L) (f := f) hf1
  have hl := sLn_r i hi
  refine r_aload_n (pc := 0) (a := 0) (i := 0) 0 rfl rfl dX4_isWord_0 ?_
  refine r_get (pc := 1) ckX4 (by decide) rfl (j := 2) (by decide) (congrArg (fun q => some (iv q)) a2) kf_X4_25 dX4_isWord_1 ?_
  refine r_iconst (pc := 4) dX4_isWord_4 ?_
  refine r_icmp_ne (pc := 5) 24 (by unfold rg; omega) (by unfold rg; omega) dX4_isWord_5 (by decide) (fun h5 => ?_) (fun h5 => ?_)
  · skip
    refine r_iconst (pc := 24) dX4_isWord_24 ?_
    refine r_zret (pc := 25) (st := []) rfl (rfl) dX4_isWord_25 ?_
    exact ⟨by rw [bI_f (fun q => by have q1 := q.1; have q2 := q.2.1; omega)], rfl⟩
  · skip
    refine r_aload_n (pc := 8) (a := 0) (i := 0) 0 rfl rfl dX4_isWord_8 ?_
    refine r_get (pc := 9) ckX4 (by decide) rfl (j := 4) (by decide) (congrArg (fun q => some (iv q)) a4) kf_X4_32 dX4_isWord_9 ?_
    refine r_aload_n (pc := 12) (a := 0) (i := 0) 0 rfl rfl dX4_isWord_12 ?_
    refine r_get (pc := 13) ckX4 (by decide) rfl (j := 3) (by decide) (congrArg (fun q => some (iv q)) a3) kf_X4_29 dX4_isWord_13 ?_
    refine r_isub (pc := 16) dX4_isWord_16 ?_
    refine r_aload_n (pc := 17) (a := 1) (i := 1) 1 rfl rfl dX4_isWord_17 ?_
    refine r_callVS (pc := 18) (st := [iv ((tkN c L f) - f)]) (As := []) (i := i) (D2 := 1) okJ0_length_8abf5 (by decide) hi rfl rfl (Nat.le_of_ble_eq_true rfl) km_X4_121 (kJ0_length X hi) dX4_isWord_18 ?_
    refine r_icmp_eq (pc := 21) 26 (by unfold rg; omega) (by unfold rg; omega) dX4_isWord_21 (by decide) (fun h21 => ?_) (fun h21 => ?_)
    · skip
      refine r_iconst (pc := 26) dX4_isWord_26 ?_
      refine r_istore_n (pc := 27) (a := 2) (i := 2) rfl [(2, iv 0), (0, rv X 18), (1, .ref (X.2.2.2.2 (10 + i)))] (by decide) rfl dX4_isWord_27 ?_
      have at28 : ∀ (n28 : Nat) (j : Int), (sLn i - j).toNat < n28 → (hj0 : 0 ≤ j) → (hj1 : j ≤ sLn i) → (hw : ∀ x, 0 ≤ x → x < j → c (f + x) = stZ i x) → (hk1 : tkK c L f = 1) → (hn1 : tkN c L f - f = sLn i) → Rn X 4 mX4_isWord (Ki (bI (isW c L i f)) I) 28 [(0, rv X 18), (1, .ref (X.2.2.2.2 (10 + i))), (2, iv j)] [] I := by
        intro n28
        induction n28 with
        | zero => intro j hm; omega
        | succ n28 ih28 =>
          intro j hm28 hj0 hj1 hw hk1 hn1
          refine r_iload_n (pc := 28) (a := 2) (i := 2) 2 rfl rfl dX4_isWord_28 ?_
          refine r_aload_n (pc := 29) (a := 1) (i := 1) 1 rfl rfl dX4_isWord_29 ?_
          refine r_callVS (pc := 30) (st := [iv j]) (As := []) (i := i) (D2 := 1) okJ0_length_8abf5 (by decide) hi rfl rfl (Nat.le_of_ble_eq_true rfl) km_X4_121 (kJ0_length X hi) dX4_isWord_30 ?_
          refine r_icmp_ge (pc := 33) 65 (by unfold rg; omega) (by unfold rg; omega) dX4_isWord_33 (by decide) (fun h33 => ?_) (fun h33 => ?_)
          · skip
            refine r_iconst (pc := 65) dX4_isWord_65 ?_
            refine r_zret (pc := 66) (st := []) rfl (rfl) dX4_isWord_66 ?_
            exact ⟨by rw [bI_t ⟨hk1, hn1, fun x a b => hw x a (by omega)⟩], rfl⟩
          · skip
            have hcj := hT.2.2.2 (f + j) (by omega) (by omega)
            have hsb := sb_r ⟨hcj.1, hcj.2.1⟩
            have hsz := st_z (j := j) hi hj0 (by omega)
            refine r_aload_n (pc := 36) (a := 0) (i := 0) 0 rfl rfl dX4_isWord_36 ?_
            refine r_get (pc := 37) ckX4 (by decide) rfl (j := 0) (by decide) rfl kf_X4_12 dX4_isWord_37 ?_
            refine r_aload_n (pc := 40) (a := 0) (i := 0) 0 rfl rfl dX4_isWord_40 ?_
            refine r_get (pc := 41) ckX4 (by decide) rfl (j := 3) (by decide) (congrArg (fun q => some (iv q)) a3) kf_X4_29 dX4_isWord_41 ?_
            refine r_iload_n (pc := 44) (a := 2) (i := 2) 2 rfl rfl dX4_isWord_44 ?_
            refine r_iadd (pc := 45) dX4_isWord_45 ?_
            refine r_callVi (pc := 46) (st := []) (As := [iv (f + j)]) (D2 := 0) okX7_at (by decide) (by decide) rfl rfl rfl (Nat.le_of_ble_eq_true rfl) km_X4_126 (kAt X hT (by omega) (by omega)) dX4_isWord_46 ?_
            refine r_aload_n (pc := 49) (a := 1) (i := 1) 1 rfl rfl dX4_isWord_49 ?_
            refine r_iload_n (pc := 50) (a := 2) (i := 2) 2 rfl rfl dX4_isWord_50 ?_
            refine r_callVS (pc := 51) (st := [iv (sb (c (f + j)))]) (As := [iv j]) (i := i) (D2 := 3) okJ0_charAt_5068e (by decide) hi rfl rfl (Nat.le_of_ble_eq_true rfl) km_X4_130 (kJ0_charAt X hi hj0 (by omega)) dX4_isWord_51 ?_
            refine r_icmp_eq (pc := 54) 59 (by unfold rg; omega) (by unfold rg; omega) dX4_isWord_54 (by decide) (fun h54 => ?_) (fun h54 => ?_)
            · skip
              refine r_iinc (pc := 59) 2 [(2, iv (j + 1)), (0, rv X 18), (1, .ref (X.2.2.2.2 (10 + i)))] rfl (by decide) rfl dX4_isWord_59 ?_
              refine r_goto (pc := 62) 28 dX4_isWord_62 (by decide) ?_
              refine r_lv [1, 2, 0] [(0, rv X 18), (1, .ref (X.2.2.2.2 (10 + i))), (2, iv (j + 1))] rfl ?_
              exact ih28 (j + 1) (by omega) (by omega) (by omega) (fun x a b => (Classical.em (x = j)).elim (fun e => by rw [e]; omega) (fun e => hw x a (by omega))) (by omega) (by omega)
            · skip
              refine r_iconst (pc := 57) dX4_isWord_57 ?_
              refine r_zret (pc := 58) (st := []) rfl (rfl) dX4_isWord_58 ?_
              exact ⟨by rw [bI_f (fun q => by have := q.2.2 j hj0 (by omega); omega)], rfl⟩
      refine r_lv [1, 2, 0] [(0, rv X 18), (1, .ref (X.2.2.2.2 (10 + i))), (2, iv 0)] rfl ?_
      exact at28 _ 0 (Nat.lt_succ_self _) (by omega) (by omega) (fun x a b => by omega) (by omega) (by omega)
    · skip
      refine r_iconst (pc := 24) dX4_isWord_24 ?_
      refine r_zret (pc := 25) (st := []) rfl (rfl) dX4_isWord_25 ?_
      exact ⟨by rw [bI_f (fun q => by have q1 := q.1; have q2 := q.2.1; omega)], rfl⟩

set_option maxRecDepth 100000 in
set_option maxHeartbeats 800000 in
theorem kX9_name (X : XC) {I : HD} {c : Int → Int} {L f : Int} (hA : atM I c L f) {e : Int} (he : I 30 18 = e) (hr : rg e) : Cl X 0 mX9_name [rv X 30] I (Kj (if e = 0 then nmV c L f else 0) I) := by
  refine Cl.of (by decide) (Nat.le_of_ble_eq_true rfl) ?_
  show Rn X 0 mX9_name _ 0 [(0, rv X 30)] [] I
  obtain ⟨hT, hf0, hf1, a2, a3, a4, a5⟩ := id hA
  have hL5 := hT.2.2.1
  have hkr := tkK_r (c := c) (L := L) (f := f)
  have hnr := tkN_r (c := c) (L := L) (f := f) hf1
  have hrt := rt_r hkr
  unfold rg at hr
  refine r_lconst (pc := 0) (z := 0) rfl dX9_name_0 ?_
  refine r_lstore_n (pc := 1) (a := 1) (i := 1) rfl [(1, jv 0), (0, rv X 30)] (by decide) rfl dX9_name_1 ?_
  refine r_aload_n (pc := 2) (a := 0) (i := 0) 1 rfl rfl dX9_name_2 ?_
  refine r_get (pc := 3) ckX9 (by decide) rfl (j := 16) (by decide) (congrArg (fun q => some (iv q)) a3) kf_X9_97 dX9_name_3 ?_
  refine r_istore_n (pc := 6) (a := 3) (i := 3) rfl [(3, iv f), (1, jv 0), (0, rv X 30)] (by decide) rfl dX9_name_6 ?_
  have at7 : ∀ (n7 : Nat) (v : Int) (k : Int), (tkN c L f - k).toNat < n7 → (hk0 : f ≤ k) → (hk1 : k ≤ tkN c L f) → (hv : v = nv c f (k - f).toNat) → (hkk : f < k → tkK c L f = 1 ∧ tkN c L f - f < 8) → Rn X 0 mX9_name (Kj (if e = 0 then nmV c L f else 0) I) 7 [(0, rv X 30), (1, jv v), (3, iv k)] [] I := by
    intro n7
    induction n7 with
    | zero => intro v k hm; omega
    | succ n7 ih7 =>
      intro v k hm7 hk0 hk1 hv hkk
      refine r_iload_n (pc := 7) (a := 3) (i := 3) 2 rfl rfl dX9_name_7 ?_
      have at56 : (hV : v = nmV c L f) → Rn X 0 mX9_name (Kj (if e = 0 then nmV c L f else 0) I) 56 [(0, rv X 30), (1, jv v)] [] I := by
        intro hV
        refine r_aload_n (pc := 56) (a := 0) (i := 0) 0 rfl rfl dX9_name_56 ?_
        refine r_get (pc := 57) ckX9 (by decide) rfl (j := 18) (by decide) (congrArg (fun q => some (iv q)) he) kf_X9_112 dX9_name_57 ?_
        refine r_if_ne (pc := 60) 67 (by unfold rg; omega) dX9_name_60 (by decide) (fun h60 => ?_) (fun h60 => ?_)
        · skip
          refine r_lconst (pc := 67) (z := 0) rfl dX9_name_67 ?_
          refine r_lret (pc := 68) (st := []) rfl dX9_name_68 ?_
          exact ⟨by rw [if_neg (by omega)], rfl⟩
        · skip
          refine r_lload_n (pc := 63) (a := 1) (i := 1) 1 rfl rfl dX9_name_63 ?_
          refine r_goto (pc := 64) 68 dX9_name_64 (by decide) ?_
          refine r_lret (pc := 68) (st := []) rfl dX9_name_68 ?_
          exact ⟨by rw [if_pos (by omega), hV], rfl⟩
      refine r_aload_n (pc := 8) (a := 0) (i := 0) 0 rfl rfl dX9_name_8 ?_
      refine r_get (pc := 9) ckX9 (by decide) rfl (j := 17) (by decide) (congrArg (fun q => some (iv q)) a4) kf_X9_109 dX9_name_9 ?_
      refine r_icmp_ge (pc := 12) 56 (by unfold rg; omega) (by unfold rg; omega) dX9_name_12 (by decide) (fun h12 => ?_) (fun h12 => ?_)
      · skip
        refine r_lv [0, 1] [(0, rv X 30), (1, jv v)] rfl ?_
        exact at56 (by unfold nmV; by_cases q : f < k; (rw [if_pos (hkk q), hv, show tkN c L f = k by omega]); (rw [hv, show (k - f).toNat = 0 by omega, if_neg (fun w => by have := tkN_1 w.1; omega)]; rfl))
      · skip
        refine r_aload_n (pc := 15) (a := 0) (i := 0) 0 rfl rfl dX9_name_15 ?_
        refine r_get (pc := 16) ckX9 (by decide) rfl (j := 15) (by decide) (congrArg (fun q => some (iv q)) a2) kf_X9_100 dX9_name_16 ?_
        refine r_iconst (pc := 19) dX9_name_19 ?_
        refine r_icmp_ne (pc := 20) 56 (by unfold rg; omega) (by unfold rg; omega) dX9_name_20 (by decide) (fun h20 => ?_) (fun h20 => ?_)
        · skip
          refine r_lv [0, 1] [(0, rv X 30), (1, jv v)] rfl ?_
          exact at56 (by unfold nmV; rw [if_neg (fun w => by have := w.1; omega)]; by_cases q : f < k; (have := hkk q; omega); (rw [hv, show (k - f).toNat = 0 by omega]; rfl))
        · skip
          refine r_aload_n (pc := 23) (a := 0) (i := 0) 0 rfl rfl dX9_name_23 ?_
          refine r_get (pc := 24) ckX9 (by decide) rfl (j := 17) (by decide) (congrArg (fun q => some (iv q)) a4) kf_X9_109 dX9_name_24 ?_
          refine r_aload_n (pc := 27) (a := 0) (i := 0) 0 rfl rfl dX9_name_27 ?_
          refine r_get (pc := 28) ckX9 (by decide) rfl (j := 16) (by decide) (congrArg (fun q => some (iv q)) a3) kf_X9_97 dX9_name_28 ?_
          refine r_isub (pc := 31) dX9_name_31 ?_
          refine r_bipush (pc := 32) rfl dX9_name_32 ?_
          refine r_icmp_ge (pc := 34) 56 (by unfold rg; omega) (by unfold rg; omega) dX9_name_34 (by decide) (fun h34 => ?_) (fun h34 => ?_)
          · skip
            refine r_lv [0, 1] [(0, rv X 30), (1, jv v)] rfl ?_
            exact at56 (by unfold nmV; rw [if_neg (fun w => by have := w.2; omega)]; by_cases q : f < k; (have := hkk q; omega); (rw [hv, show (k - f).toNat = 0 by omega]; rfl))
          · skip
            have hck := hT.2.2.2 k (by omega) (by omega)
            have hvr := nv_b (c := c) (L := L) (f := f) (k := k) (by omega) (fun x a b => (hT.2.2.2 x (by omega) (by omega)).1) (fun x a b => (hT.2.2.2 x (by omega) (by omega)).2.1) hk0 (by omega) (by omega)
            rw [← hv] at hvr
            refine r_lload_n (pc := 37) (a := 1) (i := 1) 1 rfl rfl dX9_name_37 ?_
            refine r_bipush (pc := 38) rfl dX9_name_38 ?_
            refine r_lshl (pc := 40) (z := v * 256) (shl_8 (by omega) (by omega)) dX9_name_40 ?_
            refine r_aload_n (pc := 41) (a := 0) (i := 0) 0 rfl rfl dX9_name_41 ?_
            refine r_get (pc := 42) ckX9 (by decide) rfl (j := 10) (by decide) rfl kf_X9_28 dX9_name_42 ?_
            refine r_iload_n (pc := 45) (a := 3) (i := 3) 2 rfl rfl dX9_name_45 ?_
            refine r_iald (pc := 46) (z := c k) (by decide) rfl (by omega) (by omega) (by decide) ((hT.2.2.2 _ (by omega) (by omega)).2.2) dX9_name_46 ?_
            refine r_i2l (pc := 47) (by unfold rg; omega) dX9_name_47 ?_
            refine r_lor (pc := 48) (z := v * 256 + c k) (lor_8 (by omega) (by omega) (by omega) (by omega)) dX9_name_48 ?_
            refine r_lstore_n (pc := 49) (a := 1) (i := 1) rfl [(1, jv (v * 256 + c k)), (0, rv X 30), (3, iv k)] (by decide) rfl dX9_name_49 ?_
            refine r_iinc (pc := 50) 2 [(3, iv (k + 1)), (1, jv (v * 256 + c k)), (0, rv X 30)] rfl (by decide) rfl dX9_name_50 ?_
            refine r_goto (pc := 53) 7 dX9_name_53 (by decide) ?_
            refine r_lv [2, 1, 0] [(0, rv X 30), (1, jv (v * 256 + c k)), (3, iv (k + 1))] rfl ?_
            exact ih7 (v * 256 + c k) (k + 1) (by omega) (by omega) (by omega) (by rw [nv_s hk0, hv]) (fun q => ⟨by omega, by omega⟩)
  refine r_lv [2, 1, 0] [(0, rv X 30), (1, jv 0), (3, iv f)] rfl ?_
  exact at7 _ 0 f (Nat.lt_succ_self _) (by omega) (by omega) (by rw [Int.sub_self]; rfl) (fun q => by omega)
