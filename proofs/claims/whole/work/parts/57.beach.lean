/-! ===== beach: what gusts eat of a row ===== -/
noncomputable def etn (it : Int → Int) (e : Int) : Nat → (Int → Prop) → Int → Int
  | 0, _, a => a
  | n + 1, f, a => @ite Int (a < e ∧ f (it a)) (Classical.propDecidable _) (etn it e n (fun x => f x ∧ ¬ x = it a) (a + 1)) (-1)
noncomputable def etg (O : OF) (it : Int → Int) (e s : Int) : Nat → Int
  | 0 => s
  | g + 1 => if etg O it e s g < 0 then -1 else etn it e (cnt (tbg O g) 16).toNat (tbg O g) (etg O it e s g)
theorem etn_0 {it : Int → Int} {e a c : Int} {f : Int → Prop} (h : c ≤ 0) : etn it e c.toNat f a = a := by
  rw [show c.toNat = 0 by omega]; rfl
theorem etn_t {it : Int → Int} {e a c : Int} {f : Int → Prop} (hc : 0 < c) (h : a < e ∧ f (it a)) : etn it e c.toNat f a = etn it e (c - 1).toNat (fun x => f x ∧ ¬ x = it a) (a + 1) := by
  rw [show c.toNat = (c - 1).toNat + 1 by omega]
  exact if_pos h
theorem etn_f {it : Int → Int} {e a c : Int} {f : Int → Prop} (hc : 0 < c) (h : ¬ (a < e ∧ f (it a))) : etn it e c.toNat f a = -1 := by
  rw [show c.toNat = (c - 1).toNat + 1 by omega]
  exact if_neg h
theorem etg_s {O : OF} {it : Int → Int} {e s g u : Int} (h : 0 ≤ g) (hE : etg O it e s g.toNat = u) (hu : 0 ≤ u) : etn it e (cnt (tbg O g) 16).toNat (tbg O g) u = etg O it e s (g + 1).toNat := by
  obtain ⟨n, rfl⟩ : ∃ n : Nat, g = n := ⟨g.toNat, by omega⟩
  rw [Int.toNat_natCast] at hE
  rw [show ((n : Int) + 1).toNat = n + 1 by omega]
  show _ = if etg O it e s n < 0 then -1 else etn it e (cnt (tbg O n) 16).toNat (tbg O n) (etg O it e s n)
  rw [hE, if_neg (by omega)]
theorem etg_n {O : OF} {it : Int → Int} {e s : Int} {g : Nat} (h : etg O it e s g = -1) : ∀ m : Nat, etg O it e s (g + m) = -1
  | 0 => h
  | m + 1 => by
    show (if etg O it e s (g + m) < 0 then -1 else _) = _
    rw [etg_n h m, if_pos (by decide)]
theorem etg_no {O : OF} {it : Int → Int} {e s g n z : Int} (h : etg O it e s (g + 1).toNat = -1) (g0 : 0 ≤ g) (hn : g < n) (hz : 0 ≤ z) : ¬ etg O it e s n.toNat = z := by
  have := etg_n h (n.toNat - (g + 1).toNat)
  rw [show (g + 1).toNat + (n.toNat - (g + 1).toNat) = n.toNat by omega] at this
  omega
theorem cnt_nn {f : Int → Prop} : ∀ {n : Nat}, 0 ≤ cnt f n
  | 0 => by simp [cnt]
  | n + 1 => by
    have := cnt_nn (f := f) (n := n)
    have := bI_le (P := f n)
    show 0 ≤ cnt f n + bI (f n)
    omega
theorem cnt_le {f : Int → Prop} : ∀ {n : Nat}, cnt f n ≤ n
  | 0 => by simp [cnt]
  | n + 1 => by
    have := cnt_le (f := f) (n := n)
    have := bI_le (P := f n)
    show cnt f n + bI (f n) ≤ ((n + 1 : Nat) : Int)
    omega
theorem cnt_pos {f : Int → Prop} {p : Int} (hp : 0 ≤ p) (hf : f p) : ∀ {n : Nat}, p < n → 0 < cnt f n
  | 0, h => by omega
  | n + 1, h => by
    have h0 := cnt_nn (f := f) (n := n)
    have h1 := bI_le (P := f n)
    show 0 < cnt f n + bI (f n)
    by_cases e : p = n
    · rw [← e, bI_t hf]; omega
    · have := cnt_pos hp hf (n := n) (by omega)
      omega
theorem cnt_z {f : Int → Prop} (h : ((bset f 16 : Nat) : Int) = 0) : cnt f 16 ≤ 0 := by
  rw [← bN_cnt, show bset f 16 = 0 by omega]
  decide
theorem cnt_nz {f : Int → Prop} (h : ¬ ((bset f 16 : Nat) : Int) = 0) : 0 < cnt f 16 := by
  apply Classical.byContradiction
  intro q
  apply h
  rw [bset_none (fun p a b c => q (cnt_pos a c b))]
  rfl
theorem cnt_lo {f g : Int → Prop} {p : Int} (h : ∀ x, x ≠ p → (g x ↔ f x)) : ∀ {n : Nat}, (n : Int) ≤ p → cnt g n = cnt f n := fun {n} hn => cnt_congr fun x _ b => h x (by omega)
theorem cnt_del {f : Int → Prop} {p : Int} (hp : 0 ≤ p) (hf : f p) : ∀ {n : Nat}, p < n → cnt (fun x => f x ∧ ¬ x = p) n = cnt f n - 1
  | 0, h => by omega
  | n + 1, h => by
    show cnt (fun x => f x ∧ ¬ x = p) n + bI (f n ∧ ¬ (n : Int) = p) = cnt f n + bI (f n) - 1
    by_cases e : (n : Int) = p
    · rw [bI_f (fun q => q.2 e), e, bI_t hf, cnt_lo (f := f) (p := p) (fun x hx => ⟨fun q => q.1, fun q => ⟨q, hx⟩⟩) (by omega)]
      omega
    · rw [cnt_del hp hf (n := n) (by omega), bI_c (show (f n ∧ ¬ (n : Int) = p) ↔ f n from ⟨fun q => q.1, fun q => ⟨q, e⟩⟩)]
      omega
theorem bs_and {f g : Int → Prop} : iI ((bset f 16 : Nat) : Int) &&& iI ((bset g 16 : Nat) : Int) = iI ((bset (fun x => f x ∧ g x) 16 : Nat) : Int) := by
  have ha := bset_lt f 16
  have hb := bset_lt g 16
  rw [iI_and (by omega) (by omega)]
  congr 2
  apply Nat.eq_of_testBit_eq
  intro i
  apply Bool.eq_iff_iff.mpr
  rw [Nat.testBit_and, Bool.and_eq_true, bset_bit, bset_bit, bset_bit]
  exact ⟨fun q => ⟨q.1.1, q.1.2, q.2.2⟩, fun q => ⟨⟨q.1, q.2.1⟩, q.1, q.2.2⟩⟩
theorem bs_1 {p : Int} (h0 : 0 ≤ p) (h1 : p < 16) : iI 1 <<< (iI p &&& 31) = iI ((bset (fun x => x = p) 16 : Nat) : Int) := by
  rw [sh_1 h0 (by omega)]
  obtain ⟨n, rfl⟩ : ∃ n : Nat, p = n := ⟨p.toNat, by omega⟩
  rw [Int.toNat_natCast, bset_one (n := 16) (by omega)]
theorem bs_and0 {a : Int} : iI a &&& iI 0 = iI 0 := by
  show iI a &&& 0 = iI 0
  exact Int32.and_zero
theorem bs_has {f : Int → Prop} {p : Int} (h : ¬ ((bset (fun x => f x ∧ x = p) 16 : Nat) : Int) = 0) : f p := by
  apply Classical.byContradiction
  intro q
  apply h
  have e := bset_none (f := fun x => f x ∧ x = p) (n := 16) (fun x _ _ c => q (c.2 ▸ c.1))
  rw [e]
  rfl
theorem bs_hasn {f : Int → Prop} {p : Int} (h0 : 0 ≤ p) (h1 : p < 16) (h : ((bset (fun x => f x ∧ x = p) 16 : Nat) : Int) = 0) : ¬ f p := by
  intro q
  have := cnt_pos (f := fun x => f x ∧ x = p) h0 ⟨q, rfl⟩ (n := 16) (by omega)
  have := cnt_z h
  omega
abbrev itm (S : HD) (r : Int) : Int → Int := fun k => S 33 (40 * r + k)
set_option maxRecDepth 100000 in
set_option maxHeartbeats 4000000 in
theorem kX8_fits (X : XC) {I : HD} {O : OF} (hR : RepC O I 0) (hV : Val O) {r : Nat} (h_r : r < 8) {it : Int → Int} {i m n : Int} (i0 : 0 ≤ i) (m0 : 0 ≤ m) (im : i + m ≤ 40) (n0 : 0 ≤ n) (n9 : n ≤ 9) (hit : ∀ k, i ≤ k → k < i + m → I (iH r) k = it k) (hits : ∀ k, i ≤ k → k < i + m → 0 ≤ it k ∧ it k < O 1) : Cl X 3 mX8_fits [rv X 0, rv X (rH r), iv i, iv m, iv n] I (Ki (bI (etg O it (i + m) i n.toNat = i + m)) I) := by
  refine Cl.of (by decide) (Nat.le_of_ble_eq_true rfl) ?_
  show Rn X 3 mX8_fits _ 0 [(0, rv X 0), (1, rv X (rH r)), (2, iv i), (3, iv m), (4, iv n)] [] I
  have q0 := hV.a
  refine r_iload_n (pc := 0) (a := 2) (i := 2) 2 rfl rfl dX8_fits_0 ?_
  refine r_istore (pc := 1) [(5, iv i), (0, rv X 0), (1, rv X (rH r)), (2, iv i), (3, iv m), (4, iv n)] (by decide) rfl dX8_fits_1 ?_
  refine r_iconst (pc := 3) dX8_fits_3 ?_
  refine r_istore (pc := 4) [(6, iv 0), (5, iv i), (0, rv X 0), (1, rv X (rH r)), (2, iv i), (3, iv m), (4, iv n)] (by decide) rfl dX8_fits_4 ?_
  have at6 : ∀ (n6 : Nat) (u : Int) (g : Int), (n - g).toNat < n6 → (hg0 : 0 ≤ g) → (hg1 : g ≤ n) → (hu0 : i ≤ u) → (hu1 : u ≤ i + m) → (hE : etg O it (i + m) i g.toNat = u) → Rn X 3 mX8_fits (Ki (bI (etg O it (i + m) i n.toNat = i + m)) I) 6 [(0, rv X 0), (1, rv X (rH r)), (2, iv i), (3, iv m), (4, iv n), (5, iv u), (6, iv g)] [] I := by
    intro n6
    induction n6 with
    | zero => intro u g hm; omega
    | succ n6 ih6 =>
      intro u g hm6 hg0 hg1 hu0 hu1 hE
      refine r_iload (pc := 6) 6 rfl dX8_fits_6 ?_
      refine r_iload (pc := 8) 4 rfl dX8_fits_8 ?_
      refine r_icmp_ge (pc := 10) 93 (by unfold rg; omega) (by unfold rg; omega) dX8_fits_10 (by decide) (fun h10 => ?_) (fun h10 => ?_)
      · skip
        refine r_iload (pc := 93) 5 rfl dX8_fits_93 ?_
        refine r_iload_n (pc := 95) (a := 2) (i := 2) 2 rfl rfl dX8_fits_95 ?_
        refine r_iload_n (pc := 96) (a := 3) (i := 3) 3 rfl rfl dX8_fits_96 ?_
        refine r_iadd (pc := 97) dX8_fits_97 ?_
        refine r_icmp_ne (pc := 98) 105 (by unfold rg; omega) (by unfold rg; omega) dX8_fits_98 (by decide) (fun h98 => ?_) (fun h98 => ?_)
        · skip
          refine r_iconst (pc := 105) dX8_fits_105 ?_
          refine r_zret (pc := 106) (st := []) rfl (rfl) dX8_fits_106 ?_
          exact ⟨by rw [show n = g by omega, hE, bI_f (by omega)], rfl⟩
        · skip
          refine r_iconst (pc := 101) dX8_fits_101 ?_
          refine r_goto (pc := 102) 106 dX8_fits_102 (by decide) ?_
          refine r_zret (pc := 106) (st := []) rfl (rfl) dX8_fits_106 ?_
          exact ⟨by rw [show n = g by omega, hE, bI_t (by omega)], rfl⟩
      · skip
        refine r_aload_n (pc := 13) (a := 0) (i := 0) 0 rfl rfl dX8_fits_13 ?_
        refine r_get (pc := 14) ckX8 (by decide) rfl (j := 2) (by decide) rfl kf_X8_25 dX8_fits_14 ?_
        refine r_iload (pc := 17) 6 rfl dX8_fits_17 ?_
        refine r_callVi (pc := 19) (st := []) (As := [iv g]) okX3_takenByGust (by decide) (oH_lt (show 0 < 28 by decide)) (cellO (show 0 < 28 by decide)) rfl rfl (Nat.le_of_ble_eq_true rfl) km_X8_328 (kX3_takenByGust X (by decide) hR hV (by omega) (by omega)) dX8_fits_19 ?_
        refine r_istore (pc := 22) [(7, iv ((bset (tbg O g) 16 : Nat) : Int)), (0, rv X 0), (1, rv X (rH r)), (2, iv i), (3, iv m), (4, iv n), (5, iv u), (6, iv g)] (by decide) rfl dX8_fits_22 ?_
        refine r_iload (pc := 24) 0 rfl dX8_fits_24 ?_
        refine r_callSi (pc := 26) (st := []) (As := [iv ((bset (tbg O g) 16 : Nat) : Int)]) (D2 := 0) okJ6_bitCount_0f7a4 (by decide) trivial rfl (Nat.le_of_ble_eq_true rfl) km_X8_322 ((by have := kJ6_bitCount X (I := I) (n := bset (tbg O g) 16) (by have := bset_lt (tbg O g) 16; omega); rw [bN_cnt] at this; exact this)) dX8_fits_26 ?_
        refine r_istore (pc := 29) [(8, iv (cnt (tbg O g) 16)), (7, iv ((bset (tbg O g) 16 : Nat) : Int)), (0, rv X 0), (1, rv X (rH r)), (2, iv i), (3, iv m), (4, iv n), (5, iv u), (6, iv g)] (by decide) rfl dX8_fits_29 ?_
        have at31 : ∀ (n31 : Nat) (f : Int → Prop) (u : Int) (c : Int), c.toNat < n31 → (hu0 : i ≤ u) → (hu1 : u ≤ i + m) → (hc : c = cnt f 16) → (hE2 : etn it (i + m) c.toNat f u = etg O it (i + m) i (g + 1).toNat) → Rn X 3 mX8_fits (Ki (bI (etg O it (i + m) i n.toNat = i + m)) I) 31 [(0, rv X 0), (1, rv X (rH r)), (2, iv i), (3, iv m), (4, iv n), (5, iv u), (6, iv g), (7, iv ((bset (f) 16 : Nat) : Int)), (8, iv c)] [] I := by
          intro n31
          induction n31 with
          | zero => intro f u c hm; omega
          | succ n31 ih31 =>
            intro f u c hm31 hu0 hu1 hc hE2
            have hcn := cnt_nn (f := f) (n := 16)
            have hcl := cnt_le (f := f) (n := 16)
            refine r_iload (pc := 31) 8 rfl dX8_fits_31 ?_
            refine r_if_le (pc := 33) 87 (by unfold rg; omega) dX8_fits_33 (by decide) (fun h33 => ?_) (fun h33 => ?_)
            · skip
              refine r_iinc (pc := 87) 6 [(6, iv (g + 1)), (0, rv X 0), (1, rv X (rH r)), (2, iv i), (3, iv m), (4, iv n), (5, iv u), (7, iv ((bset (f) 16 : Nat) : Int)), (8, iv c)] rfl (by decide) rfl dX8_fits_87 ?_
              refine r_goto (pc := 90) 6 dX8_fits_90 (by decide) ?_
              refine r_lv [1, 2, 3, 4, 5, 6, 0] [(0, rv X 0), (1, rv X (rH r)), (2, iv i), (3, iv m), (4, iv n), (5, iv u), (6, iv (g + 1))] rfl ?_
              exact ih6 u (g + 1) (by omega) (by omega) (by omega) (by omega) (by omega) (hE2.symm.trans (etn_0 h33))
            · skip
              refine r_iload (pc := 36) 5 rfl dX8_fits_36 ?_
              refine r_iload_n (pc := 38) (a := 2) (i := 2) 2 rfl rfl dX8_fits_38 ?_
              refine r_iload_n (pc := 39) (a := 3) (i := 3) 3 rfl rfl dX8_fits_39 ?_
              refine r_iadd (pc := 40) dX8_fits_40 ?_
              refine r_icmp_ge (pc := 41) 56 (by unfold rg; omega) (by unfold rg; omega) dX8_fits_41 (by decide) (fun h41 => ?_) (fun h41 => ?_)
              · skip
                refine r_iconst (pc := 56) dX8_fits_56 ?_
                refine r_istore (pc := 57) [(9, iv 0), (0, rv X 0), (1, rv X (rH r)), (2, iv i), (3, iv m), (4, iv n), (5, iv u), (6, iv g), (7, iv ((bset (f) 16 : Nat) : Int)), (8, iv c)] (by decide) rfl dX8_fits_57 ?_
                refine r_iload (pc := 59) 8 rfl dX8_fits_59 ?_
                refine r_iload (pc := 61) 0 rfl dX8_fits_61 ?_
                refine r_iand (pc := 63) (z := 0) (bs_and0) dX8_fits_63 ?_
                refine r_if_ne (pc := 64) 69 (by unfold rg; omega) dX8_fits_64 (by decide) (fun h64 => ?_) (fun h64 => ?_)
                · exact absurd h64 (by decide)
                · skip
                  refine r_iconst (pc := 67) dX8_fits_67 ?_
                  refine r_zret (pc := 68) (st := []) rfl (rfl) dX8_fits_68 ?_
                  exact ⟨by rw [bI_f (etg_no (hE2.symm.trans (etn_f (by omega) (by first | (intro q; omega) | exact fun q => bs_hasn hi2.1 (by omega) h64 q.2))) hg0 (by omega) (by omega))], rfl⟩
              · skip
                have hi2 := hits u hu0 (by omega)
                refine r_iconst (pc := 44) dX8_fits_44 ?_
                refine r_aload_n (pc := 45) (a := 1) (i := 1) 1 rfl rfl dX8_fits_45 ?_
                refine r_getN (pc := 46) ckX5 (rH_lt (h_r)) (cellR (h_r)) (j := 0) (by decide) rfl kf_X8_100 dX8_fits_46 ?_
                refine r_iload (pc := 49) 5 rfl dX8_fits_49 ?_
                refine r_iald (pc := 51) (z := it u) (iH_lt (h_r)) ((cellRi (h_r)) _) (by omega) (by omega) (by decide) (hit _ (by omega) (by omega)) dX8_fits_51 ?_
                refine r_ishl (pc := 52) (z := ((bset (fun x => x = it u) 16 : Nat) : Int)) (bs_1 (by omega) (by omega)) dX8_fits_52 ?_
                refine r_goto (pc := 53) 57 dX8_fits_53 (by decide) ?_
                refine r_istore (pc := 57) [(9, iv ((bset (fun x => x = it u) 16 : Nat) : Int)), (0, rv X 0), (1, rv X (rH r)), (2, iv i), (3, iv m), (4, iv n), (5, iv u), (6, iv g), (7, iv ((bset (f) 16 : Nat) : Int)), (8, iv c)] (by decide) rfl dX8_fits_57 ?_
                refine r_iload (pc := 59) 8 rfl dX8_fits_59 ?_
                refine r_iload (pc := 61) 0 rfl dX8_fits_61 ?_
                refine r_iand (pc := 63) (z := ((bset (fun x => f x ∧ x = it u) 16 : Nat) : Int)) (bs_and) dX8_fits_63 ?_
                refine r_if_ne (pc := 64) 69 (rg_bs) dX8_fits_64 (by decide) (fun h64 => ?_) (fun h64 => ?_)
                · skip
                  refine r_iload (pc := 69) 8 rfl dX8_fits_69 ?_
                  refine r_iload (pc := 71) 0 rfl dX8_fits_71 ?_
                  refine r_iconst (pc := 73) dX8_fits_73 ?_
                  refine r_ixor (pc := 74) (z := -1 - ((bset (fun x => x = it u) 16 : Nat) : Int)) (iI_not _) dX8_fits_74 ?_
                  refine r_iand (pc := 75) (z := ((bset (fun x => f x ∧ ¬ x = it u) 16 : Nat) : Int)) (bs_andn) dX8_fits_75 ?_
                  refine r_istore (pc := 76) [(7, iv ((bset (fun x => f x ∧ ¬ x = it u) 16 : Nat) : Int)), (9, iv ((bset (fun x => x = it u) 16 : Nat) : Int)), (0, rv X 0), (1, rv X (rH r)), (2, iv i), (3, iv m), (4, iv n), (5, iv u), (6, iv g), (8, iv c)] (by decide) rfl dX8_fits_76 ?_
                  refine r_iinc (pc := 78) 7 [(5, iv (u + 1)), (7, iv ((bset (fun x => f x ∧ ¬ x = it u) 16 : Nat) : Int)), (9, iv ((bset (fun x => x = it u) 16 : Nat) : Int)), (0, rv X 0), (1, rv X (rH r)), (2, iv i), (3, iv m), (4, iv n), (6, iv g), (8, iv c)] rfl (by decide) rfl dX8_fits_78 ?_
                  refine r_iinc (pc := 81) 9 [(8, iv (c + (-1))), (5, iv (u + 1)), (7, iv ((bset (fun x => f x ∧ ¬ x = it u) 16 : Nat) : Int)), (9, iv ((bset (fun x => x = it u) 16 : Nat) : Int)), (0, rv X 0), (1, rv X (rH r)), (2, iv i), (3, iv m), (4, iv n), (6, iv g)] rfl (by decide) rfl dX8_fits_81 ?_
                  refine r_goto (pc := 84) 31 dX8_fits_84 (by decide) ?_
                  refine r_lv [4, 5, 6, 7, 8, 1, 9, 2, 0] [(0, rv X 0), (1, rv X (rH r)), (2, iv i), (3, iv m), (4, iv n), (5, iv (u + 1)), (6, iv g), (7, iv ((bset (fun x => f x ∧ ¬ x = it u) 16 : Nat) : Int)), (8, iv (c + (-1)))] rfl ?_
                  exact ih31 (fun x => f x ∧ ¬ x = it u) (u + 1) (c + (-1)) (by omega) (by omega) (by omega) (by rw [cnt_del hi2.1 (bs_has h64) (by omega), hc]; omega) (by rw [show c + (-1) = c - 1 by omega, ← etn_t (by omega) ⟨by omega, bs_has h64⟩]; exact hE2)
                · skip
                  refine r_iconst (pc := 67) dX8_fits_67 ?_
                  refine r_zret (pc := 68) (st := []) rfl (rfl) dX8_fits_68 ?_
                  exact ⟨by rw [bI_f (etg_no (hE2.symm.trans (etn_f (by omega) (by first | (intro q; omega) | exact fun q => bs_hasn hi2.1 (by omega) h64 q.2))) hg0 (by omega) (by omega))], rfl⟩
        refine r_lv [2, 3, 4, 5, 6, 7, 8, 1, 0] [(0, rv X 0), (1, rv X (rH r)), (2, iv i), (3, iv m), (4, iv n), (5, iv u), (6, iv g), (7, iv ((bset (tbg O g) 16 : Nat) : Int)), (8, iv (cnt (tbg O g) 16))] rfl ?_
        exact at31 _ (tbg O g) u (cnt (tbg O g) 16) (Nat.lt_succ_self _) (by omega) (by omega) (rfl) (etg_s hg0 hE (by omega))
  refine r_lv [2, 3, 4, 5, 6, 1, 0] [(0, rv X 0), (1, rv X (rH r)), (2, iv i), (3, iv m), (4, iv n), (5, iv i), (6, iv 0)] rfl ?_
  exact at6 _ i 0 (Nat.lt_succ_self _) (by omega) (by omega) (by omega) (by omega) (rfl)

set_option maxRecDepth 100000 in
set_option maxHeartbeats 4000000 in
theorem kX8_beach (X : XC) {I : HD} {O : OF} (hR : RepC O I 0) (hV : Val O) (hE : RE I I) {r i m n : Int} (hr : rg r) (hi : rg i) (hm : rg m) (hn : rg n) : Cl X 4 mX8_beach [rv X 0, iv r, iv i, iv m, iv n] I (fun q J => (¬ 0 < O 0 → q = some (iv (-1000002)) ∧ J = I) ∧ (0 < O 0 → ¬ (0 ≤ r ∧ r < 8 ∧ 0 ≤ m ∧ m ≤ 16 ∧ 0 ≤ n ∧ n ≤ 9) → q = some (iv (-1000001)) ∧ J = I) ∧ (0 < O 0 → 0 ≤ r ∧ r < 8 ∧ 0 ≤ m ∧ m ≤ 16 ∧ 0 ≤ n ∧ n ≤ 9 → I 31 r < 0 → q = some (iv (-1000011)) ∧ J = up I 0 9 1) ∧ (0 < O 0 → 0 ≤ r ∧ r < 8 ∧ 0 ≤ m ∧ m ≤ 16 ∧ 0 ≤ n ∧ n ≤ 9 → 0 ≤ I 31 r → ¬ (0 ≤ i ∧ i + m ≤ I 32 r) → q = some (iv (-1000012)) ∧ J = up I 0 9 2) ∧ (0 < O 0 → 0 ≤ r ∧ r < 8 ∧ 0 ≤ m ∧ m ≤ 16 ∧ 0 ≤ n ∧ n ≤ 9 → 0 ≤ I 31 r → 0 ≤ i ∧ i + m ≤ I 32 r → ¬ (∀ k, i ≤ k → k < i + m → 0 ≤ itm I r k ∧ itm I r k < O 1) → q = some (iv (-1000001)) ∧ J = I) ∧ (0 < O 0 → 0 ≤ r ∧ r < 8 ∧ 0 ≤ m ∧ m ≤ 16 ∧ 0 ≤ n ∧ n ≤ 9 → 0 ≤ I 31 r → 0 ≤ i ∧ i + m ≤ I 32 r → (∀ k, i ≤ k → k < i + m → 0 ≤ itm I r k ∧ itm I r k < O 1) → q = some (iv (bI (etg O (itm I r) (i + m) i n.toNat = i + m))) ∧ J = up I 0 9 0)) := by
  refine Cl.of (by decide) (Nat.le_of_ble_eq_true rfl) ?_
  show Rn X 4 mX8_beach _ 0 [(0, rv X 0), (1, iv r), (2, iv i), (3, iv m), (4, iv n)] [] I
  unfold rg at hr hi hm hn
  have q0 := hV.a
  refine r_aload_n (pc := 0) (a := 0) (i := 0) 0 rfl rfl dX8_beach_0 ?_
  refine r_get (pc := 1) ckX8 (by decide) rfl (j := 2) (by decide) rfl kf_X8_25 dX8_beach_1 ?_
  refine r_callVi (pc := 4) (st := []) (As := []) okX3_isThere (by decide) (oH_lt (show 0 < 28 by decide)) (cellO (show 0 < 28 by decide)) rfl rfl (Nat.le_of_ble_eq_true rfl) km_X8_197 (kX3_isThere X (by decide) hR hV ) dX8_beach_4 ?_
  refine r_if_ne (pc := 7) 13 rg_bI dX8_beach_7 (by decide) (fun h7 => ?_) (fun h7 => ?_)
  · skip
    have h7 := bI_n.mp h7
    refine r_iload_n (pc := 13) (a := 1) (i := 1) 1 rfl rfl dX8_beach_13 ?_
    refine r_callSi (pc := 14) (st := []) (As := [iv r]) okX8_isRow (by decide) trivial rfl (Nat.le_of_ble_eq_true rfl) km_X8_69 (kX8_isRow X (by unfold rg; omega)) dX8_beach_14 ?_
    refine r_if_eq (pc := 17) 38 rg_bI dX8_beach_17 (by decide) (fun h17 => ?_) (fun h17 => ?_)
    · skip
      have h17 := bI_0.mp h17
      refine r_ldc (pc := 38) kc_X8_73 dX8_beach_38 ?_
      refine r_iret (pc := 40) (st := []) rfl dX8_beach_40 ?_
      exact ⟨fun a => absurd a (by omega), fun _ _ => ⟨rfl, rfl⟩, fun _ a => absurd a (by omega), fun _ a => absurd a (by omega), fun _ a => absurd a (by omega), fun _ a => absurd a (by omega)⟩
    · skip
      have h17 := bI_n.mp h17
      refine r_iload_n (pc := 20) (a := 3) (i := 3) 3 rfl rfl dX8_beach_20 ?_
      refine r_if_lt (pc := 21) 38 (by unfold rg; omega) dX8_beach_21 (by decide) (fun h21 => ?_) (fun h21 => ?_)
      · skip
        refine r_ldc (pc := 38) kc_X8_73 dX8_beach_38 ?_
        refine r_iret (pc := 40) (st := []) rfl dX8_beach_40 ?_
        exact ⟨fun a => absurd a (by omega), fun _ _ => ⟨rfl, rfl⟩, fun _ a => absurd a (by omega), fun _ a => absurd a (by omega), fun _ a => absurd a (by omega), fun _ a => absurd a (by omega)⟩
      · skip
        refine r_iload_n (pc := 24) (a := 3) (i := 3) 3 rfl rfl dX8_beach_24 ?_
        refine r_bipush (pc := 25) rfl dX8_beach_25 ?_
        refine r_icmp_gt (pc := 27) 38 (by unfold rg; omega) (by unfold rg; omega) dX8_beach_27 (by decide) (fun h27 => ?_) (fun h27 => ?_)
        · skip
          refine r_ldc (pc := 38) kc_X8_73 dX8_beach_38 ?_
          refine r_iret (pc := 40) (st := []) rfl dX8_beach_40 ?_
          exact ⟨fun a => absurd a (by omega), fun _ _ => ⟨rfl, rfl⟩, fun _ a => absurd a (by omega), fun _ a => absurd a (by omega), fun _ a => absurd a (by omega), fun _ a => absurd a (by omega)⟩
        · skip
          refine r_iload (pc := 30) 4 rfl dX8_beach_30 ?_
          refine r_callSi (pc := 32) (st := []) (As := [iv n]) okX8_isGusts (by decide) trivial rfl (Nat.le_of_ble_eq_true rfl) km_X8_242 (kX8_isGusts X (by unfold rg; omega)) dX8_beach_32 ?_
          refine r_if_ne (pc := 35) 41 rg_bI dX8_beach_35 (by decide) (fun h35 => ?_) (fun h35 => ?_)
          · skip
            have h35 := bI_n.mp h35
            obtain ⟨g1, g2, g3, g4, g5⟩ := hE r (by omega) (by omega)
            refine r_aload_n (pc := 41) (a := 0) (i := 0) 0 rfl rfl dX8_beach_41 ?_
            refine r_get (pc := 42) ckX8 (by decide) rfl (j := 0) (by decide) rfl kf_X8_11 dX8_beach_42 ?_
            refine r_iload_n (pc := 45) (a := 1) (i := 1) 1 rfl rfl dX8_beach_45 ?_
            refine r_aald (pc := 46) (g := (fun j => 2 + j)) (C := RX5) (by decide) rfl rfl (by omega) (by omega) (by decide) dX8_beach_46 ?_
            refine r_astore (pc := 47) [(5, rv X (rH ((r).toNat))), (0, rv X 0), (1, iv r), (2, iv i), (3, iv m), (4, iv n)] (by decide) rfl dX8_beach_47 ?_
            refine r_aload (pc := 49) 0 rfl dX8_beach_49 ?_
            refine r_callVi (pc := 51) (st := []) (As := []) okX5_isMissing (by decide) (rH_lt (show (r).toNat < 8 by omega)) (cellR (show (r).toNat < 8 by omega)) rfl rfl (Nat.le_of_ble_eq_true rfl) km_X8_85 (kX5_isMissing X (show r.toNat < 8 by omega) g1 (by unfold rg; omega)) dX8_beach_51 ?_
            refine r_if_eq (pc := 54) 63 rg_bI dX8_beach_54 (by decide) (fun h54 => ?_) (fun h54 => ?_)
            · skip
              have h54 := bI_0.mp h54
              obtain ⟨g6, g7, g8, g9⟩ := g5 (by omega)
              refine r_aload (pc := 63) 0 rfl dX8_beach_63 ?_
              refine r_iload_n (pc := 65) (a := 2) (i := 2) 3 rfl rfl dX8_beach_65 ?_
              refine r_iload_n (pc := 66) (a := 3) (i := 3) 4 rfl rfl dX8_beach_66 ?_
              refine r_callVi (pc := 67) (st := []) (As := [iv i, iv m]) okX5_hasPlaces (by decide) (rH_lt (show (r).toNat < 8 by omega)) (cellR (show (r).toNat < 8 by omega)) rfl rfl (Nat.le_of_ble_eq_true rfl) km_X8_89 (kX5_hasPlaces X (show r.toNat < 8 by omega) g6 g7 g8 (by unfold rg; omega) (by unfold rg; omega)) dX8_beach_67 ?_
              refine r_if_ne (pc := 70) 79 rg_bI dX8_beach_70 (by decide) (fun h70 => ?_) (fun h70 => ?_)
              · skip
                have h70 := bI_n.mp h70
                refine r_iload_n (pc := 79) (a := 2) (i := 2) 3 rfl rfl dX8_beach_79 ?_
                refine r_istore (pc := 80) [(6, iv i), (5, rv X (rH ((r).toNat))), (0, rv X 0), (1, iv r), (2, iv i), (3, iv m), (4, iv n)] (by decide) rfl dX8_beach_80 ?_
                have at82 : ∀ (n82 : Nat) (u : Int), (i + m - u).toNat < n82 → (hu0 : i ≤ u) → (hu1 : u ≤ i + m) → (hall : ∀ k, i ≤ k → k < u → 0 ≤ itm I r k ∧ itm I r k < O 1) → Rn X 4 mX8_beach (fun q J => (¬ 0 < O 0 → q = some (iv (-1000002)) ∧ J = I) ∧ (0 < O 0 → ¬ (0 ≤ r ∧ r < 8 ∧ 0 ≤ m ∧ m ≤ 16 ∧ 0 ≤ n ∧ n ≤ 9) → q = some (iv (-1000001)) ∧ J = I) ∧ (0 < O 0 → 0 ≤ r ∧ r < 8 ∧ 0 ≤ m ∧ m ≤ 16 ∧ 0 ≤ n ∧ n ≤ 9 → I 31 r < 0 → q = some (iv (-1000011)) ∧ J = up I 0 9 1) ∧ (0 < O 0 → 0 ≤ r ∧ r < 8 ∧ 0 ≤ m ∧ m ≤ 16 ∧ 0 ≤ n ∧ n ≤ 9 → 0 ≤ I 31 r → ¬ (0 ≤ i ∧ i + m ≤ I 32 r) → q = some (iv (-1000012)) ∧ J = up I 0 9 2) ∧ (0 < O 0 → 0 ≤ r ∧ r < 8 ∧ 0 ≤ m ∧ m ≤ 16 ∧ 0 ≤ n ∧ n ≤ 9 → 0 ≤ I 31 r → 0 ≤ i ∧ i + m ≤ I 32 r → ¬ (∀ k, i ≤ k → k < i + m → 0 ≤ itm I r k ∧ itm I r k < O 1) → q = some (iv (-1000001)) ∧ J = I) ∧ (0 < O 0 → 0 ≤ r ∧ r < 8 ∧ 0 ≤ m ∧ m ≤ 16 ∧ 0 ≤ n ∧ n ≤ 9 → 0 ≤ I 31 r → 0 ≤ i ∧ i + m ≤ I 32 r → (∀ k, i ≤ k → k < i + m → 0 ≤ itm I r k ∧ itm I r k < O 1) → q = some (iv (bI (etg O (itm I r) (i + m) i n.toNat = i + m))) ∧ J = up I 0 9 0)) 82 [(0, rv X 0), (1, iv r), (2, iv i), (3, iv m), (4, iv n), (5, rv X (rH ((r).toNat))), (6, iv u)] [] I := by
                  intro n82
                  induction n82 with
                  | zero => intro u hm; omega
                  | succ n82 ih82 =>
                    intro u hm82 hu0 hu1 hall
                    refine r_iload (pc := 82) 6 rfl dX8_beach_82 ?_
                    refine r_iload_n (pc := 84) (a := 2) (i := 2) 2 rfl rfl dX8_beach_84 ?_
                    refine r_iload_n (pc := 85) (a := 3) (i := 3) 3 rfl rfl dX8_beach_85 ?_
                    refine r_iadd (pc := 86) dX8_beach_86 ?_
                    refine r_icmp_ge (pc := 87) 117 (by unfold rg; omega) (by unfold rg; omega) dX8_beach_87 (by decide) (fun h87 => ?_) (fun h87 => ?_)
                    · skip
                      refine r_aload_n (pc := 117) (a := 0) (i := 0) 0 rfl rfl dX8_beach_117 ?_
                      refine r_aload_n (pc := 118) (a := 0) (i := 0) 0 rfl rfl dX8_beach_118 ?_
                      refine r_aload (pc := 119) 5 rfl dX8_beach_119 ?_
                      refine r_iload_n (pc := 121) (a := 2) (i := 2) 2 rfl rfl dX8_beach_121 ?_
                      refine r_iload_n (pc := 122) (a := 3) (i := 3) 3 rfl rfl dX8_beach_122 ?_
                      refine r_iload (pc := 123) 4 rfl dX8_beach_123 ?_
                      refine r_callVi (pc := 125) (st := [rv X 0]) (As := [rv X (rH ((r).toNat)), iv i, iv m, iv n]) (D2 := 3) okX8_fits (by decide) (by decide) rfl rfl rfl (Nat.le_of_ble_eq_true rfl) km_X8_285 (kX8_fits X hR hV (show r.toNat < 8 by omega) (it := itm I r) (by omega) (by omega) (by omega) (by omega) (by omega) (fun k a b => (g9 k (by omega) (by omega)).1) (fun k a b => hall k a (by omega))) dX8_beach_125 ?_
                      refine r_if_eq (pc := 128) 135 rg_bI dX8_beach_128 (by decide) (fun h128 => ?_) (fun h128 => ?_)
                      · skip
                        have h128 := bI_0.mp h128
                        refine r_iconst (pc := 135) dX8_beach_135 ?_
                        refine r_callVi (pc := 136) (st := []) (As := [iv 0]) okX8_well (by decide) (by decide) rfl rfl rfl (Nat.le_of_ble_eq_true rfl) km_X8_82 (kX8_well X) dX8_beach_136 ?_
                        refine r_iret (pc := 139) (st := []) rfl dX8_beach_139 ?_
                        exact ⟨fun a => absurd a (by omega), fun _ a => absurd a (by omega), fun _ _ a => absurd a (by omega), fun _ _ _ a => absurd a (by omega), fun _ _ _ _ q => absurd (fun k a b => hall k a (by omega)) q, fun _ _ _ _ _ => ⟨by rw [bI_f h128], rfl⟩⟩
                      · skip
                        have h128 := bI_n.mp h128
                        refine r_iconst (pc := 131) dX8_beach_131 ?_
                        refine r_goto (pc := 132) 136 dX8_beach_132 (by decide) ?_
                        refine r_callVi (pc := 136) (st := []) (As := [iv 1]) okX8_well (by decide) (by decide) rfl rfl rfl (Nat.le_of_ble_eq_true rfl) km_X8_82 (kX8_well X) dX8_beach_136 ?_
                        refine r_iret (pc := 139) (st := []) rfl dX8_beach_139 ?_
                        exact ⟨fun a => absurd a (by omega), fun _ a => absurd a (by omega), fun _ _ a => absurd a (by omega), fun _ _ _ a => absurd a (by omega), fun _ _ _ _ q => absurd (fun k a b => hall k a (by omega)) q, fun _ _ _ _ _ => ⟨by rw [bI_t h128], rfl⟩⟩
                    · skip
                      refine r_aload_n (pc := 90) (a := 0) (i := 0) 0 rfl rfl dX8_beach_90 ?_
                      refine r_get (pc := 91) ckX8 (by decide) rfl (j := 2) (by decide) rfl kf_X8_25 dX8_beach_91 ?_
                      refine r_aload (pc := 94) 5 rfl dX8_beach_94 ?_
                      refine r_getN (pc := 96) ckX5 (rH_lt (show (r).toNat < 8 by omega)) (cellR (show (r).toNat < 8 by omega)) (j := 0) (by decide) rfl kf_X8_100 dX8_beach_96 ?_
                      refine r_iload (pc := 99) 6 rfl dX8_beach_99 ?_
                      have hg9 := (g9 u (by omega) (by omega)).2
                      unfold rg at hg9
                      refine r_iald (pc := 101) (z := itm I r u) (iH_lt (show (r).toNat < 8 by omega)) ((cellRi (show (r).toNat < 8 by omega)) _) (by omega) (by omega) (by decide) ((g9 u (by omega) (by omega)).1) dX8_beach_101 ?_
                      refine r_callVi (pc := 102) (st := []) (As := [iv (itm I r u)]) okX3_hasSheet (by decide) (oH_lt (show 0 < 28 by decide)) (cellO (show 0 < 28 by decide)) rfl rfl (Nat.le_of_ble_eq_true rfl) km_X8_154 (kX3_hasSheet X (by decide) hR hV (p := itm I r u) (g9 u (by omega) (by omega)).2) dX8_beach_102 ?_
                      refine r_if_ne (pc := 105) 111 rg_bI dX8_beach_105 (by decide) (fun h105 => ?_) (fun h105 => ?_)
                      · skip
                        have h105 := bI_n.mp h105
                        refine r_iinc (pc := 111) 6 [(6, iv (u + 1)), (0, rv X 0), (1, iv r), (2, iv i), (3, iv m), (4, iv n), (5, rv X (rH ((r).toNat)))] rfl (by decide) rfl dX8_beach_111 ?_
                        refine r_goto (pc := 114) 82 dX8_beach_114 (by decide) ?_
                        refine r_lv [1, 2, 3, 4, 5, 6, 0] [(0, rv X 0), (1, iv r), (2, iv i), (3, iv m), (4, iv n), (5, rv X (rH ((r).toNat))), (6, iv (u + 1))] rfl ?_
                        exact ih82 (u + 1) (by omega) (by omega) (by omega) (fun k a b => (Classical.em (k = u)).elim (fun q => by rw [q]; exact h105) (fun q => hall k a (by omega)))
                      · skip
                        have h105 := bI_0.mp h105
                        refine r_ldc (pc := 108) kc_X8_73 dX8_beach_108 ?_
                        refine r_iret (pc := 110) (st := []) rfl dX8_beach_110 ?_
                        exact ⟨fun a => absurd a (by omega), fun _ a => absurd a (by omega), fun _ _ a => absurd a (by omega), fun _ _ _ a => absurd a (by omega), fun _ _ _ _ _ => ⟨rfl, rfl⟩, fun _ _ _ _ q => absurd (q u (by omega) (by omega)) h105⟩
                refine r_lv [2, 3, 4, 5, 6, 1, 0] [(0, rv X 0), (1, iv r), (2, iv i), (3, iv m), (4, iv n), (5, rv X (rH ((r).toNat))), (6, iv i)] rfl ?_
                exact at82 _ i (Nat.lt_succ_self _) (by omega) (by omega) (fun k a b => absurd b (by omega))
              · skip
                have h70 := bI_0.mp h70
                refine r_aload_n (pc := 73) (a := 0) (i := 0) 1 rfl rfl dX8_beach_73 ?_
                refine r_iconst (pc := 74) dX8_beach_74 ?_
                refine r_callVi (pc := 75) (st := []) (As := [iv 2]) okX8_found (by decide) (by decide) rfl rfl rfl (Nat.le_of_ble_eq_true rfl) km_X8_74 (kX8_found X (by unfold rg; omega)) dX8_beach_75 ?_
                refine r_iret (pc := 78) (st := []) rfl dX8_beach_78 ?_
                exact ⟨fun a => absurd a (by omega), fun _ a => absurd a (by omega), fun _ _ a => absurd a (by omega), fun _ _ _ _ => ⟨rfl, rfl⟩, fun _ _ _ a => absurd a (by omega), fun _ _ _ a => absurd a (by omega)⟩
            · skip
              have h54 := bI_n.mp h54
              refine r_aload_n (pc := 57) (a := 0) (i := 0) 1 rfl rfl dX8_beach_57 ?_
              refine r_iconst (pc := 58) dX8_beach_58 ?_
              refine r_callVi (pc := 59) (st := []) (As := [iv 1]) okX8_found (by decide) (by decide) rfl rfl rfl (Nat.le_of_ble_eq_true rfl) km_X8_74 (kX8_found X (by unfold rg; omega)) dX8_beach_59 ?_
              refine r_iret (pc := 62) (st := []) rfl dX8_beach_62 ?_
              exact ⟨fun a => absurd a (by omega), fun _ a => absurd a (by omega), fun _ _ _ => ⟨rfl, rfl⟩, fun _ _ a => absurd a (by omega), fun _ _ a => absurd a (by omega), fun _ _ a => absurd a (by omega)⟩
          · skip
            have h35 := bI_0.mp h35
            refine r_ldc (pc := 38) kc_X8_73 dX8_beach_38 ?_
            refine r_iret (pc := 40) (st := []) rfl dX8_beach_40 ?_
            exact ⟨fun a => absurd a (by omega), fun _ _ => ⟨rfl, rfl⟩, fun _ a => absurd a (by omega), fun _ a => absurd a (by omega), fun _ a => absurd a (by omega), fun _ a => absurd a (by omega)⟩
  · skip
    have h7 := bI_0.mp h7
    refine r_ldc (pc := 10) kc_X8_160 dX8_beach_10 ?_
    refine r_iret (pc := 12) (st := []) rfl dX8_beach_12 ?_
    exact ⟨fun _ => ⟨rfl, rfl⟩, fun a => absurd a (by omega), fun a => absurd a (by omega), fun a => absurd a (by omega), fun a => absurd a (by omega), fun a => absurd a (by omega)⟩

set_option maxRecDepth 100000 in
set_option maxHeartbeats 4000000 in
theorem kX9_beach (X : XC) {I S : HD} {O : OF} (hO : I 34 = O) (hT : I 30 7 = bI (0 < O 0)) (hV : Val O) (e31 : I 31 = S 31) (e32 : I 32 = S 32) (e33 : I 33 = S 33) (hE : RE S S) {r i m n : Int} (hr : rg r) (hi : rg i) (hm : rg m) (hn : rg n) : Cl X 4 mX9_beach [rv X 30, iv r, iv i, iv m, iv n] I (fun q J => (¬ 0 < O 0 → q = some (iv (-1000002)) ∧ J = up I 30 0 0) ∧ (0 < O 0 → ¬ (0 ≤ r ∧ r < 8 ∧ 0 ≤ m ∧ m ≤ 16 ∧ 0 ≤ n ∧ n ≤ 9) → q = some (iv (-1000001)) ∧ J = up I 30 0 0) ∧ (0 < O 0 → 0 ≤ r ∧ r < 8 ∧ 0 ≤ m ∧ m ≤ 16 ∧ 0 ≤ n ∧ n ≤ 9 → S 31 r < 0 → q = some (iv (-1000011)) ∧ J = up (up I 30 0 0) 30 1 1) ∧ (0 < O 0 → 0 ≤ r ∧ r < 8 ∧ 0 ≤ m ∧ m ≤ 16 ∧ 0 ≤ n ∧ n ≤ 9 → 0 ≤ S 31 r → ¬ (0 ≤ i ∧ i + m ≤ S 32 r) → q = some (iv (-1000012)) ∧ J = up (up I 30 0 0) 30 1 2) ∧ (0 < O 0 → 0 ≤ r ∧ r < 8 ∧ 0 ≤ m ∧ m ≤ 16 ∧ 0 ≤ n ∧ n ≤ 9 → 0 ≤ S 31 r → 0 ≤ i ∧ i + m ≤ S 32 r → ¬ (∀ k, i ≤ k → k < i + m → 0 ≤ itm S r k ∧ itm S r k < O 1) → q = some (iv (-1000001)) ∧ J = up I 30 0 0) ∧ (0 < O 0 → 0 ≤ r ∧ r < 8 ∧ 0 ≤ m ∧ m ≤ 16 ∧ 0 ≤ n ∧ n ≤ 9 → 0 ≤ S 31 r → 0 ≤ i ∧ i + m ≤ S 32 r → (∀ k, i ≤ k → k < i + m → 0 ≤ itm S r k ∧ itm S r k < O 1) → q = some (iv (bI (etg O (itm S r) (i + m) i n.toNat = i + m))) ∧ ∃ f, J = upA (up (up I 30 0 0) 30 1 0) 38 f)) := by
  refine Cl.of (by decide) (Nat.le_of_ble_eq_true rfl) ?_
  show Rn X 4 mX9_beach _ 0 [(0, rv X 30), (1, iv r), (2, iv i), (3, iv m), (4, iv n)] [] I
  have hO2 : (up I 30 0 0) 34 = O := (up_row (by decide)).trans hO
  have hT2 : (up I 30 0 0) 30 7 = bI (0 < O 0) := (up_i (by decide)).trans hT
  unfold rg at hr hi hm hn
  have q0 := hV.a
  have hO3 : (up (up I 30 0 0) 30 1 0) 34 = O := (up_row (by decide)).trans hO2
  have hO4 : ∀ f, (upA (up (up I 30 0 0) 30 1 0) 38 f) 34 = O := fun f => (upA_h (by decide)).trans hO3
  refine r_aload_n (pc := 0) (a := 0) (i := 0) 0 rfl rfl dX9_beach_0 ?_
  refine r_iconst (pc := 1) dX9_beach_1 ?_
  refine r_put (pc := 2) 0 (ji := 0) rfl ckX9 (by decide) rfl rfl (by decide) (Nat.le_of_ble_eq_true rfl) kf_X9_54 rfl rfl rfl rfl dX9_beach_2 ?_
  refine r_aload_n (pc := 5) (a := 0) (i := 0) 0 rfl rfl dX9_beach_5 ?_
  refine r_get (pc := 6) ckX9 (by decide) rfl (j := 7) (by decide) (show _ = some (iv (bI (0 < O 0))) by rw [← hT2]; rfl) kf_X9_184 dX9_beach_6 ?_
  refine r_if_ne (pc := 9) 15 rg_bI dX9_beach_9 (by decide) (fun h9 => ?_) (fun h9 => ?_)
  · skip
    have h9 := bI_n.mp h9
    refine r_iload_n (pc := 15) (a := 1) (i := 1) 1 rfl rfl dX9_beach_15 ?_
    refine r_callSi (pc := 16) (st := []) (As := [iv r]) okX9_isRow (by decide) trivial rfl (Nat.le_of_ble_eq_true rfl) km_X9_68 (kX9_isRow X (by unfold rg; omega)) dX9_beach_16 ?_
    refine r_if_eq (pc := 19) 47 rg_bI dX9_beach_19 (by decide) (fun h19 => ?_) (fun h19 => ?_)
    · skip
      have h19 := bI_0.mp h19
      refine r_ldc (pc := 47) kc_X9_74 dX9_beach_47 ?_
      refine r_iret (pc := 49) (st := []) rfl dX9_beach_49 ?_
      exact ⟨fun a => absurd a (by omega), fun _ _ => ⟨rfl, rfl⟩, fun _ a => absurd a (by omega), fun _ a => absurd a (by omega), fun _ a => absurd a (by omega), fun _ a => absurd a (by omega)⟩
    · skip
      have h19 := bI_n.mp h19
      refine r_iload_n (pc := 22) (a := 3) (i := 3) 3 rfl rfl dX9_beach_22 ?_
      refine r_i2l (pc := 23) (by unfold rg; omega) dX9_beach_23 ?_
      refine r_lconst (pc := 24) (z := 0) rfl dX9_beach_24 ?_
      refine r_ldc2 (pc := 25) kc_X9_277 dX9_beach_25 ?_
      refine r_callSi (pc := 28) (st := []) (As := [jv m, jv 0, jv 16]) okX9_in (by decide) trivial rfl (Nat.le_of_ble_eq_true rfl) km_X9_64 (kX9_in X (by unfold rl; omega) (by unfold rl; omega) (by unfold rl; omega)) dX9_beach_28 ?_
      refine r_if_eq (pc := 31) 47 rg_bI dX9_beach_31 (by decide) (fun h31 => ?_) (fun h31 => ?_)
      · skip
        have h31 := bI_0.mp h31
        refine r_ldc (pc := 47) kc_X9_74 dX9_beach_47 ?_
        refine r_iret (pc := 49) (st := []) rfl dX9_beach_49 ?_
        exact ⟨fun a => absurd a (by omega), fun _ _ => ⟨rfl, rfl⟩, fun _ a => absurd a (by omega), fun _ a => absurd a (by omega), fun _ a => absurd a (by omega), fun _ a => absurd a (by omega)⟩
      · skip
        have h31 := bI_n.mp h31
        refine r_iload (pc := 34) 4 rfl dX9_beach_34 ?_
        refine r_i2l (pc := 36) (by unfold rg; omega) dX9_beach_36 ?_
        refine r_lconst (pc := 37) (z := 0) rfl dX9_beach_37 ?_
        refine r_ldc2 (pc := 38) kc_X9_247 dX9_beach_38 ?_
        refine r_callSi (pc := 41) (st := []) (As := [jv n, jv 0, jv 9]) okX9_in (by decide) trivial rfl (Nat.le_of_ble_eq_true rfl) km_X9_64 (kX9_in X (by unfold rl; omega) (by unfold rl; omega) (by unfold rl; omega)) dX9_beach_41 ?_
        refine r_if_ne (pc := 44) 50 rg_bI dX9_beach_44 (by decide) (fun h44 => ?_) (fun h44 => ?_)
        · skip
          have h44 := bI_n.mp h44
          obtain ⟨g1, g2, g3, g4, g5⟩ := hE r (by omega) (by omega)
          refine r_aload_n (pc := 50) (a := 0) (i := 0) 0 rfl rfl dX9_beach_50 ?_
          refine r_get (pc := 51) ckX9 (by decide) rfl (j := 2) (by decide) rfl kf_X9_7 dX9_beach_51 ?_
          refine r_iload_n (pc := 54) (a := 1) (i := 1) 1 rfl rfl dX9_beach_54 ?_
          refine r_iald (pc := 55) (z := S 31 r) (by decide) rfl (by omega) (by omega) (by decide) ((congrFun (up_row (by decide)) _).trans (congrFun e31 _)) dX9_beach_55 ?_
          refine r_if_ge (pc := 56) 65 (by unfold rg; omega) dX9_beach_56 (by decide) (fun h56 => ?_) (fun h56 => ?_)
          · skip
            obtain ⟨g6, g7, g8, g9⟩ := g5 (by omega)
            refine r_iload_n (pc := 65) (a := 2) (i := 2) 2 rfl rfl dX9_beach_65 ?_
            refine r_if_lt (pc := 66) 85 (by unfold rg; omega) dX9_beach_66 (by decide) (fun h66 => ?_) (fun h66 => ?_)
            · skip
              refine r_aload_n (pc := 85) (a := 0) (i := 0) 0 rfl rfl dX9_beach_85 ?_
              refine r_iconst (pc := 86) dX9_beach_86 ?_
              refine r_callVi (pc := 87) (st := []) (As := [iv 2]) okX9_finding (by decide) (by decide) rfl rfl rfl (Nat.le_of_ble_eq_true rfl) km_X9_75 (kX9_finding X) dX9_beach_87 ?_
              refine r_iret (pc := 90) (st := []) rfl dX9_beach_90 ?_
              exact ⟨fun a => absurd a (by omega), fun _ a => absurd a (by omega), fun _ _ a => absurd a (by omega), fun _ _ _ _ => ⟨rfl, rfl⟩, fun _ _ _ a => absurd a (by omega), fun _ _ _ a => absurd a (by omega)⟩
            · skip
              refine r_iload_n (pc := 69) (a := 2) (i := 2) 2 rfl rfl dX9_beach_69 ?_
              refine r_i2l (pc := 70) (by unfold rg; omega) dX9_beach_70 ?_
              refine r_iload_n (pc := 71) (a := 3) (i := 3) 3 rfl rfl dX9_beach_71 ?_
              refine r_i2l (pc := 72) (by unfold rg; omega) dX9_beach_72 ?_
              refine r_ladd (pc := 73) dX9_beach_73 ?_
              refine r_aload_n (pc := 74) (a := 0) (i := 0) 0 rfl rfl dX9_beach_74 ?_
              refine r_get (pc := 75) ckX9 (by decide) rfl (j := 3) (by decide) rfl kf_X9_13 dX9_beach_75 ?_
              refine r_iload_n (pc := 78) (a := 1) (i := 1) 1 rfl rfl dX9_beach_78 ?_
              refine r_iald (pc := 79) (z := S 32 r) (by decide) rfl (by omega) (by omega) (by decide) ((congrFun (up_row (by decide)) _).trans (congrFun e32 _)) dX9_beach_79 ?_
              refine r_i2l (pc := 80) (by unfold rg; omega) dX9_beach_80 ?_
              refine r_lcif_le (pc := 81) 91 (by unfold rl; omega) (by unfold rl; omega) dX9_beach_81 dX9_beach_82 (by decide) (fun h81 => ?_) (fun h81 => ?_)
              · skip
                refine r_iconst (pc := 91) dX9_beach_91 ?_
                refine r_istore (pc := 92) [(5, iv 0), (0, rv X 30), (1, iv r), (2, iv i), (3, iv m), (4, iv n)] (by decide) rfl dX9_beach_92 ?_
                have at94 : ∀ (n94 : Nat) (a : Int), (m - a).toNat < n94 → (ha0 : 0 ≤ a) → (ha1 : a ≤ m) → (hall0 : ∀ k, i ≤ k → k < i + a → 0 ≤ itm S r k ∧ itm S r k < O 1) → Rn X 4 mX9_beach (fun q J => (¬ 0 < O 0 → q = some (iv (-1000002)) ∧ J = up I 30 0 0) ∧ (0 < O 0 → ¬ (0 ≤ r ∧ r < 8 ∧ 0 ≤ m ∧ m ≤ 16 ∧ 0 ≤ n ∧ n ≤ 9) → q = some (iv (-1000001)) ∧ J = up I 30 0 0) ∧ (0 < O 0 → 0 ≤ r ∧ r < 8 ∧ 0 ≤ m ∧ m ≤ 16 ∧ 0 ≤ n ∧ n ≤ 9 → S 31 r < 0 → q = some (iv (-1000011)) ∧ J = up (up I 30 0 0) 30 1 1) ∧ (0 < O 0 → 0 ≤ r ∧ r < 8 ∧ 0 ≤ m ∧ m ≤ 16 ∧ 0 ≤ n ∧ n ≤ 9 → 0 ≤ S 31 r → ¬ (0 ≤ i ∧ i + m ≤ S 32 r) → q = some (iv (-1000012)) ∧ J = up (up I 30 0 0) 30 1 2) ∧ (0 < O 0 → 0 ≤ r ∧ r < 8 ∧ 0 ≤ m ∧ m ≤ 16 ∧ 0 ≤ n ∧ n ≤ 9 → 0 ≤ S 31 r → 0 ≤ i ∧ i + m ≤ S 32 r → ¬ (∀ k, i ≤ k → k < i + m → 0 ≤ itm S r k ∧ itm S r k < O 1) → q = some (iv (-1000001)) ∧ J = up I 30 0 0) ∧ (0 < O 0 → 0 ≤ r ∧ r < 8 ∧ 0 ≤ m ∧ m ≤ 16 ∧ 0 ≤ n ∧ n ≤ 9 → 0 ≤ S 31 r → 0 ≤ i ∧ i + m ≤ S 32 r → (∀ k, i ≤ k → k < i + m → 0 ≤ itm S r k ∧ itm S r k < O 1) → q = some (iv (bI (etg O (itm S r) (i + m) i n.toNat = i + m))) ∧ ∃ f, J = upA (up (up I 30 0 0) 30 1 0) 38 f)) 94 [(0, rv X 30), (1, iv r), (2, iv i), (3, iv m), (4, iv n), (5, iv a)] [] (up I 30 0 0) := by
                  intro n94
                  induction n94 with
                  | zero => intro a hm; omega
                  | succ n94 ih94 =>
                    intro a hm94 ha0 ha1 hall0
                    refine r_iload (pc := 94) 5 rfl dX9_beach_94 ?_
                    refine r_iload_n (pc := 96) (a := 3) (i := 3) 3 rfl rfl dX9_beach_96 ?_
                    refine r_icmp_ge (pc := 97) 130 (by unfold rg; omega) (by unfold rg; omega) dX9_beach_97 (by decide) (fun h97 => ?_) (fun h97 => ?_)
                    · skip
                      refine r_aload_n (pc := 130) (a := 0) (i := 0) 0 rfl rfl dX9_beach_130 ?_
                      refine r_iconst (pc := 131) dX9_beach_131 ?_
                      refine r_put (pc := 132) 1 (ji := 1) rfl ckX9 (by decide) rfl rfl (by decide) (Nat.le_of_ble_eq_true rfl) kf_X9_58 rfl rfl rfl rfl dX9_beach_132 ?_
                      refine r_aload_n (pc := 135) (a := 0) (i := 0) 0 rfl rfl dX9_beach_135 ?_
                      refine r_callV (pc := 136) (st := []) (As := []) (D2 := 1) okX9_layLeft (by decide) (by decide) rfl rfl rfl (Nat.le_of_ble_eq_true rfl) km_X9_236 (kX9_layLeft X hO3 hV) dX9_beach_136 ?_
                      rintro _ _ ⟨rfl, fl, rfl, hfl⟩
                      refine r_iconst (pc := 139) dX9_beach_139 ?_
                      refine r_istore (pc := 140) [(5, iv 0), (0, rv X 30), (1, iv r), (2, iv i), (3, iv m), (4, iv n)] (by decide) rfl dX9_beach_140 ?_
                      refine r_iconst (pc := 142) dX9_beach_142 ?_
                      refine r_istore (pc := 143) [(6, iv 0), (5, iv 0), (0, rv X 30), (1, iv r), (2, iv i), (3, iv m), (4, iv n)] (by decide) rfl dX9_beach_143 ?_
                      have at145 : ∀ (n145 : Nat) (fl : Int → Int) (a : Int) (g : Int), (n - g).toNat < n145 → (hg0 : 0 ≤ g) → (hg1 : g ≤ n) → (ha0 : 0 ≤ a) → (ha1 : a ≤ m) → (hfl : lftE O g fl) → (hall : ∀ k, i ≤ k → k < i + m → 0 ≤ itm S r k ∧ itm S r k < O 1) → (hE1 : etg O (itm S r) (i + m) i g.toNat = i + a) → Rn X 4 mX9_beach (fun q J => (¬ 0 < O 0 → q = some (iv (-1000002)) ∧ J = up I 30 0 0) ∧ (0 < O 0 → ¬ (0 ≤ r ∧ r < 8 ∧ 0 ≤ m ∧ m ≤ 16 ∧ 0 ≤ n ∧ n ≤ 9) → q = some (iv (-1000001)) ∧ J = up I 30 0 0) ∧ (0 < O 0 → 0 ≤ r ∧ r < 8 ∧ 0 ≤ m ∧ m ≤ 16 ∧ 0 ≤ n ∧ n ≤ 9 → S 31 r < 0 → q = some (iv (-1000011)) ∧ J = up (up I 30 0 0) 30 1 1) ∧ (0 < O 0 → 0 ≤ r ∧ r < 8 ∧ 0 ≤ m ∧ m ≤ 16 ∧ 0 ≤ n ∧ n ≤ 9 → 0 ≤ S 31 r → ¬ (0 ≤ i ∧ i + m ≤ S 32 r) → q = some (iv (-1000012)) ∧ J = up (up I 30 0 0) 30 1 2) ∧ (0 < O 0 → 0 ≤ r ∧ r < 8 ∧ 0 ≤ m ∧ m ≤ 16 ∧ 0 ≤ n ∧ n ≤ 9 → 0 ≤ S 31 r → 0 ≤ i ∧ i + m ≤ S 32 r → ¬ (∀ k, i ≤ k → k < i + m → 0 ≤ itm S r k ∧ itm S r k < O 1) → q = some (iv (-1000001)) ∧ J = up I 30 0 0) ∧ (0 < O 0 → 0 ≤ r ∧ r < 8 ∧ 0 ≤ m ∧ m ≤ 16 ∧ 0 ≤ n ∧ n ≤ 9 → 0 ≤ S 31 r → 0 ≤ i ∧ i + m ≤ S 32 r → (∀ k, i ≤ k → k < i + m → 0 ≤ itm S r k ∧ itm S r k < O 1) → q = some (iv (bI (etg O (itm S r) (i + m) i n.toNat = i + m))) ∧ ∃ f, J = upA (up (up I 30 0 0) 30 1 0) 38 f)) 145 [(0, rv X 30), (1, iv r), (2, iv i), (3, iv m), (4, iv n), (5, iv a), (6, iv g)] [] (upA (up (up I 30 0 0) 30 1 0) 38 fl) := by
                        intro n145
                        induction n145 with
                        | zero => intro fl a g hm; omega
                        | succ n145 ih145 =>
                          intro fl a g hm145 hg0 hg1 ha0 ha1 hfl hall hE1
                          refine r_iload (pc := 145) 6 rfl dX9_beach_145 ?_
                          refine r_iload (pc := 147) 4 rfl dX9_beach_147 ?_
                          refine r_icmp_ge (pc := 149) 229 (by unfold rg; omega) (by unfold rg; omega) dX9_beach_149 (by decide) (fun h149 => ?_) (fun h149 => ?_)
                          · skip
                            refine r_iload (pc := 229) 5 rfl dX9_beach_229 ?_
                            refine r_iload_n (pc := 231) (a := 3) (i := 3) 3 rfl rfl dX9_beach_231 ?_
                            refine r_icmp_ne (pc := 232) 239 (by unfold rg; omega) (by unfold rg; omega) dX9_beach_232 (by decide) (fun h232 => ?_) (fun h232 => ?_)
                            · skip
                              refine r_iconst (pc := 239) dX9_beach_239 ?_
                              refine r_iret (pc := 240) (st := []) rfl dX9_beach_240 ?_
                              exact ⟨fun a => absurd a (by omega), fun _ a => absurd a (by omega), fun _ _ a => absurd a (by omega), fun _ _ _ a => absurd a (by omega), fun _ _ _ _ q => absurd hall q, fun _ _ _ _ _ => ⟨by rw [show n = g by omega, hE1, bI_f (by omega)], fl, rfl⟩⟩
                            · skip
                              refine r_iconst (pc := 235) dX9_beach_235 ?_
                              refine r_goto (pc := 236) 240 dX9_beach_236 (by decide) ?_
                              refine r_iret (pc := 240) (st := []) rfl dX9_beach_240 ?_
                              exact ⟨fun a => absurd a (by omega), fun _ a => absurd a (by omega), fun _ _ a => absurd a (by omega), fun _ _ _ a => absurd a (by omega), fun _ _ _ _ q => absurd hall q, fun _ _ _ _ _ => ⟨by rw [show n = g by omega, hE1, bI_t (by omega)], fl, rfl⟩⟩
                          · skip
                            refine r_aload_n (pc := 152) (a := 0) (i := 0) 0 rfl rfl dX9_beach_152 ?_
                            refine r_callV (pc := 153) (st := []) (As := []) (D2 := 2) okX9_gust (by decide) (by decide) rfl rfl rfl (Nat.le_of_ble_eq_true rfl) km_X9_239 (kX9_gust X (hO4 fl) hV hg0 (by rw [upA_s]; exact hfl)) dX9_beach_153 ?_
                            rintro _ _ ⟨rfl, fl2, rfl, hfl2⟩
                            rw [upA_A]
                            refine r_istore (pc := 156) [(7, iv ((bset (tbg O g) 16 : Nat) : Int)), (0, rv X 30), (1, iv r), (2, iv i), (3, iv m), (4, iv n), (5, iv a), (6, iv g)] (by decide) rfl dX9_beach_156 ?_
                            have at158 : ∀ (n158 : Nat) (f : Int → Prop) (a : Int), (m - a).toNat < n158 → (ha0 : 0 ≤ a) → (ha1 : a ≤ m) → (hE2 : etn (itm S r) (i + m) (cnt f 16).toNat f (i + a) = etg O (itm S r) (i + m) i (g + 1).toNat) → Rn X 4 mX9_beach (fun q J => (¬ 0 < O 0 → q = some (iv (-1000002)) ∧ J = up I 30 0 0) ∧ (0 < O 0 → ¬ (0 ≤ r ∧ r < 8 ∧ 0 ≤ m ∧ m ≤ 16 ∧ 0 ≤ n ∧ n ≤ 9) → q = some (iv (-1000001)) ∧ J = up I 30 0 0) ∧ (0 < O 0 → 0 ≤ r ∧ r < 8 ∧ 0 ≤ m ∧ m ≤ 16 ∧ 0 ≤ n ∧ n ≤ 9 → S 31 r < 0 → q = some (iv (-1000011)) ∧ J = up (up I 30 0 0) 30 1 1) ∧ (0 < O 0 → 0 ≤ r ∧ r < 8 ∧ 0 ≤ m ∧ m ≤ 16 ∧ 0 ≤ n ∧ n ≤ 9 → 0 ≤ S 31 r → ¬ (0 ≤ i ∧ i + m ≤ S 32 r) → q = some (iv (-1000012)) ∧ J = up (up I 30 0 0) 30 1 2) ∧ (0 < O 0 → 0 ≤ r ∧ r < 8 ∧ 0 ≤ m ∧ m ≤ 16 ∧ 0 ≤ n ∧ n ≤ 9 → 0 ≤ S 31 r → 0 ≤ i ∧ i + m ≤ S 32 r → ¬ (∀ k, i ≤ k → k < i + m → 0 ≤ itm S r k ∧ itm S r k < O 1) → q = some (iv (-1000001)) ∧ J = up I 30 0 0) ∧ (0 < O 0 → 0 ≤ r ∧ r < 8 ∧ 0 ≤ m ∧ m ≤ 16 ∧ 0 ≤ n ∧ n ≤ 9 → 0 ≤ S 31 r → 0 ≤ i ∧ i + m ≤ S 32 r → (∀ k, i ≤ k → k < i + m → 0 ≤ itm S r k ∧ itm S r k < O 1) → q = some (iv (bI (etg O (itm S r) (i + m) i n.toNat = i + m))) ∧ ∃ f, J = upA (up (up I 30 0 0) 30 1 0) 38 f)) 158 [(0, rv X 30), (1, iv r), (2, iv i), (3, iv m), (4, iv n), (5, iv a), (6, iv g), (7, iv ((bset (f) 16 : Nat) : Int))] [] (upA (up (up I 30 0 0) 30 1 0) 38 fl2) := by
                              intro n158
                              induction n158 with
                              | zero => intro f a hm; omega
                              | succ n158 ih158 =>
                                intro f a hm158 ha0 ha1 hE2
                                refine r_iload (pc := 158) 5 rfl dX9_beach_158 ?_
                                refine r_iload_n (pc := 160) (a := 3) (i := 3) 3 rfl rfl dX9_beach_160 ?_
                                refine r_icmp_ge (pc := 161) 216 (by unfold rg; omega) (by unfold rg; omega) dX9_beach_161 (by decide) (fun h161 => ?_) (fun h161 => ?_)
                                · skip
                                  refine r_iload (pc := 216) 7 rfl dX9_beach_216 ?_
                                  refine r_if_eq (pc := 218) 223 (rg_bs) dX9_beach_218 (by decide) (fun h218 => ?_) (fun h218 => ?_)
                                  · skip
                                    refine r_iinc (pc := 223) 6 [(6, iv (g + 1)), (0, rv X 30), (1, iv r), (2, iv i), (3, iv m), (4, iv n), (5, iv a), (7, iv ((bset (f) 16 : Nat) : Int))] rfl (by decide) rfl dX9_beach_223 ?_
                                    refine r_goto (pc := 226) 145 dX9_beach_226 (by decide) ?_
                                    refine r_lv [1, 2, 3, 4, 5, 6, 0] [(0, rv X 30), (1, iv r), (2, iv i), (3, iv m), (4, iv n), (5, iv a), (6, iv (g + 1))] rfl ?_
                                    exact ih145 _ a (g + 1) (by omega) (by omega) (by omega) (by omega) (by omega) (hfl2) (hall) (hE2.symm.trans (etn_0 (cnt_z h218)))
                                  · skip
                                    refine r_iconst (pc := 221) dX9_beach_221 ?_
                                    refine r_iret (pc := 222) (st := []) rfl dX9_beach_222 ?_
                                    exact ⟨fun a => absurd a (by omega), fun _ a => absurd a (by omega), fun _ _ a => absurd a (by omega), fun _ _ _ a => absurd a (by omega), fun _ _ _ _ q => absurd hall q, fun _ _ _ _ _ => ⟨by rw [bI_f (etg_no (hE2.symm.trans (etn_f (cnt_nz h218) (by first | (intro q; omega) | exact fun q => h184 (bI_t q.2)))) hg0 (by omega) (by omega))], fl2, rfl⟩⟩
                                · skip
                                  have hi2 := hall (i + a) (by omega) (by omega)
                                  refine r_iload (pc := 164) 7 rfl dX9_beach_164 ?_
                                  refine r_aload_n (pc := 166) (a := 0) (i := 0) 0 rfl rfl dX9_beach_166 ?_
                                  refine r_get (pc := 167) ckX9 (by decide) rfl (j := 4) (by decide) rfl kf_X9_16 dX9_beach_167 ?_
                                  refine r_bipush (pc := 170) rfl dX9_beach_170 ?_
                                  refine r_iload_n (pc := 172) (a := 1) (i := 1) 1 rfl rfl dX9_beach_172 ?_
                                  refine r_imul (pc := 173) dX9_beach_173 ?_
                                  refine r_iload_n (pc := 174) (a := 2) (i := 2) 2 rfl rfl dX9_beach_174 ?_
                                  refine r_iadd (pc := 175) dX9_beach_175 ?_
                                  refine r_iload (pc := 176) 5 rfl dX9_beach_176 ?_
                                  refine r_iadd (pc := 178) dX9_beach_178 ?_
                                  refine r_iald (pc := 179) (z := itm S r (i + a)) (by decide) rfl (by omega) (by omega) (by decide) (by rw [upA_h (by decide), up_row (by decide), up_row (by decide), e33]; exact congrArg (S 33) (by omega)) dX9_beach_179 ?_
                                  refine r_ishr (pc := 180) (z := ((bset (f) 16 >>> (itm S r (i + a)).toNat : Nat) : Int)) (bs_shr (by omega) (by omega)) dX9_beach_180 ?_
                                  refine r_iconst (pc := 181) dX9_beach_181 ?_
                                  refine r_iand (pc := 182) (z := bI (f (itm S r (i + a)))) (bs_bit (by omega) (by omega)) dX9_beach_182 ?_
                                  refine r_iconst (pc := 183) dX9_beach_183 ?_
                                  refine r_icmp_ne (pc := 184) 216 (rg_bI) (by unfold rg; omega) dX9_beach_184 (by decide) (fun h184 => ?_) (fun h184 => ?_)
                                  · skip
                                    refine r_iload (pc := 216) 7 rfl dX9_beach_216 ?_
                                    refine r_if_eq (pc := 218) 223 (rg_bs) dX9_beach_218 (by decide) (fun h218 => ?_) (fun h218 => ?_)
                                    · skip
                                      refine r_iinc (pc := 223) 6 [(6, iv (g + 1)), (0, rv X 30), (1, iv r), (2, iv i), (3, iv m), (4, iv n), (5, iv a), (7, iv ((bset (f) 16 : Nat) : Int))] rfl (by decide) rfl dX9_beach_223 ?_
                                      refine r_goto (pc := 226) 145 dX9_beach_226 (by decide) ?_
                                      refine r_lv [1, 2, 3, 4, 5, 6, 0] [(0, rv X 30), (1, iv r), (2, iv i), (3, iv m), (4, iv n), (5, iv a), (6, iv (g + 1))] rfl ?_
                                      exact ih145 _ a (g + 1) (by omega) (by omega) (by omega) (by omega) (by omega) (hfl2) (hall) (hE2.symm.trans (etn_0 (cnt_z h218)))
                                    · skip
                                      refine r_iconst (pc := 221) dX9_beach_221 ?_
                                      refine r_iret (pc := 222) (st := []) rfl dX9_beach_222 ?_
                                      exact ⟨fun a => absurd a (by omega), fun _ a => absurd a (by omega), fun _ _ a => absurd a (by omega), fun _ _ _ a => absurd a (by omega), fun _ _ _ _ q => absurd hall q, fun _ _ _ _ _ => ⟨by rw [bI_f (etg_no (hE2.symm.trans (etn_f (cnt_nz h218) (by first | (intro q; omega) | exact fun q => h184 (bI_t q.2)))) hg0 (by omega) (by omega))], fl2, rfl⟩⟩
                                  · skip
                                    have hf2 := bI_n.mp (show ¬ bI (f (itm S r (i + a))) = 0 by omega)
                                    refine r_iload (pc := 187) 7 rfl dX9_beach_187 ?_
                                    refine r_iconst (pc := 189) dX9_beach_189 ?_
                                    refine r_aload_n (pc := 190) (a := 0) (i := 0) 0 rfl rfl dX9_beach_190 ?_
                                    refine r_get (pc := 191) ckX9 (by decide) rfl (j := 4) (by decide) rfl kf_X9_16 dX9_beach_191 ?_
                                    refine r_bipush (pc := 194) rfl dX9_beach_194 ?_
                                    refine r_iload_n (pc := 196) (a := 1) (i := 1) 1 rfl rfl dX9_beach_196 ?_
                                    refine r_imul (pc := 197) dX9_beach_197 ?_
                                    refine r_iload_n (pc := 198) (a := 2) (i := 2) 2 rfl rfl dX9_beach_198 ?_
                                    refine r_iadd (pc := 199) dX9_beach_199 ?_
                                    refine r_iload (pc := 200) 5 rfl dX9_beach_200 ?_
                                    refine r_iadd (pc := 202) dX9_beach_202 ?_
                                    refine r_iald (pc := 203) (z := itm S r (i + a)) (by decide) rfl (by omega) (by omega) (by decide) (by rw [upA_h (by decide), up_row (by decide), up_row (by decide), e33]; exact congrArg (S 33) (by omega)) dX9_beach_203 ?_
                                    refine r_ishl (pc := 204) (z := ((bset (fun x => x = itm S r (i + a)) 16 : Nat) : Int)) (bs_1 (by omega) (by omega)) dX9_beach_204 ?_
                                    refine r_iconst (pc := 205) dX9_beach_205 ?_
                                    refine r_ixor (pc := 206) (z := -1 - ((bset (fun x => x = itm S r (i + a)) 16 : Nat) : Int)) (iI_not _) dX9_beach_206 ?_
                                    refine r_iand (pc := 207) (z := ((bset (fun x => f x ∧ ¬ x = itm S r (i + a)) 16 : Nat) : Int)) (bs_andn) dX9_beach_207 ?_
                                    refine r_istore (pc := 208) [(7, iv ((bset (fun x => f x ∧ ¬ x = itm S r (i + a)) 16 : Nat) : Int)), (0, rv X 30), (1, iv r), (2, iv i), (3, iv m), (4, iv n), (5, iv a), (6, iv g)] (by decide) rfl dX9_beach_208 ?_
                                    refine r_iinc (pc := 210) 6 [(5, iv (a + 1)), (7, iv ((bset (fun x => f x ∧ ¬ x = itm S r (i + a)) 16 : Nat) : Int)), (0, rv X 30), (1, iv r), (2, iv i), (3, iv m), (4, iv n), (6, iv g)] rfl (by decide) rfl dX9_beach_210 ?_
                                    refine r_goto (pc := 213) 158 dX9_beach_213 (by decide) ?_
                                    refine r_lv [2, 3, 4, 5, 6, 0, 7, 1] [(0, rv X 30), (1, iv r), (2, iv i), (3, iv m), (4, iv n), (5, iv (a + 1)), (6, iv g), (7, iv ((bset (fun x => f x ∧ ¬ x = itm S r (i + a)) 16 : Nat) : Int))] rfl ?_
                                    exact ih158 (fun x => f x ∧ ¬ x = itm S r (i + a)) (a + 1) (by omega) (by omega) (by omega) (by rw [cnt_del hi2.1 hf2 (by omega), show i + (a + 1) = i + a + 1 by omega, ← etn_t (cnt_pos hi2.1 hf2 (by omega)) ⟨by omega, hf2⟩]; exact hE2)
                            refine r_lv [1, 2, 3, 4, 5, 6, 7, 0] [(0, rv X 30), (1, iv r), (2, iv i), (3, iv m), (4, iv n), (5, iv a), (6, iv g), (7, iv ((bset (tbg O g) 16 : Nat) : Int))] rfl ?_
                            exact at158 _ (tbg O g) a (Nat.lt_succ_self _) (by omega) (by omega) (etg_s hg0 hE1 (by omega))
                      refine r_lv [2, 3, 4, 5, 6, 1, 0] [(0, rv X 30), (1, iv r), (2, iv i), (3, iv m), (4, iv n), (5, iv 0), (6, iv 0)] rfl ?_
                      exact at145 _ _ 0 0 (Nat.lt_succ_self _) (by omega) (by omega) (by omega) (by omega) (hfl) (fun k x y => hall0 k x (by omega)) (by show i = i + 0; omega)
                    · skip
                      refine r_aload_n (pc := 100) (a := 0) (i := 0) 0 rfl rfl dX9_beach_100 ?_
                      refine r_aload_n (pc := 101) (a := 0) (i := 0) 0 rfl rfl dX9_beach_101 ?_
                      refine r_get (pc := 102) ckX9 (by decide) rfl (j := 4) (by decide) rfl kf_X9_16 dX9_beach_102 ?_
                      refine r_bipush (pc := 105) rfl dX9_beach_105 ?_
                      refine r_iload_n (pc := 107) (a := 1) (i := 1) 1 rfl rfl dX9_beach_107 ?_
                      refine r_imul (pc := 108) dX9_beach_108 ?_
                      refine r_iload_n (pc := 109) (a := 2) (i := 2) 2 rfl rfl dX9_beach_109 ?_
                      refine r_iadd (pc := 110) dX9_beach_110 ?_
                      refine r_iload (pc := 111) 5 rfl dX9_beach_111 ?_
                      refine r_iadd (pc := 113) dX9_beach_113 ?_
                      have hg9 := (g9 (i + a) (by omega) (by omega)).2
                      refine r_iald (pc := 114) (z := itm S r (i + a)) (by decide) rfl (by omega) (by omega) (by decide) (by rw [up_row (by decide), e33]; exact congrArg (S 33) (by omega)) dX9_beach_114 ?_
                      refine r_callVi (pc := 115) (st := []) (As := [iv (itm S r (i + a))]) okX9_isSheet (by decide) (by decide) rfl rfl rfl (Nat.le_of_ble_eq_true rfl) km_X9_200 (kX9_isSheet X hO2 hV hg9) dX9_beach_115 ?_
                      refine r_if_ne (pc := 118) 124 rg_bI dX9_beach_118 (by decide) (fun h118 => ?_) (fun h118 => ?_)
                      · skip
                        have h118 := bI_n.mp h118
                        refine r_iinc (pc := 124) 5 [(5, iv (a + 1)), (0, rv X 30), (1, iv r), (2, iv i), (3, iv m), (4, iv n)] rfl (by decide) rfl dX9_beach_124 ?_
                        refine r_goto (pc := 127) 94 dX9_beach_127 (by decide) ?_
                        refine r_lv [1, 2, 3, 4, 5, 0] [(0, rv X 30), (1, iv r), (2, iv i), (3, iv m), (4, iv n), (5, iv (a + 1))] rfl ?_
                        exact ih94 (a + 1) (by omega) (by omega) (by omega) (fun k x y => (Classical.em (k = i + a)).elim (fun q => by rw [q]; exact h118) (fun q => hall0 k x (by omega)))
                      · skip
                        have h118 := bI_0.mp h118
                        refine r_ldc (pc := 121) kc_X9_74 dX9_beach_121 ?_
                        refine r_iret (pc := 123) (st := []) rfl dX9_beach_123 ?_
                        exact ⟨fun a => absurd a (by omega), fun _ a => absurd a (by omega), fun _ _ a => absurd a (by omega), fun _ _ _ a => absurd a (by omega), fun _ _ _ _ _ => ⟨rfl, rfl⟩, fun _ _ _ _ q => absurd (q (i + a) (by omega) (by omega)) h118⟩
                refine r_lv [1, 2, 3, 4, 5, 0] [(0, rv X 30), (1, iv r), (2, iv i), (3, iv m), (4, iv n), (5, iv 0)] rfl ?_
                exact at94 _ 0 (Nat.lt_succ_self _) (by omega) (by omega) (fun k a b => absurd b (by omega))
              · skip
                refine r_aload_n (pc := 85) (a := 0) (i := 0) 0 rfl rfl dX9_beach_85 ?_
                refine r_iconst (pc := 86) dX9_beach_86 ?_
                refine r_callVi (pc := 87) (st := []) (As := [iv 2]) okX9_finding (by decide) (by decide) rfl rfl rfl (Nat.le_of_ble_eq_true rfl) km_X9_75 (kX9_finding X) dX9_beach_87 ?_
                refine r_iret (pc := 90) (st := []) rfl dX9_beach_90 ?_
                exact ⟨fun a => absurd a (by omega), fun _ a => absurd a (by omega), fun _ _ a => absurd a (by omega), fun _ _ _ _ => ⟨rfl, rfl⟩, fun _ _ _ a => absurd a (by omega), fun _ _ _ a => absurd a (by omega)⟩
          · skip
            refine r_aload_n (pc := 59) (a := 0) (i := 0) 0 rfl rfl dX9_beach_59 ?_
            refine r_iconst (pc := 60) dX9_beach_60 ?_
            refine r_callVi (pc := 61) (st := []) (As := [iv 1]) okX9_finding (by decide) (by decide) rfl rfl rfl (Nat.le_of_ble_eq_true rfl) km_X9_75 (kX9_finding X) dX9_beach_61 ?_
            refine r_iret (pc := 64) (st := []) rfl dX9_beach_64 ?_
            exact ⟨fun a => absurd a (by omega), fun _ a => absurd a (by omega), fun _ _ _ => ⟨rfl, rfl⟩, fun _ _ a => absurd a (by omega), fun _ _ a => absurd a (by omega), fun _ _ a => absurd a (by omega)⟩
        · skip
          have h44 := bI_0.mp h44
          refine r_ldc (pc := 47) kc_X9_74 dX9_beach_47 ?_
          refine r_iret (pc := 49) (st := []) rfl dX9_beach_49 ?_
          exact ⟨fun a => absurd a (by omega), fun _ _ => ⟨rfl, rfl⟩, fun _ a => absurd a (by omega), fun _ a => absurd a (by omega), fun _ a => absurd a (by omega), fun _ a => absurd a (by omega)⟩
  · skip
    have h9 := bI_0.mp h9
    refine r_ldc (pc := 12) kc_X9_206 dX9_beach_12 ?_
    refine r_iret (pc := 14) (st := []) rfl dX9_beach_14 ?_
    exact ⟨fun _ => ⟨rfl, rfl⟩, fun a => absurd a (by omega), fun a => absurd a (by omega), fun a => absurd a (by omega), fun a => absurd a (by omega), fun a => absurd a (by omega)⟩
