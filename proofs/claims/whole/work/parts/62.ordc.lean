/-! ===== order: the class ===== -/
def stl (l : Int → Int) (p z : Int) : Int → Int := fun b => if b = p then z else l b
theorem stl_s {l : Int → Int} {p z : Int} : stl l p z p = z := if_pos rfl
theorem stl_n {l : Int → Int} {p z b : Int} (h : b ≠ p) : stl l p z b = l b := if_neg h
theorem stl_2 {l : Int → Int} {p y z : Int} : (fun b => if b = p then z else stl l p y b) = stl l p z := by
  funext b
  unfold stl
  by_cases e : b = p
  · rw [if_pos e, if_pos e]
  · rw [if_neg e, if_neg e, if_neg e]
theorem stl_a {l : Int → Int} {p z : Int} : agr p (stl l p z) l := fun k a b => stl_n (by omega)
theorem bs_nz {f : Int → Prop} (h : 0 < cnt f 16) : ¬ ((bset f 16 : Nat) : Int) = 0 := fun q => by have := cnt_z q; omega
def rM (f : Int → Prop) (m : Int) : Int := m
noncomputable def mN (f : Int → Prop) (m : Int) : Int := @ite Int (m ≤ cnt f 16) (Classical.propDecidable _) m (cnt f 16)
theorem mN_e {f : Int → Prop} {m : Int} : (m ≤ cnt f 16 ∧ mN f m = m) ∨ (cnt f 16 < m ∧ mN f m = cnt f 16) := by
  unfold mN
  by_cases q : m ≤ cnt f 16
  · rw [if_pos q]; exact Or.inl ⟨q, rfl⟩
  · rw [if_neg q]; exact Or.inr ⟨by omega, rfl⟩
theorem lL_mn {O : OF} {l : Int → Int} {p : Nat} {f : Int → Prop} {m t s : Int} (q : ¬ ∃ x, f x ∧ slat O x) (m0 : 0 ≤ m) (ht : t = mN f m) (hs : s = gS O (mN f m).toNat f) : s + dS O l p (m - t).toNat = lL O l p f m.toNat := by
  have hn := cnt_nn (f := f) (n := 16)
  rw [lL_ns q, ht, hs]
  rcases mN_e (f := f) (m := m) with ⟨a, b⟩ | ⟨a, b⟩
  · rw [b, if_pos (by omega), show (m - m).toNat = 0 by omega, dS_0]
    omega
  · rw [b, if_neg (by omega), show (m - cnt f 16).toNat = m.toNat - (cnt f 16).toNat by omega]
theorem greedy_lex {O : OF} {S : Int → Prop} {l B : Int → Int} {h p s L0 : Int} {m : Nat} (hV : Val O) (hf : sbs O S) (h0 : 0 ≤ h) (p0 : 0 ≤ p) (p1 : p < h) (hB : arr S h B) (hd : dS O B h.toNat m = L0) (hl : lle p l B) (hL : lL O l p.toNat (rst S l p) m = L0) (hno : ∀ x, 0 ≤ x → x < s → rst S l p x → ¬ lL O (stl l p x) (p + 1).toNat (dl (rst S l p) x) m = L0) : lle (p + 1) (stl l p s) B := by
  rcases hl with hl | ⟨q, a, b, c, d⟩
  · have hb : rst S l p (B p) := by
      rw [rst_c hl]
      exact ⟨hB.1 p p0 p1, fun k a b z => by
        have := hB.2.1 p k p0 p1 a (by omega) z
        omega⟩
    have e1 := lL_chp hV hf h0 hB (m := m) (p := p + 1) (by omega) (by omega)
    rw [rst_s p0, rst_c hl.sy] at e1
    have e2 : lL O (stl l p (B p)) (p + 1).toNat (dl (rst S l p) (B p)) m = lL O B (p + 1).toNat (dl (rst S l p) (B p)) m := lL_c fun k a b => by
      by_cases e : k = p
      · rw [e, stl_s]
      · rw [stl_n e, hl k a (by omega)]
    have e3 := lL_up (O := O) (l := B) (p := p.toNat) (m := m) hV (f := rst S l p) (fun x q => hf x q.1) (by rw [Int.toNat_of_nonneg p0]; exact hb) (fun k a b => hf _ (hB.1 k a (by omega)))
    rw [Int.toNat_of_nonneg p0, show p.toNat + 1 = (p + 1).toNat by omega] at e3
    have e4 : lL O B p.toNat (rst S l p) m = lL O l p.toNat (rst S l p) m := lL_c (by rw [Int.toNat_of_nonneg p0]; exact hl.sy)
    have hge : s ≤ B p := by
      apply Classical.byContradiction
      intro z
      exact hno (B p) (hf _ (hB.1 p p0 p1)).1 (by omega) hb (by omega)
    by_cases e : s = B p
    · refine Or.inl fun k a b => ?_
      by_cases z : k = p
      · rw [z, stl_s, e]
      · rw [stl_n z, hl k a (by omega)]
    · refine Or.inr ⟨p, p0, by omega, fun k a b => ?_, ?_⟩
      · rw [stl_n (by omega), hl k a b]
      · rw [stl_s]; omega
  · refine Or.inr ⟨q, a, by omega, fun k x y => ?_, ?_⟩
    · rw [stl_n (by omega), c k x y]
    · rw [stl_n (by omega)]; exact d
theorem stl_v {O : OF} {l : Int → Int} {p i : Int} (hv : ∀ k, 0 ≤ k → k < p → 0 ≤ l k ∧ l k < O 1) (hi : 0 ≤ i ∧ i < O 1) : ∀ k, 0 ≤ k → k < p + 1 → 0 ≤ stl l p i k ∧ stl l p i k < O 1 := fun k a b => by
  by_cases e : k = p
  · rw [e, stl_s]; exact hi
  · rw [stl_n e]; exact hv k a (by omega)
theorem stl_S {S : Int → Prop} {l : Int → Int} {p s : Int} (hS : ∀ k, 0 ≤ k → k < p → S (l k)) (hs : S s) : ∀ k, 0 ≤ k → k < p + 1 → S (stl l p s k) := fun k a b => by
  by_cases e : k = p
  · rw [e, stl_s]; exact hs
  · rw [stl_n e]; exact hS k a (by omega)
theorem stl_I {l : Int → Int} {p s : Int} (hI : ∀ k m, 0 ≤ k → k < p → 0 ≤ m → m < p → l k = l m → k = m) (hs : ∀ k, 0 ≤ k → k < p → ¬ s = l k) : ∀ k m, 0 ≤ k → k < p + 1 → 0 ≤ m → m < p + 1 → stl l p s k = stl l p s m → k = m := fun k m a b c e z => by
  by_cases y1 : k = p
  · by_cases y2 : m = p
    · omega
    · rw [y1, stl_s, stl_n y2] at z
      exact absurd z (hs m c (by omega))
  · by_cases y2 : m = p
    · rw [y2, stl_s, stl_n y1] at z
      exact absurd z.symm (hs k a (by omega))
    · rw [stl_n y1, stl_n y2] at z
      exact hI k m a (by omega) c (by omega) z
theorem ne_p {f : Int → Prop} {i c : Int} (h : ¬ f i) (g : f c) : i ≠ c := fun e => h (e ▸ g)
theorem rst_m {S : Int → Prop} {l : Int → Int} {p s : Int} (p0 : 0 ≤ p) : rst S (stl l p s) (p + 1) = dl (rst S l p) s := by
  rw [rst_s p0, stl_s, rst_c stl_a]
set_option maxRecDepth 100000 in
set_option maxHeartbeats 4000000 in
theorem kX6_cheapA (X : XC) {I : HD} {O : OF} {o : Nat} (h_o : o < 28) (hR : RepC O I o) (hV : Val O) {f : Int → Prop} (hns : ∀ x, f x → ¬ O (63 + 4 * x) = 5) (hc0 : 0 ≤ ch O f) : Cl X 1 mX6_cheapest [rv X (oH o), iv ((bset (f) 16 : Nat) : Int)] I (Ki (ch O f) I) := by
  refine Cl.of (by decide) (Nat.le_of_ble_eq_true rfl) ?_
  show Rn X 1 mX6_cheapest _ 0 [(0, rv X (oH o)), (1, iv ((bset (f) 16 : Nat) : Int))] [] I
  have q0 := hV.a
  refine r_iconst (pc := 0) dX6_cheapest_0 ?_
  refine r_istore_n (pc := 1) (a := 2) (i := 2) rfl [(2, iv (-1)), (0, rv X (oH o)), (1, iv ((bset (f) 16 : Nat) : Int))] (by decide) rfl dX6_cheapest_1 ?_
  refine r_iconst (pc := 2) dX6_cheapest_2 ?_
  refine r_istore_n (pc := 3) (a := 3) (i := 3) rfl [(3, iv 0), (2, iv (-1)), (0, rv X (oH o)), (1, iv ((bset (f) 16 : Nat) : Int))] (by decide) rfl dX6_cheapest_3 ?_
  have at4 : ∀ (n4 : Nat) (b : Int) (i : Int), (O 1 - i).toNat < n4 → (hi0 : 0 ≤ i) → (hi1 : i ≤ O 1) → (hb : b = chN O f i.toNat) → Rn X 1 mX6_cheapest (Ki (ch O f) I) 4 [(0, rv X (oH o)), (1, iv ((bset (f) 16 : Nat) : Int)), (2, iv b), (3, iv i)] [] I := by
    intro n4
    induction n4 with
    | zero => intro b i hm; omega
    | succ n4 ih4 =>
      intro b i hm4 hi0 hi1 hb
      have hbb : -1 ≤ b ∧ b < i + 1 ∧ (0 ≤ b → b < i) := by
        rcases chN_is O f i.toNat with ⟨x, _⟩ | ⟨x, y, _⟩ <;> rw [← hb] at * <;> omega
      refine r_iload_n (pc := 4) (a := 3) (i := 3) 3 rfl rfl dX6_cheapest_4 ?_
      refine r_aload_n (pc := 5) (a := 0) (i := 0) 0 rfl rfl dX6_cheapest_5 ?_
      refine r_getN (pc := 6) ckX3 (oH_lt (h_o)) (cellO (h_o)) (j := 9) (by decide) (show _ = some (iv (O 1)) by rw [← hR.f1]; rfl) kf_X6_47 dX6_cheapest_6 ?_
      refine r_icmp_ge (pc := 9) 59 (by unfold rg; omega) (by unfold rg; omega) dX6_cheapest_9 (by decide) (fun h9 => ?_) (fun h9 => ?_)
      · skip
        refine r_iconst (pc := 59) dX6_cheapest_59 ?_
        refine r_iload_n (pc := 60) (a := 2) (i := 2) 2 rfl rfl dX6_cheapest_60 ?_
        refine r_mmax (pc := 61) (by unfold rg; omega) (by unfold rg; omega) (by decide) (Nat.le_of_ble_eq_true rfl) (kmmax_X6) dX6_cheapest_61 ?_
        refine r_iret (pc := 64) (st := []) rfl dX6_cheapest_64 ?_
        have e : b = ch O f := by rw [hb, show i = O 1 by omega]; rfl
        exact ⟨congrArg (fun q => some (iv q)) (by omega), rfl⟩
      · skip
        have qp := hV.p hi0 (by omega)
        refine r_iload_n (pc := 12) (a := 1) (i := 1) 1 rfl rfl dX6_cheapest_12 ?_
        refine r_iload_n (pc := 13) (a := 3) (i := 3) 3 rfl rfl dX6_cheapest_13 ?_
        refine r_ishr (pc := 14) (z := ((bset (f) 16 >>> (i).toNat : Nat) : Int)) (bs_shr (by omega) (by omega)) dX6_cheapest_14 ?_
        refine r_iconst (pc := 15) dX6_cheapest_15 ?_
        refine r_iand (pc := 16) (z := bI (f i)) (bs_bit (by omega) (by omega)) dX6_cheapest_16 ?_
        have at53 : ∀ (b2 : Int), (hb2 : b2 = chN O f (i + 1).toNat) → Rn X 1 mX6_cheapest (Ki (ch O f) I) 53 [(0, rv X (oH o)), (1, iv ((bset (f) 16 : Nat) : Int)), (2, iv b2), (3, iv i)] [] I := by
          intro b2 hb2
          refine r_iinc (pc := 53) 3 [(3, iv (i + 1)), (0, rv X (oH o)), (1, iv ((bset (f) 16 : Nat) : Int)), (2, iv b2)] rfl (by decide) rfl dX6_cheapest_53 ?_
          refine r_goto (pc := 56) 4 dX6_cheapest_56 (by decide) ?_
          refine r_lv [1, 2, 3, 0] [(0, rv X (oH o)), (1, iv ((bset (f) 16 : Nat) : Int)), (2, iv b2), (3, iv (i + 1))] rfl ?_
          exact ih4 b2 (i + 1) (by omega) (by omega) (by omega) (hb2)
        refine r_if_eq (pc := 17) 53 rg_bI dX6_cheapest_17 (by decide) (fun h17 => ?_) (fun h17 => ?_)
        · skip
          have h17 := bI_0.mp h17
          refine r_lv [0, 1, 2, 3] [(0, rv X (oH o)), (1, iv ((bset (f) 16 : Nat) : Int)), (2, iv b), (3, iv i)] rfl ?_
          exact at53 b (by rw [chN_s hi0, if_neg (fun q => h17 q.1)]; exact hb)
        · skip
          have h17 := bI_n.mp h17
          refine r_aload_n (pc := 20) (a := 0) (i := 0) 0 rfl rfl dX6_cheapest_20 ?_
          refine r_getN (pc := 21) ckX3 (oH_lt (h_o)) (cellO (h_o)) (j := 5) (by decide) rfl kf_X6_54 dX6_cheapest_21 ?_
          refine r_iload_n (pc := 24) (a := 3) (i := 3) 3 rfl rfl dX6_cheapest_24 ?_
          refine r_iald (pc := 25) (z := O (63 + 4 * i)) (oH_lt6 (h_o)) ((cellO6 (h_o)) _) (by omega) (by omega) (by decide) (hR.sort (by omega) (by omega)) dX6_cheapest_25 ?_
          refine r_iconst (pc := 26) dX6_cheapest_26 ?_
          refine r_icmp_ne (pc := 27) 32 (by unfold rg; omega) (by unfold rg; omega) dX6_cheapest_27 (by decide) (fun h27 => ?_) (fun h27 => ?_)
          · skip
            refine r_iload_n (pc := 32) (a := 2) (i := 2) 2 rfl rfl dX6_cheapest_32 ?_
            refine r_if_lt (pc := 33) 51 (by unfold rg; omega) dX6_cheapest_33 (by decide) (fun h33 => ?_) (fun h33 => ?_)
            · skip
              refine r_iload_n (pc := 51) (a := 3) (i := 3) 3 rfl rfl dX6_cheapest_51 ?_
              refine r_istore_n (pc := 52) (a := 2) (i := 2) rfl [(2, iv i), (0, rv X (oH o)), (1, iv ((bset (f) 16 : Nat) : Int)), (3, iv i)] (by decide) rfl dX6_cheapest_52 ?_
              refine r_lv [1, 2, 0, 3] [(0, rv X (oH o)), (1, iv ((bset (f) 16 : Nat) : Int)), (2, iv i), (3, iv i)] rfl ?_
              exact at53 i (by rw [chN_s hi0, if_pos ⟨h17, by rw [← hb]; omega⟩])
            · skip
              have qb := hV.p (p := b) (by omega) (by omega)
              refine r_aload_n (pc := 36) (a := 0) (i := 0) 0 rfl rfl dX6_cheapest_36 ?_
              refine r_getN (pc := 37) ckX3 (oH_lt (h_o)) (cellO (h_o)) (j := 6) (by decide) rfl kf_X6_57 dX6_cheapest_37 ?_
              refine r_iload_n (pc := 40) (a := 3) (i := 3) 3 rfl rfl dX6_cheapest_40 ?_
              refine r_iald (pc := 41) (z := O (64 + 4 * i)) (oH_lt7 (h_o)) ((cellO7 (h_o)) _) (by omega) (by omega) (by decide) (hR.wrth (by omega) (by omega)) dX6_cheapest_41 ?_
              refine r_aload_n (pc := 42) (a := 0) (i := 0) 0 rfl rfl dX6_cheapest_42 ?_
              refine r_getN (pc := 43) ckX3 (oH_lt (h_o)) (cellO (h_o)) (j := 6) (by decide) rfl kf_X6_57 dX6_cheapest_43 ?_
              refine r_iload_n (pc := 46) (a := 2) (i := 2) 2 rfl rfl dX6_cheapest_46 ?_
              refine r_iald (pc := 47) (z := O (64 + 4 * b)) (oH_lt7 (h_o)) ((cellO7 (h_o)) _) (by omega) (by omega) (by decide) (hR.wrth (by omega) (by omega)) dX6_cheapest_47 ?_
              refine r_icmp_ge (pc := 48) 53 (by unfold rg; omega) (by unfold rg; omega) dX6_cheapest_48 (by decide) (fun h48 => ?_) (fun h48 => ?_)
              · skip
                refine r_lv [0, 1, 2, 3] [(0, rv X (oH o)), (1, iv ((bset (f) 16 : Nat) : Int)), (2, iv b), (3, iv i)] rfl ?_
                exact at53 b (by rw [chN_s hi0, if_neg (fun q => by rcases q.2 with q | q <;> rw [← hb] at q <;> omega)]; exact hb)
              · skip
                refine r_iload_n (pc := 51) (a := 3) (i := 3) 3 rfl rfl dX6_cheapest_51 ?_
                refine r_istore_n (pc := 52) (a := 2) (i := 2) rfl [(2, iv i), (0, rv X (oH o)), (1, iv ((bset (f) 16 : Nat) : Int)), (3, iv i)] (by decide) rfl dX6_cheapest_52 ?_
                refine r_lv [1, 2, 0, 3] [(0, rv X (oH o)), (1, iv ((bset (f) 16 : Nat) : Int)), (2, iv i), (3, iv i)] rfl ?_
                exact at53 i (by rw [chN_s hi0, if_pos ⟨h17, by rw [← hb]; omega⟩])
          · exact absurd h27 (hns i h17)
  refine r_lv [2, 3, 1, 0] [(0, rv X (oH o)), (1, iv ((bset (f) 16 : Nat) : Int)), (2, iv (-1)), (3, iv 0)] rfl ?_
  exact at4 _ (-1) 0 (Nat.lt_succ_self _) (by omega) (by omega) (rfl)

set_option maxRecDepth 100000 in
set_option maxHeartbeats 4000000 in
theorem kX6_cheapB (X : XC) {I : HD} {O : OF} {o : Nat} (h_o : o < 28) (hR : RepC O I o) (hV : Val O) {f : Int → Prop} (hf : sbs O f) {c0 : Int} (hs1 : f c0) (hs2 : O (63 + 4 * c0) = 5) : Cl X 1 mX6_cheapest [rv X (oH o), iv ((bset (f) 16 : Nat) : Int)] I (fun r J => J = I ∧ ∃ c, r = some (iv c) ∧ f c ∧ O (63 + 4 * c) = 5) := by
  refine Cl.of (by decide) (Nat.le_of_ble_eq_true rfl) ?_
  show Rn X 1 mX6_cheapest _ 0 [(0, rv X (oH o)), (1, iv ((bset (f) 16 : Nat) : Int))] [] I
  have q0 := hV.a
  have hc0 := hf c0 hs1
  refine r_iconst (pc := 0) dX6_cheapest_0 ?_
  refine r_istore_n (pc := 1) (a := 2) (i := 2) rfl [(2, iv (-1)), (0, rv X (oH o)), (1, iv ((bset (f) 16 : Nat) : Int))] (by decide) rfl dX6_cheapest_1 ?_
  refine r_iconst (pc := 2) dX6_cheapest_2 ?_
  refine r_istore_n (pc := 3) (a := 3) (i := 3) rfl [(3, iv 0), (2, iv (-1)), (0, rv X (oH o)), (1, iv ((bset (f) 16 : Nat) : Int))] (by decide) rfl dX6_cheapest_3 ?_
  have at4 : ∀ (n4 : Nat) (b : Int) (i : Int), (O 1 - i).toNat < n4 → (hi0 : 0 ≤ i) → (hi1 : i ≤ c0) → (hb0 : -1 ≤ b) → (hb1 : b < O 1) → Rn X 1 mX6_cheapest (fun r J => J = I ∧ ∃ c, r = some (iv c) ∧ f c ∧ O (63 + 4 * c) = 5) 4 [(0, rv X (oH o)), (1, iv ((bset (f) 16 : Nat) : Int)), (2, iv b), (3, iv i)] [] I := by
    intro n4
    induction n4 with
    | zero => intro b i hm; omega
    | succ n4 ih4 =>
      intro b i hm4 hi0 hi1 hb0 hb1
      refine r_iload_n (pc := 4) (a := 3) (i := 3) 3 rfl rfl dX6_cheapest_4 ?_
      refine r_aload_n (pc := 5) (a := 0) (i := 0) 0 rfl rfl dX6_cheapest_5 ?_
      refine r_getN (pc := 6) ckX3 (oH_lt (h_o)) (cellO (h_o)) (j := 9) (by decide) (show _ = some (iv (O 1)) by rw [← hR.f1]; rfl) kf_X6_47 dX6_cheapest_6 ?_
      refine r_icmp_ge (pc := 9) 59 (by unfold rg; omega) (by unfold rg; omega) dX6_cheapest_9 (by decide) (fun h9 => ?_) (fun h9 => ?_)
      · skip
        refine r_iconst (pc := 59) dX6_cheapest_59 ?_
        refine r_iload_n (pc := 60) (a := 2) (i := 2) 2 rfl rfl dX6_cheapest_60 ?_
        refine r_mmax (pc := 61) (by unfold rg; omega) (by unfold rg; omega) (by decide) (Nat.le_of_ble_eq_true rfl) (kmmax_X6) dX6_cheapest_61 ?_
        refine r_iret (pc := 64) (st := []) rfl dX6_cheapest_64 ?_
        exact absurd (show i < O 1 by omega) (by omega)
      · skip
        have qp := hV.p hi0 (by omega)
        refine r_iload_n (pc := 12) (a := 1) (i := 1) 1 rfl rfl dX6_cheapest_12 ?_
        refine r_iload_n (pc := 13) (a := 3) (i := 3) 3 rfl rfl dX6_cheapest_13 ?_
        refine r_ishr (pc := 14) (z := ((bset (f) 16 >>> (i).toNat : Nat) : Int)) (bs_shr (by omega) (by omega)) dX6_cheapest_14 ?_
        refine r_iconst (pc := 15) dX6_cheapest_15 ?_
        refine r_iand (pc := 16) (z := bI (f i)) (bs_bit (by omega) (by omega)) dX6_cheapest_16 ?_
        refine r_if_eq (pc := 17) 53 rg_bI dX6_cheapest_17 (by decide) (fun h17 => ?_) (fun h17 => ?_)
        · skip
          have h17 := bI_0.mp h17
          refine r_iinc (pc := 53) 3 [(3, iv (i + 1)), (0, rv X (oH o)), (1, iv ((bset (f) 16 : Nat) : Int)), (2, iv b)] rfl (by decide) rfl dX6_cheapest_53 ?_
          refine r_goto (pc := 56) 4 dX6_cheapest_56 (by decide) ?_
          refine r_lv [1, 2, 3, 0] [(0, rv X (oH o)), (1, iv ((bset (f) 16 : Nat) : Int)), (2, iv b), (3, iv (i + 1))] rfl ?_
          exact ih4 b (i + 1) (by omega) (by omega) (by first | (have := ne_p h17 hs1; omega) | (have := ne_p (f := fun x => O (63 + 4 * x) = 5) h27 hs2; omega)) (by omega) (by omega)
        · skip
          have h17 := bI_n.mp h17
          refine r_aload_n (pc := 20) (a := 0) (i := 0) 0 rfl rfl dX6_cheapest_20 ?_
          refine r_getN (pc := 21) ckX3 (oH_lt (h_o)) (cellO (h_o)) (j := 5) (by decide) rfl kf_X6_54 dX6_cheapest_21 ?_
          refine r_iload_n (pc := 24) (a := 3) (i := 3) 3 rfl rfl dX6_cheapest_24 ?_
          refine r_iald (pc := 25) (z := O (63 + 4 * i)) (oH_lt6 (h_o)) ((cellO6 (h_o)) _) (by omega) (by omega) (by decide) (hR.sort (by omega) (by omega)) dX6_cheapest_25 ?_
          refine r_iconst (pc := 26) dX6_cheapest_26 ?_
          refine r_icmp_ne (pc := 27) 32 (by unfold rg; omega) (by unfold rg; omega) dX6_cheapest_27 (by decide) (fun h27 => ?_) (fun h27 => ?_)
          · skip
            refine r_iload_n (pc := 32) (a := 2) (i := 2) 2 rfl rfl dX6_cheapest_32 ?_
            refine r_if_lt (pc := 33) 51 (by unfold rg; omega) dX6_cheapest_33 (by decide) (fun h33 => ?_) (fun h33 => ?_)
            · skip
              refine r_iload_n (pc := 51) (a := 3) (i := 3) 3 rfl rfl dX6_cheapest_51 ?_
              refine r_istore_n (pc := 52) (a := 2) (i := 2) rfl [(2, iv i), (0, rv X (oH o)), (1, iv ((bset (f) 16 : Nat) : Int)), (3, iv i)] (by decide) rfl dX6_cheapest_52 ?_
              refine r_iinc (pc := 53) 3 [(3, iv (i + 1)), (2, iv i), (0, rv X (oH o)), (1, iv ((bset (f) 16 : Nat) : Int))] rfl (by decide) rfl dX6_cheapest_53 ?_
              refine r_goto (pc := 56) 4 dX6_cheapest_56 (by decide) ?_
              refine r_lv [2, 3, 1, 0] [(0, rv X (oH o)), (1, iv ((bset (f) 16 : Nat) : Int)), (2, iv i), (3, iv (i + 1))] rfl ?_
              exact ih4 i (i + 1) (by omega) (by omega) (by first | (have := ne_p h17 hs1; omega) | (have := ne_p (f := fun x => O (63 + 4 * x) = 5) h27 hs2; omega)) (by omega) (by omega)
            · skip
              have qb := hV.p (p := b) (by omega) (by omega)
              refine r_aload_n (pc := 36) (a := 0) (i := 0) 0 rfl rfl dX6_cheapest_36 ?_
              refine r_getN (pc := 37) ckX3 (oH_lt (h_o)) (cellO (h_o)) (j := 6) (by decide) rfl kf_X6_57 dX6_cheapest_37 ?_
              refine r_iload_n (pc := 40) (a := 3) (i := 3) 3 rfl rfl dX6_cheapest_40 ?_
              refine r_iald (pc := 41) (z := O (64 + 4 * i)) (oH_lt7 (h_o)) ((cellO7 (h_o)) _) (by omega) (by omega) (by decide) (hR.wrth (by omega) (by omega)) dX6_cheapest_41 ?_
              refine r_aload_n (pc := 42) (a := 0) (i := 0) 0 rfl rfl dX6_cheapest_42 ?_
              refine r_getN (pc := 43) ckX3 (oH_lt (h_o)) (cellO (h_o)) (j := 6) (by decide) rfl kf_X6_57 dX6_cheapest_43 ?_
              refine r_iload_n (pc := 46) (a := 2) (i := 2) 2 rfl rfl dX6_cheapest_46 ?_
              refine r_iald (pc := 47) (z := O (64 + 4 * b)) (oH_lt7 (h_o)) ((cellO7 (h_o)) _) (by omega) (by omega) (by decide) (hR.wrth (by omega) (by omega)) dX6_cheapest_47 ?_
              refine r_icmp_ge (pc := 48) 53 (by unfold rg; omega) (by unfold rg; omega) dX6_cheapest_48 (by decide) (fun h48 => ?_) (fun h48 => ?_)
              · skip
                refine r_iinc (pc := 53) 3 [(3, iv (i + 1)), (0, rv X (oH o)), (1, iv ((bset (f) 16 : Nat) : Int)), (2, iv b)] rfl (by decide) rfl dX6_cheapest_53 ?_
                refine r_goto (pc := 56) 4 dX6_cheapest_56 (by decide) ?_
                refine r_lv [1, 2, 3, 0] [(0, rv X (oH o)), (1, iv ((bset (f) 16 : Nat) : Int)), (2, iv b), (3, iv (i + 1))] rfl ?_
                exact ih4 b (i + 1) (by omega) (by omega) (by first | (have := ne_p h17 hs1; omega) | (have := ne_p (f := fun x => O (63 + 4 * x) = 5) h27 hs2; omega)) (by omega) (by omega)
              · skip
                refine r_iload_n (pc := 51) (a := 3) (i := 3) 3 rfl rfl dX6_cheapest_51 ?_
                refine r_istore_n (pc := 52) (a := 2) (i := 2) rfl [(2, iv i), (0, rv X (oH o)), (1, iv ((bset (f) 16 : Nat) : Int)), (3, iv i)] (by decide) rfl dX6_cheapest_52 ?_
                refine r_iinc (pc := 53) 3 [(3, iv (i + 1)), (2, iv i), (0, rv X (oH o)), (1, iv ((bset (f) 16 : Nat) : Int))] rfl (by decide) rfl dX6_cheapest_53 ?_
                refine r_goto (pc := 56) 4 dX6_cheapest_56 (by decide) ?_
                refine r_lv [2, 3, 1, 0] [(0, rv X (oH o)), (1, iv ((bset (f) 16 : Nat) : Int)), (2, iv i), (3, iv (i + 1))] rfl ?_
                exact ih4 i (i + 1) (by omega) (by omega) (by first | (have := ne_p h17 hs1; omega) | (have := ne_p (f := fun x => O (63 + 4 * x) = 5) h27 hs2; omega)) (by omega) (by omega)
          · skip
            refine r_iload_n (pc := 30) (a := 3) (i := 3) 3 rfl rfl dX6_cheapest_30 ?_
            refine r_iret (pc := 31) (st := []) rfl dX6_cheapest_31 ?_
            exact ⟨rfl, i, rfl, h17, h27⟩
  refine r_lv [2, 3, 1, 0] [(0, rv X (oH o)), (1, iv ((bset (f) 16 : Nat) : Int)), (2, iv (-1)), (3, iv 0)] rfl ?_
  exact at4 _ (-1) 0 (Nat.lt_succ_self _) (by omega) (by omega) (by omega) (by omega)

set_option maxRecDepth 100000 in
set_option maxHeartbeats 4000000 in
theorem kX6_lLa (X : XC) {I : HD} {O : OF} (hR : RepC O I 0) (hV : Val O) {l : Int → Int} (hl : I 27 = l) {p m : Int} {f : Int → Prop} (p0 : 0 ≤ p) (p7 : p ≤ 7) (hv : ∀ k, 0 ≤ k → k < p → 0 ≤ l k ∧ l k < O 1) (hf : sbs O f) (m0 : 0 ≤ m) (m9 : m ≤ 9) (q : ¬ ∃ x, f x ∧ slat O x) : Cl X 2 mX6_leastLost [rv X 26, rv X (oH 0), iv p, iv ((bset (f) 16 : Nat) : Int), iv m] I (Ki (lL O l p.toNat f m.toNat) I) := by
  refine Cl.of (by decide) (Nat.le_of_ble_eq_true rfl) ?_
  show Rn X 2 mX6_leastLost _ 0 [(0, rv X 26), (1, rv X (oH 0)), (2, iv p), (3, iv ((bset (f) 16 : Nat) : Int)), (4, iv m)] [] I
  have q0 := hV.a
  have hcf := cnt_nn (f := f) (n := 16)
  refine r_iconst (pc := 0) dX6_leastLost_0 ?_
  refine r_istore (pc := 1) [(5, iv 0), (0, rv X 26), (1, rv X (oH 0)), (2, iv p), (3, iv ((bset (f) 16 : Nat) : Int)), (4, iv m)] (by decide) rfl dX6_leastLost_1 ?_
  refine r_iload_n (pc := 3) (a := 3) (i := 3) 4 rfl rfl dX6_leastLost_3 ?_
  refine r_istore (pc := 4) [(6, iv ((bset (f) 16 : Nat) : Int)), (5, iv 0), (0, rv X 26), (1, rv X (oH 0)), (2, iv p), (3, iv ((bset (f) 16 : Nat) : Int)), (4, iv m)] (by decide) rfl dX6_leastLost_4 ?_
  refine r_iconst (pc := 6) dX6_leastLost_6 ?_
  refine r_istore (pc := 7) [(7, iv 0), (6, iv ((bset (f) 16 : Nat) : Int)), (5, iv 0), (0, rv X 26), (1, rv X (oH 0)), (2, iv p), (3, iv ((bset (f) 16 : Nat) : Int)), (4, iv m)] (by decide) rfl dX6_leastLost_7 ?_
  have at71 : ∀ (s : Int) (z6 : Int) (t : Int), (ht0 : 0 ≤ t) → (htm : t ≤ m) → (hX : s + dS O l p.toNat (m - t).toNat = lL O l p.toNat f m.toNat) → Rn X 2 mX6_leastLost (Ki (lL O l p.toNat f m.toNat) I) 71 [(0, rv X 26), (1, rv X (oH 0)), (2, iv p), (3, iv ((bset (f) 16 : Nat) : Int)), (4, iv m), (5, iv s), (6, iv z6), (7, iv t)] [] I := by
    intro s z6 t ht0 htm hX
    refine r_iload_n (pc := 71) (a := 2) (i := 2) 2 rfl rfl dX6_leastLost_71 ?_
    refine r_iconst (pc := 72) dX6_leastLost_72 ?_
    refine r_isub (pc := 73) dX6_leastLost_73 ?_
    refine r_istore (pc := 74) [(8, iv (p - 1)), (0, rv X 26), (1, rv X (oH 0)), (2, iv p), (3, iv ((bset (f) 16 : Nat) : Int)), (4, iv m), (5, iv s), (6, iv z6), (7, iv t)] (by decide) rfl dX6_leastLost_74 ?_
    have at76 : ∀ (n76 : Nat) (s : Int) (t : Int) (k : Int), (k + 1).toNat < n76 → (ht0 : 0 ≤ t) → (htm : t ≤ m) → (hk0 : -1 ≤ k) → (hk1 : k < p) → (hX : s + dS O l (k + 1).toNat (m - t).toNat = lL O l p.toNat f m.toNat) → Rn X 2 mX6_leastLost (Ki (lL O l p.toNat f m.toNat) I) 76 [(0, rv X 26), (1, rv X (oH 0)), (2, iv p), (3, iv ((bset (f) 16 : Nat) : Int)), (4, iv m), (5, iv s), (7, iv t), (8, iv k)] [] I := by
      intro n76
      induction n76 with
      | zero => intro s t k hm; omega
      | succ n76 ih76 =>
        intro s t k hm76 ht0 htm hk0 hk1 hX
        refine r_iload (pc := 76) 7 rfl dX6_leastLost_76 ?_
        refine r_if_lt (pc := 78) 133 (by unfold rg; omega) dX6_leastLost_78 (by decide) (fun h78 => ?_) (fun h78 => ?_)
        · skip
          refine r_iload (pc := 133) 5 rfl dX6_leastLost_133 ?_
          refine r_iret (pc := 135) (st := []) rfl dX6_leastLost_135 ?_
          have e : dS O l (k + 1).toNat (m - t).toNat = 0 := by first | (rw [show (k + 1).toNat = 0 by omega]; rfl) | (rw [show (m - t).toNat = 0 by omega]; exact dS_0)
          rw [e] at hX
          exact ⟨congrArg (fun q => some (iv q)) (by omega), rfl⟩
        · skip
          refine r_iload (pc := 81) 6 rfl dX6_leastLost_81 ?_
          refine r_iload (pc := 83) 4 rfl dX6_leastLost_83 ?_
          refine r_icmp_ge (pc := 85) 133 (by unfold rg; omega) (by unfold rg; omega) dX6_leastLost_85 (by decide) (fun h85 => ?_) (fun h85 => ?_)
          · skip
            refine r_iload (pc := 133) 5 rfl dX6_leastLost_133 ?_
            refine r_iret (pc := 135) (st := []) rfl dX6_leastLost_135 ?_
            have e : dS O l (k + 1).toNat (m - t).toNat = 0 := by first | (rw [show (k + 1).toNat = 0 by omega]; rfl) | (rw [show (m - t).toNat = 0 by omega]; exact dS_0)
            rw [e] at hX
            exact ⟨congrArg (fun q => some (iv q)) (by omega), rfl⟩
          · skip
            have hvk := hv k (by omega) (by omega)
            have qp := hV.p hvk.1 hvk.2
            refine r_aload_n (pc := 88) (a := 1) (i := 1) 1 rfl rfl dX6_leastLost_88 ?_
            refine r_getN (pc := 89) ckX3 (oH_lt (show 0 < 28 by decide)) (cellO (show 0 < 28 by decide)) (j := 5) (by decide) rfl kf_X6_54 dX6_leastLost_89 ?_
            refine r_aload_n (pc := 92) (a := 0) (i := 0) 0 rfl rfl dX6_leastLost_92 ?_
            refine r_get (pc := 93) ckX6 (by decide) rfl (j := 0) (by decide) rfl kf_X6_9 dX6_leastLost_93 ?_
            refine r_iload (pc := 96) 7 rfl dX6_leastLost_96 ?_
            refine r_iald (pc := 98) (z := l k) (by decide) rfl (by omega) (by omega) (by decide) (congrFun hl _) dX6_leastLost_98 ?_
            refine r_iald (pc := 99) (z := O (63 + 4 * (l k))) (oH_lt6 (show 0 < 28 by decide)) ((cellO6 (show 0 < 28 by decide)) _) (by omega) (by omega) (by decide) (hR.sort (by omega) (by omega)) dX6_leastLost_99 ?_
            refine r_iconst (pc := 100) dX6_leastLost_100 ?_
            refine r_icmp_ne (pc := 101) 107 (by unfold rg; omega) (by unfold rg; omega) dX6_leastLost_101 (by decide) (fun h101 => ?_) (fun h101 => ?_)
            · skip
              refine r_iload (pc := 107) 5 rfl dX6_leastLost_107 ?_
              refine r_aload_n (pc := 109) (a := 1) (i := 1) 1 rfl rfl dX6_leastLost_109 ?_
              refine r_getN (pc := 110) ckX3 (oH_lt (show 0 < 28 by decide)) (cellO (show 0 < 28 by decide)) (j := 6) (by decide) rfl kf_X6_57 dX6_leastLost_110 ?_
              refine r_aload_n (pc := 113) (a := 0) (i := 0) 0 rfl rfl dX6_leastLost_113 ?_
              refine r_get (pc := 114) ckX6 (by decide) rfl (j := 0) (by decide) rfl kf_X6_9 dX6_leastLost_114 ?_
              refine r_iload (pc := 117) 7 rfl dX6_leastLost_117 ?_
              refine r_iald (pc := 119) (z := l k) (by decide) rfl (by omega) (by omega) (by decide) (congrFun hl _) dX6_leastLost_119 ?_
              refine r_iald (pc := 120) (z := O (64 + 4 * (l k))) (oH_lt7 (show 0 < 28 by decide)) ((cellO7 (show 0 < 28 by decide)) _) (by omega) (by omega) (by decide) (hR.wrth (by omega) (by omega)) dX6_leastLost_120 ?_
              refine r_iadd (pc := 121) dX6_leastLost_121 ?_
              refine r_istore (pc := 122) [(5, iv (s + (O (64 + 4 * (l k))))), (0, rv X 26), (1, rv X (oH 0)), (2, iv p), (3, iv ((bset (f) 16 : Nat) : Int)), (4, iv m), (7, iv t), (8, iv k)] (by decide) rfl dX6_leastLost_122 ?_
              refine r_iinc (pc := 124) 6 [(7, iv (t + 1)), (5, iv (s + (O (64 + 4 * (l k))))), (0, rv X 26), (1, rv X (oH 0)), (2, iv p), (3, iv ((bset (f) 16 : Nat) : Int)), (4, iv m), (8, iv k)] rfl (by decide) rfl dX6_leastLost_124 ?_
              refine r_iinc (pc := 127) 7 [(8, iv (k + (-1))), (7, iv (t + 1)), (5, iv (s + (O (64 + 4 * (l k))))), (0, rv X 26), (1, rv X (oH 0)), (2, iv p), (3, iv ((bset (f) 16 : Nat) : Int)), (4, iv m)] rfl (by decide) rfl dX6_leastLost_127 ?_
              refine r_goto (pc := 130) 76 dX6_leastLost_130 (by decide) ?_
              refine r_lv [3, 4, 5, 6, 7, 2, 1, 0] [(0, rv X 26), (1, rv X (oH 0)), (2, iv p), (3, iv ((bset (f) 16 : Nat) : Int)), (4, iv m), (5, iv (s + (O (64 + 4 * (l k))))), (7, iv (t + 1)), (8, iv (k + (-1)))] rfl ?_
              exact ih76 (s + (O (64 + 4 * (l k)))) (t + 1) (k + (-1)) (by omega) (by omega) (by omega) (by omega) (by omega) (by rw [dS_s (by omega) (by omega) (by rw [show k + 1 - 1 = k by omega]; exact h101), show k + 1 - 1 = k by omega] at hX; rw [show k + -1 + 1 = k by omega, show m - (t + 1) = m - t - 1 by omega]; omega)
            · skip
              refine r_iload (pc := 104) 5 rfl dX6_leastLost_104 ?_
              refine r_iret (pc := 106) (st := []) rfl dX6_leastLost_106 ?_
              rw [dS_t (by omega) (by omega) (by rw [show k + 1 - 1 = k by omega]; exact h101)] at hX
              exact ⟨congrArg (fun q => some (iv q)) (by omega), rfl⟩
    refine r_lv [1, 2, 3, 4, 5, 6, 8, 0] [(0, rv X 26), (1, rv X (oH 0)), (2, iv p), (3, iv ((bset (f) 16 : Nat) : Int)), (4, iv m), (5, iv s), (7, iv t), (8, iv (p - 1))] rfl ?_
    exact at76 _ s t (p - 1) (Nat.lt_succ_self _) (by omega) (by omega) (by omega) (by omega) (by rw [show p - 1 + 1 = p by omega]; exact hX)
  have at9 : ∀ (n9 : Nat) (s : Int) (g : Int → Prop) (t : Int), (m - t).toNat < n9 → (ht0 : 0 ≤ t) → (htm : t ≤ mN f m) → (hg : ∀ x, g x → f x) → (hc : cnt g 16 = cnt f 16 - t) → (hs : s + gS O (mN f m - t).toNat g = gS O (mN f m).toNat f) → Rn X 2 mX6_leastLost (Ki (lL O l p.toNat f m.toNat) I) 9 [(0, rv X 26), (1, rv X (oH 0)), (2, iv p), (3, iv ((bset (f) 16 : Nat) : Int)), (4, iv m), (5, iv s), (6, iv ((bset (g) 16 : Nat) : Int)), (7, iv t)] [] I := by
    intro n9
    induction n9 with
    | zero => intro s g t hm; omega
    | succ n9 ih9 =>
      intro s g t hm9 ht0 htm hg hc hs
      have hmn := mN_e (f := f) (m := m)
      refine r_iload (pc := 9) 7 rfl dX6_leastLost_9 ?_
      refine r_iload (pc := 11) 4 rfl dX6_leastLost_11 ?_
      refine r_icmp_ge (pc := 13) 71 (by unfold rg; omega) (by unfold rg; omega) dX6_leastLost_13 (by decide) (fun h13 => ?_) (fun h13 => ?_)
      · skip
        refine r_lv [0, 1, 2, 3, 4, 5, 6, 7] [(0, rv X 26), (1, rv X (oH 0)), (2, iv p), (3, iv ((bset (f) 16 : Nat) : Int)), (4, iv m), (5, iv s), (6, iv ((bset (g) 16 : Nat) : Int)), (7, iv t)] rfl ?_
        exact at71 s ((bset (g) 16 : Nat) : Int) t (by omega) (by omega) (lL_mn q m0 (by omega) (by rw [show mN f m - t = 0 by omega] at hs; exact (Int.add_zero s).symm.trans hs))
      · skip
        refine r_iload (pc := 16) 6 rfl dX6_leastLost_16 ?_
        refine r_if_eq (pc := 18) 71 (rg_bs) dX6_leastLost_18 (by decide) (fun h18 => ?_) (fun h18 => ?_)
        · skip
          refine r_lv [0, 1, 2, 3, 4, 5, 6, 7] [(0, rv X 26), (1, rv X (oH 0)), (2, iv p), (3, iv ((bset (f) 16 : Nat) : Int)), (4, iv m), (5, iv s), (6, iv ((bset (g) 16 : Nat) : Int)), (7, iv t)] rfl ?_
          exact at71 s ((bset (g) 16 : Nat) : Int) t (by omega) (by omega) (lL_mn q m0 (by have := cnt_z h18; have := cnt_nn (f := g) (n := 16); omega) (by rw [show mN f m - t = 0 by have := cnt_z h18; have := cnt_nn (f := g) (n := 16); omega] at hs; exact (Int.add_zero s).symm.trans hs))
        · skip
          have hgs : sbs O g := fun x z => hf x (hg x z)
          have hcp := cnt_nz h18
          obtain ⟨y, _, _, hy⟩ := cnt_ex hcp
          have hc1 := ch_f hgs hy
          have hc2 := hgs _ hc1.1
          have qp := hV.p hc2.1 hc2.2
          refine r_aload_n (pc := 21) (a := 1) (i := 1) 1 rfl rfl dX6_leastLost_21 ?_
          refine r_iload (pc := 22) 6 rfl dX6_leastLost_22 ?_
          refine r_callSi (pc := 24) (st := []) (As := [rv X (oH 0), iv ((bset (g) 16 : Nat) : Int)]) (D2 := 1) okX6_cheapest (by decide) trivial rfl (Nat.le_of_ble_eq_true rfl) km_X6_50 (kX6_cheapA X (by decide) hR hV (f := g) (fun x a b => q ⟨x, hg x a, b⟩) hc2.1) dX6_leastLost_24 ?_
          refine r_istore (pc := 27) [(8, iv (ch O g)), (0, rv X 26), (1, rv X (oH 0)), (2, iv p), (3, iv ((bset (f) 16 : Nat) : Int)), (4, iv m), (5, iv s), (6, iv ((bset (g) 16 : Nat) : Int)), (7, iv t)] (by decide) rfl dX6_leastLost_27 ?_
          refine r_aload_n (pc := 29) (a := 1) (i := 1) 2 rfl rfl dX6_leastLost_29 ?_
          refine r_getN (pc := 30) ckX3 (oH_lt (show 0 < 28 by decide)) (cellO (show 0 < 28 by decide)) (j := 5) (by decide) rfl kf_X6_54 dX6_leastLost_30 ?_
          refine r_iload (pc := 33) 0 rfl dX6_leastLost_33 ?_
          refine r_iald (pc := 35) (z := O (63 + 4 * (ch O g))) (oH_lt6 (show 0 < 28 by decide)) ((cellO6 (show 0 < 28 by decide)) _) (by omega) (by omega) (by decide) (hR.sort (by omega) (by omega)) dX6_leastLost_35 ?_
          refine r_iconst (pc := 36) dX6_leastLost_36 ?_
          refine r_icmp_ne (pc := 37) 42 (by unfold rg; omega) (by unfold rg; omega) dX6_leastLost_37 (by decide) (fun h37 => ?_) (fun h37 => ?_)
          · skip
            refine r_iload (pc := 42) 6 rfl dX6_leastLost_42 ?_
            refine r_aload_n (pc := 44) (a := 1) (i := 1) 2 rfl rfl dX6_leastLost_44 ?_
            refine r_getN (pc := 45) ckX3 (oH_lt (show 0 < 28 by decide)) (cellO (show 0 < 28 by decide)) (j := 6) (by decide) rfl kf_X6_57 dX6_leastLost_45 ?_
            refine r_iload (pc := 48) 0 rfl dX6_leastLost_48 ?_
            refine r_iald (pc := 50) (z := O (64 + 4 * (ch O g))) (oH_lt7 (show 0 < 28 by decide)) ((cellO7 (show 0 < 28 by decide)) _) (by omega) (by omega) (by decide) (hR.wrth (by omega) (by omega)) dX6_leastLost_50 ?_
            refine r_iadd (pc := 51) dX6_leastLost_51 ?_
            refine r_istore (pc := 52) [(5, iv (s + (O (64 + 4 * (ch O g))))), (8, iv (ch O g)), (0, rv X 26), (1, rv X (oH 0)), (2, iv p), (3, iv ((bset (f) 16 : Nat) : Int)), (4, iv m), (6, iv ((bset (g) 16 : Nat) : Int)), (7, iv t)] (by decide) rfl dX6_leastLost_52 ?_
            refine r_iload (pc := 54) 7 rfl dX6_leastLost_54 ?_
            refine r_iconst (pc := 56) dX6_leastLost_56 ?_
            refine r_iload (pc := 57) 1 rfl dX6_leastLost_57 ?_
            refine r_ishl (pc := 59) (z := ((bset (fun x => x = ch O g) 16 : Nat) : Int)) (bs_1 (by omega) (by omega)) dX6_leastLost_59 ?_
            refine r_iconst (pc := 60) dX6_leastLost_60 ?_
            refine r_ixor (pc := 61) (z := -1 - ((bset (fun x => x = ch O g) 16 : Nat) : Int)) (iI_not _) dX6_leastLost_61 ?_
            refine r_iand (pc := 62) (z := ((bset (dl g (ch O g)) 16 : Nat) : Int)) (bs_andn) dX6_leastLost_62 ?_
            refine r_istore (pc := 63) [(6, iv ((bset (dl g (ch O g)) 16 : Nat) : Int)), (5, iv (s + (O (64 + 4 * (ch O g))))), (8, iv (ch O g)), (0, rv X 26), (1, rv X (oH 0)), (2, iv p), (3, iv ((bset (f) 16 : Nat) : Int)), (4, iv m), (7, iv t)] (by decide) rfl dX6_leastLost_63 ?_
            refine r_iinc (pc := 65) 8 [(7, iv (t + 1)), (6, iv ((bset (dl g (ch O g)) 16 : Nat) : Int)), (5, iv (s + (O (64 + 4 * (ch O g))))), (8, iv (ch O g)), (0, rv X 26), (1, rv X (oH 0)), (2, iv p), (3, iv ((bset (f) 16 : Nat) : Int)), (4, iv m)] rfl (by decide) rfl dX6_leastLost_65 ?_
            refine r_goto (pc := 68) 9 dX6_leastLost_68 (by decide) ?_
            refine r_lv [4, 5, 6, 7, 8, 2, 1, 0] [(0, rv X 26), (1, rv X (oH 0)), (2, iv p), (3, iv ((bset (f) 16 : Nat) : Int)), (4, iv m), (5, iv (s + (O (64 + 4 * (ch O g))))), (6, iv ((bset (dl g (ch O g)) 16 : Nat) : Int)), (7, iv (t + 1))] rfl ?_
            exact ih9 (s + (O (64 + 4 * (ch O g)))) (dl g (ch O g)) (t + 1) (by omega) (by omega) (by omega) (fun x q => hg x q.1) (by have := cnt_dl hV hgs hc1.1; omega) (by rw [gS_s (by omega)] at hs; rw [show mN f m - (t + 1) = mN f m - t - 1 by omega]; omega)
          · exact absurd h37 (fun z => q ⟨_, hg _ hc1.1, z⟩)
  refine r_lv [3, 4, 5, 6, 7, 2, 1, 0] [(0, rv X 26), (1, rv X (oH 0)), (2, iv p), (3, iv ((bset (f) 16 : Nat) : Int)), (4, iv m), (5, iv 0), (6, iv ((bset (f) 16 : Nat) : Int)), (7, iv 0)] rfl ?_
  exact at9 _ 0 f 0 (Nat.lt_succ_self _) (by omega) (by have hmn := mN_e (f := f) (m := m); omega) (fun _ q => q) (by omega) (by rw [Int.sub_zero, Int.zero_add])

set_option maxRecDepth 100000 in
set_option maxHeartbeats 4000000 in
theorem kX6_lLb (X : XC) {I : HD} {O : OF} (hR : RepC O I 0) (hV : Val O) {l : Int → Int} (hl : I 27 = l) {p m : Int} {f : Int → Prop} (p0 : 0 ≤ p) (p7 : p ≤ 7) (hv : ∀ k, 0 ≤ k → k < p → 0 ≤ l k ∧ l k < O 1) (hf : sbs O f) (m0 : 0 ≤ m) (m9 : m ≤ 9) {c0 : Int} (hs1 : f c0) (hs2 : O (63 + 4 * c0) = 5) : Cl X 2 mX6_leastLost [rv X 26, rv X (oH 0), iv p, iv ((bset (f) 16 : Nat) : Int), iv m] I (Ki 0 I) := by
  refine Cl.of (by decide) (Nat.le_of_ble_eq_true rfl) ?_
  show Rn X 2 mX6_leastLost _ 0 [(0, rv X 26), (1, rv X (oH 0)), (2, iv p), (3, iv ((bset (f) 16 : Nat) : Int)), (4, iv m)] [] I
  have q0 := hV.a
  refine r_iconst (pc := 0) dX6_leastLost_0 ?_
  refine r_istore (pc := 1) [(5, iv 0), (0, rv X 26), (1, rv X (oH 0)), (2, iv p), (3, iv ((bset (f) 16 : Nat) : Int)), (4, iv m)] (by decide) rfl dX6_leastLost_1 ?_
  refine r_iload_n (pc := 3) (a := 3) (i := 3) 4 rfl rfl dX6_leastLost_3 ?_
  refine r_istore (pc := 4) [(6, iv ((bset (f) 16 : Nat) : Int)), (5, iv 0), (0, rv X 26), (1, rv X (oH 0)), (2, iv p), (3, iv ((bset (f) 16 : Nat) : Int)), (4, iv m)] (by decide) rfl dX6_leastLost_4 ?_
  refine r_iconst (pc := 6) dX6_leastLost_6 ?_
  refine r_istore (pc := 7) [(7, iv 0), (6, iv ((bset (f) 16 : Nat) : Int)), (5, iv 0), (0, rv X 26), (1, rv X (oH 0)), (2, iv p), (3, iv ((bset (f) 16 : Nat) : Int)), (4, iv m)] (by decide) rfl dX6_leastLost_7 ?_
  refine r_iload (pc := 9) 0 rfl dX6_leastLost_9 ?_
  refine r_iload (pc := 11) 7 rfl dX6_leastLost_11 ?_
  refine r_icmp_ge (pc := 13) 71 (by unfold rg; omega) (by unfold rg; omega) dX6_leastLost_13 (by decide) (fun h13 => ?_) (fun h13 => ?_)
  · skip
    refine r_iload_n (pc := 71) (a := 2) (i := 2) 5 rfl rfl dX6_leastLost_71 ?_
    refine r_iconst (pc := 72) dX6_leastLost_72 ?_
    refine r_isub (pc := 73) dX6_leastLost_73 ?_
    refine r_istore (pc := 74) [(8, iv (p - 1)), (7, iv 0), (6, iv ((bset (f) 16 : Nat) : Int)), (5, iv 0), (0, rv X 26), (1, rv X (oH 0)), (2, iv p), (3, iv ((bset (f) 16 : Nat) : Int)), (4, iv m)] (by decide) rfl dX6_leastLost_74 ?_
    refine r_iload (pc := 76) 0 rfl dX6_leastLost_76 ?_
    refine r_if_lt (pc := 78) 133 (by unfold rg; omega) dX6_leastLost_78 (by decide) (fun h78 => ?_) (fun h78 => ?_)
    · skip
      refine r_iload (pc := 133) 3 rfl dX6_leastLost_133 ?_
      refine r_iret (pc := 135) (st := []) rfl dX6_leastLost_135 ?_
      exact ⟨rfl, rfl⟩
    · skip
      refine r_iload (pc := 81) 1 rfl dX6_leastLost_81 ?_
      refine r_iload (pc := 83) 8 rfl dX6_leastLost_83 ?_
      refine r_icmp_ge (pc := 85) 133 (by unfold rg; omega) (by unfold rg; omega) dX6_leastLost_85 (by decide) (fun h85 => ?_) (fun h85 => ?_)
      · skip
        refine r_iload (pc := 133) 3 rfl dX6_leastLost_133 ?_
        refine r_iret (pc := 135) (st := []) rfl dX6_leastLost_135 ?_
        exact ⟨rfl, rfl⟩
      · exact absurd h85 (by omega)
  · skip
    refine r_iload (pc := 16) 1 rfl dX6_leastLost_16 ?_
    refine r_if_eq (pc := 18) 71 (rg_bs) dX6_leastLost_18 (by decide) (fun h18 => ?_) (fun h18 => ?_)
    · exact absurd h18 (bs_nz (cnt_p hV hf hs1))
    · skip
      refine r_aload_n (pc := 21) (a := 1) (i := 1) 4 rfl rfl dX6_leastLost_21 ?_
      refine r_iload (pc := 22) 1 rfl dX6_leastLost_22 ?_
      refine r_callS (pc := 24) (st := []) (As := [rv X (oH 0), iv ((bset (f) 16 : Nat) : Int)]) (D2 := 1) okX6_cheapest (by decide) trivial rfl (Nat.le_of_ble_eq_true rfl) km_X6_50 (kX6_cheapB X (by decide) hR hV hf hs1 hs2) dX6_leastLost_24 ?_
      rintro _ _ ⟨rfl, c, rfl, hc1, hcs⟩
      refine r_istore (pc := 27) [(8, iv c), (7, iv 0), (6, iv ((bset (f) 16 : Nat) : Int)), (5, iv 0), (0, rv X 26), (1, rv X (oH 0)), (2, iv p), (3, iv ((bset (f) 16 : Nat) : Int)), (4, iv m)] (by decide) rfl dX6_leastLost_27 ?_
      have hc2 := hf _ hc1
      have qp := hV.p hc2.1 hc2.2
      refine r_aload_n (pc := 29) (a := 1) (i := 1) 5 rfl rfl dX6_leastLost_29 ?_
      refine r_getN (pc := 30) ckX3 (oH_lt (show 0 < 28 by decide)) (cellO (show 0 < 28 by decide)) (j := 5) (by decide) rfl kf_X6_54 dX6_leastLost_30 ?_
      refine r_iload (pc := 33) 0 rfl dX6_leastLost_33 ?_
      refine r_iald (pc := 35) (z := O (63 + 4 * c)) (oH_lt6 (show 0 < 28 by decide)) ((cellO6 (show 0 < 28 by decide)) _) (by omega) (by omega) (by decide) (hR.sort (by omega) (by omega)) dX6_leastLost_35 ?_
      refine r_iconst (pc := 36) dX6_leastLost_36 ?_
      refine r_icmp_ne (pc := 37) 42 (by unfold rg; omega) (by unfold rg; omega) dX6_leastLost_37 (by decide) (fun h37 => ?_) (fun h37 => ?_)
      · exact absurd h37 (fun z => z hcs)
      · skip
        refine r_iconst (pc := 40) dX6_leastLost_40 ?_
        refine r_iret (pc := 41) (st := []) rfl dX6_leastLost_41 ?_
        exact ⟨rfl, rfl⟩
theorem kX6_lL (X : XC) {I : HD} {O : OF} (hR : RepC O I 0) (hV : Val O) {l : Int → Int} (hl : I 27 = l) {p m : Int} {f : Int → Prop} (p0 : 0 ≤ p) (p7 : p ≤ 7) (hv : ∀ k, 0 ≤ k → k < p → 0 ≤ l k ∧ l k < O 1) (hf : sbs O f) (m0 : 0 ≤ m) (m9 : m ≤ 9) : Cl X 2 mX6_leastLost [rv X 26, rv X (oH 0), iv p, iv ((bset f 16 : Nat) : Int), iv m] I (Ki (lL O l p.toNat f m.toNat) I) := by
  by_cases q : ∃ x, f x ∧ slat O x
  · obtain ⟨x, a, b⟩ := id q
    rw [lL_sl q]
    exact kX6_lLb X hR hV hl p0 p7 hv hf m0 m9 a b
  · exact kX6_lLa X hR hV hl p0 p7 hv hf m0 m9 q
