/-! ===== a gust comes ===== -/
theorem tfv_c {O O2 : OF} {d : Int} (hh : O2 (23 + 10 * d) = O (23 + 10 * d)) (hs : O2 (16 + 2 * d) = O (16 + 2 * d)) (h0 : 0 ≤ O (16 + 2 * d)) (hk : ∀ k, 0 ≤ k → k < O (23 + 10 * d) → O2 (24 + 10 * d + k) = O (24 + 10 * d + k)) (hp : ∀ k, 0 ≤ k → k < O (23 + 10 * d) → O2 (63 + 4 * O (24 + 10 * d + k)) = O (63 + 4 * O (24 + 10 * d + k))) : ∀ n : Nat, tfv O2 d n = tfv O d n
  | 0 => rfl
  | n + 1 => by
    have ih := tfv_c hh hs h0 hk hp n
    have e : (tfv O2 d n = n ∧ (n : Int) < O2 (23 + 10 * d) - O2 (16 + 2 * d) ∧ ¬ slat O2 (O2 (24 + 10 * d + (O2 (23 + 10 * d) - 1 - n)))) ↔ (tfv O d n = n ∧ (n : Int) < O (23 + 10 * d) - O (16 + 2 * d) ∧ ¬ slat O (O (24 + 10 * d + (O (23 + 10 * d) - 1 - n)))) := by
      rw [ih, hh, hs]
      by_cases q : (n : Int) < O (23 + 10 * d) - O (16 + 2 * d)
      · have a := hk (O (23 + 10 * d) - 1 - n) (by omega) (by omega)
        have b := hp (O (23 + 10 * d) - 1 - n) (by omega) (by omega)
        unfold slat
        rw [a, b]
      · exact ⟨fun z => absurd z.2.1 q, fun z => absurd z.2.1 q⟩
    by_cases q : tfv O d n = n ∧ (n : Int) < O (23 + 10 * d) - O (16 + 2 * d) ∧ ¬ slat O (O (24 + 10 * d + (O (23 + 10 * d) - 1 - n)))
    · rw [show tfv O d (n + 1) = n + 1 from if_pos q, show tfv O2 d (n + 1) = n + 1 from if_pos (e.mpr q)]
    · rw [show tfv O d (n + 1) = tfv O d n from if_neg q, show tfv O2 d (n + 1) = tfv O2 d n from if_neg (fun z => q (e.mp z)), ih]
/-- one gust has come over the first n desks -/
noncomputable def blN (O : OF) (n : Int) : OF := fun k => if 23 ≤ k ∧ k < 23 + 10 * n ∧ (k - 23) % 10 = 0 then O k - tfv O ((k - 23) / 10) 1 else O k
theorem blN_0 {O : OF} : blN O 0 = O := by
  funext k
  unfold blN
  rw [if_neg (by omega)]
theorem blN_h {O : OF} {n e : Int} (h0 : 0 ≤ e) (h1 : e < n) : blN O n (23 + 10 * e) = O (23 + 10 * e) - tfv O e 1 := by
  unfold blN
  rw [if_pos (by omega), show (23 + 10 * e - 23) / 10 = e by omega]
theorem blN_g {O : OF} {n e : Int} (h1 : n ≤ e) : blN O n (23 + 10 * e) = O (23 + 10 * e) := by
  unfold blN
  rw [if_neg (by omega)]
theorem blN_k {O : OF} {n k : Int} (hn : n ≤ 4) (h : k < 23 ∨ 63 ≤ k) : blN O n k = O k := by
  unfold blN
  rw [if_neg (by omega)]
theorem blN_p {O : OF} {n d k : Int} (h0 : 0 ≤ k) (h1 : k < 9) : blN O n (24 + 10 * d + k) = O (24 + 10 * d + k) := by
  unfold blN
  rw [if_neg (by omega)]
theorem blN_s {I : HD} {O : OF} {d z : Int} (h0 : 0 ≤ d) (hz : z = O (23 + 10 * d) - tfv O d 1) : up (upA I 34 (blN O d)) 34 (23 + 10 * d) z = upA I 34 (blN O (d + 1)) := by
  rw [upA_u]
  congr 1
  funext k
  subst hz
  by_cases e : k = 23 + 10 * d
  · rw [if_pos e, e, blN_h h0 (by omega)]
  · rw [if_neg e]
    unfold blN
    by_cases q : 23 ≤ k ∧ k < 23 + 10 * d ∧ (k - 23) % 10 = 0
    · rw [if_pos q, if_pos (by omega)]
    · rw [if_neg q, if_neg (by omega)]
theorem blN_hh {O : OF} {n e : Int} (hV : Val O) (h0 : 0 ≤ e) (h1 : e < O 0) : 0 ≤ blN O n (23 + 10 * e) ∧ blN O n (23 + 10 * e) ≤ O (23 + 10 * e) := by
  have t := tfv_le 1 hV h0 h1
  have vd := hV.d h0 h1
  rcases (by omega : e < n ∨ n ≤ e) with q | q
  · rw [blN_h h0 q]; omega
  · rw [blN_g q]; omega
theorem Val.blow {O : OF} {n : Int} (hV : Val O) (hn : n ≤ 4) : Val (blN O n) := by
  have v := hV.a
  have e : ∀ k, (k < 23 ∨ 63 ≤ k) → blN O n k = O k := fun k q => blN_k hn q
  have e0 := e 0 (by omega)
  have e1 := e 1 (by omega)
  refine ⟨by rw [e0, e1, e 2 (by omega)]; exact v, fun q a b => by rw [e _ (by omega)]; exact hV.w a b, fun d a b => ?_, fun d k a b c f => ?_, fun p a b => ?_, fun d k d2 k2 a b c f a2 b2 c2 f2 g => ?_⟩
  · rw [e0] at b
    have vd := hV.d a b
    have vh := blN_hh (n := n) hV a b
    rw [e _ (by omega), e (16 + 2 * d) (by omega)]
    omega
  · rw [e0] at b
    have vd := hV.d a b
    have vh := blN_hh (n := n) hV a b
    rw [blN_p c (by omega), e1]
    exact hV.k a b c (by omega)
  · rw [e1] at b
    rw [e _ (by omega), e (64 + 4 * p) (by omega), e (65 + 4 * p) (by omega), e (66 + 4 * p) (by omega)]
    exact hV.p a b
  · rw [e0] at b b2
    have vd := hV.d a b
    have vh := blN_hh (n := n) hV a b
    have vd2 := hV.d a2 b2
    have vh2 := blN_hh (n := n) hV a2 b2
    rw [blN_p c (by omega), blN_p c2 (by omega)] at g
    exact hV.u a b c (by omega) a2 b2 c2 (by omega) g
theorem tfv_bl {O : OF} {n d : Int} (hV : Val O) (hn : n ≤ 4) (h0 : 0 ≤ d) (h1 : d < O 0) (h : n ≤ d) (m : Nat) : tfv (blN O n) d m = tfv O d m := by
  have v := hV.a
  have vd := hV.d h0 h1
  exact tfv_c (blN_g h) (blN_k hn (by omega)) vd.2.2.1 (fun k a b => blN_p a (by omega)) (fun k a b => blN_k hn (by have := hV.k h0 h1 a b; omega)) m
theorem RepC.blow {O : OF} {J : HD} {o : Nat} {d z : Int} (hV : Val O) (h0 : 0 ≤ d) (h1 : d < O 0) (h : RepC (blN O d) J o) (hz : z = O (23 + 10 * d) - tfv O d 1) : RepC (blN O (d + 1)) (up J (oH o + 4) d z) o := by
  have v := hV.a
  have vd := hV.d h0 h1
  subst hz
  have e : ∀ k, (k < 23 ∨ 63 ≤ k) → blN O (d + 1) k = blN O d k := fun k q => (blN_k (by omega) q).trans (blN_k (by omega) q).symm
  have e0 := e 0 (by omega)
  have e1 := e 1 (by omega)
  have z0 : blN O d 0 = O 0 := blN_k (by omega) (by omega)
  have r : ∀ a, a ≠ oH o + 4 → up J (oH o + 4) d (O (23 + 10 * d) - tfv O d 1) a = J a := fun a q => up_row q
  refine ⟨⟨?_, ?_, ?_⟩, fun q a b => ?_, fun c a b => ?_, fun c k a b f g => ?_, fun p a b => ?_, ?_⟩
  · rw [r _ (by omega), e0]; exact h.f0
  · rw [r _ (by omega), e1]; exact h.f1
  · rw [r _ (by omega), e 2 (by omega)]; exact h.f2
  · rw [r _ (by omega), e _ (by omega)]; exact h.wind a b
  · rw [e0] at b
    rw [r _ (by omega), r (oH o + 3) (by omega), e _ (by omega), e (16 + 2 * c) (by omega)]
    refine ⟨h.room a b, h.ston a b, ?_⟩
    by_cases q : c = d
    · rw [q, up_s, blN_h h0 (by omega)]
    · rw [up_i q, h.hgt a b]
      rcases (by omega : c < d ∨ d < c) with w | w
      · rw [blN_h a w, blN_h a (by omega)]
      · rw [blN_g (by omega), blN_g (by omega)]
  · rw [e0] at b
    rw [z0] at b
    have vc := hV.d a b
    have vh := blN_hh (n := d + 1) hV a b
    have hle : blN O (d + 1) (23 + 10 * c) ≤ blN O d (23 + 10 * c) := by
      have t := tfv_le 1 hV a b
      rcases (by omega : c < d ∨ c = d ∨ d < c) with w | w | w
      · rw [blN_h a w, blN_h a (by omega)]; omega
      · rw [w, blN_h h0 (by omega), blN_g (by omega)]; rw [w] at t; omega
      · rw [blN_g (by omega), blN_g (by omega)]; omega
    rw [r _ (by omega), blN_p f (by omega)]
    exact (h.pile a (by rw [z0]; exact b) f (by omega)).trans (blN_p f (by omega))
  · rw [e1] at b
    rw [r _ (by omega), r (oH o + 7) (by omega), r (oH o + 8) (by omega), e _ (by omega), e (64 + 4 * p) (by omega), e (65 + 4 * p) (by omega)]
    exact ⟨h.sort a b, h.wrth a b, h.need a b⟩
  · rw [r _ (by omega), h.met, e1]
    exact bs_c' fun p a b => by rw [e (66 + 4 * p) (by omega)]
