/-! ===== more answers ===== -/
theorem iI_or0 {a : Int} : iI a ||| iI 0 = iI a := by
  show iI a ||| 0 = iI a
  exact Int32.or_zero
theorem w_1 {O : OF} {d : Int} (hV : Val O) (h0 : 0 ≤ d) (h1 : d < O 0) : liu O (O (24 + 10 * d + (O (23 + 10 * d) - 1))) d = lost O d 1 := by
  rw [lost_1 hV h0 h1]
  unfold liu tp
  rw [show O (23 + 10 * d) - 1 - 0 = O (23 + 10 * d) - 1 by omega]
theorem w_0 {O : OF} {d : Int} (hV : Val O) (h0 : 0 ≤ d) (h1 : d < O 0) (h : O (23 + 10 * d) ≤ 0) : (0 : Int) = lost O d 1 := by
  have vd := hV.d h0 h1
  rw [lost_1 hV h0 h1, bI_f (fun q => by have := q.1; omega), Int.zero_mul]
theorem w_3 {O : OF} {d : Int} (hV : Val O) (h0 : 0 ≤ d) (h1 : d < O 0) (h : O (16 + 2 * d) + 2 < O (23 + 10 * d)) : liu O (O (24 + 10 * d + (O (23 + 10 * d) - 3))) d = lth O d := by
  have vd := hV.d h0 h1
  unfold liu lth tp
  rw [show O (23 + 10 * d) - 1 - 2 = O (23 + 10 * d) - 3 by omega]
  rw [bI_c (show (O (16 + 2 * d) < O (23 + 10 * d) ∧ ¬ slat O (O (24 + 10 * d + (O (23 + 10 * d) - 3)))) ↔ (O (16 + 2 * d) ≤ O (23 + 10 * d) - 3 ∧ ¬ slat O (O (24 + 10 * d + (O (23 + 10 * d) - 3)))) from ⟨fun q => ⟨by omega, q.2⟩, fun q => ⟨by omega, q.2⟩⟩)]
theorem w_3n {O : OF} {d : Int} (h : ¬ O (16 + 2 * d) + 2 < O (23 + 10 * d)) : lth O d = 0 := by
  unfold lth
  rw [bI_f (fun q => by have := q.1; omega), Int.zero_mul]
noncomputable def zTak (O : OF) (n w : Int) : Int := if 0 < O 0 then (if 0 ≤ n ∧ n ≤ 9 ∧ 0 ≤ w ∧ w ≤ 1 then (if w = 0 then ((bset (tkn O n) 16 : Nat) : Int) else wsum O (tkn O n) (O 1).toNat) else -1000001) else -1000002
theorem tkn_0 {O : OF} {p : Int} : ¬ tkn O 0 p := by rintro ⟨e, a, b, _⟩; omega
theorem lft_0 {O : OF} {f : Int → Int} (h : ∀ c, 0 ≤ c → c < O 0 → f c = O (23 + 10 * c)) : lftE O 0 f := fun d a b => by
  rw [h d a b]
  show _ = O (23 + 10 * d) - tfv O d 0
  show _ = O (23 + 10 * d) - 0
  omega
noncomputable def zLend (O : OF) (a b : Int) : Int := if 0 ≤ a ∧ a < O 0 ∧ 0 ≤ b ∧ b < O 0 ∧ ¬ a = b then (if O (23 + 10 * a) = 0 ∨ O (23 + 10 * b) = 0 then -1000000 else (lost O a 1 + lost O b 1) - (liu O (O (24 + 10 * b + lon O b (O (23 + 10 * b) - 1).toNat)) a + liu O (O (24 + 10 * a + lon O a (O (23 + 10 * a) - 1).toNat)) b)) else -1000001
theorem liu_le {O : OF} {p d : Int} (hV : Val O) (h0 : 0 ≤ p) (h1 : p < O 1) : 0 ≤ liu O p d ∧ liu O p d ≤ 99 := by
  have vp := hV.p h0 h1
  unfold liu
  by_cases q : O (16 + 2 * d) < O (23 + 10 * d) ∧ ¬ slat O p
  · rw [bI_t q]; omega
  · rw [bI_f q]; omega
/-- a call that also lays the reference's own row of what is left -/
theorem Pair.rd38 {X : XC} {mx mm : MR} {av : List Value} {D D2 : Nat} (hD : D < 40) (hD2 : D2 < 40) (h : ∀ I : HD, RC I I → ∃ z : Int, Cl X D mx (rv X 0 :: av) I (Ki z I) ∧ Cl X D2 mm (rv X 30 :: av) I (fun r J => r = some (iv z) ∧ ∃ f, J = upA (up I 30 0 0) 38 f)) : Pair X mx mm av := by
  intro I hI
  obtain ⟨z, h1, h2⟩ := h I hI
  refine ⟨z, D, D2, hD, hD2, h1.mono ?_⟩
  rintro r J ⟨rfl, rfl⟩
  refine ⟨rfl, h2.mono ?_⟩
  rintro r J ⟨rfl, f, rfl⟩
  exact ⟨rfl, hI.thr2.cg (fun a _ _ _ b _ _ _ => upA_h b) (fun j _ => by rw [upA_h (by decide)]) (fun a q => upA_h (by omega))⟩
theorem tpN_or {O : OF} {d e : Int} (hV : Val O) (h0 : 0 ≤ d) (h1 : d < O 0) (he : 0 ≤ e) : (tpN O d e = -1000000 ∧ ¬ e < tfv O d (e + 1).toNat) ∨ (0 ≤ tpN O d e ∧ tpN O d e < 16 ∧ e < tfv O d (e + 1).toNat ∧ tpN O d e = tp O d e) := by
  by_cases q : e < tfv O d (e + 1).toNat
  · have l := tfv_le (e + 1).toNat hV h0 h1
    have vk := hV.k (k := O (23 + 10 * d) - 1 - e) h0 h1 (by omega) (by omega)
    have va := hV.a
    have t := tpN_a q
    refine Or.inr ⟨?_, ?_, q, t⟩
    · rw [t]; exact vk.1
    · rw [t]; show O (24 + 10 * d + (O (23 + 10 * d) - 1 - e)) < 16; omega
  · exact Or.inl ⟨tpN_b q, q⟩
theorem lsum_0 {O : OF} {d : Int} : ∀ {n : Nat}, (∀ t : Int, 0 ≤ t → t < n → O (64 + 4 * tp O d t) = 0) → lsum O d n = 0
  | 0, _ => rfl
  | n + 1, h => by
    show lsum O d n + O (64 + 4 * tp O d n) = 0
    rw [lsum_0 (fun t a b => h t a (by omega)), h n (by omega) (by omega)]; rfl
theorem lsum_q {O : OF} {d : Int} (hV : Val O) (h0 : 0 ≤ d) (h1 : d < O 0) : ∀ {n : Nat} {t : Int}, (n : Int) ≤ O (23 + 10 * d) → 0 ≤ t → t < n → 0 < O (64 + 4 * tp O d t) → 0 < lsum O d n
  | 0, t, _, a, b, _ => by omega
  | n + 1, t, hn, a, b, c => by
    have vk := hV.k (d := d) (k := O (23 + 10 * d) - 1 - n) h0 h1 (by omega) (by omega)
    have vp := hV.p vk.1 vk.2
    have g : 0 ≤ O (64 + 4 * tp O d n) := by unfold tp; omega
    show 0 < lsum O d n + O (64 + 4 * tp O d n)
    by_cases e : t = n
    · subst e
      have := (lsum_le hV h0 h1 (n := n) (by omega)).1
      omega
    · have := lsum_q hV h0 h1 (n := n) (t := t) (by omega) a (by omega) c
      omega
theorem cov_0 {O : OF} {d r : Int} (h : ∀ t, 0 ≤ t → t < tfv O d r.toNat → O (64 + 4 * tp O d t) = 0) : lost O d r = 0 := by
  unfold lost
  exact lsum_0 (fun t a b => h t a (by omega))
theorem cov_p {O : OF} {d r t : Int} (hV : Val O) (h0 : 0 ≤ d) (h1 : d < O 0) (ht : 0 ≤ t) (hr : t < r) (hs : t < O (23 + 10 * d) - O (16 + 2 * d)) (hn : ∀ u, 0 ≤ u → u ≤ t → ¬ slat O (tp O d u)) (hw : 0 < O (64 + 4 * tp O d t)) : ¬ lost O d r = 0 := by
  have l := tfv_le r.toNat hV h0 h1
  obtain ⟨g1, g2, g3, g4, g5⟩ := tfv_Tf O d r.toNat
  have key : t < tfv O d r.toNat := by
    rcases g5 with e | e | e
    · omega
    · omega
    · rcases (by omega : tfv O d r.toNat ≤ t ∨ t < tfv O d r.toNat) with q | q
      · exact absurd e (hn _ g1 q)
      · exact q
  have := lsum_q hV h0 h1 (n := (tfv O d r.toNat).toNat) (t := t) (by omega) ht (by omega) hw
  unfold lost
  omega
theorem cov_s {O : OF} {d r t : Int} (ht : 0 ≤ t) (hs : slat O (tp O d t)) : tfv O d r.toNat ≤ t := by
  obtain ⟨g1, g2, g3, g4, g5⟩ := tfv_Tf O d r.toNat
  rcases (by omega : tfv O d r.toNat ≤ t ∨ t < tfv O d r.toNat) with q | q
  · exact q
  · exact absurd hs (g4 t ht q)
/-- the fewest blanks, looked for from k on, m of them at most -/
noncomputable def cvr (O : OF) (d n : Int) : Nat → Int → Int
  | 0, _ => -1000000
  | m + 1, k => if lost O d (max 0 (n - k)) = 0 then k else cvr O d n m (k + 1)
theorem cvr_a {O : OF} {d n m k : Int} (h : k ≤ m) (g : lost O d (max 0 (n - k)) = 0) : cvr O d n (m + 1 - k).toNat k = k := by
  rw [show (m + 1 - k).toNat = (m - k).toNat + 1 by omega]
  exact if_pos g
theorem cvr_b {O : OF} {d n m k : Int} (h : k ≤ m) (g : ¬ lost O d (max 0 (n - k)) = 0) : cvr O d n (m + 1 - k).toNat k = cvr O d n (m + 1 - (k + 1)).toNat (k + 1) := by
  rw [show (m + 1 - k).toNat = (m - k).toNat + 1 by omega, show (m + 1 - (k + 1)).toNat = (m - k).toNat by omega]
  exact if_neg g
theorem cvr_c {O : OF} {d n m k : Int} (h : m < k) : cvr O d n (m + 1 - k).toNat k = -1000000 := by
  rw [show (m + 1 - k).toNat = 0 by omega]
  rfl
noncomputable def zCov (O : OF) (d n : Int) : Int := if 0 ≤ d ∧ d < O 0 ∧ 0 ≤ n ∧ n ≤ 9 then cvr O d n (O (15 + 2 * d) - O (23 + 10 * d) + 1 - 0).toNat 0 else -1000001
