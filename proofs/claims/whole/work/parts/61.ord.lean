/-! ===== order: arrangements, their order by numbers, what is lost from them ===== -/
def arr (S : Int → Prop) (h : Int) (B : Int → Int) : Prop := (∀ k, 0 ≤ k → k < h → S (B k)) ∧ (∀ k m, 0 ≤ k → k < h → 0 ≤ m → m < h → B k = B m → k = m) ∧ (∀ x, S x → ∃ k, 0 ≤ k ∧ k < h ∧ B k = x)
def agr (q : Int) (A B : Int → Int) : Prop := ∀ k, 0 ≤ k → k < q → A k = B k
def llt (h : Int) (A B : Int → Int) : Prop := ∃ q, 0 ≤ q ∧ q < h ∧ agr q A B ∧ A q < B q
def lle (h : Int) (A B : Int → Int) : Prop := agr h A B ∨ llt h A B
theorem agr.sy {q : Int} {A B : Int → Int} (h : agr q A B) : agr q B A := fun k a b => (h k a b).symm
theorem lex_n (A B : Int → Int) : ∀ n : Nat, agr n A B ∨ llt n A B ∨ llt n B A
  | 0 => Or.inl (fun k a b => by omega)
  | n + 1 => by
    rcases lex_n A B n with h | ⟨q, a, b, c, d⟩ | ⟨q, a, b, c, d⟩
    · rcases Int.lt_trichotomy (A n) (B n) with e | e | e
      · exact Or.inr (Or.inl ⟨n, by omega, by omega, h, e⟩)
      · refine Or.inl (fun k x y => ?_)
        by_cases z : k = n
        · rw [z]; exact e
        · exact h k x (by omega)
      · exact Or.inr (Or.inr ⟨n, by omega, by omega, h.sy, e⟩)
    · exact Or.inr (Or.inl ⟨q, a, by omega, c, d⟩)
    · exact Or.inr (Or.inr ⟨q, a, by omega, c, d⟩)
theorem lex_t {h : Int} (h0 : 0 ≤ h) (A B : Int → Int) : agr h A B ∨ llt h A B ∨ llt h B A := by
  have := lex_n A B h.toNat
  rw [Int.toNat_of_nonneg h0] at this
  exact this
theorem llt.no {h : Int} {A B : Int → Int} (x : llt h A B) (y : agr h A B) : False := by
  obtain ⟨q, a, b, c, d⟩ := x
  have := y q a b
  omega
theorem llt.as {h : Int} {A B : Int → Int} (x : llt h A B) (y : llt h B A) : False := by
  obtain ⟨q, a, b, c, d⟩ := x
  obtain ⟨r, a2, b2, c2, d2⟩ := y
  rcases Int.lt_trichotomy q r with e | e | e
  · have := c2 q a e; omega
  · subst e; omega
  · have := c r a2 e; omega
theorem lle.as {h : Int} {A B : Int → Int} (x : lle h A B) (y : lle h B A) : agr h A B := by
  rcases x with x | x
  · exact x
  · rcases y with y | y
    · exact (x.no y.sy).elim
    · exact (x.as y).elim
theorem llt.cg {h : Int} {A B A2 B2 : Int → Int} (x : llt h A B) (e : agr h A2 A) (f : agr h B2 B) : llt h A2 B2 := by
  obtain ⟨q, a, b, c, d⟩ := x
  exact ⟨q, a, b, fun k y z => (e k y (by omega)).trans ((c k y z).trans (f k y (by omega)).symm), by rw [e q a b, f q a b]; exact d⟩
theorem lle.cg {h : Int} {A B A2 B2 : Int → Int} (x : lle h A B) (e : agr h A2 A) (f : agr h B2 B) : lle h A2 B2 := by
  rcases x with x | x
  · exact Or.inl (fun k y z => (e k y z).trans ((x k y z).trans (f k y z).symm))
  · exact Or.inr (x.cg e f)
theorem arr.cg {S : Int → Prop} {h : Int} {A B : Int → Int} (x : arr S h A) (e : agr h B A) : arr S h B := by
  refine ⟨fun k a b => by rw [e k a b]; exact x.1 k a b, fun k m a b c d f => x.2.1 k m a b c d (by rw [← e k a b, ← e m c d]; exact f), fun y hy => ?_⟩
  obtain ⟨k, a, b, c⟩ := x.2.2 y hy
  exact ⟨k, a, b, (e k a b).trans c⟩
def cod (A : Int → Int) : Nat → Int
  | 0 => 0
  | n + 1 => cod A n * 16 + A n
theorem cod_e {A B : Int → Int} : ∀ {n : Nat}, agr n A B → cod A n = cod B n
  | 0, _ => rfl
  | n + 1, h => by
    show cod A n * 16 + A n = cod B n * 16 + B n
    rw [cod_e (n := n) (fun k a b => h k a (by omega)), h n (by omega) (by omega)]
theorem cod_l {A B : Int → Int} : ∀ {n : Nat}, (∀ k : Int, 0 ≤ k → k < n → 0 ≤ A k ∧ A k < 16 ∧ 0 ≤ B k ∧ B k < 16) → llt n A B → cod A n < cod B n
  | 0, _, h => by obtain ⟨q, a, b, _⟩ := h; omega
  | n + 1, hd, h => by
    obtain ⟨q, a, b, c, d⟩ := h
    have hn := hd n (by omega) (by omega)
    show cod A n * 16 + A n < cod B n * 16 + B n
    by_cases e : q = n
    · subst e
      rw [cod_e c]
      omega
    · have := cod_l (n := n) (fun k a b => hd k a (by omega)) ⟨q, a, by omega, c, d⟩
      omega
theorem cod_r {A : Int → Int} : ∀ {n : Nat}, (∀ k : Int, 0 ≤ k → k < n → 0 ≤ A k ∧ A k < 16) → 0 ≤ cod A n ∧ cod A n < 16 ^ n
  | 0, _ => by show 0 ≤ (0 : Int) ∧ (0 : Int) < 1; omega
  | n + 1, hd => by
    have ih := cod_r (n := n) (fun k a b => hd k a (by omega))
    have hn := hd n (by omega) (by omega)
    have e : (16 : Int) ^ (n + 1) = 16 ^ n * 16 := Int.pow_succ 16 n
    show 0 ≤ cod A n * 16 + A n ∧ cod A n * 16 + A n < 16 ^ (n + 1)
    omega
theorem cod_7 {A : Int → Int} {h : Int} (h0 : 0 ≤ h) (h7 : h ≤ 7) (hd : ∀ k, 0 ≤ k → k < h → 0 ≤ A k ∧ A k < 16) : 0 ≤ cod A h.toNat ∧ cod A h.toNat < 268435457 := by
  have := cod_r (A := A) (n := h.toNat) (fun k a b => hd k a (by omega))
  have p : (16 : Int) ^ h.toNat ≤ 268435456 := by
    rcases (by omega : h = 0 ∨ h = 1 ∨ h = 2 ∨ h = 3 ∨ h = 4 ∨ h = 5 ∨ h = 6 ∨ h = 7) with rfl | rfl | rfl | rfl | rfl | rfl | rfl | rfl <;> decide
  omega
/-- lost from a row of sheets, of which the lowest p lie there, by m gusts -/
def dS (O : OF) (f : Int → Int) : Nat → Nat → Int
  | 0, _ => 0
  | _ + 1, 0 => 0
  | p + 1, m + 1 => if O (63 + 4 * f p) = 5 then 0 else O (64 + 4 * f p) + dS O f p m
theorem dS_0 {O : OF} {f : Int → Int} : ∀ {p : Nat}, dS O f p 0 = 0
  | 0 => rfl
  | _ + 1 => rfl
theorem dS_c {O : OF} {f g : Int → Int} : ∀ {p m : Nat}, agr p f g → dS O f p m = dS O g p m
  | 0, _, _ => rfl
  | _ + 1, 0, _ => rfl
  | p + 1, m + 1, h => by
    show (if O (63 + 4 * f p) = 5 then 0 else O (64 + 4 * f p) + dS O f p m) = (if O (63 + 4 * g p) = 5 then 0 else O (64 + 4 * g p) + dS O g p m)
    rw [h p (by omega) (by omega), dS_c (p := p) (m := m) (fun k a b => h k a (by omega))]
theorem dS_r {O : OF} {f : Int → Int} (hV : Val O) : ∀ {p m : Nat}, (∀ k : Int, 0 ≤ k → k < p → 0 ≤ f k ∧ f k < O 1) → 0 ≤ dS O f p m ∧ dS O f p m ≤ 99 * m
  | 0, m, _ => by show 0 ≤ (0 : Int) ∧ (0 : Int) ≤ 99 * m; omega
  | _ + 1, 0, _ => by show 0 ≤ (0 : Int) ∧ (0 : Int) ≤ 99 * ((0 : Nat) : Int); omega
  | p + 1, m + 1, h => by
    have ih := dS_r hV (p := p) (m := m) (fun k a b => h k a (by omega))
    have hp := h p (by omega) (by omega)
    have vp := hV.p hp.1 hp.2
    show 0 ≤ (if O (63 + 4 * f p) = 5 then 0 else O (64 + 4 * f p) + dS O f p m) ∧ (if O (63 + 4 * f p) = 5 then 0 else O (64 + 4 * f p) + dS O f p m) ≤ 99 * ((m + 1 : Nat) : Int)
    split <;> omega
theorem dS_t {O : OF} {f : Int → Int} {p m : Int} (hp : 0 < p) (hm : 0 < m) (hs : O (63 + 4 * f (p - 1)) = 5) : dS O f p.toNat m.toNat = 0 := by
  obtain ⟨a, rfl⟩ : ∃ a : Nat, p = a + 1 := ⟨(p - 1).toNat, by omega⟩
  obtain ⟨b, rfl⟩ : ∃ b : Nat, m = b + 1 := ⟨(m - 1).toNat, by omega⟩
  rw [show ((a : Int) + 1).toNat = a + 1 by omega, show ((b : Int) + 1).toNat = b + 1 by omega]
  rw [show (a : Int) + 1 - 1 = a by omega] at hs
  exact if_pos hs
theorem dS_s {O : OF} {f : Int → Int} {p m : Int} (hp : 0 < p) (hm : 0 < m) (hs : ¬ O (63 + 4 * f (p - 1)) = 5) : dS O f p.toNat m.toNat = O (64 + 4 * f (p - 1)) + dS O f (p - 1).toNat (m - 1).toNat := by
  obtain ⟨a, rfl⟩ : ∃ a : Nat, p = a + 1 := ⟨(p - 1).toNat, by omega⟩
  obtain ⟨b, rfl⟩ : ∃ b : Nat, m = b + 1 := ⟨(m - 1).toNat, by omega⟩
  rw [show (a : Int) + 1 - 1 = a by omega] at hs ⊢
  rw [show ((a : Int) + 1).toNat = a + 1 by omega, show ((b : Int) + 1).toNat = b + 1 by omega, show (b : Int) + 1 - 1 = b by omega, Int.toNat_natCast, Int.toNat_natCast]
  exact if_neg hs
/-! ===== the cheapest of a set, the sum of the m cheapest ===== -/
noncomputable def chN (O : OF) (f : Int → Prop) : Nat → Int
  | 0 => -1
  | n + 1 => @ite Int (f n ∧ (chN O f n < 0 ∨ O (64 + 4 * n) < O (64 + 4 * chN O f n))) (Classical.propDecidable _) n (chN O f n)
theorem chN_s {O : OF} {f : Int → Prop} {i : Int} (h : 0 ≤ i) : chN O f (i + 1).toNat = @ite Int (f i ∧ (chN O f i.toNat < 0 ∨ O (64 + 4 * i) < O (64 + 4 * chN O f i.toNat))) (Classical.propDecidable _) i (chN O f i.toNat) := by
  obtain ⟨n, rfl⟩ : ∃ n : Nat, i = n := ⟨i.toNat, by omega⟩
  rw [show ((n : Int) + 1).toNat = n + 1 by omega, Int.toNat_natCast]
  rfl
theorem chN_is (O : OF) (f : Int → Prop) : ∀ n : Nat, (chN O f n = -1 ∧ ∀ x : Int, 0 ≤ x → x < n → ¬ f x) ∨ (0 ≤ chN O f n ∧ chN O f n < n ∧ f (chN O f n) ∧ (∀ x : Int, 0 ≤ x → x < n → f x → O (64 + 4 * chN O f n) ≤ O (64 + 4 * x)) ∧ (∀ x, 0 ≤ x → x < chN O f n → f x → O (64 + 4 * chN O f n) < O (64 + 4 * x)))
  | 0 => Or.inl ⟨rfl, fun x a b => by omega⟩
  | n + 1 => by
    have ih := chN_is O f n
    by_cases q : f n ∧ (chN O f n < 0 ∨ O (64 + 4 * n) < O (64 + 4 * chN O f n))
    · rw [show chN O f (n + 1) = n from if_pos q]
      refine Or.inr ⟨by omega, by omega, q.1, fun x a b c => ?_, fun x a b c => ?_⟩
      · by_cases e : x = n
        · rw [e]; omega
        · rcases ih with ⟨i1, i2⟩ | ⟨i1, i2, i3, i4, i5⟩
          · exact absurd c (i2 x a (by omega))
          · have := i4 x a (by omega) c
            rcases q.2 with q | q <;> omega
      · rcases ih with ⟨i1, i2⟩ | ⟨i1, i2, i3, i4, i5⟩
        · exact absurd c (i2 x a (by omega))
        · have := i4 x a (by omega) c
          rcases q.2 with q | q <;> omega
    · rw [show chN O f (n + 1) = chN O f n from if_neg q]
      rcases ih with ⟨i1, i2⟩ | ⟨i1, i2, i3, i4, i5⟩
      · refine Or.inl ⟨i1, fun x a b c => ?_⟩
        by_cases e : x = n
        · exact q ⟨e ▸ c, Or.inl (by omega)⟩
        · exact i2 x a (by omega) c
      · refine Or.inr ⟨i1, by omega, i3, fun x a b c => ?_, i5⟩
        by_cases e : x = n
        · apply Classical.byContradiction
          intro z
          exact q ⟨e ▸ c, Or.inr (by rw [e] at z; omega)⟩
        · exact i4 x a (by omega) c
noncomputable def ch (O : OF) (f : Int → Prop) : Int := chN O f (O 1).toNat
abbrev dl (f : Int → Prop) (s : Int) : Int → Prop := fun x => f x ∧ ¬ x = s
def sbs (O : OF) (f : Int → Prop) : Prop := ∀ x, f x → 0 ≤ x ∧ x < O 1
theorem sbs.dl {O : OF} {f : Int → Prop} {s : Int} (h : sbs O f) : sbs O (dl f s) := fun x q => h x q.1
theorem dl_c {f : Int → Prop} {s c : Int} : dl (dl f s) c = dl (dl f c) s := by
  funext x
  exact propext ⟨fun q => ⟨⟨q.1.1, q.2⟩, q.1.2⟩, fun q => ⟨⟨q.1.1, q.2⟩, q.1.2⟩⟩
theorem ch_u {O : OF} {f : Int → Prop} {c : Int} (hf : sbs O f) (hc : f c) (h1 : ∀ x, f x → O (64 + 4 * c) ≤ O (64 + 4 * x)) (h2 : ∀ x, x < c → f x → O (64 + 4 * c) < O (64 + 4 * x)) : ch O f = c := by
  have h0 := hf c hc
  rcases chN_is O f (O 1).toNat with ⟨i1, i2⟩ | ⟨i1, i2, i3, i4, i5⟩
  · exact absurd hc (i2 c h0.1 (by omega))
  · show chN O f (O 1).toNat = c
    rcases Int.lt_trichotomy (chN O f (O 1).toNat) c with e | e | e
    · have a := h2 _ e i3
      have b := i4 c h0.1 (by omega) hc
      omega
    · exact e
    · have a := i5 c h0.1 e hc
      have b := h1 _ i3
      omega
theorem ch_f {O : OF} {f : Int → Prop} {s : Int} (hf : sbs O f) (hs : f s) : f (ch O f) ∧ (∀ x, f x → O (64 + 4 * ch O f) ≤ O (64 + 4 * x)) ∧ (∀ x, x < ch O f → f x → O (64 + 4 * ch O f) < O (64 + 4 * x)) := by
  rcases chN_is O f (O 1).toNat with ⟨i1, i2⟩ | ⟨i1, i2, i3, i4, i5⟩
  · exact absurd hs (i2 s (hf s hs).1 (by have := hf s hs; omega))
  · exact ⟨i3, fun x q => i4 x (hf x q).1 (by have := hf x q; omega) q, fun x a q => i5 x (hf x q).1 a q⟩
theorem ch_d {O : OF} {f : Int → Prop} {s : Int} (hf : sbs O f) (hs : f s) (h : ¬ s = ch O f) : ch O (dl f s) = ch O f := by
  obtain ⟨a, b, c⟩ := ch_f hf hs
  exact ch_u hf.dl ⟨a, fun q => h q.symm⟩ (fun x q => b x q.1) (fun x y q => c x y q.1)
theorem cnt_ex {f : Int → Prop} : ∀ {n : Nat}, 0 < cnt f n → ∃ p, 0 ≤ p ∧ p < (n : Int) ∧ f p
  | 0, h => by simp [cnt] at h
  | n + 1, h => by
    by_cases q : f n
    · exact ⟨n, by omega, by omega, q⟩
    · have h2 : 0 < cnt f n + bI (f n) := h
      rw [bI_f q] at h2
      obtain ⟨p, a, b, c⟩ := cnt_ex (f := f) (n := n) (by omega)
      exact ⟨p, a, by omega, c⟩
theorem cnt_dl {O : OF} {f : Int → Prop} {s : Int} (hV : Val O) (hf : sbs O f) (hs : f s) : cnt (dl f s) 16 = cnt f 16 - 1 := by
  have v := hV.a
  have := hf s hs
  exact cnt_del this.1 hs (by omega)
theorem cnt_p {O : OF} {f : Int → Prop} {s : Int} (hV : Val O) (hf : sbs O f) (hs : f s) : 0 < cnt f 16 := by
  have v := hV.a
  have := hf s hs
  exact cnt_pos this.1 hs (by omega)
noncomputable def gS (O : OF) : Nat → (Int → Prop) → Int
  | 0, _ => 0
  | m + 1, f => O (64 + 4 * ch O f) + gS O m (dl f (ch O f))
theorem gS_s {O : OF} {f : Int → Prop} {m : Int} (h : 0 < m) : gS O m.toNat f = O (64 + 4 * ch O f) + gS O (m - 1).toNat (dl f (ch O f)) := by
  obtain ⟨b, rfl⟩ : ∃ b : Nat, m = b + 1 := ⟨(m - 1).toNat, by omega⟩
  rw [show ((b : Int) + 1).toNat = b + 1 by omega, show (b : Int) + 1 - 1 = b by omega, Int.toNat_natCast]
  rfl
theorem gS_r {O : OF} (hV : Val O) : ∀ {m : Nat} {f : Int → Prop}, sbs O f → (m : Int) ≤ cnt f 16 → 0 ≤ gS O m f ∧ gS O m f ≤ 99 * m
  | 0, f, _, _ => by show 0 ≤ (0 : Int) ∧ (0 : Int) ≤ 99 * ((0 : Nat) : Int); omega
  | m + 1, f, hf, h => by
    obtain ⟨p, _, _, hp⟩ := cnt_ex (f := f) (n := 16) (by omega)
    have hc := ch_f hf hp
    have ih := gS_r hV (m := m) (f := dl f (ch O f)) hf.dl (by rw [cnt_dl hV hf hc.1]; omega)
    have := hf _ hc.1
    have vp := hV.p this.1 this.2
    show 0 ≤ O (64 + 4 * ch O f) + gS O m (dl f (ch O f)) ∧ O (64 + 4 * ch O f) + gS O m (dl f (ch O f)) ≤ 99 * ((m + 1 : Nat) : Int)
    omega
theorem gS_ge {O : OF} (hV : Val O) : ∀ {m : Nat} {f : Int → Prop} {s : Int}, sbs O f → f s → (m : Int) + 1 ≤ cnt f 16 → gS O m f ≤ gS O m (dl f s)
  | 0, _, _, _, _, _ => Int.le_refl _
  | m + 1, f, s, hf, hs, h => by
    have hc := ch_f hf hs
    have hn := cnt_dl hV hf hc.1
    by_cases e : s = ch O f
    · obtain ⟨p, _, _, hp⟩ := cnt_ex (f := dl f (ch O f)) (n := 16) (by omega)
      have hc2 := ch_f hf.dl hp
      have ih := gS_ge hV (m := m) (f := dl f (ch O f)) (s := ch O (dl f (ch O f))) hf.dl hc2.1 (by omega)
      have a := hc.2.1 _ hc2.1.1
      rw [e]
      show O (64 + 4 * ch O f) + gS O m (dl f (ch O f)) ≤ O (64 + 4 * ch O (dl f (ch O f))) + gS O m (dl (dl f (ch O f)) (ch O (dl f (ch O f))))
      omega
    · have ih := gS_ge hV (m := m) (f := dl f (ch O f)) (s := s) hf.dl ⟨hs, e⟩ (by omega)
      show O (64 + 4 * ch O f) + gS O m (dl f (ch O f)) ≤ O (64 + 4 * ch O (dl f s)) + gS O m (dl (dl f s) (ch O (dl f s)))
      rw [ch_d hf hs e, dl_c]
      omega
theorem gS_ex {O : OF} (hV : Val O) : ∀ {m : Nat} {f : Int → Prop}, sbs O f → (m : Int) + 1 ≤ cnt f 16 → ∃ s, f s ∧ gS O m (dl f s) = gS O m f
  | 0, f, _, h => by
    obtain ⟨p, _, _, hp⟩ := cnt_ex (f := f) (n := 16) (by omega)
    exact ⟨p, hp, rfl⟩
  | m + 1, f, hf, h => by
    obtain ⟨p, _, _, hp⟩ := cnt_ex (f := f) (n := 16) (by omega)
    have hc := ch_f hf hp
    have hn := cnt_dl hV hf hc.1
    obtain ⟨s, h1, h2⟩ := gS_ex hV (m := m) (f := dl f (ch O f)) hf.dl (by omega)
    refine ⟨s, h1.1, ?_⟩
    show O (64 + 4 * ch O (dl f s)) + gS O m (dl (dl f s) (ch O (dl f s))) = O (64 + 4 * ch O f) + gS O m (dl f (ch O f))
    rw [ch_d hf h1.1 h1.2, dl_c, h2]
theorem gS_to {O : OF} (hV : Val O) : ∀ {m : Nat} {f : Int → Prop} {s : Int}, sbs O f → f s → (m : Int) + 1 = cnt f 16 → gS O (m + 1) f = O (64 + 4 * s) + gS O m (dl f s)
  | m, f, s, hf, hs, h => by
    have hc := ch_f hf hs
    have hn := cnt_dl hV hf hc.1
    by_cases e : s = ch O f
    · rw [e]; rfl
    · have hp := cnt_p hV hf.dl (show dl f (ch O f) s from ⟨hs, e⟩)
      match m, h with
      | 0, h => omega
      | k + 1, h =>
        have ih := gS_to hV (m := k) (f := dl f (ch O f)) (s := s) hf.dl ⟨hs, e⟩ (by omega)
        show O (64 + 4 * ch O f) + gS O (k + 1) (dl f (ch O f)) = O (64 + 4 * s) + (O (64 + 4 * ch O (dl f s)) + gS O k (dl (dl f s) (ch O (dl f s))))
        rw [ih, ch_d hf hs e, dl_c]
        omega
/-- the least that can be lost: the lowest p lie as told, those of f above them in any order -/
noncomputable def lL (O : OF) (l : Int → Int) (p : Nat) (f : Int → Prop) (m : Nat) : Int := @ite Int (∃ x, f x ∧ slat O x) (Classical.propDecidable _) 0 (if (m : Int) ≤ cnt f 16 then gS O m f else gS O (cnt f 16).toNat f + dS O l p (m - (cnt f 16).toNat))
theorem lL_sl {O : OF} {l : Int → Int} {p m : Nat} {f : Int → Prop} (h : ∃ x, f x ∧ slat O x) : lL O l p f m = 0 := if_pos h
theorem lL_ns {O : OF} {l : Int → Int} {p m : Nat} {f : Int → Prop} (h : ¬ ∃ x, f x ∧ slat O x) : lL O l p f m = if (m : Int) ≤ cnt f 16 then gS O m f else gS O (cnt f 16).toNat f + dS O l p (m - (cnt f 16).toNat) := if_neg h
theorem lL_c {O : OF} {l l2 : Int → Int} {p m : Nat} {f : Int → Prop} (h : agr p l l2) : lL O l p f m = lL O l2 p f m := by
  unfold lL
  rw [dS_c h]
theorem lL_r {O : OF} {l : Int → Int} {p m : Nat} {f : Int → Prop} (hV : Val O) (hf : sbs O f) (hl : ∀ k : Int, 0 ≤ k → k < p → 0 ≤ l k ∧ l k < O 1) : 0 ≤ lL O l p f m ∧ lL O l p f m ≤ 99 * m := by
  by_cases q : ∃ x, f x ∧ slat O x
  · rw [lL_sl q]; omega
  · rw [lL_ns q]
    have hn := cnt_nn (f := f) (n := 16)
    by_cases e : (m : Int) ≤ cnt f 16
    · rw [if_pos e]
      exact gS_r hV hf e
    · rw [if_neg e]
      have a := gS_r hV (m := (cnt f 16).toNat) hf (by omega)
      have b := dS_r hV (f := l) (p := p) (m := m - (cnt f 16).toNat) hl
      omega
theorem lL_eq {O : OF} {l : Int → Int} {p m : Nat} {f : Int → Prop} (hV : Val O) (hf : sbs O f) (hs : f (l p)) (q : ¬ ∃ x, f x ∧ slat O x) (e : cnt f 16 ≤ m) : lL O l (p + 1) (dl f (l p)) m = lL O l p f m := by
  have hn := cnt_dl hV hf hs
  have hp := cnt_p hV hf hs
  have q2 : ¬ ∃ x, dl f (l p) x ∧ slat O x := fun ⟨x, a, b⟩ => q ⟨x, a.1, b⟩
  have h5 : ¬ O (63 + 4 * l p) = 5 := fun z => q ⟨_, hs, z⟩
  obtain ⟨N, hN⟩ : ∃ N : Nat, cnt f 16 = N + 1 := ⟨(cnt f 16 - 1).toNat, by omega⟩
  have ht := gS_to hV (m := N) hf hs (by omega)
  rw [lL_ns q2, lL_ns q, if_neg (by omega), hn, show (cnt f 16 - 1).toNat = N by omega]
  obtain ⟨k, hk⟩ : ∃ k : Nat, m - N = k + 1 := ⟨m - N - 1, by omega⟩
  rw [hk, show dS O l (p + 1) (k + 1) = O (64 + 4 * l p) + dS O l p k from if_neg h5]
  by_cases z : (m : Int) ≤ cnt f 16
  · rw [if_pos z, show m = N + 1 by omega, ht, show k = 0 by omega, dS_0]
    omega
  · rw [if_neg z, show (cnt f 16).toNat = N + 1 by omega, ht, show m - (N + 1) = k by omega]
    omega
theorem lL_up {O : OF} {l : Int → Int} {p m : Nat} {f : Int → Prop} (hV : Val O) (hf : sbs O f) (hs : f (l p)) (hl : ∀ k : Int, 0 ≤ k → k < (p : Int) + 1 → 0 ≤ l k ∧ l k < O 1) : lL O l p f m ≤ lL O l (p + 1) (dl f (l p)) m := by
  by_cases q : ∃ x, f x ∧ slat O x
  · rw [lL_sl q]
    exact (lL_r hV hf.dl (fun k a b => hl k a (by omega))).1
  · by_cases e : cnt f 16 ≤ m
    · rw [lL_eq hV hf hs q e]
      exact Int.le_refl _
    · have hn := cnt_dl hV hf hs
      have q2 : ¬ ∃ x, dl f (l p) x ∧ slat O x := fun ⟨x, a, b⟩ => q ⟨x, a.1, b⟩
      rw [lL_ns q2, lL_ns q, if_pos (by omega), if_pos (by omega)]
      exact gS_ge hV hf hs (by omega)
theorem lL_ex {O : OF} {l : Int → Int} {p m : Nat} {f : Int → Prop} (hV : Val O) (hf : sbs O f) (h : 0 < cnt f 16) : ∃ s, f s ∧ ∀ l2, agr p l2 l → l2 p = s → lL O l2 (p + 1) (dl f s) m = lL O l p f m := by
  obtain ⟨y, _, _, hy⟩ := cnt_ex (f := f) (n := 16) h
  by_cases q : ∃ x, f x ∧ slat O x
  · obtain ⟨x, hx, hxs⟩ := q
    have hn := cnt_dl hV hf hx
    by_cases e : cnt f 16 = 1
    · refine ⟨x, hx, fun l2 a b => ?_⟩
      have q2 : ¬ ∃ y, dl f x y ∧ slat O y := fun ⟨y, a, b⟩ => by have := cnt_p hV hf.dl a; omega
      rw [lL_sl ⟨x, hx, hxs⟩, lL_ns q2, hn, show (cnt f 16 - 1).toNat = 0 by omega]
      by_cases z : m = 0
      · rw [if_pos (by omega), z]; rfl
      · rw [if_neg (by omega)]
        obtain ⟨k, rfl⟩ : ∃ k, m = k + 1 := ⟨m - 1, by omega⟩
        show 0 + dS O l2 (p + 1) (k + 1) = 0
        rw [show dS O l2 (p + 1) (k + 1) = 0 from if_pos (by rw [b]; exact hxs)]
        rfl
    · obtain ⟨s, _, _, h1⟩ := cnt_ex (f := dl f x) (n := 16) (by omega)
      refine ⟨s, h1.1, fun l2 a b => ?_⟩
      rw [lL_sl ⟨x, hx, hxs⟩, lL_sl ⟨x, ⟨hx, fun z => h1.2 z.symm⟩, hxs⟩]
  · by_cases e : cnt f 16 ≤ m
    · refine ⟨y, hy, fun l2 a b => ?_⟩
      subst b
      rw [lL_eq hV hf hy q e]
      exact lL_c a
    · obtain ⟨s, h1, h2⟩ := gS_ex hV (m := m) hf (by omega)
      refine ⟨s, h1, fun l2 a b => ?_⟩
      have hn := cnt_dl hV hf h1
      have q2 : ¬ ∃ x, dl f s x ∧ slat O x := fun ⟨x, a, b⟩ => q ⟨x, a.1, b⟩
      rw [lL_ns q2, lL_ns q, if_pos (by omega), if_pos (by omega)]
      exact h2
theorem lL_0 {O : OF} {l : Int → Int} {p m : Nat} {f : Int → Prop} (h : ∀ x, ¬ f x) : lL O l p f m = dS O l p m := by
  have q : ¬ ∃ x, f x ∧ slat O x := fun ⟨x, a, _⟩ => h x a
  have c : cnt f 16 = 0 := by
    have := cnt_nn (f := f) (n := 16)
    apply Classical.byContradiction
    intro z
    obtain ⟨p, _, _, a⟩ := cnt_ex (f := f) (n := 16) (by omega)
    exact h p a
  rw [lL_ns q, c]
  by_cases z : m = 0
  · rw [if_pos (by omega), z, dS_0]; rfl
  · rw [if_neg (by omega)]
    show 0 + dS O l p m = _
    omega
/-- what of S is not among the lowest p of B -/
def rst (S : Int → Prop) (B : Int → Int) (p : Int) : Int → Prop := fun x => S x ∧ ∀ k : Int, 0 ≤ k → k < p → ¬ x = B k
theorem rst_0 {S : Int → Prop} {B : Int → Int} : rst S B 0 = S := by
  funext x
  exact propext ⟨fun q => q.1, fun q => ⟨q, fun k a b => by omega⟩⟩
theorem rst_s {S : Int → Prop} {B : Int → Int} {p : Int} (h : 0 ≤ p) : rst S B (p + 1) = dl (rst S B p) (B p) := by
  funext x
  refine propext ⟨fun q => ⟨⟨q.1, fun k a b => q.2 k a (by omega)⟩, q.2 p h (by omega)⟩, fun q => ⟨q.1.1, fun k a b => ?_⟩⟩
  by_cases e : k = p
  · rw [e]; exact q.2
  · exact q.1.2 k a (by omega)
theorem rst_c {S : Int → Prop} {A B : Int → Int} {p : Int} (h : agr p A B) : rst S A p = rst S B p := by
  funext x
  exact propext ⟨fun q => ⟨q.1, fun k a b => by rw [← h k a b]; exact q.2 k a b⟩, fun q => ⟨q.1, fun k a b => by rw [h k a b]; exact q.2 k a b⟩⟩
theorem lL_ch {O : OF} {S : Int → Prop} {B : Int → Int} {h : Nat} {m : Nat} (hV : Val O) (hf : sbs O S) (hB : arr S h B) : ∀ j : Nat, j ≤ h → lL O B (h - j) (rst S B ((h - j : Nat) : Int)) m ≤ dS O B h m
  | 0, _ => by
    rw [Nat.sub_zero, lL_0]
    · exact Int.le_refl _
    · intro x q
      obtain ⟨k, a, b, c⟩ := hB.2.2 x q.1
      exact q.2 k a b c.symm
  | j + 1, hj => by
    have ih := lL_ch hV hf hB (m := m) j (by omega)
    obtain ⟨p, hp⟩ : ∃ p : Nat, h - (j + 1) = p := ⟨_, rfl⟩
    rw [show h - j = p + 1 by omega] at ih
    rw [hp]
    have e : ((p + 1 : Nat) : Int) = (p : Int) + 1 := by omega
    rw [e, rst_s (by omega)] at ih
    have hs : rst S B p (B p) := ⟨hB.1 p (by omega) (by omega), fun k a b z => by
      have := hB.2.1 p k (by omega) (by omega) a (by omega) z
      omega⟩
    have := lL_up (l := B) (p := p) (m := m) hV (f := rst S B p) (fun x q => hf x q.1) hs (fun k a b => hf _ (hB.1 k a (by omega)))
    omega
theorem lL_chp {O : OF} {S : Int → Prop} {B : Int → Int} {h p : Int} {m : Nat} (hV : Val O) (hf : sbs O S) (h0 : 0 ≤ h) (hB : arr S h B) (p0 : 0 ≤ p) (p1 : p ≤ h) : lL O B p.toNat (rst S B p) m ≤ dS O B h.toNat m := by
  have := lL_ch (h := h.toNat) (m := m) hV hf (by rw [Int.toNat_of_nonneg h0]; exact hB) (h.toNat - p.toNat) (by omega)
  rw [show h.toNat - (h.toNat - p.toNat) = p.toNat by omega, Int.toNat_of_nonneg p0] at this
  exact this
/-- how many lie on a desk -/
theorem cnt_add {f : Int → Prop} {p : Int} (h0 : 0 ≤ p) (h1 : p < 16) (hf : ¬ f p) : cnt (fun x => f x ∨ x = p) 16 = cnt f 16 + 1 := by
  have := cnt_del (f := fun x => f x ∨ x = p) h0 (Or.inr rfl) (n := 16) (by omega)
  have e : cnt (fun x => (f x ∨ x = p) ∧ ¬ x = p) 16 = cnt f 16 := cnt_congr fun x _ _ => ⟨fun q => q.1.resolve_right q.2, fun q => ⟨Or.inl q, fun z => hf (z ▸ q)⟩⟩
  omega
theorem cnt_on {O : OF} {d : Int} (hV : Val O) (h0 : 0 ≤ d) (h1 : d < O 0) : ∀ n : Nat, (n : Int) ≤ O (23 + 10 * d) → cnt (onN O d n) 16 = n
  | 0, _ => by
    rw [cnt_congr (f := onN O d ((0 : Nat) : Int)) (g := fun _ => False) (fun p _ _ => ⟨fun q => onN_0 q, fun q => q.elim⟩)]
    have : ∀ n : Nat, cnt (fun _ => False) n = 0 := fun n => by
      induction n with
      | zero => rfl
      | succ n ih => show cnt _ n + bI False = 0; rw [ih, bI_f id]; rfl
    exact this 16
  | n + 1, h => by
    have v := hV.a
    have ih := cnt_on hV h0 h1 n (by omega)
    have k := hV.k (k := n) h0 h1 (by omega) (by omega)
    have e : cnt (onN O d ((n + 1 : Nat) : Int)) 16 = cnt (fun x => onN O d n x ∨ x = O (24 + 10 * d + n)) 16 := cnt_congr fun x _ _ => by
      rw [show ((n + 1 : Nat) : Int) = (n : Int) + 1 by omega]
      exact (onN_s (by omega)).symm
    rw [e, cnt_add k.1 (by omega), ih]
    · omega
    · rintro ⟨j, a, b, c⟩
      have := (hV.u h0 h1 a (by omega) h0 h1 (by omega) (by omega) c).2
      omega
theorem cnt_onD {O : OF} {d : Int} (hV : Val O) (h0 : 0 ≤ d) (h1 : d < O 0) : cnt (onD O d) 16 = O (23 + 10 * d) := by
  have vd := hV.d h0 h1
  have := cnt_on hV h0 h1 (O (23 + 10 * d)).toNat (by omega)
  rw [Int.toNat_of_nonneg (by omega)] at this
  exact this
theorem sbs_on {O : OF} {d : Int} (hV : Val O) (h0 : 0 ≤ d) (h1 : d < O 0) : sbs O (onD O d) := by
  rintro x ⟨k, a, b, rfl⟩
  exact hV.k h0 h1 a b
def rch (O : OF) (d n : Int) : Int := max 0 (min n (O (23 + 10 * d) - O (16 + 2 * d)))
abbrev dSb (O : OF) (d n : Int) (b : Int → Int) : Int := dS O b (O (23 + 10 * d)).toNat (rch O d n).toNat
def isB (O : OF) (d n : Int) (b : Int → Int) : Prop := arr (onD O d) (O (23 + 10 * d)) b ∧ (∀ B, arr (onD O d) (O (23 + 10 * d)) B → dSb O d n b ≤ dSb O d n B) ∧ (∀ B, arr (onD O d) (O (23 + 10 * d)) B → dSb O d n B = dSb O d n b → lle (O (23 + 10 * d)) b B)
theorem isB_u {O : OF} {d n : Int} {b c : Int → Int} (hb : isB O d n b) (hc : isB O d n c) : dSb O d n b = dSb O d n c ∧ agr (O (23 + 10 * d)) b c := by
  have e : dSb O d n b = dSb O d n c := by
    have := hb.2.1 c hc.1
    have := hc.2.1 b hb.1
    omega
  exact ⟨e, (hb.2.2 c hc.1 e.symm).as (hc.2.2 b hb.1 e)⟩
noncomputable def zOr (O : OF) (d n k : Int) : Int := @dite Int (∃ b, isB O d n b) (Classical.propDecidable _) (fun h => if k < 0 then dSb O d n (Classical.choose h) else Classical.choose h k) (fun _ => 0)
theorem zOr_e {O : OF} {d n k : Int} {b : Int → Int} (h : isB O d n b) : zOr O d n k = if k < 0 then dSb O d n (Classical.choose (⟨b, h⟩ : ∃ b, isB O d n b)) else Classical.choose (⟨b, h⟩ : ∃ b, isB O d n b) k := by
  unfold zOr
  rw [dif_pos ⟨b, h⟩]
theorem zOr_a {O : OF} {d n k : Int} {b : Int → Int} (h : isB O d n b) (hk : k < 0) : zOr O d n k = dSb O d n b := by
  rw [zOr_e h, if_pos hk]
  exact (isB_u (Classical.choose_spec (⟨b, h⟩ : ∃ b, isB O d n b)) h).1
theorem zOr_b {O : OF} {d n k : Int} {b : Int → Int} (h : isB O d n b) (hk : 0 ≤ k) (h2 : k < O (23 + 10 * d)) : zOr O d n k = b k := by
  rw [zOr_e h, if_neg (by omega)]
  exact (isB_u (Classical.choose_spec (⟨b, h⟩ : ∃ b, isB O d n b)) h).2 k hk h2
noncomputable def zOrd (O : OF) (d n k : Int) : Int := if 0 ≤ d ∧ d < O 0 ∧ 0 ≤ n ∧ n ≤ 9 ∧ -1 ≤ k then (if 7 < O (23 + 10 * d) ∨ O (23 + 10 * d) ≤ k then -1000000 else zOr O d n k) else -1000001
