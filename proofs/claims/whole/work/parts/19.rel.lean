/-! ===== what the class's cells (I) and the reference's (S) have in common ===== -/
abbrev wasO (S : HD) (j : Int) : OF := fun k => S 36 (127 * j + k)
abbrev imgO (S : HD) (j : Int) : OF := fun k => S 43 (127 * j + k)
def slotO (I : HD) (j : Int) : Nat := 4 + ((I 21 1 + j) % 24).toNat
def RA (S I : HD) : Prop := Val (S 34) ∧ RepC (S 34) I 0 ∧ S 30 7 = bI (0 < S 34 0)
def RB (S I : HD) : Prop := 0 ≤ I 21 1 ∧ I 21 1 < 24 ∧ I 21 2 = S 30 9 ∧ 0 ≤ S 30 9 ∧ S 30 9 ≤ 24 ∧ ∀ j, 0 ≤ j → j < S 30 9 → Val (wasO S j) ∧ 0 < wasO S j 0 ∧ RepC (wasO S j) I (slotO I j)
def RD (S I : HD) : Prop := ∀ j, 0 ≤ j → j < 2 → S 42 j = bI (0 < I (oH (2 + j.toNat)) 8) ∧ rg (I (oH (2 + j.toNat)) 8) ∧ (0 < I (oH (2 + j.toNat)) 8 → Val (imgO S j) ∧ RepC (imgO S j) I (2 + j.toNat))
def RE (S I : HD) : Prop := ∀ r, 0 ≤ r → r < 8 → I (rH r.toNat) 1 = S 31 r ∧ -1 ≤ S 31 r ∧ S 31 r ≤ 2 ∧ rg (I (rH r.toNat) 2) ∧ (0 ≤ S 31 r → I (rH r.toNat) 2 = S 32 r ∧ 0 ≤ S 32 r ∧ S 32 r ≤ 40 ∧ ∀ k, 0 ≤ k → k < S 32 r → I (iH r.toNat) k = S 33 (40 * r + k) ∧ rg (S 33 (40 * r + k)))
def RF (S I : HD) : Prop := I 19 1 = S 30 11 ∧ 0 ≤ S 30 11 ∧ S 30 11 ≤ 500 ∧ ∀ k, 0 ≤ k → k < S 30 11 → 0 ≤ S 37 k ∧ S 37 k < 256 ∧ I 20 k = if S 37 k < 128 then S 37 k else S 37 k - 256
def RG (S I : HD) : Prop := I 0 8 = S 30 12 ∧ rg (S 30 12) ∧ I 0 9 = S 30 1 ∧ rg (S 30 1)
def RH (S I : HD) : Prop := I 28 1 = S 30 27 ∧ 0 ≤ S 30 27 ∧ S 30 27 ≤ 16 ∧ ∀ k, 0 ≤ k → k < S 30 27 → I 29 k = S 44 k
def RN (S : HD) : Prop := (0 < S 30 9 ∨ S 42 0 = 1 ∨ S 42 1 = 1) → 0 < S 34 0
def RC (S I : HD) : Prop := RA S I ∧ RB S I ∧ RD S I ∧ RE S I ∧ RF S I ∧ RG S I ∧ RH S I ∧ RN S
theorem RA.cg {S I S2 I2 : HD} (h : RA S I) (h1 : S2 34 = S 34) (h2 : S2 30 7 = S 30 7) (h3 : ∀ a, 45 ≤ a → a < 54 → I2 a = I a) : RA S2 I2 := by
  unfold RA
  rw [h1, h2]
  exact ⟨h.1, h.2.1.fr (fun a x y => h3 a x (by have : oH 0 = 45 := rfl; omega)), h.2.2⟩
theorem RB.cg {S I S2 I2 : HD} (h : RB S I) (h1 : S2 36 = S 36) (h2 : S2 30 9 = S 30 9) (h4 : I2 21 = I 21) (h3 : ∀ a, 81 ≤ a → a < 297 → I2 a = I a) : RB S2 I2 := by
  have e : ∀ j, slotO I2 j = slotO I j := fun j => by unfold slotO; rw [h4]
  have e2 : ∀ j, wasO S2 j = wasO S j := fun j => by unfold wasO; rw [h1]
  unfold RB
  rw [h4, h2]
  refine ⟨h.1, h.2.1, h.2.2.1, h.2.2.2.1, h.2.2.2.2.1, fun j a b => ?_⟩
  obtain ⟨x, y, z⟩ := h.2.2.2.2.2 j a b
  rw [e, e2]
  refine ⟨x, y, z.fr (fun c p q => h3 c ?_ ?_)⟩
  · unfold slotO at p; have : oH (4 + ((I 21 1 + j) % 24).toNat) = 45 + 9 * (4 + ((I 21 1 + j) % 24).toNat) := rfl; omega
  · unfold slotO at q; have : oH (4 + ((I 21 1 + j) % 24).toNat) = 45 + 9 * (4 + ((I 21 1 + j) % 24).toNat) := rfl; omega
theorem RD.cg {S I S2 I2 : HD} (h : RD S I) (h1 : S2 42 = S 42) (h2 : S2 43 = S 43) (h3 : ∀ a, 63 ≤ a → a < 81 → I2 a = I a) : RD S2 I2 := by
  intro j a b
  obtain ⟨x, w, y⟩ := h j a b
  have e : oH (2 + j.toNat) = 45 + 9 * (2 + j.toNat) := rfl
  have e2 : imgO S2 j = imgO S j := by unfold imgO; rw [h2]
  rw [h1, h3 _ (by omega) (by omega), e2]
  refine ⟨x, w, fun z => ⟨(y z).1, (y z).2.fr (fun c p q => h3 c (by omega) (by omega))⟩⟩
theorem RE.cg {S I S2 I2 : HD} (h : RE S I) (h1 : S2 31 = S 31) (h2 : S2 32 = S 32) (h4 : S2 33 = S 33) (h3 : ∀ a, 2 ≤ a → a < 18 → I2 a = I a) : RE S2 I2 := by
  intro r a b
  have e1 : rH r.toNat = 2 + r.toNat := rfl
  have e2 : iH r.toNat = 10 + r.toNat := rfl
  rw [h1, h2, h4, h3 _ (by omega) (by omega), h3 (iH r.toNat) (by omega) (by omega)]
  exact h r a b
theorem RF.cg {S I S2 I2 : HD} (h : RF S I) (h1 : S2 37 = S 37) (h2 : S2 30 11 = S 30 11) (h3 : I2 19 = I 19) (h4 : I2 20 = I 20) : RF S2 I2 := by
  unfold RF
  rw [h1, h2, h3, h4]
  exact h
theorem RG.cg {S I S2 I2 : HD} (h : RG S I) (h1 : S2 30 12 = S 30 12) (h2 : S2 30 1 = S 30 1) (h3 : I2 0 = I 0) : RG S2 I2 := by
  unfold RG
  rw [h1, h2, h3]
  exact h
theorem RH.cg {S I S2 I2 : HD} (h : RH S I) (h1 : S2 44 = S 44) (h2 : S2 30 27 = S 30 27) (h3 : I2 28 = I 28) (h4 : I2 29 = I 29) : RH S2 I2 := by
  unfold RH
  rw [h1, h2, h3, h4]
  exact h
/-- rows that do not matter may change -/
theorem RC.cg {S I S2 I2 : HD} (h : RC S I) (hS : ∀ a, 31 ≤ a → a < 45 → a ≠ 35 → a ≠ 38 → a ≠ 39 → a ≠ 40 → a ≠ 41 → S2 a = S a) (h30 : ∀ j, (j = 1 ∨ j = 7 ∨ j = 9 ∨ j = 11 ∨ j = 12 ∨ j = 27) → S2 30 j = S 30 j) (hI : ∀ a, (a < 18 ∨ (19 ≤ a ∧ a < 22) ∨ (28 ≤ a ∧ a < 30) ∨ (45 ≤ a ∧ a < 54) ∨ (63 ≤ a ∧ a < 297)) → I2 a = I a) : RC S2 I2 := by
  obtain ⟨a, b, c, d, e, f, g, n⟩ := h
  exact ⟨a.cg (hS 34 (by omega) (by omega) (by omega) (by omega) (by omega) (by omega) (by omega)) (h30 7 (by omega)) (fun x p q => hI x (by omega)),
    b.cg (hS 36 (by omega) (by omega) (by omega) (by omega) (by omega) (by omega) (by omega)) (h30 9 (by omega)) (hI 21 (by omega)) (fun x p q => hI x (by omega)),
    c.cg (hS 42 (by omega) (by omega) (by omega) (by omega) (by omega) (by omega) (by omega)) (hS 43 (by omega) (by omega) (by omega) (by omega) (by omega) (by omega) (by omega)) (fun x p q => hI x (by omega)),
    d.cg (hS 31 (by omega) (by omega) (by omega) (by omega) (by omega) (by omega) (by omega)) (hS 32 (by omega) (by omega) (by omega) (by omega) (by omega) (by omega) (by omega)) (hS 33 (by omega) (by omega) (by omega) (by omega) (by omega) (by omega) (by omega)) (fun x p q => hI x (by omega)),
    e.cg (hS 37 (by omega) (by omega) (by omega) (by omega) (by omega) (by omega) (by omega)) (h30 11 (by omega)) (hI 19 (by omega)) (hI 20 (by omega)),
    f.cg (h30 12 (by omega)) (h30 1 (by omega)) (hI 0 (by omega)),
    g.cg (hS 44 (by omega) (by omega) (by omega) (by omega) (by omega) (by omega) (by omega)) (h30 27 (by omega)) (hI 28 (by omega)) (hI 29 (by omega)),
    by unfold RN; rw [h30 9 (by omega), hS 34 (by omega) (by omega) (by omega) (by omega) (by omega) (by omega) (by omega), hS 42 (by omega) (by omega) (by omega) (by omega) (by omega) (by omega) (by omega)]; exact n⟩
/-- one call of both: the same answer, and what they have in common stays -/
def Pair (X : XC) (mx mm : MR) (av : List Value) : Prop := ∀ I : HD, RC I I → ∃ (z : Int) (D D2 : Nat), D < 40 ∧ D2 < 40 ∧ Cl X D mx (rv X 0 :: av) I (fun r J => r = some (iv z) ∧ Cl X D2 mm (rv X 30 :: av) J (fun r2 J2 => r2 = some (iv z) ∧ RC J2 J2))
/-- the reference's call marks it in a field that nobody reads -/
theorem RC.thr {S I : HD} (h : RC S I) {z : Int} : RC (up S 30 0 z) I := h.cg (fun a x y _ _ _ _ _ => up_row (by omega)) (fun j q => up_i (by omega)) (fun _ _ => rfl)
theorem RC.thr2 {I : HD} (h : RC I I) {z : Int} : RC (up I 30 0 z) (up I 30 0 z) := h.cg (fun a x y _ _ _ _ _ => up_row (by omega)) (fun j q => up_i (by omega)) (fun a q => up_row (by omega))
/-- a reading call of both -/
theorem Pair.rd {X : XC} {mx mm : MR} {av : List Value} {D D2 : Nat} (hD : D < 40) (hD2 : D2 < 40) (h : ∀ I : HD, RC I I → ∃ z : Int, Cl X D mx (rv X 0 :: av) I (Ki z I) ∧ Cl X D2 mm (rv X 30 :: av) I (Ki z (up I 30 0 0))) : Pair X mx mm av := by
  intro I hI
  obtain ⟨z, h1, h2⟩ := h I hI
  refine ⟨z, D, D2, hD, hD2, h1.mono ?_⟩
  rintro r J ⟨rfl, rfl⟩
  refine ⟨rfl, h2.mono ?_⟩
  rintro r J ⟨rfl, rfl⟩
  exact ⟨rfl, hI.thr2⟩
