/-! ===== 93: the data of the beginning ===== -/
def I0 : HD := fun h k => if 2 ≤ h ∧ h < 10 ∧ k = 1 then -1 else if h = 24 ∧ k = 2 then 1 else if h = 31 then (if 0 ≤ k ∧ k < 8 then -1 else 0) else 0
theorem I0_z {h : Nat} (h1 : ¬ (2 ≤ h ∧ h < 10)) (h2 : h ≠ 24) (h3 : h ≠ 31) : I0 h = fun _ => 0 := by
  funext k
  unfold I0
  rw [if_neg (fun q => h1 ⟨q.1, q.2.1⟩), if_neg (fun q => h2 q.1), if_neg h3]
theorem Val0 : Val (fun _ => 0) := by
  unfold Val
  refine ⟨?_, ?_, ?_, ?_, ?_, ?_⟩ <;> intros <;> dsimp only at * <;> omega
theorem bset0 : ∀ n, bset (fun p => p < (0 : Int) ∧ (0 : Int) = 1) n = 0 := by
  intro n
  induction n with
  | zero => rfl
  | succ n ih => simp [bset] at ih ⊢; exact ih
theorem RC0 : RC I0 I0 := by
  have z34 : I0 34 = fun _ => 0 := I0_z (by omega) (by omega) (by omega)
  have z : ∀ h, 45 ≤ h → I0 h = fun _ => 0 := fun h q => I0_z (by omega) (by omega) (by omega)
  have z30 : I0 30 = fun _ => 0 := I0_z (by omega) (by omega) (by omega)
  have z42 : I0 42 = fun _ => 0 := I0_z (by omega) (by omega) (by omega)
  have z21 : I0 21 = fun _ => 0 := I0_z (by omega) (by omega) (by omega)
  have z19 : I0 19 = fun _ => 0 := I0_z (by omega) (by omega) (by omega)
  have z0 : I0 0 = fun _ => 0 := I0_z (by omega) (by omega) (by omega)
  have z28 : I0 28 = fun _ => 0 := I0_z (by omega) (by omega) (by omega)
  have hf : ¬ ((0 : Int) < 0) := by omega
  refine ⟨⟨?_, ?_, ?_⟩, ⟨?_, ?_, ?_, ?_, ?_, ?_⟩, ?_, ?_, ⟨?_, ?_, ?_, ?_⟩, ⟨?_, ?_, ?_, ?_⟩, ⟨?_, ?_, ?_, ?_⟩, ?_⟩
  · rw [z34]; exact Val0
  · rw [z34]
    unfold RepC
    have e : oH 0 = 45 := rfl
    refine ⟨?_, ?_, ?_, ?_, ?_, ?_⟩
    · rw [z _ (by rw [e]; omega)]; exact ⟨rfl, rfl, rfl⟩
    · intro q _ _; rw [z _ (by rw [e]; omega)]
    · intro d h1 h2; (try dsimp only at *); omega
    · intro d k h1 h2; (try dsimp only at *); omega
    · intro d h1 h2; (try dsimp only at *); omega
    · rw [z _ (by rw [e]; omega)]
      rw [bset0]; rfl
  · rw [z30, z34, bI_f hf]
  · rw [z21]; (try dsimp only at *); omega
  · rw [z21]; (try dsimp only at *); omega
  · rw [z21, z30]
  · rw [z30]; (try dsimp only at *); omega
  · rw [z30]; (try dsimp only at *); omega
  · rw [z30]; intro j h1 h2; (try dsimp only at *); omega
  · intro j h1 h2
    have e : oH (2 + j.toNat) = 45 + 9 * (2 + j.toNat) := rfl
    rw [z42, z _ (by omega), bI_f hf]
    exact ⟨rfl, rg_0, fun q => absurd q hf⟩
  · intro r h1 h2
    have e : rH r.toNat = 2 + r.toNat := rfl
    have e1 : I0 (rH r.toNat) 1 = -1 := by unfold I0; rw [if_pos (by omega)]
    have e2 : I0 (rH r.toNat) 2 = 0 := by unfold I0; rw [if_neg (by omega), if_neg (by omega), if_neg (by omega)]
    have e3 : I0 31 r = -1 := by unfold I0; rw [if_neg (by omega), if_neg (by omega), if_pos rfl, if_pos (by omega)]
    rw [e1, e2, e3]
    exact ⟨rfl, by omega, by omega, rg_0, fun q => by omega⟩
  · rw [z19, z30]
  · rw [z30]; (try dsimp only at *); omega
  · rw [z30]; (try dsimp only at *); omega
  · rw [z30]; intro k h1 h2; (try dsimp only at *); omega
  · rw [z0, z30]
  · rw [z30]; exact rg_0
  · rw [z0, z30]
  · rw [z30]; exact rg_0
  · rw [z28, z30]
  · rw [z30]; (try dsimp only at *); omega
  · rw [z30]; (try dsimp only at *); omega
  · rw [z30]; intro k h1 h2; (try dsimp only at *); omega
  · rw [RN, z30, z42, z34]; intro q; (try dsimp only at *); omega
/-- the cells from a to b as they begin -/
def fl (X : XC) (F : FE) (a b : Nat) : FE := fun h => if a ≤ h ∧ h < b then cell X I0 h else F h
theorem fl_i {X : XC} {F : FE} {a b h : Nat} (q : a ≤ h ∧ h < b) : fl X F a b h = cell X I0 h := if_pos q
theorem fl_o {X : XC} {F : FE} {a b h : Nat} (q : ¬ (a ≤ h ∧ h < b)) : fl X F a b h = F h := if_neg q
theorem pos_o0 : ∀ w, w < 28 → ∀ j, j < 9 → pos (45 + 9 * w + j) = pos (45 + 9 * w) + j := by decide +kernel
theorem pos_o {w j : Nat} (hw : w < 28) (hj : j < 9) : pos (oH w + j) = pos (oH w) + j := pos_o0 w hw j hj
