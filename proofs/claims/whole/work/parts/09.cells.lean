/-! ===== the cells of the offices and of the rows ===== -/
abbrev oH (o : Nat) : Nat := 45 + 9 * o
abbrev rH (i : Nat) : Nat := 2 + i
abbrev iH (i : Nat) : Nat := 10 + i
theorem oH_lt {o : Nat} (h : o < 28) : oH o < NN := by show 45 + 9 * o < 297; omega
theorem rH_lt {i : Nat} (h : i < 8) : rH i < NN := by show 2 + i < 297; omega
theorem iH_lt {i : Nat} (h : i < 8) : iH i < NN := by show 10 + i < 297; omega
theorem oH_lt1 {o : Nat} (h : o < 28) : oH o + 1 < NN := by show 45 + 9 * o + 1 < 297; omega
theorem oH_lt2 {o : Nat} (h : o < 28) : oH o + 2 < NN := by show 45 + 9 * o + 2 < 297; omega
theorem oH_lt3 {o : Nat} (h : o < 28) : oH o + 3 < NN := by show 45 + 9 * o + 3 < 297; omega
theorem oH_lt4 {o : Nat} (h : o < 28) : oH o + 4 < NN := by show 45 + 9 * o + 4 < 297; omega
theorem oH_lt5 {o : Nat} (h : o < 28) : oH o + 5 < NN := by show 45 + 9 * o + 5 < 297; omega
theorem oH_lt6 {o : Nat} (h : o < 28) : oH o + 6 < NN := by show 45 + 9 * o + 6 < 297; omega
theorem oH_lt7 {o : Nat} (h : o < 28) : oH o + 7 < NN := by show 45 + 9 * o + 7 < 297; omega
theorem oH_lt8 {o : Nat} (h : o < 28) : oH o + 8 < NN := by show 45 + 9 * o + 8 < 297; omega
theorem cellO {X : XC} {I : HD} {o : Nat} (ho : o < 28) : cell X I (oH o) = .inr (3, [rv X (oH o + 1), rv X (oH o + 2), rv X (oH o + 3), rv X (oH o + 4), rv X (oH o + 5), rv X (oH o + 6), rv X (oH o + 7), rv X (oH o + 8), iv (I (oH o) 8), iv (I (oH o) 9), iv (I (oH o) 10), iv (I (oH o) 11)]) := by
  unfold cell
  rw [if_neg (by show ¬ 45 + 9 * o < 2; omega), if_neg (by show ¬ 45 + 9 * o < 10; omega), if_neg (by show ¬ 45 + 9 * o < 18; omega), if_neg (by show ¬ 45 + 9 * o < 45; omega)]
  rw [show (oH o - 45) % 9 = 0 by show (45 + 9 * o - 45) % 9 = 0; omega]
  rfl
theorem cellOp8 {X : XC} {I : HD} {o : Nat} {z : Int} (ho : o < 28) : cell X (up I (oH o) 8 z) (oH o) = .inr (3, [rv X (oH o + 1), rv X (oH o + 2), rv X (oH o + 3), rv X (oH o + 4), rv X (oH o + 5), rv X (oH o + 6), rv X (oH o + 7), rv X (oH o + 8), iv (I (oH o) 8), iv (I (oH o) 9), iv (I (oH o) 10), iv (I (oH o) 11)].set 8 (iv z)) := by
  rw [cellO ho]
  simp [up]
theorem cellOp9 {X : XC} {I : HD} {o : Nat} {z : Int} (ho : o < 28) : cell X (up I (oH o) 9 z) (oH o) = .inr (3, [rv X (oH o + 1), rv X (oH o + 2), rv X (oH o + 3), rv X (oH o + 4), rv X (oH o + 5), rv X (oH o + 6), rv X (oH o + 7), rv X (oH o + 8), iv (I (oH o) 8), iv (I (oH o) 9), iv (I (oH o) 10), iv (I (oH o) 11)].set 9 (iv z)) := by
  rw [cellO ho]
  simp [up]
theorem cellOp10 {X : XC} {I : HD} {o : Nat} {z : Int} (ho : o < 28) : cell X (up I (oH o) 10 z) (oH o) = .inr (3, [rv X (oH o + 1), rv X (oH o + 2), rv X (oH o + 3), rv X (oH o + 4), rv X (oH o + 5), rv X (oH o + 6), rv X (oH o + 7), rv X (oH o + 8), iv (I (oH o) 8), iv (I (oH o) 9), iv (I (oH o) 10), iv (I (oH o) 11)].set 10 (iv z)) := by
  rw [cellO ho]
  simp [up]
theorem cellOp11 {X : XC} {I : HD} {o : Nat} {z : Int} (ho : o < 28) : cell X (up I (oH o) 11 z) (oH o) = .inr (3, [rv X (oH o + 1), rv X (oH o + 2), rv X (oH o + 3), rv X (oH o + 4), rv X (oH o + 5), rv X (oH o + 6), rv X (oH o + 7), rv X (oH o + 8), iv (I (oH o) 8), iv (I (oH o) 9), iv (I (oH o) 10), iv (I (oH o) 11)].set 11 (iv z)) := by
  rw [cellO ho]
  simp [up]
theorem cellO1 {X : XC} {o : Nat} (ho : o < 28) (I : HD) : cell X I (oH o + 1) = oiv X I (oH o + 1) 0 12 := by
  unfold cell
  rw [if_neg (by show ¬ 45 + 9 * o + 1 < 2; omega), if_neg (by show ¬ 45 + 9 * o + 1 < 10; omega), if_neg (by show ¬ 45 + 9 * o + 1 < 18; omega), if_neg (by show ¬ 45 + 9 * o + 1 < 45; omega)]
  rw [show (oH o + 1 - 45) % 9 = 1 by show (45 + 9 * o + 1 - 45) % 9 = 1; omega]
  rfl
theorem cellO2 {X : XC} {o : Nat} (ho : o < 28) (I : HD) : cell X I (oH o + 2) = oiv X I (oH o + 2) 0 4 := by
  unfold cell
  rw [if_neg (by show ¬ 45 + 9 * o + 2 < 2; omega), if_neg (by show ¬ 45 + 9 * o + 2 < 10; omega), if_neg (by show ¬ 45 + 9 * o + 2 < 18; omega), if_neg (by show ¬ 45 + 9 * o + 2 < 45; omega)]
  rw [show (oH o + 2 - 45) % 9 = 2 by show (45 + 9 * o + 2 - 45) % 9 = 2; omega]
  rfl
theorem cellO3 {X : XC} {o : Nat} (ho : o < 28) (I : HD) : cell X I (oH o + 3) = oiv X I (oH o + 3) 0 4 := by
  unfold cell
  rw [if_neg (by show ¬ 45 + 9 * o + 3 < 2; omega), if_neg (by show ¬ 45 + 9 * o + 3 < 10; omega), if_neg (by show ¬ 45 + 9 * o + 3 < 18; omega), if_neg (by show ¬ 45 + 9 * o + 3 < 45; omega)]
  rw [show (oH o + 3 - 45) % 9 = 3 by show (45 + 9 * o + 3 - 45) % 9 = 3; omega]
  rfl
theorem cellO4 {X : XC} {o : Nat} (ho : o < 28) (I : HD) : cell X I (oH o + 4) = oiv X I (oH o + 4) 0 4 := by
  unfold cell
  rw [if_neg (by show ¬ 45 + 9 * o + 4 < 2; omega), if_neg (by show ¬ 45 + 9 * o + 4 < 10; omega), if_neg (by show ¬ 45 + 9 * o + 4 < 18; omega), if_neg (by show ¬ 45 + 9 * o + 4 < 45; omega)]
  rw [show (oH o + 4 - 45) % 9 = 4 by show (45 + 9 * o + 4 - 45) % 9 = 4; omega]
  rfl
theorem cellO5 {X : XC} {o : Nat} (ho : o < 28) (I : HD) : cell X I (oH o + 5) = oiv X I (oH o + 5) 0 36 := by
  unfold cell
  rw [if_neg (by show ¬ 45 + 9 * o + 5 < 2; omega), if_neg (by show ¬ 45 + 9 * o + 5 < 10; omega), if_neg (by show ¬ 45 + 9 * o + 5 < 18; omega), if_neg (by show ¬ 45 + 9 * o + 5 < 45; omega)]
  rw [show (oH o + 5 - 45) % 9 = 5 by show (45 + 9 * o + 5 - 45) % 9 = 5; omega]
  rfl
theorem cellO6 {X : XC} {o : Nat} (ho : o < 28) (I : HD) : cell X I (oH o + 6) = oiv X I (oH o + 6) 0 16 := by
  unfold cell
  rw [if_neg (by show ¬ 45 + 9 * o + 6 < 2; omega), if_neg (by show ¬ 45 + 9 * o + 6 < 10; omega), if_neg (by show ¬ 45 + 9 * o + 6 < 18; omega), if_neg (by show ¬ 45 + 9 * o + 6 < 45; omega)]
  rw [show (oH o + 6 - 45) % 9 = 6 by show (45 + 9 * o + 6 - 45) % 9 = 6; omega]
  rfl
theorem cellO7 {X : XC} {o : Nat} (ho : o < 28) (I : HD) : cell X I (oH o + 7) = oiv X I (oH o + 7) 0 16 := by
  unfold cell
  rw [if_neg (by show ¬ 45 + 9 * o + 7 < 2; omega), if_neg (by show ¬ 45 + 9 * o + 7 < 10; omega), if_neg (by show ¬ 45 + 9 * o + 7 < 18; omega), if_neg (by show ¬ 45 + 9 * o + 7 < 45; omega)]
  rw [show (oH o + 7 - 45) % 9 = 7 by show (45 + 9 * o + 7 - 45) % 9 = 7; omega]
  rfl
theorem cellO8 {X : XC} {o : Nat} (ho : o < 28) (I : HD) : cell X I (oH o + 8) = oiv X I (oH o + 8) 0 16 := by
  unfold cell
  rw [if_neg (by show ¬ 45 + 9 * o + 8 < 2; omega), if_neg (by show ¬ 45 + 9 * o + 8 < 10; omega), if_neg (by show ¬ 45 + 9 * o + 8 < 18; omega), if_neg (by show ¬ 45 + 9 * o + 8 < 45; omega)]
  rw [show (oH o + 8 - 45) % 9 = 8 by show (45 + 9 * o + 8 - 45) % 9 = 8; omega]
  rfl
theorem cellR {X : XC} {I : HD} {i : Nat} (hi : i < 8) : cell X I (rH i) = .inr (5, [rv X (iH i), iv (I (rH i) 1), iv (I (rH i) 2)]) := by
  unfold cell
  rw [if_neg (by show ¬ 2 + i < 2; omega), if_pos (by show 2 + i < 10; omega), show rH i + 8 = iH i by show 2 + i + 8 = 10 + i; omega]
theorem cellRi {X : XC} {i : Nat} (hi : i < 8) (I : HD) : cell X I (iH i) = oiv X I (iH i) 0 40 := by
  unfold cell
  rw [if_neg (by show ¬ 10 + i < 2; omega), if_neg (by show ¬ 10 + i < 10; omega), if_pos (by show 10 + i < 18; omega)]
theorem cellRp1 {X : XC} {I : HD} {i : Nat} {z : Int} (hi : i < 8) : cell X (up I (rH i) 1 z) (rH i) = .inr (5, [rv X (iH i), iv (I (rH i) 1), iv (I (rH i) 2)].set 1 (iv z)) := by
  rw [cellR hi]
  simp [up]
theorem cellRp2 {X : XC} {I : HD} {i : Nat} {z : Int} (hi : i < 8) : cell X (up I (rH i) 2 z) (rH i) = .inr (5, [rv X (iH i), iv (I (rH i) 1), iv (I (rH i) 2)].set 2 (iv z)) := by
  rw [cellR hi]
  simp [up]
