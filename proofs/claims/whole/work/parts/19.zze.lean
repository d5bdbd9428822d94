/-! ===== how many rows stand ===== -/
noncomputable def stn (f : Int → Int) : Nat → Int
  | 0 => 0
  | n + 1 => stn f n + bI (0 ≤ f n)
theorem stn_s {f : Int → Int} {r : Int} (h : 0 ≤ r) : stn f (r + 1).toNat = stn f r.toNat + bI (0 ≤ f r) := by
  obtain ⟨n, rfl⟩ : ∃ n : Nat, r = n := ⟨r.toNat, by omega⟩
  rw [show ((n : Int) + 1).toNat = n + 1 by omega, Int.toNat_natCast]
  rfl
