theorem pr_order {X : XC} {d n k : Int} (hd : rg d) (hn : rg n) (hk : rg k) : Pair X mX8_order mX9_order [iv d, iv n, iv k] := by
  intro I hI
  have hV := hI.1.1
  refine ⟨zOrd (I 34) d n k, 5, 3, by decide, by decide, (kX8_order X hI.1.2.1 hV hd hn hk).mono fun r J h => ?_⟩
  obtain ⟨rfl, hJ⟩ := h
  refine ⟨rfl, (kX9_order X (O := I 34) (hJ 34 (by decide) (by decide)) hV hd hn hk).mono fun r J2 h => ?_⟩
  obtain ⟨rfl, t, b, rfl⟩ := h
  refine ⟨rfl, hI.cg (fun a x y _ _ _ z w => ?_) (fun j q => ?_) (fun a q => ?_)⟩
  · rw [upA_h w, upA_h z, up_row (by omega), hJ a (by omega) (by omega)]
  · rw [upA_h (show (30 : Nat) ≠ 41 by decide), upA_h (show (30 : Nat) ≠ 40 by decide), up_i (by omega), hJ 30 (by decide) (by decide)]
  · rw [upA_h (by omega), upA_h (by omega), up_row (by omega), hJ a (by omega) (by omega)]
