/-! ===== words of an office: where a sheet lies, what is gone, missed, taken, lost ===== -/
def onN (O : OF) (d n p : Int) : Prop := ∃ k, 0 ≤ k ∧ k < n ∧ O (24 + 10 * d + k) = p
def onD (O : OF) (d p : Int) : Prop := onN O d (O (23 + 10 * d)) p
theorem onN_0 {O : OF} {d p : Int} : ¬ onN O d 0 p := by rintro ⟨k, h0, h1, _⟩; omega
theorem onN_s {O : OF} {d k p : Int} (h : 0 ≤ k) : (onN O d k p ∨ p = O (24 + 10 * d + k)) ↔ onN O d (k + 1) p := by
  constructor
  · rintro (⟨j, h0, h1, h2⟩ | h2)
    · exact ⟨j, h0, by omega, h2⟩
    · exact ⟨k, h, by omega, h2.symm⟩
  · rintro ⟨j, h0, h1, h2⟩
    by_cases e : j = k
    · exact Or.inr (by rw [← h2, e])
    · exact Or.inl ⟨j, h0, by omega, h2⟩
def isD (O : OF) (p z : Int) : Prop := (z = -1 ∧ ∀ d, 0 ≤ d → d < O 0 → ¬ onD O d p) ∨ (0 ≤ z ∧ z < O 0 ∧ onD O z p)
noncomputable def dk (O : OF) (p : Int) : Int := @dite Int (∃ d, 0 ≤ d ∧ d < O 0 ∧ onD O d p) (Classical.propDecidable _) (fun h => Classical.choose h) (fun _ => -1)
theorem dk_is (O : OF) (p : Int) : isD O p (dk O p) := by
  unfold dk
  by_cases h : ∃ d, 0 ≤ d ∧ d < O 0 ∧ onD O d p
  · rw [dif_pos h]
    exact Or.inr (Classical.choose_spec h)
  · rw [dif_neg h]
    exact Or.inl ⟨rfl, fun d h0 h1 h2 => h ⟨d, h0, h1, h2⟩⟩
theorem isD_u {O : OF} {p z : Int} (hV : Val O) (h : isD O p z) : dk O p = z := by
  rcases dk_is O p with ⟨e, g⟩ | ⟨g0, g1, k, g2, g3, g4⟩
  · rcases h with ⟨e2, _⟩ | ⟨h0, h1, h2⟩
    · rw [e, e2]
    · exact absurd h2 (g z h0 h1)
  · rcases h with ⟨_, h⟩ | ⟨h0, h1, k2, h2, h3, h4⟩
    · exact absurd ⟨k, g2, g3, g4⟩ (h _ g0 g1)
    · exact (hV.u g0 g1 g2 g3 h0 h1 h2 h3 (by rw [g4, h4])).1
theorem dk_lt {O : OF} {p : Int} : -1 ≤ dk O p ∧ (dk O p = -1 ∨ dk O p < O 0) := by
  rcases dk_is O p with ⟨e, _⟩ | ⟨g0, g1, _⟩
  · rw [e]; omega
  · omega
theorem dk_on {O : OF} {p : Int} (h : 0 ≤ dk O p) : dk O p < O 0 ∧ onD O (dk O p) p := by
  rcases dk_is O p with ⟨e, _⟩ | ⟨g0, g1, g2⟩
  · omega
  · exact ⟨g1, g2⟩
theorem dk_no {O : OF} {p : Int} (h : dk O p < 0) : ∀ d, 0 ≤ d → d < O 0 → ¬ onD O d p := by
  rcases dk_is O p with ⟨_, e⟩ | ⟨g0, g1, g2⟩
  · exact e
  · omega
theorem dk_neg {O : OF} {p : Int} (h : ∀ d, 0 ≤ d → d < O 0 → ¬ onD O d p) : dk O p < 0 := by
  rcases dk_is O p with ⟨e, _⟩ | ⟨g0, g1, g2⟩
  · omega
  · exact absurd g2 (h _ g0 g1)
/-- how many lie above a sheet; 0 of one that is gone -/
def isA (O : OF) (p z : Int) : Prop := (dk O p < 0 ∧ z = 0) ∨ (0 ≤ dk O p ∧ 0 ≤ z ∧ z < O (23 + 10 * dk O p) ∧ O (24 + 10 * dk O p + (O (23 + 10 * dk O p) - 1 - z)) = p)
noncomputable def ab (O : OF) (p : Int) : Int := @dite Int (∃ z, isA O p z) (Classical.propDecidable _) (fun h => Classical.choose h) (fun _ => 0)
theorem ab_is (O : OF) (p : Int) : isA O p (ab O p) := by
  have h : ∃ z, isA O p z := by
    by_cases h : dk O p < 0
    · exact ⟨0, Or.inl ⟨h, rfl⟩⟩
    · obtain ⟨_, k, g0, g1, g2⟩ := dk_on (O := O) (p := p) (by omega)
      exact ⟨O (23 + 10 * dk O p) - 1 - k, Or.inr ⟨by omega, by omega, by omega, (congrArg O (by omega)).trans g2⟩⟩
  unfold ab
  rw [dif_pos h]
  exact Classical.choose_spec h
theorem isA_u {O : OF} {p z : Int} (hV : Val O) (h : isA O p z) : ab O p = z := by
  rcases ab_is O p with ⟨e, g⟩ | ⟨g0, g1, g2, g3⟩
  · rcases h with ⟨_, h⟩ | ⟨h0, _⟩
    · rw [g, h]
    · omega
  · rcases h with ⟨h, _⟩ | ⟨h0, h1, h2, h3⟩
    · omega
    · have hd := dk_on g0
      have := (hV.u (k := O (23 + 10 * dk O p) - 1 - ab O p) (k2 := O (23 + 10 * dk O p) - 1 - z) g0 hd.1 (by omega) (by omega) g0 hd.1 (by omega) (by omega) (g3.trans h3.symm)).2
      omega
def mis (O : OF) (p : Int) : Prop := O (65 + 4 * p) < 12 ∧ ¬ O (66 + 4 * p) = 1 ∧ (dk O p < 0 ∨ O (65 + 4 * p) < O 2)
/-- the worth of a set's sheets -/
noncomputable def wsum (O : OF) (f : Int → Prop) : Nat → Int
  | 0 => 0
  | n + 1 => wsum O f n + bI (f n) * O (64 + 4 * n)
theorem wsum_congr {O : OF} {f g : Int → Prop} : ∀ {n : Nat}, (∀ p : Int, 0 ≤ p → p < n → (f p ↔ g p)) → wsum O f n = wsum O g n
  | 0, _ => rfl
  | n + 1, h => by
    show wsum O f n + _ = wsum O g n + _
    rw [wsum_congr (n := n) (fun p h0 h1 => h p h0 (by omega)), bI_c (h n (by omega) (by omega))]
theorem wsum_le {O : OF} {f : Int → Prop} (hV : Val O) : ∀ {n : Nat}, (n : Int) ≤ O 1 → 0 ≤ wsum O f n ∧ wsum O f n ≤ 99 * n
  | 0, _ => by simp [wsum]
  | n + 1, h => by
    have ih := wsum_le (f := f) hV (n := n) (by omega)
    have hp := hV.p (p := n) (by omega) (by omega)
    show 0 ≤ wsum O f n + bI (f n) * O (64 + 4 * n) ∧ wsum O f n + bI (f n) * O (64 + 4 * n) ≤ 99 * ((n + 1 : Nat) : Int)
    by_cases q : f n
    · rw [bI_t q]; push_cast; omega
    · rw [bI_f q]; push_cast; omega
/-- the sheet of a desk that lies t below the uppermost -/
def tp (O : OF) (d t : Int) : Int := O (24 + 10 * d + (O (23 + 10 * d) - 1 - t))
/-- the worth of the uppermost n of a desk -/
def lsum (O : OF) (d : Int) : Nat → Int
  | 0 => 0
  | n + 1 => lsum O d n + O (64 + 4 * tp O d n)
theorem lsum_le {O : OF} {d : Int} (hV : Val O) (h0 : 0 ≤ d) (h1 : d < O 0) : ∀ {n : Nat}, (n : Int) ≤ O (23 + 10 * d) → 0 ≤ lsum O d n ∧ lsum O d n ≤ 99 * n
  | 0, _ => by simp [lsum]
  | n + 1, h => by
    have ih := lsum_le hV h0 h1 (n := n) (by omega)
    have hk := hV.k (d := d) (k := O (23 + 10 * d) - 1 - n) h0 h1 (by omega) (by omega)
    have hp := hV.p hk.1 hk.2
    show 0 ≤ lsum O d n + O (64 + 4 * tp O d n) ∧ lsum O d n + O (64 + 4 * tp O d n) ≤ 99 * ((n + 1 : Nat) : Int)
    unfold tp
    push_cast
    omega
/-- lost from a desk by n gusts -/
noncomputable def lost (O : OF) (d n : Int) : Int := lsum O d (tfv O d n.toNat).toNat
theorem tfv_le {O : OF} {d : Int} (n : Nat) (hV : Val O) (h0 : 0 ≤ d) (h1 : d < O 0) : 0 ≤ tfv O d n ∧ tfv O d n ≤ n ∧ tfv O d n ≤ O (23 + 10 * d) := by
  obtain ⟨a, b, c, _⟩ := tfv_Tf O d n
  have := hV.d h0 h1
  omega
theorem lost_le {O : OF} {d n : Int} (hV : Val O) (h0 : 0 ≤ d) (h1 : d < O 0) : 0 ≤ lost O d n ∧ lost O d n ≤ 891 := by
  have h := tfv_le n.toNat hV h0 h1
  have hd := hV.d h0 h1
  have := lsum_le hV h0 h1 (n := (tfv O d n.toNat).toNat) (by omega)
  unfold lost
  omega
/-- what the gust behind e others takes; what n take -/
def tbg (O : OF) (e p : Int) : Prop := ∃ d, 0 ≤ d ∧ d < O 0 ∧ e < tfv O d (e + 1).toNat ∧ p = tp O d e
def tbn (O : OF) (d e p : Int) : Prop := ∃ d2, 0 ≤ d2 ∧ d2 < d ∧ e < tfv O d2 (e + 1).toNat ∧ p = tp O d2 e
def tkn (O : OF) (n p : Int) : Prop := ∃ e, 0 ≤ e ∧ e < n ∧ tbg O e p
noncomputable def liu (O : OF) (p d : Int) : Int := bI (O (16 + 2 * d) < O (23 + 10 * d) ∧ ¬ slat O p) * O (64 + 4 * p)
noncomputable def lth (O : OF) (d : Int) : Int := bI (O (16 + 2 * d) ≤ O (23 + 10 * d) - 3 ∧ ¬ slat O (tp O d 2)) * O (64 + 4 * tp O d 2)
/-- the place of least worth among the lowest n + 1 of a desk -/
def lon (O : OF) (d : Int) : Nat → Int
  | 0 => 0
  | n + 1 => if O (64 + 4 * O (24 + 10 * d + (n + 1))) < O (64 + 4 * O (24 + 10 * d + lon O d n)) then n + 1 else lon O d n
theorem lon_le (O : OF) (d : Int) : ∀ n : Nat, 0 ≤ lon O d n ∧ lon O d n ≤ n
  | 0 => by simp [lon]
  | n + 1 => by
    have ih := lon_le O d n
    unfold lon
    split <;> push_cast <;> omega
