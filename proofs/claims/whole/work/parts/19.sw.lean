/-! ===== switches ===== -/
theorem r_tsIn {X : XC} {D : Nat} {M : MR} {K : KP} {pc : Nat} {lv : List (Nat × Value)} {st : List Value} {I : HD} {x c dflt lo hi off : Int} {offs : Array Int} {len : Nat} (tgt : Nat) (hx : x = c) (hr : rg c) (h1 : lo ≤ c) (h2 : c ≤ hi) (ho : offs[(c - lo).toNat]? = some off) (hd : decode M.2.1 pc = .ok (.tableswitch dflt lo hi offs, len)) (ht : (pc : Int) + off = (tgt : Int)) (k : Rn X D M K tgt lv st I) : Rn X D M K pc lv (iv x :: st) I := by
  subst hx
  intro p e s m args below meth c H locs ls hx hb hml hr2 hlk hown hts hC hP hS hl
  exact lv_tableIn hx hb hd (by rw [rg_of hr]; omega) (by rw [rg_of hr]; omega) (by rw [rg_of hr]; exact ho) ht (k p e s m args below meth c H locs ls hx hb hml hr2 hlk hown hts hC hP hS hl)
theorem r_tsOut {X : XC} {D : Nat} {M : MR} {K : KP} {pc : Nat} {lv : List (Nat × Value)} {st : List Value} {I : HD} {x dflt lo hi : Int} {offs : Array Int} {len : Nat} (tgt : Nat) (hr : rg x) (h : x < lo ∨ hi < x) (hd : decode M.2.1 pc = .ok (.tableswitch dflt lo hi offs, len)) (ht : (pc : Int) + dflt = (tgt : Int)) (k : Rn X D M K tgt lv st I) : Rn X D M K pc lv (iv x :: st) I := by
  intro p e s m args below meth c H locs ls hx hb hml hr2 hlk hown hts hC hP hS hl
  exact lv_tableOut hx hb hd (by rw [rg_of hr]; exact h) ht (k p e s m args below meth c H locs ls hx hb hml hr2 hlk hown hts hC hP hS hl)
theorem r_lsw {X : XC} {D : Nat} {M : MR} {K : KP} {pc : Nat} {lv : List (Nat × Value)} {st : List Value} {I : HD} {x dflt off : Int} {ps : Array (Int × Int)} {len : Nat} (tgt : Nat) (hr : rg x) (hp : (ps.toList.zip (ps.toList.drop 1)).all (fun (a, next) => a.1 < next.1) = true) (ho : Op.lookupswitch.offset ps.toList dflt x = off) (hd : decode M.2.1 pc = .ok (.lookupswitch dflt ps, len)) (ht : (pc : Int) + off = (tgt : Int)) (k : Rn X D M K tgt lv st I) : Rn X D M K pc lv (iv x :: st) I := by
  intro p e s m args below meth c H locs ls hx hb hml hr2 hlk hown hts hC hP hS hl
  exact lv_lookup hx hb hd hp (by rw [rg_of hr]; exact ho) ht (k p e s m args below meth c H locs ls hx hb hml hr2 hlk hown hts hC hP hS hl)
/-! ===== the answers of the reading calls ===== -/
noncomputable def zSheet (O : OF) (p w : Int) : Int := if 0 ≤ p ∧ p < O 1 then (if w = 0 then O (64 + 4 * p) else if w = 1 then O (65 + 4 * p) else if w = 2 then dkN O p else if w = 3 then (if dk O p < 0 then -1000000 else ab O p) else if w = 4 then bI (O (66 + 4 * p) = 1) else if w = 5 then bI (mis O p) else -1000001) else -1000001
def zDesk (O : OF) (d w : Int) : Int := if 0 ≤ d ∧ d < O 0 then (if w = 0 then O (15 + 2 * d) else if w = 1 then O (16 + 2 * d) else if w = 2 then O (23 + 10 * d) else if 10 ≤ w then (if w - 10 < O (23 + 10 * d) then O (24 + 10 * d + (w - 10)) else -1000000) else -1000001) else -1000001
def zKind (O : OF) (p : Int) : Int := if 0 ≤ p ∧ p < O 1 then O (63 + 4 * p) else -1000001
noncomputable def zMiss (O : OF) (w : Int) : Int := if 0 < O 0 then (if w = 0 then ((bset (fun x => x < O 1 ∧ mis O x) 16 : Nat) : Int) else if w = 1 then wsum O (fun x => x < O 1 ∧ dk O x < 0) (O 1).toNat else -1000001) else -1000002
/-- lost by one gust through both windows, from the first n desks -/
noncomputable def wnd (O : OF) : Nat → Int
  | 0 => 0
  | n + 1 => wnd O n + (lost O n 1 + lth O n)
noncomputable def zWin (O : OF) : Int := if 0 < O 0 then wnd O (O 0).toNat else -1000002
theorem wnd_s {O : OF} {d : Int} (h : 0 ≤ d) : wnd O (d + 1).toNat = wnd O d.toNat + (lost O d 1 + lth O d) := by
  obtain ⟨n, rfl⟩ : ∃ n : Nat, d = n := ⟨d.toNat, by omega⟩
  rw [show ((n : Int) + 1).toNat = n + 1 by omega, Int.toNat_natCast]
  rfl
theorem lth_le {O : OF} {d : Int} (hV : Val O) (h0 : 0 ≤ d) (h1 : d < O 0) : 0 ≤ lth O d ∧ lth O d ≤ 99 := by
  have vd := hV.d h0 h1
  unfold lth
  by_cases q : O (16 + 2 * d) ≤ O (23 + 10 * d) - 3 ∧ ¬ slat O (tp O d 2)
  · rw [bI_t q]
    have vk := hV.k (k := O (23 + 10 * d) - 1 - 2) h0 h1 (by omega) (by omega)
    have vp := hV.p vk.1 vk.2
    unfold tp
    omega
  · rw [bI_f q]; omega
theorem ab_3 {O : OF} {p : Int} (h : 0 ≤ dk O p) : O (24 + 10 * dk O p + (O (23 + 10 * dk O p) - 1 - ab O p)) = p := by
  rcases ab_is O p with ⟨e, _⟩ | ⟨_, _, _, c⟩
  · omega
  · exact c
/-- lost by one gust: only the uppermost can go -/
theorem lost_1 {O : OF} {d : Int} (hV : Val O) (h0 : 0 ≤ d) (h1 : d < O 0) : lost O d 1 = bI (O (16 + 2 * d) < O (23 + 10 * d) ∧ ¬ slat O (tp O d 0)) * O (64 + 4 * tp O d 0) := by
  unfold lost
  have g := tfv_i (O := O) (d := d) (e := 0) (by omega)
  have l := tfv_le 1 hV h0 h1
  rw [show ((0 : Int) + 1).toNat = 1 by rfl, show (0 : Int).toNat = 0 by rfl, show tfv O d 0 = 0 by rfl] at g
  rw [show (1 : Int).toNat = 1 by rfl]
  by_cases q : 0 < tfv O d 1
  · have q2 := g.mp q
    rw [show tfv O d 1 = 1 by omega, bI_t ⟨by omega, q2.2⟩]
    show lsum O d 0 + O (64 + 4 * tp O d ((0 : Nat) : Int)) = _
    show 0 + O (64 + 4 * tp O d 0) = _
    omega
  · rw [show tfv O d 1 = 0 by omega, bI_f (fun z => q (g.mpr ⟨by omega, z.2⟩))]
    show lsum O d 0 = _
    show (0 : Int) = _
    omega
theorem bI_01 {x : Int} (h : x = 0 ∨ x = 1) : x = bI (x = 1) := by
  rcases h with h | h
  · rw [bI_f (by omega)]; exact h
  · rw [bI_t h]; exact h
