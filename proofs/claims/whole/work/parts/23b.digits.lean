/-! pure: the numbers of sharings -/
theorem NN_lt {mm : Nat → Nat → Int} {m : Nat} (r : Nat) : ∀ t, SV mm m r t < BIG → NNf mm m r t < PVf mm m r := by
  induction r with
  | zero => intro t _; rw [NNf, PVf]; exact Nat.zero_lt_one
  | succ r ih =>
    intro t h
    obtain ⟨a1, a2, a3⟩ := SV_step h
    have a4 := (ST_at h).1
    have ih := ih _ a2
    rw [NNf, PVf]
    generalize prs (mm (m - 1 - r)) 1001 = L at a4 ⊢
    have hmul := Nat.mul_le_mul_left (PVf mm m r) (show (ST mm m r t).2 + 1 ≤ max 1 L.length by omega)
    rw [Nat.mul_succ, Nat.mul_comm] at hmul
    omega
theorem PV_le {gr li nu st sp : Nat → Int32} {n m : Nat} (hT : TrOK nu) (hL : LInv st sp n m) : ∀ r, r ≤ m → 1 ≤ PVf (mL gr li nu st n) m r ∧ PVf (mL gr li nu st n) m r ≤ 8 ^ (n - posOf st (m - r) n)
  | 0, _ => ⟨Nat.le_refl _, Nat.pow_pos (by decide)⟩
  | r + 1, hr => by
    obtain ⟨i1, i2⟩ := PV_le hT hL r (by omega)
    obtain ⟨a1, a2, a3, a4⟩ := nL_rg hL (show m - 1 - r < m by omega)
    have c := (cv_len (gr := gr) (li := li) hT a2 a1).2.2
    have e := (hL.pos (show m - r ≤ m by omega)).1
    have e1 : m - 1 - r + 1 = m - r := by omega
    rw [e1] at a3 a4
    rw [PVf]
    generalize prs (mL gr li nu st n (m - 1 - r)) 1001 = L at c ⊢
    have p1 : 1 ≤ 8 ^ nL st n (m - 1 - r) := Nat.pow_pos (by decide)
    refine ⟨Nat.mul_pos i1 (by omega), Nat.le_trans (Nat.mul_le_mul i2 (show max 1 L.length ≤ 8 ^ nL st n (m - 1 - r) by omega)) ?_⟩
    rw [← Nat.pow_add, show m - (r + 1) = m - 1 - r by omega]
    exact Nat.pow_le_pow_right (by decide) (by omega)
theorem PV_48 {gr li nu st sp : Nat → Int32} {n m r : Nat} (hT : TrOK nu) (hL : LInv st sp n m) (hr : r ≤ m) : 1 ≤ PVf (mL gr li nu st n) m r ∧ PVf (mL gr li nu st n) m r ≤ 281474976710656 := by
  have a := PV_le (gr := gr) (li := li) hT hL r hr
  have b := hL.2.1
  refine ⟨a.1, Nat.le_trans a.2 (Nat.le_trans (Nat.pow_le_pow_right (by decide) (show n - posOf st (m - r) n ≤ 16 by omega)) (by decide))⟩
