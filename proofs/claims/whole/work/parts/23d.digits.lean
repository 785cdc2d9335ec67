/-! pure: the numbers of sharings -/
theorem NN_chain {mm : Nat → Nat → Int} {m t : Nat} (h : SV mm m m t < BIG) : ∀ l, l ≤ m → ∃ X, NNf mm m m t = X * PVf mm m (m - l) + NNf mm m (m - l) (LF mm m t l)
  | 0, _ => ⟨0, by rw [Nat.zero_mul, Nat.zero_add]; rfl⟩
  | l + 1, hl => by
    obtain ⟨X, e⟩ := NN_chain h l (by omega)
    rw [show m - l = m - 1 - l + 1 by omega, NNf, PVf] at e
    rw [show m - (l + 1) = m - 1 - l by omega, LF]
    refine ⟨X * max 1 (prs (mm (m - 1 - (m - 1 - l))) 1001).length + (ST mm m (m - 1 - l) (LF mm m t l)).2, ?_⟩
    rw [e, Nat.add_mul, Nat.mul_comm (PVf mm m (m - 1 - l)), Nat.mul_assoc]
    omega
theorem NN_dig {mm : Nat → Nat → Int} {m t l : Nat} (h : SV mm m m t < BIG) (hl : l < m) : NNf mm m m t / PVf mm m (m - 1 - l) % (prs (mm l) 1001).length = (ST mm m (m - 1 - l) (LF mm m t l)).2 ∧ (ST mm m (m - 1 - l) (LF mm m t l)).2 < (prs (mm l) 1001).length ∧ (ST mm m (m - 1 - l) (LF mm m t l)).1 = (prs (mm l) 1001).getD (ST mm m (m - 1 - l) (LF mm m t l)).2 0 := by
  obtain ⟨X, e⟩ := NN_chain h l (by omega)
  have ok := (LF_ok h l (by omega)).1
  have hr : m - l = m - 1 - l + 1 := by omega
  rw [hr] at ok e
  obtain ⟨a1, a2, a3⟩ := SV_step ok
  have a4 := ST_at ok
  have hlt := NN_lt _ _ a2
  rw [show m - 1 - (m - 1 - l) = l by omega] at a4
  rw [NNf, PVf, show m - 1 - (m - 1 - l) = l by omega] at e
  refine ⟨?_, a4⟩
  obtain ⟨a4, -⟩ := a4
  generalize (prs (mm l) 1001).length = len at a4 e ⊢
  rw [show max 1 len = len by omega] at e
  have e2 : NNf mm m m t = (X * len + (ST mm m (m - 1 - l) (LF mm m t l)).2) * PVf mm m (m - 1 - l) + NNf mm m (m - 1 - l) (LF mm m t l - (ST mm m (m - 1 - l) (LF mm m t l)).1) := by
    rw [e, Nat.add_mul, Nat.mul_comm (PVf mm m (m - 1 - l)), Nat.mul_assoc]
    omega
  rw [e2, Nat.mul_comm, Nat.mul_add_div (by omega), Nat.div_eq_of_lt hlt, Nat.add_zero, Nat.mul_comm, Nat.mul_add_mod, Nat.mod_eq_of_lt a4]
theorem NN_dig2 {gr li nu st sp : Nat → Int32} {n m t l : Nat} (hT : TrOK nu) (hL : LInv st sp n m) (h : SV (mL gr li nu st n) m m t < BIG) (hl : l < m) : ∃ ix, lN (NNf (mL gr li nu st n) m m t / PVf (mL gr li nu st n) m (m - 1 - l) % (prs (mL gr li nu st n l) 1001).length) = lN ix ∧ ix < (prs (mL gr li nu st n l) 1001).length ∧ nI ((prs (mL gr li nu st n l) 1001).getD ix 0) = nI (ST (mL gr li nu st n) m (m - 1 - l) (LF (mL gr li nu st n) m t l)).1 := by
  obtain ⟨a, b, c⟩ := NN_dig h hl
  exact ⟨_, congrArg lN a, b, congrArg nI c.symm⟩
