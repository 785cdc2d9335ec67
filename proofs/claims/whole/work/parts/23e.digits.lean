/-! pure: the numbers of sharings -/
theorem sub_nn {a b : Nat} (ha : a < 2 ^ 30) (hb : b < 2 ^ 30) : 0 ≤ nI a - nI b ↔ b ≤ a := by
  rw [show nI a - nI b = jN ((a : Int) - (b : Int)) by show Int32.ofInt a - Int32.ofInt b = Int32.ofInt _; exact (Int32.ofInt_sub _ _).symm, show (0 : Int32) = jN 0 from rfl, jN_le (by omega) (by omega)]
  omega
def SCOK (gr li nu st : Nat → Int32) (n m : Nat) (sc pv : Nat → Int64) : Prop := (∀ t, t ≤ 1000 → sc t = SHV (mL gr li nu st n) m m t) ∧ ∀ l, l < m → pv l = lJ (PVf (mL gr li nu st n) m (m - 1 - l) : Int)
theorem mx1 {c : Nat} (h : c < 2 ^ 31) : (if nI 1 < nI c then nI c else nI 1) = nI (max 1 c) := by
  by_cases q : 1 < c
  · rw [if_pos (by rw [nI_ltI (by omega) h]; exact q), show max 1 c = c by omega]
  · rw [if_neg (by rw [nI_ltI (by omega) h]; exact q), show max 1 c = 1 by omega]
theorem pv_mul {p c : Nat} : lJ (p : Int) * lJ (c : Int) = lJ ((p * c : Nat) : Int) := (lJ_mul _ _).trans (congrArg lJ (Int.natCast_mul _ _).symm)
