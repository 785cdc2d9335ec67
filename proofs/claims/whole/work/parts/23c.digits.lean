/-! pure: the numbers of sharings -/
theorem SHV_ok {gr li nu st sp : Nat → Int32} {n m r : Nat} (hT : TrOK nu) (hL : LInv st sp n m) (hr : r ≤ m) (s : Nat) : (SV (mL gr li nu st n) m r s = BIG ∧ SHV (mL gr li nu st n) m r s = 4611686018427387904) ∨ (SV (mL gr li nu st n) m r s < BIG ∧ -6400 ≤ SV (mL gr li nu st n) m r s ∧ SV (mL gr li nu st n) m r s ≤ 6400 ∧ NNf (mL gr li nu st n) m r s < PVf (mL gr li nu st n) m r ∧ SHV (mL gr li nu st n) m r s = lJ (SV (mL gr li nu st n) m r s * 281474976710656 + (NNf (mL gr li nu st n) m r s : Int)) ∧ ¬ SHV (mL gr li nu st n) m r s = 4611686018427387904) := by
  have hB : BIG = 100000000 := rfl
  have hp := (hL.pos (Nat.le_refl m)).1
  have hn := hL.2.1
  rcases SV_in (mL_MB (gr := gr) (li := li) hT hL) (show posOf st m n ≤ 16 by omega) hr s with e | e
  · exact Or.inl ⟨e, if_pos e⟩
  · have h1 := NN_lt (mm := mL gr li nu st n) (m := m) r s (by omega)
    have h2 := (PV_48 (gr := gr) (li := li) hT hL hr).2
    have h3 : SHV (mL gr li nu st n) m r s = _ := if_neg (show ¬ SV (mL gr li nu st n) m r s = BIG by omega)
    refine Or.inr ⟨by omega, e.1, e.2, h1, h3, ?_⟩
    rw [h3]
    exact lJ_ne (by unfold inL; omega)
