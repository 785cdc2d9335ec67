/-! pure: the numbers of sharings -/
def spE (nn : Nat → Nat) (pv t : Nat) (x : Int × Nat × Nat) : Int64 := if x.1 = BIG then 4611686018427387904 else lJ (x.1 * 281474976710656 + ((x.2.2 * pv + nn (t - x.2.1) : Nat) : Int))
theorem spE_step {m rest : Nat → Int} {Ts : List Nat} {nn : Nat → Nat} {pv t i T : Nat} (hT : Ts.getD i 0 = T) (h1 : T ≤ t) (h2 : rest (t - T) < BIG) (hm : -6400 ≤ m T ∧ m T ≤ 6400) (hr : -6400 ≤ rest (t - T) ∧ rest (t - T) ≤ 6400) (hx : (SHs m rest Ts t i).1 = BIG ∨ (-12800 ≤ (SHs m rest Ts t i).1 ∧ (SHs m rest Ts t i).1 ≤ 12800)) (hn : ∀ s, rest s < BIG → nn s < pv) (hp : (i + 1) * pv ≤ 281474976710656) :
    (if lJ (rest (t - T) * 281474976710656 + (nn (t - T) : Int) + (m T * 281474976710656 + ((i * pv : Nat) : Int))) < spE nn pv t (SHs m rest Ts t i) then lJ (rest (t - T) * 281474976710656 + (nn (t - T) : Int) + (m T * 281474976710656 + ((i * pv : Nat) : Int))) else spE nn pv t (SHs m rest Ts t i)) = spE nn pv t (SHs m rest Ts t (i + 1)) := by
  have hnT := hn _ h2
  rw [Nat.succ_mul] at hp
  have hB : BIG = 100000000 := rfl
  have yes : m T + rest (t - T) < (SHs m rest Ts t i).1 → lJ (rest (t - T) * 281474976710656 + (nn (t - T) : Int) + (m T * 281474976710656 + ((i * pv : Nat) : Int))) = spE nn pv t (SHs m rest Ts t (i + 1)) := fun h => by
    rw [SHs_yes hT h1 h2 h]
    show _ = if m T + rest (t - T) = BIG then _ else _
    rw [if_neg (by omega)]
    congr 1
    show _ = (m T + rest (t - T)) * 281474976710656 + ((i * pv + nn (t - T) : Nat) : Int)
    generalize i * pv = P at *
    omega
  by_cases e : (SHs m rest Ts t i).1 = BIG
  · have hv : spE nn pv t (SHs m rest Ts t i) = 4611686018427387904 := if_pos e
    rw [hv, if_pos]
    · exact yes (by omega)
    · rw [lJ_no, lJ_lt] <;> (generalize i * pv = P at *; omega)
  · have hv : spE nn pv t (SHs m rest Ts t i) = lJ ((SHs m rest Ts t i).1 * 281474976710656 + (((SHs m rest Ts t i).2.2 * pv + nn (t - (SHs m rest Ts t i).2.1) : Nat) : Int)) := if_neg e
    have hlt := SHs_le (m := m) (rest := rest) (Ts := Ts) (t := t) i
    obtain ⟨a1, a2, a3, a4⟩ := SHs_at (m := m) (rest := rest) (Ts := Ts) (t := t) i (by omega)
    have hn2 := hn _ a4
    have hmul := Nat.mul_le_mul_right pv (show (SHs m rest Ts t i).2.2 + 1 ≤ i by omega)
    rw [Nat.succ_mul] at hmul
    have hx2 := hx.resolve_left e
    by_cases q : m T + rest (t - T) < (SHs m rest Ts t i).1
    · rw [if_pos]
      · exact yes q
      · rw [hv, lJ_lt] <;> (generalize i * pv = P at *; generalize (SHs m rest Ts t i).2.2 * pv = P2 at *; omega)
    · rw [if_neg, SHs_no hT (fun z => q z.2.2)]
      rw [hv, lJ_lt] <;> (generalize i * pv = P at *; generalize (SHs m rest Ts t i).2.2 * pv = P2 at *; omega)
def PVf (mm : Nat → Nat → Int) (m : Nat) : Nat → Nat | 0 => 1 | r + 1 => PVf mm m r * max 1 (prs (mm (m - 1 - r)) 1001).length
def NNf (mm : Nat → Nat → Int) (m : Nat) : Nat → Nat → Nat | 0, _ => 0 | r + 1, t => (ST mm m r t).2 * PVf mm m r + NNf mm m r (t - (ST mm m r t).1)
def SHV (mm : Nat → Nat → Int) (m r t : Nat) : Int64 := if SV mm m r t = BIG then 4611686018427387904 else lJ (SV mm m r t * 281474976710656 + (NNf mm m r t : Int))
theorem SHV_succ {mm : Nat → Nat → Int} {m r j t : Nat} (h : m - 1 - r = j) : SHV mm m (r + 1) t = spE (NNf mm m r) (PVf mm m r) t (SHs (mm j) (SV mm m r) (prs (mm j) 1001) t (prs (mm j) 1001).length) := by
  subst h
  have e1 : SV mm m (r + 1) t = (SHs (mm (m - 1 - r)) (SV mm m r) (prs (mm (m - 1 - r)) 1001) t (prs (mm (m - 1 - r)) 1001).length).1 := by rw [SV]
  have e2 : ST mm m r t = (SHs (mm (m - 1 - r)) (SV mm m r) (prs (mm (m - 1 - r)) 1001) t (prs (mm (m - 1 - r)) 1001).length).2 := by rw [ST]
  rw [SHV, spE, NNf, e1, e2]
theorem SHV_0 {mm : Nat → Nat → Int} {m t : Nat} : SHV mm m 0 t = 0 := by
  show (if (0 : Int) = BIG then _ else lJ (0 * 281474976710656 + ((0 : Nat) : Int))) = 0
  rw [if_neg (by decide)]; decide
theorem ST_at {mm : Nat → Nat → Int} {m r t : Nat} (h : SV mm m (r + 1) t < BIG) : (ST mm m r t).2 < (prs (mm (m - 1 - r)) 1001).length ∧ (ST mm m r t).1 = (prs (mm (m - 1 - r)) 1001).getD (ST mm m r t).2 0 := by
  rw [SV] at h
  unfold ST
  generalize prs (mm (m - 1 - r)) 1001 = L at h ⊢
  obtain ⟨a1, a2, a3, a4⟩ := SHs_at _ h
  exact ⟨a1, a2⟩
theorem NN_lt {mm : Nat → Nat → Int} {m : Nat} (r : Nat) : ∀ t, SV mm m r t < BIG → NNf mm m r t < PVf mm m r := by
  induction r with
  | zero => intro t _; rw [NNf, PVf]; exact Nat.zero_lt_one
  | succ r ih =>
    intro t h
    obtain ⟨a1, a2, a3⟩ := SV_step h
    have a4 := (ST_at h).1
    have ih := ih _ a2
    rw [NNf, PVf]
    generalize prs (mm (m - 1 - r)) 1001 = L at a4 ⊢
    have hmul := Nat.mul_le_mul_left (PVf mm m r) (show (ST mm m r t).2 + 1 ≤ max 1 L.length by omega)
    rw [Nat.mul_succ, Nat.mul_comm] at hmul
    omega
theorem PV_le {gr li nu st sp : Nat → Int32} {n m : Nat} (hT : TrOK nu) (hL : LInv st sp n m) : ∀ r, r ≤ m → 1 ≤ PVf (mL gr li nu st n) m r ∧ PVf (mL gr li nu st n) m r ≤ 8 ^ (n - posOf st (m - r) n)
  | 0, _ => ⟨Nat.le_refl _, Nat.pow_pos (by decide)⟩
  | r + 1, hr => by
    obtain ⟨i1, i2⟩ := PV_le hT hL r (by omega)
    obtain ⟨a1, a2, a3, a4⟩ := nL_rg hL (show m - 1 - r < m by omega)
    have c := (cv_len (gr := gr) (li := li) hT a2 a1).2.2
    have e := (hL.pos (show m - r ≤ m by omega)).1
    have e1 : m - 1 - r + 1 = m - r := by omega
    rw [e1] at a3 a4
    rw [PVf]
    generalize prs (mL gr li nu st n (m - 1 - r)) 1001 = L at c ⊢
    have p1 : 1 ≤ 8 ^ nL st n (m - 1 - r) := Nat.pow_pos (by decide)
    refine ⟨Nat.mul_pos i1 (by omega), Nat.le_trans (Nat.mul_le_mul i2 (show max 1 L.length ≤ 8 ^ nL st n (m - 1 - r) by omega)) ?_⟩
    rw [← Nat.pow_add, show m - (r + 1) = m - 1 - r by omega]
    exact Nat.pow_le_pow_right (by decide) (by omega)
theorem PV_48 {gr li nu st sp : Nat → Int32} {n m r : Nat} (hT : TrOK nu) (hL : LInv st sp n m) (hr : r ≤ m) : 1 ≤ PVf (mL gr li nu st n) m r ∧ PVf (mL gr li nu st n) m r ≤ 281474976710656 := by
  have a := PV_le (gr := gr) (li := li) hT hL r hr
  have b := hL.2.1
  refine ⟨a.1, Nat.le_trans a.2 (Nat.le_trans (Nat.pow_le_pow_right (by decide) (show n - posOf st (m - r) n ≤ 16 by omega)) (by decide))⟩
theorem SHV_ok {gr li nu st sp : Nat → Int32} {n m r : Nat} (hT : TrOK nu) (hL : LInv st sp n m) (hr : r ≤ m) (s : Nat) : (SV (mL gr li nu st n) m r s = BIG ∧ SHV (mL gr li nu st n) m r s = 4611686018427387904) ∨ (SV (mL gr li nu st n) m r s < BIG ∧ -6400 ≤ SV (mL gr li nu st n) m r s ∧ SV (mL gr li nu st n) m r s ≤ 6400 ∧ NNf (mL gr li nu st n) m r s < PVf (mL gr li nu st n) m r ∧ SHV (mL gr li nu st n) m r s = lJ (SV (mL gr li nu st n) m r s * 281474976710656 + (NNf (mL gr li nu st n) m r s : Int)) ∧ ¬ SHV (mL gr li nu st n) m r s = 4611686018427387904) := by
  have hB : BIG = 100000000 := rfl
  have hp := (hL.pos (Nat.le_refl m)).1
  have hn := hL.2.1
  rcases SV_in (mL_MB (gr := gr) (li := li) hT hL) (show posOf st m n ≤ 16 by omega) hr s with e | e
  · exact Or.inl ⟨e, if_pos e⟩
  · have h1 := NN_lt (mm := mL gr li nu st n) (m := m) r s (by omega)
    have h2 := (PV_48 (gr := gr) (li := li) hT hL hr).2
    have h3 : SHV (mL gr li nu st n) m r s = _ := if_neg (show ¬ SV (mL gr li nu st n) m r s = BIG by omega)
    refine Or.inr ⟨by omega, e.1, e.2, h1, h3, ?_⟩
    rw [h3]
    exact lJ_ne (by unfold inL; omega)
theorem NN_chain {mm : Nat → Nat → Int} {m t : Nat} (h : SV mm m m t < BIG) : ∀ l, l ≤ m → ∃ X, NNf mm m m t = X * PVf mm m (m - l) + NNf mm m (m - l) (LF mm m t l)
  | 0, _ => ⟨0, by rw [Nat.zero_mul, Nat.zero_add]; rfl⟩
  | l + 1, hl => by
    obtain ⟨X, e⟩ := NN_chain h l (by omega)
    rw [show m - l = m - 1 - l + 1 by omega, NNf, PVf] at e
    rw [show m - (l + 1) = m - 1 - l by omega, LF]
    refine ⟨X * max 1 (prs (mm (m - 1 - (m - 1 - l))) 1001).length + (ST mm m (m - 1 - l) (LF mm m t l)).2, ?_⟩
    rw [e, Nat.add_mul, Nat.mul_comm (PVf mm m (m - 1 - l)), Nat.mul_assoc]
    omega
theorem NN_dig {mm : Nat → Nat → Int} {m t l : Nat} (h : SV mm m m t < BIG) (hl : l < m) : NNf mm m m t / PVf mm m (m - 1 - l) % (prs (mm l) 1001).length = (ST mm m (m - 1 - l) (LF mm m t l)).2 ∧ (ST mm m (m - 1 - l) (LF mm m t l)).2 < (prs (mm l) 1001).length ∧ (ST mm m (m - 1 - l) (LF mm m t l)).1 = (prs (mm l) 1001).getD (ST mm m (m - 1 - l) (LF mm m t l)).2 0 := by
  obtain ⟨X, e⟩ := NN_chain h l (by omega)
  have ok := (LF_ok h l (by omega)).1
  have hr : m - l = m - 1 - l + 1 := by omega
  rw [hr] at ok e
  obtain ⟨a1, a2, a3⟩ := SV_step ok
  have a4 := ST_at ok
  have hlt := NN_lt _ _ a2
  rw [show m - 1 - (m - 1 - l) = l by omega] at a4
  rw [NNf, PVf, show m - 1 - (m - 1 - l) = l by omega] at e
  refine ⟨?_, a4⟩
  obtain ⟨a4, -⟩ := a4
  generalize (prs (mm l) 1001).length = len at a4 e ⊢
  rw [show max 1 len = len by omega] at e
  have e2 : NNf mm m m t = (X * len + (ST mm m (m - 1 - l) (LF mm m t l)).2) * PVf mm m (m - 1 - l) + NNf mm m (m - 1 - l) (LF mm m t l - (ST mm m (m - 1 - l) (LF mm m t l)).1) := by
    rw [e, Nat.add_mul, Nat.mul_comm (PVf mm m (m - 1 - l)), Nat.mul_assoc]
    omega
  rw [e2, Nat.mul_comm, Nat.mul_add_div (by omega), Nat.div_eq_of_lt hlt, Nat.add_zero, Nat.mul_comm, Nat.mul_add_mod, Nat.mod_eq_of_lt a4]
theorem sub_nn {a b : Nat} (ha : a < 2 ^ 30) (hb : b < 2 ^ 30) : 0 ≤ nI a - nI b ↔ b ≤ a := by
  rw [show nI a - nI b = jN ((a : Int) - (b : Int)) by show Int32.ofInt a - Int32.ofInt b = Int32.ofInt _; exact (Int32.ofInt_sub _ _).symm, show (0 : Int32) = jN 0 from rfl, jN_le (by omega) (by omega)]
  omega
def SCOK (gr li nu st : Nat → Int32) (n m : Nat) (sc pv : Nat → Int64) : Prop := (∀ t, t ≤ 1000 → sc t = SHV (mL gr li nu st n) m m t) ∧ ∀ l, l < m → pv l = lJ (PVf (mL gr li nu st n) m (m - 1 - l) : Int)
theorem mx1 {c : Nat} (h : c < 2 ^ 31) : (if nI 1 < nI c then nI c else nI 1) = nI (max 1 c) := by
  by_cases q : 1 < c
  · rw [if_pos (by rw [nI_ltI (by omega) h]; exact q), show max 1 c = c by omega]
  · rw [if_neg (by rw [nI_ltI (by omega) h]; exact q), show max 1 c = 1 by omega]
theorem pv_mul {p c : Nat} : lJ (p : Int) * lJ (c : Int) = lJ ((p * c : Nat) : Int) := (lJ_mul _ _).trans (congrArg lJ (Int.natCast_mul _ _).symm)
