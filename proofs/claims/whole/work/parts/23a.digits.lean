/-! pure: the numbers of sharings -/
def spE (nn : Nat → Nat) (pv t : Nat) (x : Int × Nat × Nat) : Int64 := if x.1 = BIG then 4611686018427387904 else lJ (x.1 * 281474976710656 + ((x.2.2 * pv + nn (t - x.2.1) : Nat) : Int))
theorem spE_step {m rest : Nat → Int} {Ts : List Nat} {nn : Nat → Nat} {pv t i T : Nat} (hT : Ts.getD i 0 = T) (h1 : T ≤ t) (h2 : rest (t - T) < BIG) (hm : -6400 ≤ m T ∧ m T ≤ 6400) (hr : -6400 ≤ rest (t - T) ∧ rest (t - T) ≤ 6400) (hx : (SHs m rest Ts t i).1 = BIG ∨ (-12800 ≤ (SHs m rest Ts t i).1 ∧ (SHs m rest Ts t i).1 ≤ 12800)) (hn : ∀ s, rest s < BIG → nn s < pv) (hp : (i + 1) * pv ≤ 281474976710656) :
    (if lJ (rest (t - T) * 281474976710656 + (nn (t - T) : Int) + (m T * 281474976710656 + ((i * pv : Nat) : Int))) < spE nn pv t (SHs m rest Ts t i) then lJ (rest (t - T) * 281474976710656 + (nn (t - T) : Int) + (m T * 281474976710656 + ((i * pv : Nat) : Int))) else spE nn pv t (SHs m rest Ts t i)) = spE nn pv t (SHs m rest Ts t (i + 1)) := by
  have hnT := hn _ h2
  rw [Nat.succ_mul] at hp
  have hB : BIG = 100000000 := rfl
  have yes : m T + rest (t - T) < (SHs m rest Ts t i).1 → lJ (rest (t - T) * 281474976710656 + (nn (t - T) : Int) + (m T * 281474976710656 + ((i * pv : Nat) : Int))) = spE nn pv t (SHs m rest Ts t (i + 1)) := fun h => by
    rw [SHs_yes hT h1 h2 h]
    show _ = if m T + rest (t - T) = BIG then _ else _
    rw [if_neg (by omega)]
    congr 1
    show _ = (m T + rest (t - T)) * 281474976710656 + ((i * pv + nn (t - T) : Nat) : Int)
    generalize i * pv = P at *
    omega
  by_cases e : (SHs m rest Ts t i).1 = BIG
  · have hv : spE nn pv t (SHs m rest Ts t i) = 4611686018427387904 := if_pos e
    rw [hv, if_pos]
    · exact yes (by omega)
    · rw [lJ_no, lJ_lt] <;> (generalize i * pv = P at *; omega)
  · have hv : spE nn pv t (SHs m rest Ts t i) = lJ ((SHs m rest Ts t i).1 * 281474976710656 + (((SHs m rest Ts t i).2.2 * pv + nn (t - (SHs m rest Ts t i).2.1) : Nat) : Int)) := if_neg e
    have hlt := SHs_le (m := m) (rest := rest) (Ts := Ts) (t := t) i
    obtain ⟨a1, a2, a3, a4⟩ := SHs_at (m := m) (rest := rest) (Ts := Ts) (t := t) i (by omega)
    have hn2 := hn _ a4
    have hmul := Nat.mul_le_mul_right pv (show (SHs m rest Ts t i).2.2 + 1 ≤ i by omega)
    rw [Nat.succ_mul] at hmul
    have hx2 := hx.resolve_left e
    by_cases q : m T + rest (t - T) < (SHs m rest Ts t i).1
    · rw [if_pos]
      · exact yes q
      · rw [hv, lJ_lt] <;> (generalize i * pv = P at *; generalize (SHs m rest Ts t i).2.2 * pv = P2 at *; omega)
    · rw [if_neg, SHs_no hT (fun z => q z.2.2)]
      rw [hv, lJ_lt] <;> (generalize i * pv = P at *; generalize (SHs m rest Ts t i).2.2 * pv = P2 at *; omega)
def PVf (mm : Nat → Nat → Int) (m : Nat) : Nat → Nat | 0 => 1 | r + 1 => PVf mm m r * max 1 (prs (mm (m - 1 - r)) 1001).length
def NNf (mm : Nat → Nat → Int) (m : Nat) : Nat → Nat → Nat | 0, _ => 0 | r + 1, t => (ST mm m r t).2 * PVf mm m r + NNf mm m r (t - (ST mm m r t).1)
def SHV (mm : Nat → Nat → Int) (m r t : Nat) : Int64 := if SV mm m r t = BIG then 4611686018427387904 else lJ (SV mm m r t * 281474976710656 + (NNf mm m r t : Int))
theorem SHV_succ {mm : Nat → Nat → Int} {m r j t : Nat} (h : m - 1 - r = j) : SHV mm m (r + 1) t = spE (NNf mm m r) (PVf mm m r) t (SHs (mm j) (SV mm m r) (prs (mm j) 1001) t (prs (mm j) 1001).length) := by
  subst h
  have e1 : SV mm m (r + 1) t = (SHs (mm (m - 1 - r)) (SV mm m r) (prs (mm (m - 1 - r)) 1001) t (prs (mm (m - 1 - r)) 1001).length).1 := by rw [SV]
  have e2 : ST mm m r t = (SHs (mm (m - 1 - r)) (SV mm m r) (prs (mm (m - 1 - r)) 1001) t (prs (mm (m - 1 - r)) 1001).length).2 := by rw [ST]
  rw [SHV, spE, NNf, e1, e2]
theorem SHV_0 {mm : Nat → Nat → Int} {m t : Nat} : SHV mm m 0 t = 0 := by
  show (if (0 : Int) = BIG then _ else lJ (0 * 281474976710656 + ((0 : Nat) : Int))) = 0
  rw [if_neg (by decide)]; decide
theorem ST_at {mm : Nat → Nat → Int} {m r t : Nat} (h : SV mm m (r + 1) t < BIG) : (ST mm m r t).2 < (prs (mm (m - 1 - r)) 1001).length ∧ (ST mm m r t).1 = (prs (mm (m - 1 - r)) 1001).getD (ST mm m r t).2 0 := by
  rw [SV] at h
  unfold ST
  generalize prs (mm (m - 1 - r)) 1001 = L at h ⊢
  obtain ⟨a1, a2, a3, a4⟩ := SHs_at _ h
  exact ⟨a1, a2⟩
