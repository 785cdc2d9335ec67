/-! pure: sharing -/
def SHs (m rest : Nat → Int) (Ts : List Nat) (t : Nat) : Nat → Int × Nat × Nat
  | 0 => (BIG, 0, 0)
  | i + 1 => if Ts.getD i 0 ≤ t ∧ rest (t - Ts.getD i 0) < BIG ∧ m (Ts.getD i 0) + rest (t - Ts.getD i 0) < (SHs m rest Ts t i).1 then (m (Ts.getD i 0) + rest (t - Ts.getD i 0), Ts.getD i 0, i) else SHs m rest Ts t i
def SV (mm : Nat → Nat → Int) (m : Nat) : Nat → Nat → Int
  | 0, _ => 0
  | r + 1, t => (SHs (mm (m - 1 - r)) (SV mm m r) (prs (mm (m - 1 - r)) 1001) t (prs (mm (m - 1 - r)) 1001).length).1
/-- the time, and the place on the curve, of the leg r before the end -/
def ST (mm : Nat → Nat → Int) (m r t : Nat) : Nat × Nat := (SHs (mm (m - 1 - r)) (SV mm m r) (prs (mm (m - 1 - r)) 1001) t (prs (mm (m - 1 - r)) 1001).length).2
theorem prs_mem (m : Nat → Int) : ∀ t i, i < (prs m t).length → (prs m t).getD i 0 < t ∧ m ((prs m t).getD i 0) < BIG
  | 0, i, h => by simp [prs] at h
  | t + 1, i, h => by
    by_cases q : m t < bst m t
    · rw [(prs_add q).1] at h ⊢
      have hb := bst_le m t
      by_cases e : i = (prs m t).length
      · have : (prs m t ++ [t]).getD i 0 = t := by rw [e]; simp [List.getD]
        rw [this]; exact ⟨by omega, by omega⟩
      · have hl : i < (prs m t).length := by simp at h; omega
        have : (prs m t ++ [t]).getD i 0 = (prs m t).getD i 0 := by simp [List.getD, List.getElem?_append_left hl]
        rw [this]
        have := prs_mem m t i hl
        exact ⟨by omega, this.2⟩
    · rw [(prs_keep q).1] at h ⊢
      have := prs_mem m t i h
      exact ⟨by omega, this.2⟩
theorem prs_lt (m : Nat → Int) : ∀ t i j, i < j → j < (prs m t).length → (prs m t).getD i 0 < (prs m t).getD j 0
  | 0, i, j, _, h => by simp [prs] at h
  | t + 1, i, j, hij, h => by
    by_cases q : m t < bst m t
    · rw [(prs_add q).1] at h ⊢
      have hl : i < (prs m t).length := by simp at h; omega
      have e1 : (prs m t ++ [t]).getD i 0 = (prs m t).getD i 0 := by simp [List.getD, List.getElem?_append_left hl]
      by_cases e : j = (prs m t).length
      · have : (prs m t ++ [t]).getD j 0 = t := by rw [e]; simp [List.getD]
        rw [this, e1]; exact (prs_mem m t i hl).1
      · have hl2 : j < (prs m t).length := by simp at h; omega
        have e2 : (prs m t ++ [t]).getD j 0 = (prs m t).getD j 0 := by simp [List.getD, List.getElem?_append_left hl2]
        rw [e1, e2]; exact prs_lt m t i j hij hl2
    · rw [(prs_keep q).1] at h ⊢
      exact prs_lt m t i j hij h
theorem SHs_yes {m rest : Nat → Int} {Ts : List Nat} {t i T : Nat} (hT : Ts.getD i 0 = T) (h1 : T ≤ t) (h2 : rest (t - T) < BIG) (h3 : m T + rest (t - T) < (SHs m rest Ts t i).1) : SHs m rest Ts t (i + 1) = (m T + rest (t - T), T, i) := by
  subst hT; rw [SHs, if_pos ⟨h1, h2, h3⟩]
theorem SHs_no {m rest : Nat → Int} {Ts : List Nat} {t i T : Nat} (hT : Ts.getD i 0 = T) (h : ¬ (T ≤ t ∧ rest (t - T) < BIG ∧ m T + rest (t - T) < (SHs m rest Ts t i).1)) : SHs m rest Ts t (i + 1) = SHs m rest Ts t i := by
  subst hT; rw [SHs, if_neg h]
theorem SHs_stop {m rest : Nat → Int} {Ts : List Nat} {t i : Nat} : ∀ k, (∀ j, i ≤ j → j < i + k → t < Ts.getD j 0) → SHs m rest Ts t (i + k) = SHs m rest Ts t i
  | 0, _ => rfl
  | k + 1, h => by
    rw [show i + (k + 1) = i + k + 1 by omega, SHs_no rfl (fun q => by have := h (i + k) (by omega) (by omega); omega), SHs_stop k (fun j h1 h2 => h j h1 (by omega))]
theorem SHs_end {m rest : Nat → Int} {M : Nat → Int} {t i : Nat} (hi : i ≤ (prs M 1001).length) (h : i = (prs M 1001).length ∨ t < (prs M 1001).getD i 0) : SHs m rest (prs M 1001) t (prs M 1001).length = SHs m rest (prs M 1001) t i := by
  obtain ⟨k, hk⟩ : ∃ k, (prs M 1001).length = i + k := ⟨_, (Nat.add_sub_cancel' hi).symm⟩
  have e := SHs_stop (m := m) (rest := rest) (Ts := prs M 1001) (t := t) (i := i) k (fun j h1 h2 => by
    rcases h with h | h
    · omega
    · by_cases q : j = i
      · rw [q]; exact h
      · have := prs_lt M 1001 i j (by omega) (by omega); omega)
  rw [← hk] at e
  exact e
theorem SHs_rg {m rest : Nat → Int} {Ts : List Nat} {t : Nat} {A B : Int} (hA : ∀ s, m s = BIG ∨ (-A ≤ m s ∧ m s ≤ A)) (hB : ∀ s, rest s = BIG ∨ (-B ≤ rest s ∧ rest s ≤ B)) : ∀ i, (∀ j, j < i → m (Ts.getD j 0) < BIG) → (SHs m rest Ts t i).1 = BIG ∨ (-(A + B) ≤ (SHs m rest Ts t i).1 ∧ (SHs m rest Ts t i).1 ≤ A + B)
  | 0, _ => Or.inl rfl
  | i + 1, h => by
    by_cases q : Ts.getD i 0 ≤ t ∧ rest (t - Ts.getD i 0) < BIG ∧ m (Ts.getD i 0) + rest (t - Ts.getD i 0) < (SHs m rest Ts t i).1
    · rw [SHs, if_pos q]
      have h1 := h i (by omega)
      have h2 := q.2.1
      rcases hA (Ts.getD i 0) with a | a
      · omega
      · rcases hB (t - Ts.getD i 0) with b | b
        · omega
        · exact Or.inr ⟨by show -(A + B) ≤ m _ + rest _; omega, by show m _ + rest _ ≤ A + B; omega⟩
    · rw [SHs, if_neg q]
      exact SHs_rg hA hB i (fun j hj => h j (by omega))
theorem SHs_le {m rest : Nat → Int} {Ts : List Nat} {t : Nat} : ∀ i, (SHs m rest Ts t i).1 ≤ BIG
  | 0 => Int.le_refl _
  | i + 1 => by
    have ih := SHs_le (m := m) (rest := rest) (Ts := Ts) (t := t) i
    rw [SHs]; split
    · rename_i q
      have := q.2.2
      show m _ + rest _ ≤ BIG
      omega
    · exact ih
theorem SHs_at {m rest : Nat → Int} {Ts : List Nat} {t : Nat} : ∀ i, (SHs m rest Ts t i).1 < BIG → (SHs m rest Ts t i).2.2 < i ∧ (SHs m rest Ts t i).2.1 = Ts.getD (SHs m rest Ts t i).2.2 0 ∧ (SHs m rest Ts t i).2.1 ≤ t ∧ rest (t - (SHs m rest Ts t i).2.1) < BIG
  | 0, h => by simp [SHs] at h
  | i + 1, h => by
    by_cases q : Ts.getD i 0 ≤ t ∧ rest (t - Ts.getD i 0) < BIG ∧ m (Ts.getD i 0) + rest (t - Ts.getD i 0) < (SHs m rest Ts t i).1
    · rw [SHs, if_pos q]
      exact ⟨Nat.lt_succ_self _, rfl, q.1, q.2.1⟩
    · rw [SHs, if_neg q] at h ⊢
      have := SHs_at i h
      exact ⟨by omega, this.2⟩
/-- powers of legs are bounded by their cells -/
def MB (mm : Nat → Nat → Int) (pos : Nat → Nat) (m : Nat) : Prop := (∀ l, l < m → pos l ≤ pos (l + 1) ∧ ∀ t, mm l t = BIG ∨ (-400 * ((pos (l + 1) - pos l : Nat) : Int) ≤ mm l t ∧ mm l t ≤ 400 * ((pos (l + 1) - pos l : Nat) : Int)))
theorem MB_mono {mm : Nat → Nat → Int} {pos : Nat → Nat} {m : Nat} (h : MB mm pos m) {l : Nat} : ∀ k, l + k ≤ m → pos l ≤ pos (l + k)
  | 0, _ => Nat.le_refl _
  | k + 1, hk => Nat.le_trans (MB_mono h k (by omega)) (h (l + k) (by omega)).1
theorem SV_rg {mm : Nat → Nat → Int} {pos : Nat → Nat} {m : Nat} (h : MB mm pos m) : ∀ r, r ≤ m → ∀ t, SV mm m r t = BIG ∨ (-(400 * ((pos m - pos (m - r) : Nat) : Int)) ≤ SV mm m r t ∧ SV mm m r t ≤ 400 * ((pos m - pos (m - r) : Nat) : Int))
  | 0, _, t => Or.inr (by simp [SV])
  | r + 1, hr, t => by
    have hl : m - 1 - r < m := by omega
    obtain ⟨h1, h2⟩ := h (m - 1 - r) hl
    have hm : pos (m - r) ≤ pos m := by
      have := MB_mono h (l := m - r) r (by omega)
      rwa [show m - r + r = m by omega] at this
    rw [show m - 1 - r + 1 = m - r by omega] at h1 h2
    have := SHs_rg (m := mm (m - 1 - r)) (rest := SV mm m r) (Ts := prs (mm (m - 1 - r)) 1001) (t := t) (A := 400 * ((pos (m - r) - pos (m - 1 - r) : Nat) : Int)) (B := 400 * ((pos m - pos (m - r) : Nat) : Int)) (fun s => by rcases h2 s with q | q; (exact Or.inl q); (exact Or.inr (by omega))) (SV_rg h r (by omega)) (prs (mm (m - 1 - r)) 1001).length (fun j hj => (prs_mem _ _ _ hj).2)
    rw [SV]
    rcases this with q | q
    · exact Or.inl q
    · rw [show m - (r + 1) = m - 1 - r by omega]
      exact Or.inr (by omega)
theorem SV_in {mm : Nat → Nat → Int} {pos : Nat → Nat} {m : Nat} (h : MB mm pos m) (hp : pos m ≤ 16) {r : Nat} (hr : r ≤ m) (t : Nat) : inR (SV mm m r t) := by
  rcases SV_rg h r hr t with q | q
  · exact Or.inl q
  · exact Or.inr (by omega)
/-- what is left for the legs from the l-th on -/
def LF (mm : Nat → Nat → Int) (m t : Nat) : Nat → Nat | 0 => t | l + 1 => LF mm m t l - (ST mm m (m - 1 - l) (LF mm m t l)).1
theorem SV_step {mm : Nat → Nat → Int} {m r t : Nat} (h : SV mm m (r + 1) t < BIG) : (ST mm m r t).1 ≤ t ∧ SV mm m r (t - (ST mm m r t).1) < BIG ∧ (ST mm m r t).1 < 1001 := by
  have hm := fun i h => (prs_mem (mm (m - 1 - r)) 1001 i h).1
  rw [SV] at h
  unfold ST
  generalize prs (mm (m - 1 - r)) 1001 = L at h hm ⊢
  obtain ⟨a1, a2, a3, a4⟩ := SHs_at _ h
  exact ⟨a3, a4, by rw [a2]; exact hm _ a1⟩
theorem LF_ok {mm : Nat → Nat → Int} {m t : Nat} (h : SV mm m m t < BIG) : ∀ l, l ≤ m → SV mm m (m - l) (LF mm m t l) < BIG ∧ LF mm m t l ≤ t
  | 0, _ => ⟨h, Nat.le_refl _⟩
  | l + 1, hl => by
    obtain ⟨a, b⟩ := LF_ok h l (by omega)
    rw [show m - l = m - 1 - l + 1 by omega] at a
    have := SV_step a
    rw [LF, show m - (l + 1) = m - 1 - l by omega]
    exact ⟨this.2.1, by omega⟩
def nd (sv : Nat → Int) (p : Int32) : Nat → Nat → Int32 | 0, _ => -1000000 | f + 1, t => if sv t < BIG ∧ jN (sv t) ≤ p then nI t else nd sv p f (t + 1)
theorem nd_no {sv : Nat → Int} {p : Int32} : ∀ k f, (∀ s, s < k → ¬ (sv s < BIG ∧ jN (sv s) ≤ p)) → nd sv p (k + f) 0 = nd sv p f k
  | 0, f, _ => by rw [Nat.zero_add]
  | k + 1, f, h => by
    rw [show k + 1 + f = k + (f + 1) by omega, nd_no k (f + 1) (fun s hs => h s (by omega)), nd, if_neg (h k (by omega))]
/-- the table of sharings is right -/
def SHOK (mm : Nat → Nat → Int) (m : Nat) (sh tt : Nat → Int32) : Prop := ∀ l, l ≤ m → ∀ t, t ≤ 1000 → sh (1001 * l + t) = jN (SV mm m (m - l) t) ∧ (l < m → tt (1001 * l + t) = if SV mm m (m - l) t = BIG then -1000000 else nI (ST mm m (m - 1 - l) t).1)
def SHfrom (mm : Nat → Nat → Int) (m r : Nat) (sh tt : Nat → Int32) : Prop := ∀ l, r ≤ l → l ≤ m → ∀ t, t ≤ 1000 → sh (1001 * l + t) = jN (SV mm m (m - l) t) ∧ (l < m → tt (1001 * l + t) = if SV mm m (m - l) t = BIG then -1000000 else nI (ST mm m (m - 1 - l) t).1)
/-- the row of leg l, up to the time q -/
def SHrow (mm : Nat → Nat → Int) (m l q : Nat) (sh tt : Nat → Int32) : Prop := ∀ t, t < q → sh (1001 * l + t) = jN (SV mm m (m - l) t) ∧ tt (1001 * l + t) = if SV mm m (m - l) t = BIG then -1000000 else nI (ST mm m (m - 1 - l) t).1
/-- one place, after i pairs -/
def SHcell (x : Int × Nat × Nat) (l q : Nat) (sh tt : Nat → Int32) : Prop := sh (1001 * l + q) = jN x.1 ∧ tt (1001 * l + q) = if x.1 = BIG then -1000000 else nI x.2.1
theorem SHfrom_row {mm : Nat → Nat → Int} {m l : Nat} {sh tt : Nat → Int32} (hl : l < m) (h1 : SHfrom mm m (l + 1) sh tt) (h2 : SHrow mm m l 1001 sh tt) : SHfrom mm m l sh tt := fun j h3 h4 t ht => by
  by_cases e : j = l
  · subst e; exact ⟨(h2 t (by omega)).1, fun _ => (h2 t (by omega)).2⟩
  · exact h1 j (by omega) h4 t ht
theorem SHfrom_keep {mm : Nat → Nat → Int} {m l q : Nat} {sh tt sh2 tt2 : Nat → Int32} (hq : q ≤ 1000) (h : SHfrom mm m (l + 1) sh tt) (h1 : ∀ x, x ≠ 1001 * l + q → sh2 x = sh x) (h2 : ∀ x, x ≠ 1001 * l + q → tt2 x = tt x) : SHfrom mm m (l + 1) sh2 tt2 := fun j h3 h4 t ht => by
  rw [h1 _ (by omega), h2 _ (by omega)]; exact h j h3 h4 t ht
theorem SHrow_next {mm : Nat → Nat → Int} {m l q : Nat} {sh tt sh2 tt2 : Nat → Int32} (hl : l < m) (h : SHrow mm m l q sh tt) (h1 : ∀ x, x ≠ 1001 * l + q → sh2 x = sh x) (h2 : ∀ x, x ≠ 1001 * l + q → tt2 x = tt x) (h3 : SHcell (SHs (mm l) (SV mm m (m - 1 - l)) (prs (mm l) 1001) q (prs (mm l) 1001).length) l q sh2 tt2) : SHrow mm m l (q + 1) sh2 tt2 := fun t ht => by
  by_cases e : t = q
  · subst e
    have e1 : SV mm m (m - l) t = (SHs (mm l) (SV mm m (m - 1 - l)) (prs (mm l) 1001) t (prs (mm l) 1001).length).1 := by
      rw [show m - l = m - 1 - l + 1 by omega, SV, show m - 1 - (m - 1 - l) = l by omega]
    have e2 : ST mm m (m - 1 - l) t = (SHs (mm l) (SV mm m (m - 1 - l)) (prs (mm l) 1001) t (prs (mm l) 1001).length).2 := by
      rw [ST, show m - 1 - (m - 1 - l) = l by omega]
    rw [e1, e2]; exact h3
  · rw [h1 _ (by omega), h2 _ (by omega)]; exact h t (by omega)
theorem dn0_iff {r : Nat} (h : r < 2 ^ 30) : nI r + (-1) < 0 ↔ r = 0 := by
  have := dn_iff (a := 0) (r := r) (by omega)
  rwa [Nat.zero_add, nI_0] at this
def aShare (sv : Nat → Int) (t : Int32) : Int32 := if tmP t then (if sv t.toNatClampNeg < BIG then jN (sv t.toNatClampNeg) else -1000000) else -2
def aShT (mm : Nat → Nat → Int) (m : Nat) (t k : Int32) : Int32 := if hcP m k then (if tmP t then (if SV mm m m t.toNatClampNeg < BIG then nI (ST mm m (m - 1 - k.toNatClampNeg) (LF mm m t.toNatClampNeg k.toNatClampNeg)).1 else -1000000) else -2) else -1
theorem mL_MB {gr li nu st sp : Nat → Int32} {n m : Nat} (hT : TrOK nu) (hL : LInv st sp n m) : MB (mL gr li nu st n) (fun j => posOf st j n) m := fun l hl => by
  have h1 := hL.mono hl
  have h2 := (hL.pos (show l + 1 ≤ m by omega)).1
  have h3 := hL.2.1
  refine ⟨Nat.le_of_lt h1, fun t => ?_⟩
  show mL gr li nu st n l t = BIG ∨ _
  unfold mL
  rcases BB_spec (SB_M hT (gr := gr) (li := li)) (posOf st (l + 1) n - posOf st l n) (posOf st l n) 0 t (by omega) with ⟨e, _⟩ | ⟨w, w1, w2, _⟩
  · exact Or.inl e
  · have := PP_bd (SB_M hT (gr := gr) (li := li)) w _ _ w1.2.1
    rw [w1.1] at this
    rw [w2]; exact Or.inr this
theorem SV_nlt {mm : Nat → Nat → Int} {m r t : Nat} : ¬ SV mm m (r + 1) t < BIG → SV mm m (r + 1) t = BIG := fun h => by
  have := SHs_le (m := mm (m - 1 - r)) (rest := SV mm m r) (Ts := prs (mm (m - 1 - r)) 1001) (t := t) (prs (mm (m - 1 - r)) 1001).length
  rw [SV] at h ⊢; omega
