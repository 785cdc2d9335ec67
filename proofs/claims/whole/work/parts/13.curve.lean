/-! pure: the pairs of a curve, the first best way -/
def bst (m : Nat → Int) : Nat → Int | 0 => BIG | t + 1 => if m t < bst m t then m t else bst m t
def prs (m : Nat → Int) : Nat → List Nat | 0 => [] | t + 1 => if m t < bst m t then prs m t ++ [t] else prs m t
def lastI (l : List Nat) : Int32 := match l.getLast? with | none => -1000000 | some x => nI x
def lastP (m : Nat → Int) (l : List Nat) : Int32 := match l.getLast? with | none => -1000000 | some x => jN (m x)
def headI (l : List Nat) : Int32 := match l.head? with | none => -1000000 | some x => nI x
theorem bst_le (m : Nat → Int) : ∀ t, bst m t ≤ BIG
  | 0 => Int.le_refl _
  | t + 1 => by
    have := bst_le m t
    rw [bst]; split <;> omega
theorem prs_add {m : Nat → Int} {t : Nat} (h : m t < bst m t) : prs m (t + 1) = prs m t ++ [t] ∧ bst m (t + 1) = m t := by rw [prs, bst, if_pos h, if_pos h]; exact ⟨rfl, rfl⟩
theorem prs_keep {m : Nat → Int} {t : Nat} (h : ¬ m t < bst m t) : prs m (t + 1) = prs m t ∧ bst m (t + 1) = bst m t := by rw [prs, bst, if_neg h, if_neg h]; exact ⟨rfl, rfl⟩
theorem prs_len (m : Nat → Int) : ∀ t, (prs m t).length ≤ t
  | 0 => Nat.le_refl _
  | t + 1 => by
    have := prs_len m t
    by_cases h : m t < bst m t
    · rw [(prs_add h).1]; simp; omega
    · rw [(prs_keep h).1]; omega
theorem prs_last (m : Nat → Int) : ∀ t, (prs m t = [] ∧ bst m t = BIG) ∨ ∃ l x, prs m t = l ++ [x] ∧ x < t ∧ m x = bst m t ∧ m x < BIG
  | 0 => Or.inl ⟨rfl, rfl⟩
  | t + 1 => by
    by_cases h : m t < bst m t
    · have := bst_le m t
      exact Or.inr ⟨prs m t, t, (prs_add h).1, by omega, (prs_add h).2.symm, by omega⟩
    · rcases prs_last m t with ⟨a, b⟩ | ⟨l, x, a, b, c, d⟩
      · exact Or.inl ⟨(prs_keep h).1.trans a, (prs_keep h).2.trans b⟩
      · exact Or.inr ⟨l, x, (prs_keep h).1.trans a, by omega, c.trans (prs_keep h).2.symm, d⟩
theorem prs_pre (m : Nat → Int) (t : Nat) : ∀ k, ∃ l, prs m (t + k) = prs m t ++ l
  | 0 => ⟨[], by simp⟩
  | k + 1 => by
    obtain ⟨l, e⟩ := prs_pre m t k
    by_cases h : m (t + k) < bst m (t + k)
    · exact ⟨l ++ [t + k], by rw [show t + (k + 1) = t + k + 1 by omega, (prs_add h).1, e, List.append_assoc]⟩
    · exact ⟨l, by rw [show t + (k + 1) = t + k + 1 by omega, (prs_keep h).1, e]⟩
theorem prs_stop {m : Nat → Int} {t : Nat} (h : ∀ s, t ≤ s → m s = BIG) : ∀ k, prs m (t + k) = prs m t
  | 0 => rfl
  | k + 1 => by
    have := bst_le m (t + k)
    have := h (t + k) (by omega)
    rw [show t + (k + 1) = t + k + 1 by omega, (prs_keep (by omega)).1, prs_stop h k]
theorem prs_none {m : Nat → Int} : ∀ t, (∀ s, s < t → m s = BIG) → prs m t = []
  | 0, _ => rfl
  | t + 1, h => by
    have := bst_le m t
    have := h t (by omega)
    rw [(prs_keep (by omega)).1, prs_none t (fun s hs => h s (by omega))]
theorem headI_of {m : Nat → Int} {t : Nat} (h : ∀ s, s < t → m s = BIG) (ht : m t < BIG) {T : Nat} (hT : t < T) : headI (prs m T) = nI t := by
  have e := prs_none t h
  have eb : bst m t = BIG := by
    rcases prs_last m t with ⟨_, b⟩ | ⟨l, x, a, _⟩
    · exact b
    · rw [e] at a; simp at a
  have e1 := (prs_add (m := m) (t := t) (by rw [eb]; exact ht)).1
  rw [e] at e1
  obtain ⟨l, e2⟩ := prs_pre m (t + 1) (T - (t + 1))
  rw [show t + 1 + (T - (t + 1)) = T by omega, e1] at e2
  rw [headI, e2]; rfl
theorem lastI_nil {l : List Nat} (h : l = []) : lastI l = -1000000 := by rw [h]; rfl
theorem lastI_snoc (l : List Nat) (x : Nat) : lastI (l ++ [x]) = nI x := by simp [lastI]
theorem lastP_snoc (m : Nat → Int) (l : List Nat) (x : Nat) : lastP m (l ++ [x]) = jN (m x) := by simp [lastP]
def DRW (m : Nat → Int) (T np : Nat) (pt pp : Nat → Int32) : Prop := np = (prs m T).length ∧ ∀ i, i < np → pt i = nI ((prs m T).getD i 0) ∧ pp i = jN (m ((prs m T).getD i 0))
theorem DRW_keep {m : Nat → Int} {T np : Nat} {pt pp : Nat → Int32} (h : ¬ m T < bst m T) (d : DRW m T np pt pp) : DRW m (T + 1) np pt pp := by
  unfold DRW; rw [(prs_keep h).1]; exact d
theorem DRW_add {m : Nat → Int} {T np : Nat} {pt pp : Nat → Int32} (h : m T < bst m T) (d : DRW m T np pt pp) : DRW m (T + 1) (np + 1) (upd pt np (nI T)) (upd pp np (jN (m T))) := by
  obtain ⟨d1, d2⟩ := d
  unfold DRW
  rw [(prs_add h).1]
  refine ⟨by simp [d1], fun i hi => ?_⟩
  by_cases e : i = np
  · subst e
    have : (prs m T ++ [T]).getD i 0 = T := by rw [d1]; simp [List.getD]
    rw [this]; exact ⟨pk_us, pk_us⟩
  · have hlt : i < (prs m T).length := by omega
    have : (prs m T ++ [T]).getD i 0 = (prs m T).getD i 0 := by simp [List.getD, List.getElem?_append_left hlt]
    rw [this, pk_un e, pk_un e]; exact d2 i (by omega)
theorem DRW_last {m : Nat → Int} {T np : Nat} {pt pp : Nat → Int32} (d : DRW m T np pt pp) (h : 0 < np) : pp (np - 1) = jN (bst m T) := by
  obtain ⟨d1, d2⟩ := d
  rcases prs_last m T with ⟨a, _⟩ | ⟨l, x, a, _, c, _⟩
  · rw [a] at d1; simp at d1; omega
  · rw [(d2 (np - 1) (by omega)).2, ← c]
    congr 2
    rw [d1, a]; simp [List.getD]
theorem DRW_0 {m : Nat → Int} {T np : Nat} {pt pp : Nat → Int32} (d : DRW m T np pt pp) (h : np = 0) : bst m T = BIG := by
  rcases prs_last m T with ⟨_, b⟩ | ⟨l, x, a, _⟩
  · exact b
  · have := d.1; rw [a] at this; simp at this; omega
/-- the best way of a time, the first by speeds -/
def LX (ok : Nat → Nat → Nat → Bool) (pw : Nat → Nat → Nat → Int) (n k u t i : Nat) (l : List Nat) : Prop := WY ok n k u t l ∧ PP pw k u l = BB ok pw n k u t ∧ ∀ l', WY ok n k u t l' → PP pw k u l' = BB ok pw n k u t → EN i l ≤ EN i l'
theorem LX_ex {ok : Nat → Nat → Nat → Bool} {pw : Nat → Nat → Nat → Int} (h : SB ok pw) {n k u t : Nat} (i : Nat) (hn : n ≤ 16) (hb : BB ok pw n k u t < BIG) : ∃ l, LX ok pw n k u t i l := by
  rcases BB_spec h n k u t hn with ⟨e, _⟩ | ⟨l, h1, h2, _⟩
  · omega
  · obtain ⟨x, ⟨l2, a1, a2, a3⟩, hx⟩ := pk_least (fun x => ∃ l, WY ok n k u t l ∧ PP pw k u l = BB ok pw n k u t ∧ EN i l = x) ⟨EN i l, l, h1, h2.symm, rfl⟩
    refine ⟨l2, a1, a2, fun l' h3 h4 => ?_⟩
    rw [a3]
    rcases Nat.lt_or_ge (EN i l') x with q | q
    · exact absurd ⟨l', h3, h4, rfl⟩ (hx _ q)
    · exact q
/-- whether a step lies on a best way -/
def onW (ok : Nat → Nat → Nat → Bool) (pw : Nat → Nat → Nat → Int) (k u v t : Nat) (b : Nat → Int) (x : Int) : Prop := ok k u v = true ∧ tmN u v ≤ t ∧ b (t - tmN u v) < BIG ∧ pw k u v + b (t - tmN u v) = x
theorem BB_lb {ok : Nat → Nat → Nat → Bool} {pw : Nat → Nat → Nat → Int} (h : SB ok pw) {n k u t : Nat} {l : List Nat} (hn : n ≤ 16) (hl : WY ok n k u t l) : BB ok pw n k u t ≤ PP pw k u l ∧ BB ok pw n k u t < BIG := by
  rcases BB_spec h n k u t hn with ⟨_, e⟩ | ⟨l2, h1, h2, h3⟩
  · exact absurd hl (e l)
  · have a := h3 l hl
    have b := PP_bd h l k u hl.2.1
    rw [hl.1] at b
    have : (n : Int) ≤ 16 := by omega
    have : BIG = 100000000 := rfl
    rw [h2]; omega
theorem LX_on {ok : Nat → Nat → Nat → Bool} {pw : Nat → Nat → Nat → Int} (h : SB ok pw) {n k u t i v : Nat} {l : List Nat} (hn : n + 1 ≤ 16) (hl : LX ok pw (n + 1) k u t i (v :: l)) : onW ok pw k u v t (fun s => BB ok pw n (k + 1) v s) (BB ok pw (n + 1) k u t) ∧ LX ok pw n (k + 1) v (t - tmN u v) (i + 1) l ∧ v ≤ 6 ∧ (n ≠ 0 → 1 ≤ v) := by
  obtain ⟨⟨h1, ⟨a1, a2, a3, a4⟩, h3⟩, h4, h5⟩ := hl
  have hlen : l.length = n := by simpa using h1
  have h3' : tmN u v + PT v l = t := h3
  have hw : WY ok n (k + 1) v (t - tmN u v) l := ⟨hlen, a4, by omega⟩
  have hb := BB_lb h (by omega) hw
  have hpp : pw k u v + PP pw (k + 1) v l = BB ok pw (n + 1) k u t := h4
  -- the rest is a best one
  have hext : ∀ l', WY ok n (k + 1) v (t - tmN u v) l' → (l' ≠ [] → 1 ≤ v) → WY ok (n + 1) k u t (v :: l') := fun l' hl' q => ⟨by simp [hl'.1], ⟨a1, a2, q, hl'.2.1⟩, by show tmN u v + PT v l' = t; have := hl'.2.2; omega⟩
  have hq : ∀ l', WY ok n (k + 1) v (t - tmN u v) l' → (l' ≠ [] → 1 ≤ v) := fun l' hl' q => a3 (fun z => q (List.length_eq_zero_iff.mp (by rw [hl'.1, ← hlen, z]; rfl)))
  have heq : PP pw (k + 1) v l = BB ok pw n (k + 1) v (t - tmN u v) := by
    rcases BB_spec h n (k + 1) v (t - tmN u v) (by omega) with ⟨_, e⟩ | ⟨l2, g1, g2, g3⟩
    · exact absurd hw (e l)
    · have := (BB_lb h hn (hext l2 g1 (hq l2 g1))).1
      have e2 : PP pw k u (v :: l2) = pw k u v + PP pw (k + 1) v l2 := rfl
      have := g3 l hw
      omega
  refine ⟨⟨a1, by omega, hb.2, by show pw k u v + BB ok pw n (k + 1) v (t - tmN u v) = _; omega⟩, ⟨hw, heq, fun l' hl' e => ?_⟩, a2, fun z => a3 (fun q => by rw [q] at hlen; exact z hlen.symm)⟩
  have := h5 (v :: l') (hext l' hl' (hq l' hl')) (by show pw k u v + PP pw (k + 1) v l' = _; omega)
  simp only [EN] at this
  omega
theorem LX_less {ok : Nat → Nat → Nat → Bool} {pw : Nat → Nat → Nat → Int} (h : SB ok pw) {n k u t i v v' : Nat} {l : List Nat} (hn : n + 1 ≤ 16) (hi : i + (n + 1) ≤ 16) (hl : LX ok pw (n + 1) k u t i (v :: l)) (hv : v' < v) (hv1 : n ≠ 0 → 1 ≤ v') : ¬ onW ok pw k u v' t (fun s => BB ok pw n (k + 1) v' s) (BB ok pw (n + 1) k u t) := by
  rintro ⟨b1, b2, b3, b4⟩
  have hv6 := (LX_on h hn hl).2.2.1
  rcases BB_spec h n (k + 1) v' (t - tmN u v') (by omega) with ⟨e, _⟩ | ⟨l2, g1, g2, g3⟩
  · exact absurd b3 (by show ¬ BB ok pw n (k + 1) v' (t - tmN u v') < BIG; omega)
  · have b4' : pw k u v' + BB ok pw n (k + 1) v' (t - tmN u v') = BB ok pw (n + 1) k u t := b4
    have hw : WY ok (n + 1) k u t (v' :: l2) := ⟨by simp [g1.1], ⟨b1, by omega, fun q => hv1 (fun z => q (List.length_eq_zero_iff.mp (by rw [g1.1]; exact z))), g1.2.1⟩, by show tmN u v' + PT v' l2 = t; have := g1.2.2; omega⟩
    have := hl.2.2 (v' :: l2) hw (by show pw k u v' + PP pw (k + 1) v' l2 = _; omega)
    simp only [EN] at this
    have hlt : EN (i + 1) l2 < 8 ^ (15 - i) := by
      have := EN_lt l2 (i + 1) (PO_7 l2 (k + 1) v' g1.2.1) (by rw [g1.1]; omega)
      rwa [show 16 - (i + 1) = 15 - i by omega] at this
    have : (v' + 1) * 8 ^ (15 - i) ≤ v * 8 ^ (15 - i) := Nat.mul_le_mul_right _ hv
    rw [Nat.add_mul] at this
    omega
theorem EN_inj : ∀ (l l' : List Nat) (i : Nat), l.length = l'.length → i + l.length ≤ 16 → (∀ x ∈ l, x ≤ 7) → (∀ x ∈ l', x ≤ 7) → EN i l = EN i l' → l = l'
  | [], [], _, _, _, _, _, _ => rfl
  | v :: l, w :: l', i, h1, h2, h3, h4, h5 => by
    simp only [List.length_cons] at h1 h2
    have a := EN_lt l (i + 1) (fun x hx => h3 x (List.mem_cons_of_mem _ hx)) (by omega)
    have b := EN_lt l' (i + 1) (fun x hx => h4 x (List.mem_cons_of_mem _ hx)) (by omega)
    rw [show 16 - (i + 1) = 15 - i by omega] at a b
    simp only [EN] at h5
    have hvw : v = w := by
      rcases Nat.lt_trichotomy v w with q | q | q
      · have : (v + 1) * 8 ^ (15 - i) ≤ w * 8 ^ (15 - i) := Nat.mul_le_mul_right _ q
        rw [Nat.add_mul] at this; omega
      · exact q
      · have : (w + 1) * 8 ^ (15 - i) ≤ v * 8 ^ (15 - i) := Nat.mul_le_mul_right _ q
        rw [Nat.add_mul] at this; omega
    subst hvw
    rw [EN_inj l l' (i + 1) (by omega) (by omega) (fun x hx => h3 x (List.mem_cons_of_mem _ hx)) (fun x hx => h4 x (List.mem_cons_of_mem _ hx)) (by omega)]
theorem LX_uniq {ok : Nat → Nat → Nat → Bool} {pw : Nat → Nat → Nat → Int} {n k u t i : Nat} {l l' : List Nat} (hi : i + n ≤ 16) (h : LX ok pw n k u t i l) (h' : LX ok pw n k u t i l') : l = l' := by
  have a := h.2.2 l' h'.1 h'.2.1
  have b := h'.2.2 l h.1 h.2.1
  exact EN_inj l l' i (by rw [h.1.1, h'.1.1]) (by rw [h.1.1]; exact hi) (PO_7 l k u h.1.2.1) (PO_7 l' k u h'.1.2.1) (by omega)
theorem lastS_take_succ : ∀ (l : List Nat) (i u : Nat), i < l.length → lastS u (l.take (i + 1)) = l.getD i 0
  | v :: l, 0, u, _ => by simp [lastS]
  | v :: l, i + 1, u, h => by
    have := lastS_take_succ l i v (by simpa using h)
    simp only [List.take_succ_cons, lastS]
    rw [this]; simp [List.getD]
/-- the powers of a leg by time -/
def mL (gr li nu st : Nat → Int32) (n j : Nat) : Nat → Int := fun t => BB (okM gr li nu) (pwM gr nu) (posOf st (j + 1) n - posOf st j n) (posOf st j n) 0 t
theorem mL_rg {gr li nu st : Nat → Int32} {n j : Nat} (hT : TrOK nu) (hn : posOf st (j + 1) n ≤ 16) (t : Nat) : inR (mL gr li nu st n j t) := BB_rg (SB_M hT) (by omega)
theorem in_hc0 {n : Nat} {k : Int32} (h2 : n < 2 ^ 30) : (¬ k < nI 0 ∧ ¬ nI n - nI 1 < k) ↔ hcP n k := by
  rcases Nat.eq_zero_or_pos n with e | e
  · subst e
    rw [nI_0]
    refine ⟨fun ⟨a, b⟩ => absurd (Int32.lt_of_lt_of_le (by decide) (Int32.not_lt.mp a)) b, fun ⟨a, b⟩ => absurd (Int32.not_lt.mp a) b⟩
  · rw [pk_sub e]; exact in_hc e (by omega)
theorem jbig {z : Int} (h : inR z) : (100000000 : Int32) ≤ jN z ↔ z = BIG := by
  have hB : BIG = 100000000 := rfl
  rw [← jN_big, jN_le (by omega) (by rcases h with h | h <;> omega)]
  rcases h with h | h <;> omega
theorem nI_gt {x : Nat} (hx : x ≤ 1000) : ¬ nI x = -1000000 := nI_nn (by omega)
