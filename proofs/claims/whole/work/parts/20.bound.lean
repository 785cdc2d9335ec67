/-! pure: the curves of all legs, one behind the other -/
def nL (st : Nat → Int32) (n j : Nat) : Nat := posOf st (j + 1) n - posOf st j n
theorem mL_way {gr li nu st : Nat → Int32} (hT : TrOK nu) {n j t : Nat} (hn : nL st n j ≤ 16) (h : mL gr li nu st n j t ≠ BIG) : ∃ l, WY (okM gr li nu) (nL st n j) (posOf st j n) 0 t l := by
  rcases BB_spec (SB_M hT (gr := gr) (li := li)) (nL st n j) (posOf st j n) 0 t hn with ⟨e, _⟩ | ⟨l, h1, _⟩
  · exact absurd e h
  · exact ⟨l, h1⟩
theorem mL_far {gr li nu st : Nat → Int32} (hT : TrOK nu) {n j : Nat} (hn : nL st n j ≤ 16) (h1 : 1 ≤ nL st n j) : (∀ t, 30 * nL st n j + 61 ≤ t → mL gr li nu st n j t = BIG) ∧ (nL st n j = 1 → ∀ t, mL gr li nu st n j t = BIG) ∧ (nL st n j = 2 → ∀ t, t % 2 = 1 ∨ 121 ≤ t → mL gr li nu st n j t = BIG) := by
  refine ⟨fun t ht => ?_, fun h t => ?_, fun h t ht => ?_⟩ <;> refine Classical.byContradiction fun hx => ?_ <;> obtain ⟨l, hl⟩ := mL_way hT hn hx <;> have := WY_t (SB_M hT) hl h1
  · omega
  · omega
  · have := this.2.2 h; omega
theorem cv_541 {gr li nu st : Nat → Int32} (hT : TrOK nu) {n j : Nat} (hn : nL st n j ≤ 16) (h1 : 1 ≤ nL st n j) : prs (mL gr li nu st n j) 1001 = prs (mL gr li nu st n j) 541 := by
  have := prs_stop (m := mL gr li nu st n j) (t := 541) (fun s hs => (mL_far hT hn h1).1 s (by omega)) 460
  exact this
theorem cv_len {gr li nu st : Nat → Int32} (hT : TrOK nu) {n j : Nat} (hn : nL st n j ≤ 16) (h1 : 1 ≤ nL st n j) : (nL st n j = 1 → (prs (mL gr li nu st n j) 1001).length = 0) ∧ (prs (mL gr li nu st n j) 1001).length ≤ 30 * nL st n j + 61 ∧ (prs (mL gr li nu st n j) 1001).length ≤ 8 ^ nL st n j := by
  obtain ⟨f1, f2, f3⟩ := mL_far (gr := gr) (li := li) hT hn h1
  have a1 : nL st n j = 1 → (prs (mL gr li nu st n j) 1001).length = 0 := fun h => by rw [prs_none _ (fun s _ => f2 h s)]; rfl
  have a2 : (prs (mL gr li nu st n j) 1001).length ≤ 30 * nL st n j + 61 := by
    have e := prs_stop (m := mL gr li nu st n j) (t := 30 * nL st n j + 61) f1 (1001 - (30 * nL st n j + 61))
    rw [show 30 * nL st n j + 61 + (1001 - (30 * nL st n j + 61)) = 1001 by omega] at e
    rw [e]; exact prs_len _ _
  refine ⟨a1, a2, ?_⟩
  rcases Nat.lt_or_ge (nL st n j) 3 with q | q
  · by_cases z : nL st n j = 1
    · rw [a1 z]; exact Nat.zero_le _
    · have z2 : nL st n j = 2 := by omega
      have e := prs_stop (m := mL gr li nu st n j) (t := 121) (fun s hs => f3 z2 s (Or.inr hs)) 880
      have e2 := prs_half (m := mL gr li nu st n j) (fun t ht => f3 z2 t (Or.inl ht)) 121
      have e3 : (prs (mL gr li nu st n j) 1001).length = (prs (mL gr li nu st n j) 121).length := congrArg List.length e
      rw [e3, z2]
      omega
  · have key : ∀ k, k ≤ 16 → 3 ≤ k → 30 * k + 61 ≤ 8 ^ k := by decide
    exact Nat.le_trans a2 (key _ hn q)
/-- where the curve of a leg begins -/
def offL (len : Nat → Nat) : Nat → Nat | 0 => 0 | j + 1 => offL len j + len j
abbrev cvl (gr li nu st : Nat → Int32) (n : Nat) : Nat → Nat := fun j => (prs (mL gr li nu st n j) 1001).length
theorem nL_rg {st sp : Nat → Int32} {n m j : Nat} (hL : LInv st sp n m) (hj : j < m) : 1 ≤ nL st n j ∧ nL st n j ≤ 16 ∧ posOf st (j + 1) n = posOf st j n + nL st n j ∧ posOf st (j + 1) n ≤ 16 := by
  have a := hL.mono hj
  have b := (hL.pos (show j + 1 ≤ m by omega)).1
  have c := hL.2.1
  unfold nL; omega
theorem off_le {gr li nu st sp : Nat → Int32} {n m : Nat} (hT : TrOK nu) (hL : LInv st sp n m) : ∀ j, j ≤ m → offL (cvl gr li nu st n) j ≤ 30 * posOf st j n + 61 * (posOf st j n / 2)
  | 0, _ => Nat.zero_le _
  | j + 1, hj => by
    have ih := off_le (gr := gr) (li := li) hT hL j (by omega)
    obtain ⟨a1, a2, a3, a4⟩ := nL_rg hL (show j < m by omega)
    have c := cv_len (gr := gr) (li := li) hT a2 a1
    rw [offL]
    have e : cvl gr li nu st n j = (prs (mL gr li nu st n j) 1001).length := rfl
    by_cases z : nL st n j = 1
    · have := c.1 z; omega
    · have := c.2.1; omega
theorem off_968 {gr li nu st sp : Nat → Int32} {n m j : Nat} (hT : TrOK nu) (hL : LInv st sp n m) (hj : j ≤ m) : offL (cvl gr li nu st n) j ≤ 968 := by
  have a := off_le (gr := gr) (li := li) hT hL j hj
  have b := (hL.pos hj).1
  have c := hL.2.1
  omega
/-- the curves of the legs below j are laid down -/
def WPart (gr li nu st : Nat → Int32) (n j : Nat) (fp ti : Nat → Int32) (wc : Nat → Int64) : Prop := ∀ i, i < j → fp i = nI (offL (cvl gr li nu st n) i) ∧ ∀ k, k < cvl gr li nu st n i → ti (offL (cvl gr li nu st n) i + k) = nI ((prs (mL gr li nu st n i) 1001).getD k 0) ∧ ∃ l, LX (okM gr li nu) (pwM gr nu) (nL st n i) (posOf st i n) 0 ((prs (mL gr li nu st n i) 1001).getD k 0) 0 l ∧ wc (offL (cvl gr li nu st n) i + k) = lJ (CO (pwM gr nu) (posOf st i n) l)
def WOK (gr li nu st : Nat → Int32) (n m : Nat) (fp ti : Nat → Int32) (wc : Nat → Int64) : Prop := WPart gr li nu st n m fp ti wc ∧ fp m = nI (offL (cvl gr li nu st n) m)
theorem off_mono (len : Nat → Nat) {a b : Nat} (h : a ≤ b) : offL len a ≤ offL len b := by
  induction b with
  | zero => rw [show a = 0 by omega]; exact Nat.le_refl _
  | succ b ih =>
    by_cases e : a = b + 1
    · rw [e]; exact Nat.le_refl _
    · exact Nat.le_trans (ih (by omega)) (by rw [offL]; omega)
theorem WPart_next {gr li nu st : Nat → Int32} {n j : Nat} {fp ti fp2 ti2 : Nat → Int32} {wc wc2 : Nat → Int64} (h : WPart gr li nu st n j fp ti wc) (hf : ∀ i, i < j → fp2 i = fp i) (hf2 : fp2 j = nI (offL (cvl gr li nu st n) j)) (hk : ∀ i, i < offL (cvl gr li nu st n) j → ti2 i = ti i ∧ wc2 i = wc i)
    (hd : ∀ k, k < cvl gr li nu st n j → ti2 (offL (cvl gr li nu st n) j + k) = nI ((prs (mL gr li nu st n j) 1001).getD k 0) ∧ ∃ l, LX (okM gr li nu) (pwM gr nu) (nL st n j) (posOf st j n) 0 ((prs (mL gr li nu st n j) 1001).getD k 0) 0 l ∧ wc2 (offL (cvl gr li nu st n) j + k) = lJ (CO (pwM gr nu) (posOf st j n) l)) : WPart gr li nu st n (j + 1) fp2 ti2 wc2 := fun i hi => by
  by_cases e : i = j
  · subst e; exact ⟨hf2, hd⟩
  · obtain ⟨a, b⟩ := h i (by omega)
    refine ⟨(hf i (by omega)).trans a, fun k hkk => ?_⟩
    have hlt : offL (cvl gr li nu st n) i + k < offL (cvl gr li nu st n) j := by
      have := off_mono (cvl gr li nu st n) (show i + 1 ≤ j by omega)
      rw [offL] at this; omega
    obtain ⟨c, l, d1, d2⟩ := b k hkk
    exact ⟨(hk _ hlt).1.trans c, l, d1, (hk _ hlt).2.trans d2⟩
/-- how many pairs take t at most -/
theorem prs_cut {m : Nat → Int} {t i : Nat} (ht : t ≤ 1000) (hi : i < (prs m 1001).length) : (prs m 1001).getD i 0 ≤ t ↔ i < (prs m (t + 1)).length := by
  obtain ⟨l, e⟩ := prs_pre m (t + 1) (1000 - t)
  rw [show t + 1 + (1000 - t) = 1001 by omega] at e
  constructor
  · intro h
    rcases Nat.lt_or_ge i (prs m (t + 1)).length with q | q
    · exact q
    · -- a pair behind the first ones comes later than t
      have key : ∀ k, k ≤ 1000 - t → ∀ i, (prs m (t + 1)).length ≤ i → i < (prs m (t + 1 + k)).length → t < (prs m (t + 1 + k)).getD i 0 := by
        intro k
        induction k with
        | zero => intro _ i h1 h2; rw [Nat.add_zero] at h2; omega
        | succ k ih =>
          intro hk i h1 h2
          by_cases z : m (t + 1 + k) < bst m (t + 1 + k)
          · rw [show t + 1 + (k + 1) = t + 1 + k + 1 by omega, (prs_add z).1] at h2 ⊢
            by_cases w : i = (prs m (t + 1 + k)).length
            · rw [w]; simp [List.getD]; omega
            · have h3 : i < (prs m (t + 1 + k)).length := by simp at h2; omega
              have := ih (by omega) i h1 h3
              simpa [List.getD, List.getElem?_append_left h3] using this
          · rw [show t + 1 + (k + 1) = t + 1 + k + 1 by omega, (prs_keep z).1] at h2 ⊢
            exact ih (by omega) i h1 h2
      have := key (1000 - t) (Nat.le_refl _) i q (by rw [show t + 1 + (1000 - t) = 1001 by omega]; exact hi)
      rw [show t + 1 + (1000 - t) = 1001 by omega] at this
      omega
  · intro h
    have e2 : (prs m 1001).getD i 0 = (prs m (t + 1)).getD i 0 := by rw [e]; simp [List.getD, List.getElem?_append_left h]
    rw [e2]
    have := (prs_mem m (t + 1) i h).1
    omega
theorem prs_lastI {m : Nat → Int} {t : Nat} (ht : t ≤ 1000) : ((prs m (t + 1)).length = 0 ∧ lastI (prs m (t + 1)) = -1000000 ∧ lastP m (prs m (t + 1)) = -1000000) ∨ (0 < (prs m (t + 1)).length ∧ (prs m (t + 1)).length ≤ (prs m 1001).length ∧ lastI (prs m (t + 1)) = nI ((prs m 1001).getD ((prs m (t + 1)).length - 1) 0) ∧ lastP m (prs m (t + 1)) = jN (m ((prs m 1001).getD ((prs m (t + 1)).length - 1) 0))) := by
  obtain ⟨l, e⟩ := prs_pre m (t + 1) (1000 - t)
  rw [show t + 1 + (1000 - t) = 1001 by omega] at e
  rcases prs_last m (t + 1) with ⟨a, _⟩ | ⟨l2, x, a, b, c, d⟩
  · exact Or.inl ⟨by rw [a]; rfl, by rw [a]; rfl, by rw [a]; rfl⟩
  · have hx : (prs m 1001).getD ((prs m (t + 1)).length - 1) 0 = x := by rw [e, a]; simp [List.getD]
    refine Or.inr ⟨by rw [a]; simp, by rw [e]; simp, ?_, ?_⟩
    · rw [hx, a, lastI_snoc]
    · rw [hx, a, lastP_snoc]
theorem shl8 {y c : Nat} (hc : c ≤ 15) : lJ (y : Int) <<< ((nI (3 * (16 - (c + 1)))).toInt64 &&& 63) = lJ ((y * 8 ^ (15 - c) : Nat) : Int) := by
  rw [lJ_shl _ (by omega)]
  congr 1
  rw [show 3 * (16 - (c + 1)) = 3 * (15 - c) by omega, Nat.pow_mul]
  push_cast
  rfl
theorem nI_lJ {n : Nat} (h : n < 2 ^ 31) : (nI n).toInt64 = lJ (n : Int) := nI_l h
/-- the speed at a post, out of the number -/
theorem EN_dig : ∀ (l : List Nat) (i k : Nat), (∀ x ∈ l, x ≤ 7) → i + l.length ≤ 16 → k < l.length → EN i l / 8 ^ (15 - (i + k)) % 8 = l.getD k 0
  | v :: l, i, 0, h, hl, _ => by
    simp only [List.length_cons] at hl
    have a := EN_lt l (i + 1) (fun x hx => h x (List.mem_cons_of_mem _ hx)) (by omega)
    rw [show 16 - (i + 1) = 15 - i by omega] at a
    have b := h v List.mem_cons_self
    simp only [EN, Nat.add_zero]
    rw [Nat.add_comm, Nat.add_mul_div_right _ _ (Nat.pow_pos (by decide)), Nat.div_eq_of_lt a, Nat.zero_add]
    exact Nat.mod_eq_of_lt (by omega)
  | v :: l, i, k + 1, h, hl, hk => by
    simp only [List.length_cons] at hl hk
    have ih := EN_dig l (i + 1) k (fun x hx => h x (List.mem_cons_of_mem _ hx)) (by omega) (by omega)
    rw [show i + 1 + k = i + (k + 1) by omega] at ih
    have e : (v :: l).getD (k + 1) 0 = l.getD k 0 := by simp [List.getD]
    rw [e, ← ih]
    simp only [EN]
    rw [show 15 - i = (15 - (i + (k + 1))) + (k + 1) by omega, Nat.pow_add, Nat.add_comm, Nat.mul_comm (8 ^ (15 - (i + (k + 1)))), ← Nat.mul_assoc, Nat.add_mul_div_right _ _ (Nat.pow_pos (by decide)), Nat.pow_succ, ← Nat.mul_assoc, Nat.add_mul_mod_self_right]
theorem CO_dig {pw : Nat → Nat → Nat → Int} {p i : Nat} {l : List Nat} (h7 : ∀ x ∈ l, x ≤ 7) (hl : l.length ≤ 16) (hi : i < l.length) (hb : -6400 ≤ PP pw p 0 l ∧ PP pw p 0 l ≤ 6400) : (lJ (CO pw p l) >>> ((nI (3 * (16 - (i + 1)))).toInt64 &&& 63)).toInt32 &&& nI 7 = nI (l.getD i 0) := by
  have hin := CO_in hb h7 hl
  have hE := EN_lt l 0 h7 (by omega)
  rw [show 8 ^ (16 - 0) = 281474976710656 by decide] at hE
  have hd := EN_dig l 0 i h7 (by omega) hi
  rw [Nat.zero_add] at hd
  rw [lJ_shr (by have := hin.1; have := hin.2; omega) (by omega)]
  have e8 : (2 : Nat) ^ (3 * (16 - (i + 1))) = 8 ^ (15 - i) := by rw [show 3 * (16 - (i + 1)) = 3 * (15 - i) by omega, Nat.pow_mul]
  rw [e8]
  have hpos : (0 : Int) < ((8 ^ (15 - i) : Nat) : Int) := by exact_mod_cast Nat.pow_pos (n := 15 - i) (show 0 < 8 by decide)
  -- the quotient
  have h48 : (281474976710656 : Int) = ((8 ^ (15 - i) : Nat) : Int) * ((8 ^ (i + 1) : Nat) : Int) := by
    have e : ((281474976710656 : Nat) : Int) = ((8 ^ (15 - i) * 8 ^ (i + 1) : Nat) : Int) := congrArg _ (by rw [← Nat.pow_add, show 15 - i + (i + 1) = 16 by omega])
    rw [Int.natCast_mul] at e
    exact e
  have hq : CO pw p l / ((8 ^ (15 - i) : Nat) : Int) = PP pw p 0 l * ((8 ^ (i + 1) : Nat) : Int) + ((EN 0 l / 8 ^ (15 - i) : Nat) : Int) := by
    unfold CO
    rw [h48, Int.add_comm, show PP pw p 0 l * (((8 ^ (15 - i) : Nat) : Int) * ((8 ^ (i + 1) : Nat) : Int)) = ((8 ^ (15 - i) : Nat) : Int) * (PP pw p 0 l * ((8 ^ (i + 1) : Nat) : Int)) by rw [← Int.mul_assoc, Int.mul_comm (PP pw p 0 l), Int.mul_assoc], Int.add_mul_ediv_left _ _ (Int.ne_of_gt hpos), Int.add_comm]
    rfl
  -- its lowest digit, whatever of it an int holds
  have hm : (CO pw p l / ((8 ^ (15 - i) : Nat) : Int)) % 8 = ((l.getD i 0 : Nat) : Int) := by
    rw [hq, Nat.pow_succ, Int.natCast_mul, ← Int.mul_assoc, Int.add_comm]
    show (_ + _ * (8 : Int)) % 8 = _
    rw [Int.add_mul_emod_self_right, ← hd]
    rfl
  generalize CO pw p l / ((8 ^ (15 - i) : Nat) : Int) = z at hm ⊢
  have e32 : (lJ z).toInt32 = jN z := by
    apply Int32.toInt_inj.mp
    show (Int64.ofInt z).toInt32.toInt = (Int32.ofInt z).toInt
    rw [Int64.toInt_toInt32, Int64.toInt_ofInt, Int32.toInt_ofInt]
    exact Int.bmod_bmod_of_dvd (by decide)
  rw [e32, jN_and7, hm]
  rfl
