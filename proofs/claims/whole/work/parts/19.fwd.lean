/-! pure: the ways up to a post, by time and speed, each the least by number -/
def PX (ok : Nat → Nat → Nat → Bool) (p n v t : Nat) (l : List Nat) : Prop := l.length = n ∧ QO ok p 0 l ∧ lastS 0 l = v ∧ PT 0 l = t
def FRow (ok : Nat → Nat → Nat → Bool) (pw : Nat → Nat → Nat → Int) (p n : Nat) (f : Nat → Int64) : Prop := ∀ v, v ≤ 6 → ∀ t, t ≤ 540 → FvL (PX ok p n v t) (CO pw p) (f (v * 541 + t))
def SX (ok : Nat → Nat → Nat → Bool) (p n lo hi u0 v0 v t : Nat) (l' : List Nat) : Prop := ∃ l, l' = l ++ [v] ∧ l.length = n ∧ QO ok p 0 l ∧ lo ≤ v ∧ v ≤ hi ∧ ok (p + n) (lastS 0 l) v = true ∧ PT 0 l + tmN (lastS 0 l) v = t ∧ (lastS 0 l < u0 ∨ (lastS 0 l = u0 ∧ v < v0))
def DR (ok : Nat → Nat → Nat → Bool) (pw : Nat → Nat → Nat → Int) (p n lo hi u0 v0 : Nat) (g : Nat → Int64) : Prop := ∀ v, v ≤ 6 → ∀ t, t ≤ 540 → FvL (SX ok p n lo hi u0 v0 v t) (CO pw p) (g (v * 541 + t))
def sprV (here g : Nat → Int64) (fr to la : Nat) (ad : Int64) (i : Nat) : Int64 := if to ≤ i ∧ i ≤ to + la ∧ ¬ here (fr + (i - to)) = 4611686018427387904 then (if here (fr + (i - to)) + ad < g i then here (fr + (i - to)) + ad else g i) else g i
theorem QP_bd {ok : Nat → Nat → Nat → Bool} {pw : Nat → Nat → Nat → Int} (h : SB ok pw) : ∀ (l : List Nat) (k u : Nat), QO ok k u l → -400 * (l.length : Int) ≤ PP pw k u l ∧ PP pw k u l ≤ 400 * (l.length : Int)
  | [], _, _, _ => by simp [PP]
  | v :: l, k, u, hp => by
    obtain ⟨h1, h2, h3, h4⟩ := hp
    have a := QP_bd h l (k + 1) v h4
    have b := (h k u v h1).1
    simp only [PP, List.length_cons]
    omega
theorem CO_in {pw : Nat → Nat → Nat → Int} {p : Nat} {l : List Nat} (h1 : -6400 ≤ PP pw p 0 l ∧ PP pw p 0 l ≤ 6400) (h2 : ∀ x ∈ l, x ≤ 7) (h3 : l.length ≤ 16) : inL (CO pw p l) := by
  have := EN_lt l 0 h2 (by omega)
  rw [show 8 ^ (16 - 0) = 281474976710656 by decide] at this
  unfold CO inL
  omega
theorem PX_in {ok : Nat → Nat → Nat → Bool} {pw : Nat → Nat → Nat → Int} (h : SB ok pw) {p n v t : Nat} (hn : n ≤ 16) : ∀ l, PX ok p n v t l → inL (CO pw p l) := fun l hl => by
  have := QP_bd h l p 0 hl.2.1
  rw [hl.1] at this
  exact CO_in (by omega) (QO_7 l p 0 hl.2.1) (by rw [hl.1]; exact hn)
theorem SX_in {ok : Nat → Nat → Nat → Bool} {pw : Nat → Nat → Nat → Int} (h : SB ok pw) {p n lo hi u0 v0 v t : Nat} (hn : n ≤ 15) (hh : hi ≤ 6) : ∀ l, SX ok p n lo hi u0 v0 v t l → inL (CO pw p l) := fun l hl => by
  obtain ⟨l1, e, a1, a2, a3, a4, a5, a6, a7⟩ := hl
  subst e
  have b1 := QP_bd h l1 p 0 a2
  have b2 := (h _ _ _ a5).1
  rw [a1] at b1
  refine CO_in ?_ (fun x hx => ?_) (by simp [a1]; omega)
  · rw [PP_snoc, a1]; omega
  · rcases List.mem_append.mp hx with q | q
    · exact QO_7 l1 p 0 a2 x q
    · have := List.mem_singleton.mp q; omega
theorem CO_snoc (pw : Nat → Nat → Nat → Int) (p : Nat) (l : List Nat) (v : Nat) : CO pw p (l ++ [v]) = CO pw p l + (pw (p + l.length) (lastS 0 l) v * 281474976710656 + ((v * 8 ^ (15 - l.length) : Nat) : Int)) := by
  unfold CO
  rw [PP_snoc, EN_snoc, Nat.zero_add]
  omega
theorem DR_init {ok : Nat → Nat → Nat → Bool} {pw : Nat → Nat → Nat → Int} {p n lo hi : Nat} {g : Nat → Int64} (h : ∀ i, i < 3787 → g i = 4611686018427387904) : DR ok pw p n lo hi 0 lo g := fun v hv t ht =>
  Or.inl ⟨h _ (by omega), fun l ⟨l1, _, _, _, a3, _, _, _, a7⟩ => by omega⟩
theorem DR_no {ok : Nat → Nat → Nat → Bool} {pw : Nat → Nat → Nat → Int} {p n lo hi u0 v0 : Nat} {g : Nat → Int64} (hk : ¬ ok (p + n) u0 v0 = true) (h : DR ok pw p n lo hi u0 v0 g) : DR ok pw p n lo hi u0 (v0 + 1) g := fun v hv t ht =>
  FvL_congr (fun l => ⟨fun ⟨l1, e, a1, a2, a3, a4, a5, a6, a7⟩ => ⟨l1, e, a1, a2, a3, a4, a5, a6, by
    rcases a7 with q | q
    · exact Or.inl q
    · refine Or.inr ⟨q.1, ?_⟩
      by_cases z : v = v0
      · rw [q.1, z] at a5; exact absurd a5 hk
      · omega⟩, fun ⟨l1, e, a1, a2, a3, a4, a5, a6, a7⟩ => ⟨l1, e, a1, a2, a3, a4, a5, a6, by omega⟩⟩) (h v hv t ht)
theorem DR_row {ok : Nat → Nat → Nat → Bool} {pw : Nat → Nat → Nat → Int} {p n lo hi u0 : Nat} {g : Nat → Int64} (h : DR ok pw p n lo hi u0 (hi + 1) g) : DR ok pw p n lo hi (u0 + 1) lo g := fun v hv t ht =>
  FvL_congr (fun l => ⟨fun ⟨l1, e, a1, a2, a3, a4, a5, a6, a7⟩ => ⟨l1, e, a1, a2, a3, a4, a5, a6, by omega⟩, fun ⟨l1, e, a1, a2, a3, a4, a5, a6, a7⟩ => ⟨l1, e, a1, a2, a3, a4, a5, a6, by omega⟩⟩) (h v hv t ht)
theorem DR_end {ok : Nat → Nat → Nat → Bool} {pw : Nat → Nat → Nat → Int} {p n : Nat} {g : Nat → Int64} (h : DR ok pw p n 1 6 7 1 g) : FRow ok pw p (n + 1) g := fun v hv t ht =>
  FvL_congr (fun l => ⟨fun ⟨a1, a2, a3, a4⟩ => by
    have hne : l ≠ [] := fun z => by rw [z] at a1; simp at a1
    obtain ⟨l1, x, e⟩ : ∃ l1 x, l = l1 ++ [x] := ⟨l.dropLast, l.getLast hne, (List.dropLast_concat_getLast hne).symm⟩
    subst e
    rw [lastS_snoc] at a3
    subst a3
    have b := (QO_snoc l1 p 0 x).mp a2
    have hl : l1.length = n := by simpa using a1
    rw [PT_snoc] at a4
    have hlast := QO_last l1 p 0 (by omega) b.1
    exact ⟨l1, rfl, hl, b.1, b.2.2.2, b.2.2.1, by rw [← hl]; exact b.2.1, a4, Or.inl (by omega)⟩, fun ⟨l1, e, a1, a2, a3, a4, a5, a6, a7⟩ => by
    subst e
    exact ⟨by simp [a1], (QO_snoc l1 p 0 v).mpr ⟨a2, by rw [a1]; exact a5, a4, a3⟩, lastS_snoc l1 0 v, by rw [PT_snoc]; exact a6⟩⟩) (h v hv t ht)
theorem DR_stop {ok : Nat → Nat → Nat → Bool} {pw : Nat → Nat → Nat → Int} {p n : Nat} {g : Nat → Int64} (h : DR ok pw p n 0 0 7 0 g) : ∀ t, t ≤ 540 → FvL (WY ok (n + 1) p 0 t) (CO pw p) (g t) := fun t ht => by
  have h0 := h 0 (by omega) t ht
  rw [show 0 * 541 + t = t by omega] at h0
  exact FvL_congr (fun l => ⟨fun ⟨a1, a2, a3⟩ => by
    have hne : l ≠ [] := fun z => by rw [z] at a1; simp at a1
    obtain ⟨l1, e⟩ := PO_form l p 0 a2 hne
    subst e
    have b := (PO_snoc l1 p 0).mp a2
    have hl : l1.length = n := by simpa using a1
    rw [PT_snoc] at a3
    have hlast := QO_last l1 p 0 (by omega) b.1
    exact ⟨l1, rfl, hl, b.1, Nat.le_refl _, Nat.le_refl _, by rw [← hl]; exact b.2, a3, Or.inl (by omega)⟩, fun ⟨l1, e, a1, a2, a3, a4, a5, a6, a7⟩ => by
    subst e
    exact ⟨by simp [a1], (PO_snoc l1 p 0).mpr ⟨a2, by rw [a1]; exact a5⟩, by rw [PT_snoc]; exact a6⟩⟩) h0
theorem DR_yes {ok : Nat → Nat → Nat → Bool} {pw : Nat → Nat → Nat → Int} (hs : SB ok pw) {p n lo hi u0 v0 : Nat} {here g g2 : Nat → Int64} (hn : n ≤ 15) (hk : ok (p + n) u0 v0 = true) (hlo : lo ≤ v0) (hhi : v0 ≤ hi) (h6 : hi ≤ 6) (hu : u0 ≤ 6) (hF : FRow ok pw p n here) (h : DR ok pw p n lo hi u0 v0 g)
    (h2 : ∀ i, i < 3787 → g2 i = sprV here g (u0 * 541) (v0 * 541 + tmN u0 v0) (30 * (n + 1)) (lJ (pw (p + n) u0 v0 * 281474976710656 + ((v0 * 8 ^ (15 - n) : Nat) : Int))) i) : DR ok pw p n lo hi u0 (v0 + 1) g2 := fun v hv t ht => by
  have htm := tm_le (hs _ _ _ hk).2
  rw [h2 _ (by omega)]
  by_cases e : v = v0
  · subst e
    -- the new ways
    have hset : ∀ l, SX ok p n lo hi u0 (v + 1) v t l ↔ SX ok p n lo hi u0 v v t l ∨ ∃ l1, (PX ok p n u0 (t - tmN u0 v) l1 ∧ tmN u0 v ≤ t) ∧ l = l1 ++ [v] := fun l => by
      constructor
      · rintro ⟨l1, e, a1, a2, a3, a4, a5, a6, a7⟩
        rcases a7 with q | q
        · exact Or.inl ⟨l1, e, a1, a2, a3, a4, a5, a6, Or.inl q⟩
        · rw [q.1] at a6
          exact Or.inr ⟨l1, ⟨⟨a1, a2, q.1, by omega⟩, by omega⟩, e⟩
      · rintro (⟨l1, e, a1, a2, a3, a4, a5, a6, a7⟩ | ⟨l1, ⟨⟨a1, a2, a3, a4⟩, a5⟩, e⟩)
        · exact ⟨l1, e, a1, a2, a3, a4, a5, a6, by omega⟩
        · exact ⟨l1, e, a1, a2, hlo, hhi, by rw [a3]; exact hk, by rw [a3]; omega, Or.inr ⟨a3, by omega⟩⟩
    have hnone : (∀ l1, ¬ (PX ok p n u0 (t - tmN u0 v) l1 ∧ tmN u0 v ≤ t)) → FvL (SX ok p n lo hi u0 (v + 1) v t) (CO pw p) (g (v * 541 + t)) := fun hz =>
      FvL_congr (fun l => ⟨fun q => ((hset l).mp q).elim id (fun ⟨l1, q1, _⟩ => absurd q1 (hz l1)), fun q => (hset l).mpr (Or.inl q)⟩) (h v hv t ht)
    unfold sprV
    by_cases c1 : tmN u0 v ≤ t
    · have hb := hF u0 hu (t - tmN u0 v) (by omega)
      have hi0 : u0 * 541 + (v * 541 + t - (v * 541 + tmN u0 v)) = u0 * 541 + (t - tmN u0 v) := by omega
      rw [hi0]
      by_cases c2 : t - tmN u0 v ≤ 30 * (n + 1)
      · by_cases c3 : here (u0 * 541 + (t - tmN u0 v)) = 4611686018427387904
        · rw [if_neg (fun q => q.2.2 c3)]
          exact hnone (fun l1 q => FvL_none (PX_in hs (by omega)) hb c3 l1 q.1)
        · rw [if_pos ⟨by omega, by omega, c3⟩]
          refine FvL_union (h v hv t ht) hb c3 (f := fun l => l ++ [v]) (fun l hl => ?_) (fun l => ?_) (SX_in hs hn h6)
          · show CO pw p (l ++ [v]) = _
            rw [CO_snoc, hl.1, hl.2.2.1]
          · rw [hset l]
            exact ⟨fun q => q.elim Or.inl (fun ⟨l1, q1, q2⟩ => Or.inr ⟨l1, q1.1, q2⟩), fun q => q.elim Or.inl (fun ⟨l1, q1, q2⟩ => Or.inr ⟨l1, ⟨q1, c1⟩, q2⟩)⟩
      · rw [if_neg (fun q => c2 (by omega))]
        exact hnone (fun l1 q => by
          have := QO_t0 q.1.2.1
          rw [q.1.1, q.1.2.2.2] at this
          omega)
    · rw [if_neg (fun q => c1 (by omega))]
      exact hnone (fun l1 q => c1 q.2)
  · have hsp : sprV here g (u0 * 541) (v0 * 541 + tmN u0 v0) (30 * (n + 1)) (lJ (pw (p + n) u0 v0 * 281474976710656 + ((v0 * 8 ^ (15 - n) : Nat) : Int))) (v * 541 + t) = g (v * 541 + t) := if_neg (fun q => by rcases Nat.lt_or_ge v v0 with z | z <;> omega)
    rw [hsp]
    exact FvL_congr (fun l => ⟨fun ⟨l1, e, a1, a2, a3, a4, a5, a6, a7⟩ => ⟨l1, e, a1, a2, a3, a4, a5, a6, by omega⟩, fun ⟨l1, e, a1, a2, a3, a4, a5, a6, a7⟩ => ⟨l1, e, a1, a2, a3, a4, a5, a6, by omega⟩⟩) (h v hv t ht)
theorem FRow_0 {ok : Nat → Nat → Nat → Bool} {pw : Nat → Nat → Nat → Int} {p : Nat} {f : Nat → Int64} (h0 : f 0 = 0) (h : ∀ i, 0 < i → i < 3787 → f i = 4611686018427387904) : FRow ok pw p 0 f := fun v hv t ht => by
  by_cases e : v = 0 ∧ t = 0
  · rw [e.1, e.2]
    refine Or.inr ⟨[], ⟨rfl, trivial, rfl, rfl⟩, ?_, fun l' hl' => ?_⟩
    · show f 0 = _; rw [h0]; rfl
    · rw [List.length_eq_zero_iff.mp hl'.1]; exact Int.le_refl _
  · refine Or.inl ⟨h _ (by omega) (by omega), fun l hl => e ?_⟩
    have := List.length_eq_zero_iff.mp hl.1
    subst this
    exact ⟨hl.2.2.1.symm, hl.2.2.2.symm⟩
/-- the row at the stop, place t: no way, or the best one -/
def FE (ok : Nat → Nat → Nat → Bool) (pw : Nat → Nat → Nat → Int) (n p t : Nat) (x : Int64) : Prop := (x = 4611686018427387904 ∧ BB ok pw n p 0 t = BIG) ∨ (BB ok pw n p 0 t < BIG ∧ ∃ l, LX ok pw n p 0 t 0 l ∧ x = lJ (CO pw p l))
theorem FE_of {ok : Nat → Nat → Nat → Bool} {pw : Nat → Nat → Nat → Int} (h : SB ok pw) {n p t : Nat} {x : Int64} (hn : n ≤ 16) (hf : FvL (WY ok n p 0 t) (CO pw p) x) : FE ok pw n p t x := by
  rcases hf with ⟨a, b⟩ | ⟨l, a, b, c⟩
  · rcases BB_spec h n p 0 t hn with ⟨e, _⟩ | ⟨l2, g1, _⟩
    · exact Or.inl ⟨a, e⟩
    · exact absurd g1 (b l2)
  · refine Or.inr ⟨(BB_lb h hn a).2, l, ⟨a, ?_, ?_⟩, b⟩
    · rcases BB_spec h n p 0 t hn with ⟨_, e⟩ | ⟨l2, g1, g2, g3⟩
      · exact absurd a (e l)
      · have q1 := g3 l a
        have q2 := c l2 g1
        have q3 := EN_lt l2 0 (PO_7 l2 p 0 g1.2.1) (by rw [g1.1]; omega)
        rw [show 8 ^ (16 - 0) = 281474976710656 by decide] at q3
        unfold CO at q2
        omega
    · intro l' h1 h2
      have q2 := c l' h1
      have q4 : PP pw p 0 l = BB ok pw n p 0 t := by
        rcases BB_spec h n p 0 t hn with ⟨_, e⟩ | ⟨l2, g1, g2, g3⟩
        · exact absurd a (e l)
        · have q1 := g3 l a
          have q2 := c l2 g1
          have q3 := EN_lt l2 0 (PO_7 l2 p 0 g1.2.1) (by rw [g1.1]; omega)
          rw [show 8 ^ (16 - 0) = 281474976710656 by decide] at q3
          unfold CO at q2
          omega
      unfold CO at q2
      omega
theorem LX_pw {ok : Nat → Nat → Nat → Bool} {pw : Nat → Nat → Nat → Int} (h : SB ok pw) {n p t : Nat} {l : List Nat} (hn : n ≤ 16) (hl : LX ok pw n p 0 t 0 l) : CO pw p l / 281474976710656 = BB ok pw n p 0 t ∧ inL (CO pw p l) ∧ -6400 ≤ BB ok pw n p 0 t ∧ BB ok pw n p 0 t ≤ 6400 := by
  have a := PP_bd h l p 0 hl.1.2.1
  rw [hl.1.1] at a
  have q3 := EN_lt l 0 (PO_7 l p 0 hl.1.2.1) (by rw [hl.1.1]; omega)
  rw [show 8 ^ (16 - 0) = 281474976710656 by decide] at q3
  have e := hl.2.1
  refine ⟨?_, CO_in (by omega) (PO_7 l p 0 hl.1.2.1) (by rw [hl.1.1]; exact hn), by omega, by omega⟩
  unfold CO
  rw [← e]
  omega
/-- a power as the class holds it while it looks for the least one -/
def lb (z : Int) : Int64 := if z = BIG then 16384 else lJ z
theorem lb_lt {a b : Int} (ha : inR a) (hb : inR b) : lb a < lb b ↔ a < b := by
  have hB : BIG = 100000000 := rfl
  have e : (16384 : Int64) = lJ 16384 := by decide
  have key : ∀ z, inR z → ∃ y : Int, lb z = lJ y ∧ -6400 ≤ y ∧ ((z = BIG ∧ y = 16384) ∨ (z = y ∧ y ≤ 6400)) := fun z hz => by
    unfold lb
    by_cases q : z = BIG
    · rw [if_pos q]; exact ⟨16384, e, by omega, Or.inl ⟨q, rfl⟩⟩
    · rw [if_neg q]
      rcases hz with r | r
      · exact absurd r q
      · exact ⟨z, rfl, r.1, Or.inr ⟨rfl, r.2⟩⟩
  obtain ⟨x, x1, x2, x3⟩ := key a ha
  obtain ⟨y, y1, y2, y3⟩ := key b hb
  rw [x1, y1, lJ_lt (by omega) (by omega)]
  rcases x3 with q | q <;> rcases y3 with r | r <;> omega
theorem FE_lb {ok : Nat → Nat → Nat → Bool} {pw : Nat → Nat → Nat → Int} (h : SB ok pw) {n p t : Nat} {x : Int64} (hn : n ≤ 16) (hf : FE ok pw n p t x) : x >>> ((nI 48).toInt64 &&& 63) = lb (BB ok pw n p 0 t) := by
  rcases hf with ⟨a, b⟩ | ⟨a, l, c, d⟩
  · rw [a, b, lb, if_pos rfl, lJ_no, lJ_shr (by omega) (by decide)]
    decide
  · obtain ⟨e1, e2, e3⟩ := LX_pw h hn c
    rw [d, lb, if_neg (by omega), lJ_shr (by have := e2.1; have := e2.2; omega) (by decide), show ((2 ^ 48 : Nat) : Int) = 281474976710656 by decide, e1]
/-! how many pairs there are -/
theorem WY_t {ok : Nat → Nat → Nat → Bool} {pw : Nat → Nat → Nat → Int} (h : SB ok pw) {n k t : Nat} {l : List Nat} (hl : WY ok n k 0 t l) (hn : 1 ≤ n) : 2 ≤ n ∧ t ≤ 30 * n + 60 ∧ (n = 2 → t % 2 = 0 ∧ t ≤ 120) := by
  obtain ⟨a1, a2, a3⟩ := hl
  have hne : l ≠ [] := fun z => by rw [z] at a1; simp at a1; omega
  obtain ⟨l1, e⟩ := PO_form l k 0 a2 hne
  subst e
  have b := (PO_snoc l1 k 0).mp a2
  have hl : l1.length + 1 = n := by simpa using a1
  have hs := (h _ _ _ b.2).2
  have h1 : 1 ≤ l1.length := by
    cases l1 with
    | nil => simp [lastS] at hs
    | cons _ _ => simp
  rw [PT_snoc] at a3
  have t1 := QO_t0 b.1
  have t2 := tm_le hs
  refine ⟨by omega, by omega, fun z => ?_⟩
  match l1, hl, b, a3, hs, t1, t2 with
  | [v], _, b, a3, hs, t1, t2 =>
    have e3 : tmN 0 v + 0 + tmN v 0 = t := a3
    have e4 : tmN v 0 = tmN 0 v := by unfold tmN; rw [Nat.add_comm]
    have t2' : tmN v 0 ≤ 60 := t2
    omega
  | [], hl, _, _, _, _, _ => simp at hl; omega
  | _ :: _ :: _, hl, _, _, _, _, _ => simp at hl; omega
theorem prs_half {m : Nat → Int} (h : ∀ t, t % 2 = 1 → m t = BIG) : ∀ t, (prs m t).length ≤ (t + 1) / 2
  | 0 => Nat.le_refl _
  | t + 1 => by
    have ih := prs_half h t
    by_cases q : m t < bst m t
    · have hb := bst_le m t
      have : ¬ t % 2 = 1 := fun z => by have := h t z; omega
      rw [(prs_add q).1]; simp; omega
    · rw [(prs_keep q).1]; omega
