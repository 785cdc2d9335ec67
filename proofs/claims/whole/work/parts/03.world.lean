/-! the two worlds: the class (20 cells) and the reference (11 cells) -/
abbrev tyT (cI cJ cZ : ClassId) : TT := [(cI, .int), (cJ, .long), (cZ, .boolean)]
def wC (cI cJ cZ : ClassId) (a : Nat → Nat) (hA nA : Nat) (gr li st sp : Nat → Int32) (ce le : Int32) (nu : Nat → Int32) (ev od : Nat → Int64) (fp ti : Nat → Int32) (wc : Nat → Int64) (wu : Int32) (sc pv : Nat → Int64) (su : Int32) (sd : Nat → Int32) (tl : Int32) : va_W :=
  [(a 0, .inr (6, [.ref (a 1), .ref (a 2), .ref (a 3), .ref (a 4), .ref (a 5), .ref (a 6)])),
   (a 1, .inr (0, [.ref (a 7), .ref (a 8), .ref (a 9), .ref (a 10), .int ce, .int le])),
   (a 2, .inr (4, [.ref (a 13)])),
   (a 3, .inr (3, [.ref (a 1), .ref (a 2)])),
   (a 4, .inr (5, [.ref (a 1), .ref (a 3), .ref (a 11), .ref (a 12), .ref (a 14), .ref (a 15), .ref (a 16), .int wu])),
   (a 5, .inr (2, [.ref (a 1), .ref (a 4), .ref (a 17), .ref (a 18), .int su])),
   (a 6, .inr (1, [.ref (a 1), .ref (a 3), .ref (a 19), .int tl])),
   (a 7, .inl (cI, 16, .inl gr)), (a 8, .inl (cI, 16, .inl li)), (a 9, .inl (cZ, 17, .inl st)), (a 10, .inl (cI, 17, .inl sp)),
   (hA, .inl (cJ, 3787, .inr (.inl ev))), (nA, .inl (cJ, 3787, .inr (.inl od))),
   (a 13, .inl (cI, 5, .inl nu)), (a 14, .inl (cI, 17, .inl fp)), (a 15, .inl (cI, 968, .inl ti)), (a 16, .inl (cJ, 968, .inr (.inl wc))),
   (a 17, .inl (cJ, 1001, .inr (.inl sc))), (a 18, .inl (cJ, 16, .inr (.inl pv))), (a 19, .inl (cI, 17, .inl sd))]
def wA (a : Nat → Nat) (hA nA : Nat) : Nat → Prop := fun q => q ∈ [a 0, a 1, a 2, a 3, a 4, a 5, a 6, a 7, a 8, a 9, a 10, hA, nA, a 13, a 14, a 15, a 16, a 17, a 18, a 19]
def wM (cI cJ cZ : ClassId) (b : Nat → Nat) (ce : Int32) (gr li st tr : Nat → Int32) (tl : Int32) (sd lea : Nat → Int32) (pa : Int32) (pt pp : Nat → Int32) (su : Int32) (sh tt : Nat → Int32) : va_W :=
  [(b 0, .inr (7, [.int ce, .ref (b 1), .ref (b 2), .ref (b 3), .ref (b 4), .int tl, .ref (b 5), .ref (b 6), .int pa, .ref (b 7), .ref (b 8), .int su, .ref (b 9), .ref (b 10)])),
   (b 1, .inl (cI, 16, .inl gr)), (b 2, .inl (cI, 16, .inl li)), (b 3, .inl (cZ, 17, .inl st)), (b 4, .inl (cI, 5, .inl tr)), (b 5, .inl (cI, 17, .inl sd)),
   (b 6, .inl (cI, 119119, .inl lea)), (b 7, .inl (cI, 1001, .inl pt)), (b 8, .inl (cI, 1001, .inl pp)), (b 9, .inl (cI, 17017, .inl sh)), (b 10, .inl (cI, 17017, .inl tt))]
def wB (b : Nat → Nat) : Nat → Prop := fun q => q ∈ [b 0, b 1, b 2, b 3, b 4, b 5, b 6, b 7, b 8, b 9, b 10]
theorem ite_n0 {p : Prop} {_ : Decidable p} (h : ¬ (if p then nI 1 else nI 0) = 0) : p := by
  by_cases hp : p
  · exact hp
  · rw [if_neg hp] at h; exact absurd rfl h
theorem ite_e0 {p : Prop} {_ : Decidable p} (h : (if p then nI 1 else nI 0) = 0) : ¬ p := by
  by_cases hp : p
  · rw [if_pos hp] at h; exact absurd h (by decide)
  · exact hp
theorem z01 {x : Int32} (h : x = nI 0 ∨ x = nI 1) : vp_nar .boolean x = x := by rcases h with rfl | rfl <;> decide
theorem z01b {x : Int32} (h : x = nI 0 ∨ x = nI 1) : narrow .boolean (.int x) = .int x := by rcases h with rfl | rfl <;> decide
/-! pure words -/
def fltE (li f pu br : Int32) (u v : Nat) : Int32 := if li < nI u ∨ li < nI v then nI 1 else if u = 0 ∧ v = 0 then nI 2 else if u + 2 < v ∨ v + 2 < u then nI 3 else if ¬ f ≤ pu then nI 4 else if ¬ -br ≤ f then nI 5 else nI 0
def pwE (q f : Int32) : Int32 := if ¬ f ≤ 0 then f else -(q * -f / nI 10)
def tmN (u v : Nat) : Nat := 60 / (u + v)
def fcN (gr nu : Nat → Int32) (k u v : Nat) : Int32 := nu 0 * (nI (v * v) - nI (u * u)) + nu 0 * gr k + nu 1 * nI (u + v)
def flN (gr li nu : Nat → Int32) (k u v : Nat) : Int32 := fltE (li k) (fcN gr nu k u v) (nu 2) (nu 3) u v
def pwN (gr nu : Nat → Int32) (k u v : Nat) : Int32 := pwE (nu 4) (fcN gr nu k u v)
def sumI (f : Nat → Int32) : Nat → Int32 | 0 => nI 0 | n + 1 => sumI f n + f n
theorem i32_nle {x y : Int32} : ¬ x ≤ y ↔ y < x := Int32.not_le
theorem mx_le {x y z : Int32} (h : (if x < y then y else x) ≤ z) : ¬ (z < x ∨ z < y) := by
  by_cases hp : x < y
  · rw [if_pos hp] at h
    rintro (q | q)
    · exact absurd (Int32.lt_of_le_of_lt h q) (Int32.lt_asymm hp)
    · exact Int32.lt_irrefl (Int32.lt_of_le_of_lt h q)
  · rw [if_neg hp] at h
    rintro (q | q)
    · exact Int32.lt_irrefl (Int32.lt_of_le_of_lt h q)
    · exact hp (Int32.lt_of_le_of_lt h q)
theorem mx_nle {x y z : Int32} (h : ¬ (if x < y then y else x) ≤ z) : z < x ∨ z < y := by
  by_cases hp : x < y
  · rw [if_pos hp] at h; exact Or.inr (i32_nle.mp h)
  · rw [if_neg hp] at h; exact Or.inl (i32_nle.mp h)
theorem ab_dec : ∀ u, u < 7 → ∀ v, v < 7 → ((if 0 ≤ nI u - nI v then nI u - nI v else 0 - (nI u - nI v)) ≤ nI 2 ↔ ¬ (u + 2 < v ∨ v + 2 < u)) := by decide +kernel
theorem ab_le {u v : Nat} (hu : u ≤ 6) (hv : v ≤ 6) (h : (if 0 ≤ nI u - nI v then nI u - nI v else 0 - (nI u - nI v)) ≤ nI 2) : ¬ (u + 2 < v ∨ v + 2 < u) := (ab_dec u (by omega) v (by omega)).mp h
theorem ab_nle {u v : Nat} (hu : u ≤ 6) (hv : v ≤ 6) (h : ¬ (if 0 ≤ nI u - nI v then nI u - nI v else 0 - (nI u - nI v)) ≤ nI 2) : u + 2 < v ∨ v + 2 < u := by
  rw [ab_dec u (by omega) v (by omega)] at h
  exact Classical.not_not.mp h
theorem sumI_s {F : Nat → Int32} {k : Nat} {x : Int32} (h : F k = x) : sumI F k + x = sumI F (k + 1) := by rw [sumI, h]
def lgT (gr li nu : Nat → Int32) (s : Nat → Nat) : Nat → Int32 := fun j => if flN gr li nu j (s j) (s (j + 1)) = 0 then nI (tmN (s j) (s (j + 1))) else nI 0
def lgP (gr li nu : Nat → Int32) (s : Nat → Nat) : Nat → Int32 := fun j => if flN gr li nu j (s j) (s (j + 1)) = 0 then pwN gr nu j (s j) (s (j + 1)) else nI 0
def lgF (gr li nu : Nat → Int32) (s : Nat → Nat) : Nat → Int32 := fun j => if flN gr li nu j (s j) (s (j + 1)) = 0 then nI 0 else nI 1
def lgS (st : Nat → Int32) (s : Nat → Nat) : Nat → Int32 := fun j => if ¬ st j = 0 ∧ ¬ s j = 0 then nI 1 else nI 0
def ffU (F : Nat → Int32) : Nat → Int32 | 0 => -1000000 | k + 1 => if ffU F k = -1000000 then (if F k = nI 0 then -1000000 else nI k) else ffU F k
theorem ffU_stay {F : Nat → Int32} {k : Nat} (h : ¬ ffU F k = -1000000) : ∀ j, ffU F (k + j) = ffU F k
  | 0 => rfl
  | j + 1 => by rw [← Nat.add_assoc, ffU, ffU_stay h j, if_neg h]
theorem nI_nn {k : Nat} (h : k < 2 ^ 31) : ¬ nI k = -1000000 := fun e => by
  have h1 := nI_toInt h
  rw [e] at h1
  have h2 : (-1000000 : Int32).toInt = -1000000 := by decide
  omega
/-- how many stops lie before a post -/
def cnt (st : Nat → Int32) : Nat → Nat | 0 => 0 | k + 1 => cnt st k + (if st k = 0 then 0 else 1)
theorem cnt_le (st : Nat → Int32) : ∀ k, cnt st k ≤ k
  | 0 => Nat.le_refl _
  | k + 1 => by
    have := cnt_le st k
    rw [cnt]; split <;> omega
theorem cnt_mono (st : Nat → Int32) {a b : Nat} (h : a ≤ b) : cnt st a ≤ cnt st b := by
  induction b with
  | zero => rw [show a = 0 by omega]; exact Nat.le_refl _
  | succ b ih =>
    by_cases e : a = b + 1
    · rw [e]; exact Nat.le_refl _
    · exact Nat.le_trans (ih (by omega)) (by rw [cnt]; omega)
theorem cnt_st {st : Nat → Int32} {a : Nat} (h : ¬ st a = 0) : cnt st (a + 1) = cnt st a + 1 := by rw [cnt, if_neg h]
theorem cnt_sz {st : Nat → Int32} {a : Nat} (h : st a = 0) : cnt st (a + 1) = cnt st a := by rw [cnt, if_pos h, Nat.add_zero]
theorem cnt_inj {st : Nat → Int32} {a b : Nat} (ha : ¬ st a = 0) (hb : ¬ st b = 0) (h : cnt st a = cnt st b) : a = b := by
  rcases Nat.lt_trichotomy a b with q | q | q
  · have := cnt_mono st (show a + 1 ≤ b by omega); rw [cnt_st ha] at this; omega
  · exact q
  · have := cnt_mono st (show b + 1 ≤ a by omega); rw [cnt_st hb] at this; omega
/-- the post of the j-th stop -/
def posOf (st : Nat → Int32) (j : Nat) : Nat → Nat | 0 => 0 | n + 1 => if ¬ st (n + 1) = 0 ∧ cnt st (n + 1) = j then n + 1 else posOf st j n
theorem posOf_eq {st : Nat → Int32} {p : Nat} (hs : ¬ st p = 0) : ∀ n, p ≤ n → posOf st (cnt st p) n = p
  | 0, h => by rw [posOf]; omega
  | n + 1, h => by
    rw [posOf]
    by_cases e : p = n + 1
    · rw [if_pos (by rw [← e]; exact ⟨hs, rfl⟩), e]
    · rw [if_neg (fun q => e (cnt_inj hs q.1 q.2.symm)), posOf_eq hs n (by omega)]
theorem posOf_ex {st : Nat → Int32} {j : Nat} : ∀ n, j < cnt st (n + 1) → ∃ p, p ≤ n ∧ ¬ st p = 0 ∧ cnt st p = j
  | 0, h => by
    rw [cnt, cnt] at h
    by_cases e : st 0 = 0
    · rw [if_pos e] at h; omega
    · rw [if_neg e] at h; exact ⟨0, Nat.le_refl _, e, by rw [cnt]; omega⟩
  | n + 1, h => by
    by_cases e : st (n + 1) = 0
    · rw [cnt_sz e] at h
      obtain ⟨p, h1, h2⟩ := posOf_ex n h
      exact ⟨p, by omega, h2⟩
    · rw [cnt_st e] at h
      by_cases q : j = cnt st (n + 1)
      · exact ⟨n + 1, Nat.le_refl _, e, q.symm⟩
      · obtain ⟨p, h1, h2⟩ := posOf_ex n (show j < cnt st (n + 1) by omega)
        exact ⟨p, by omega, h2⟩
theorem posOf_spec {st : Nat → Int32} {j n : Nat} (h : j < cnt st (n + 1)) : posOf st j n ≤ n ∧ ¬ st (posOf st j n) = 0 ∧ cnt st (posOf st j n) = j := by
  obtain ⟨p, h1, h2, h3⟩ := posOf_ex n h
  have e := posOf_eq h2 n h1
  rw [h3] at e
  rw [e]; exact ⟨h1, h2, h3⟩
/-- what a line is: n cells, m legs, the stops' posts in sp -/
def LInv (st sp : Nat → Int32) (n m : Nat) : Prop := 1 ≤ n ∧ n ≤ 16 ∧ (∀ j, st j = nI 0 ∨ st j = nI 1) ∧ ¬ st 0 = 0 ∧ ¬ st n = 0 ∧ cnt st (n + 1) = m + 1 ∧ ∀ j, j ≤ m → sp j = nI (posOf st j n)
theorem LInv.pos {st sp : Nat → Int32} {n m : Nat} (h : LInv st sp n m) {j : Nat} (hj : j ≤ m) : posOf st j n ≤ n ∧ ¬ st (posOf st j n) = 0 ∧ cnt st (posOf st j n) = j := posOf_spec (by have := h.2.2.2.2.2.1; omega)
theorem LInv.m_le {st sp : Nat → Int32} {n m : Nat} (h : LInv st sp n m) : m ≤ n := by
  have h1 := h.2.2.2.2.2.1
  have h2 := cnt_le st (n + 1)
  omega
theorem LInv.m_pos {st sp : Nat → Int32} {n m : Nat} (h : LInv st sp n m) : 1 ≤ m := by
  obtain ⟨h1, h2, h3, h4, h5, h6, h7⟩ := h
  have e := cnt_st h5
  have f := cnt_mono st (show 0 + 1 ≤ n by omega)
  rw [cnt_st h4] at f
  omega
theorem LInv.mono {st sp : Nat → Int32} {n m : Nat} (h : LInv st sp n m) {j : Nat} (hj : j < m) : posOf st j n < posOf st (j + 1) n := by
  obtain ⟨a1, a2, a3⟩ := h.pos (show j ≤ m by omega)
  obtain ⟨b1, b2, b3⟩ := h.pos (show j + 1 ≤ m by omega)
  rcases Nat.lt_or_ge (posOf st j n) (posOf st (j + 1) n) with q | q
  · exact q
  · have := cnt_mono st q; omega
theorem LInv.z {st sp : Nat → Int32} {n m : Nat} (h : LInv st sp n m) : posOf st 0 n = 0 := by
  have := posOf_eq h.2.2.2.1 n (Nat.zero_le _)
  rwa [cnt] at this
theorem LInv.e {st sp : Nat → Int32} {n m : Nat} (h : LInv st sp n m) : posOf st m n = n := by
  have e := posOf_eq h.2.2.2.2.1 n (Nat.le_refl _)
  have c := cnt_st h.2.2.2.2.1
  have := h.2.2.2.2.2.1
  rwa [show cnt st n = m by omega] at e
def stL (n : Nat) : Nat → Int32 := fun j => if j = 0 ∨ j = n then nI 1 else nI 0
theorem stL_01 (n : Nat) : ∀ j, stL n j = nI 0 ∨ stL n j = nI 1 := fun j => by unfold stL; split <;> simp
theorem LInv_of {st sp : Nat → Int32} {n m : Nat} (h1 : 1 ≤ n) (h2 : n ≤ 16) (h3 : ∀ j, st j = nI 0 ∨ st j = nI 1) (h4 : ¬ st 0 = 0) (h5 : ¬ st n = 0) (h6 : m = cnt st (n + 1) - 1) (h7 : ∀ p, p ≤ n → ¬ st p = 0 → sp (cnt st p) = nI p) : LInv st sp n m := by
  have c := cnt_st h5
  refine ⟨h1, h2, h3, h4, h5, by omega, fun j hj => ?_⟩
  obtain ⟨a1, a2, a3⟩ := posOf_spec (st := st) (j := j) (n := n) (by omega)
  have := h7 _ a1 a2
  rwa [a3] at this
theorem stL_LInv {sp : Nat → Int32} {n m : Nat} (h1 : 1 ≤ n) (h2 : n ≤ 16) (h6 : m = cnt (stL n) (n + 1) - 1) (h7 : ∀ p, p ≤ n → ¬ stL n p = 0 → sp (cnt (stL n) p) = nI p) : LInv (stL n) sp n m :=
  LInv_of h1 h2 (stL_01 n) (by rw [stL, if_pos (Or.inl rfl)]; decide) (by rw [stL, if_pos (Or.inr rfl)]; decide) h6 h7
/-- a speed -/
def spd (x : Int32) : Prop := ∃ v : Nat, v ≤ 6 ∧ x = nI v
