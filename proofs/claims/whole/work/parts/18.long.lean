/-! whole numbers in a long -/
theorem wb_tb (n : Nat) : (lN n).toBitVec = BitVec.ofNat 64 n := rfl
theorem wb_inj {a b : Int64} (h : a.toBitVec = b.toBitVec) : a = b := Int64.toBitVec_inj.mp h
theorem wb_c : ∀ k, k < 64 → ((nI k).toInt64 &&& 63) = lN k := by decide +kernel
theorem wb_sm : ∀ k, k < 64 → (BitVec.ofNat 64 k).smod 64 = BitVec.ofNat 64 k := by decide +kernel
theorem wb_shl (n : Nat) {k : Nat} (hk : k < 64) : lN n <<< ((nI k).toInt64 &&& 63) = lN (n * 2 ^ k) := by
  rw [wb_c k hk]
  apply wb_inj
  rw [Int64.toBitVec_shiftLeft, wb_tb, wb_tb, wb_tb, wb_sm k hk]
  apply BitVec.eq_of_toNat_eq
  rw [BitVec.shiftLeft_eq', BitVec.toNat_shiftLeft, BitVec.toNat_ofNat, BitVec.toNat_ofNat, BitVec.toNat_ofNat, Nat.mod_eq_of_lt (show k < 2 ^ 64 by omega), Nat.shiftLeft_eq, Nat.mul_mod, Nat.mod_mod, ← Nat.mul_mod]
theorem wb_and {a b : Nat} (ha : a < 2 ^ 64) (hb : b < 2 ^ 64) : lN a &&& lN b = lN (a &&& b) := by
  apply wb_inj
  rw [Int64.toBitVec_and, wb_tb, wb_tb, wb_tb]
  apply BitVec.eq_of_toNat_eq
  rw [BitVec.toNat_and, BitVec.toNat_ofNat, BitVec.toNat_ofNat, BitVec.toNat_ofNat, Nat.mod_eq_of_lt ha, Nat.mod_eq_of_lt hb, Nat.mod_eq_of_lt (Nat.and_lt_two_pow _ hb)]
def lJ (z : Int) : Int64 := Int64.ofInt z
def inL (z : Int) : Prop := -4611686018427387904 < z ∧ z < 4611686018427387904
theorem lJ_toInt {z : Int} (h : -9223372036854775808 ≤ z ∧ z < 9223372036854775808) : (lJ z).toInt = z := Int64.toInt_ofInt_of_le h.1 h.2
theorem lJ_add (a b : Int) : lJ a + lJ b = lJ (a + b) := (Int64.ofInt_add a b).symm
theorem lJ_mul (a b : Int) : lJ a * lJ b = lJ (a * b) := (Int64.ofInt_mul a b).symm
theorem lJ_lN (n : Nat) : lN n = lJ (n : Int) := rfl
theorem lJ_lt {a b : Int} (ha : -9223372036854775808 ≤ a ∧ a < 9223372036854775808) (hb : -9223372036854775808 ≤ b ∧ b < 9223372036854775808) : lJ a < lJ b ↔ a < b := by
  rw [Int64.lt_iff_toInt_lt, lJ_toInt ha, lJ_toInt hb]
theorem lJ_le {a b : Int} (ha : -9223372036854775808 ≤ a ∧ a < 9223372036854775808) (hb : -9223372036854775808 ≤ b ∧ b < 9223372036854775808) : lJ a ≤ lJ b ↔ a ≤ b := by
  rw [Int64.le_iff_toInt_le, lJ_toInt ha, lJ_toInt hb]
theorem lJ_eq {a b : Int} (ha : -9223372036854775808 ≤ a ∧ a < 9223372036854775808) (hb : -9223372036854775808 ≤ b ∧ b < 9223372036854775808) : lJ a = lJ b ↔ a = b := by
  rw [← Int64.toInt_inj, lJ_toInt ha, lJ_toInt hb]
theorem lJ_no : (4611686018427387904 : Int64) = lJ 4611686018427387904 := by decide
theorem lJ_ne {z : Int} (h : inL z) : ¬ lJ z = 4611686018427387904 := by
  rw [lJ_no, lJ_eq (by have := h.1; have := h.2; omega) (by omega)]
  have := h.2; omega
theorem i2l_toInt (x : Int32) : x.toInt64 = lJ x.toInt := by
  apply Int64.toInt_inj.mp
  rw [Int32.toInt_toInt64, lJ_toInt (by have := Int32.le_toInt x; have := Int32.toInt_lt x; omega)]
theorem l2i_jN {z : Int} (h : -2147483648 ≤ z ∧ z < 2147483648) : (lJ z).toInt32 = jN z := by
  apply Int32.toInt_inj.mp
  rw [Int64.toInt_toInt32, lJ_toInt (by omega), jN_toInt h.1 h.2]
  exact Int.bmod_eq_of_le (by omega) (by omega)
theorem lJ_mod (z : Int) : lJ z = lN (z % 18446744073709551616).toNat := by
  apply Int64.toInt_inj.mp
  have h0 : 0 ≤ z % 18446744073709551616 := Int.emod_nonneg _ (by decide)
  show (Int64.ofInt z).toInt = (Int64.ofInt ((z % 18446744073709551616).toNat : Int)).toInt
  rw [Int64.toInt_ofInt, Int64.toInt_ofInt, Int.toNat_of_nonneg h0]
  exact (Int.emod_bmod z 18446744073709551616).symm
theorem lJ_cong {a b : Int} (h : a % 18446744073709551616 = b % 18446744073709551616) : lJ a = lJ b := by rw [lJ_mod a, lJ_mod b, h]
theorem lJ_shl (z : Int) {k : Nat} (hk : k < 64) : lJ z <<< ((nI k).toInt64 &&& 63) = lJ (z * (2 ^ k : Nat)) := by
  rw [lJ_mod z, wb_shl _ hk, lJ_lN]
  apply lJ_cong
  have h0 : 0 ≤ z % 18446744073709551616 := Int.emod_nonneg _ (by decide)
  rw [Int.natCast_mul, Int.toNat_of_nonneg h0]
  rw [Int.mul_emod, Int.emod_emod_of_dvd _ (Int.dvd_refl _), ← Int.mul_emod]
theorem lJ_shr {z : Int} (h : -9223372036854775808 ≤ z ∧ z < 9223372036854775808) {k : Nat} (hk : k < 64) : lJ z >>> ((nI k).toInt64 &&& 63) = lJ (z / (2 ^ k : Nat)) := by
  have e : (lJ z >>> ((nI k).toInt64 &&& 63)).toInt = z / (2 ^ k : Nat) := by
    rw [wb_c k hk]
    have e2 : (lJ z >>> lN k).toInt = (lJ z).toInt >>> (((lN k).toBitVec.smod 64).toNat) := BitVec.toInt_sshiftRight ..
    rw [e2, wb_tb, wb_sm k hk, BitVec.toNat_ofNat, Nat.mod_eq_of_lt (show k < 2 ^ 64 by omega), Int.shiftRight_eq_div_pow, lJ_toInt h]
  have hp : (0 : Int) < (2 ^ k : Nat) := by exact_mod_cast Nat.pow_pos (n := k) (show 0 < 2 by decide)
  have h1 : -9223372036854775808 ≤ z / (2 ^ k : Nat) ∧ z / (2 ^ k : Nat) < 9223372036854775808 := by
    refine ⟨?_, ?_⟩
    · rw [Int.le_ediv_iff_mul_le hp]
      have : (-9223372036854775808 : Int) * (2 ^ k : Nat) ≤ -9223372036854775808 * 1 := Int.mul_le_mul_of_nonpos_left (by decide) (by omega)
      omega
    · rw [Int.ediv_lt_iff_lt_mul hp]
      have : (9223372036854775808 : Int) * 1 ≤ 9223372036854775808 * (2 ^ k : Nat) := Int.mul_le_mul_of_nonneg_left (by omega) (by decide)
      omega
  apply Int64.toInt_inj.mp
  rw [e, lJ_toInt h1]
theorem lJ_mask {z : Int} : lJ z &&& 281474976710655 = lN (z % 281474976710656).toNat := by
  have h0 : 0 ≤ z % 18446744073709551616 := Int.emod_nonneg _ (by decide)
  have h1 : z % 18446744073709551616 < 18446744073709551616 := Int.emod_lt_of_pos _ (by decide)
  rw [lJ_mod z, show (281474976710655 : Int64) = lN (2 ^ 48 - 1) from rfl, wb_and (by omega) (by decide), Nat.and_two_pow_sub_one_eq_mod]
  congr 1
  omega
theorem jN_and7 (z : Int) : jN z &&& nI 7 = nI (z % 8).toNat := by
  rw [pk_and (jN z) (m := nI 7) 3 (by decide)]
  congr 1
  have e : (jN z).toBitVec.toNat = (z % 4294967296).toNat := by
    show (BitVec.ofInt 32 z).toNat = _
    rw [BitVec.toNat_ofInt]; rfl
  rw [e]
  omega
theorem keq_t {x y : Int64} (h : lg_cmp x y = 0) : x = y := by
  unfold lg_cmp at h
  split at h
  · exact absurd h (by decide)
  · split at h
    · assumption
    · exact absurd h (by decide)
theorem keq_f {x y : Int64} (h : ¬ lg_cmp x y = 0) : ¬ x = y := fun e => h (by subst e; unfold lg_cmp; rw [if_neg (Int64.lt_irrefl), if_pos rfl])
theorem kge_t {x y : Int64} (h : 0 ≤ lg_cmp x y) : y ≤ x := (lg_cmp_ge x y).mp h
theorem kge_f {x y : Int64} (h : ¬ 0 ≤ lg_cmp x y) : x < y := Int64.not_le.mp (fun q => h ((lg_cmp_ge x y).mpr q))
theorem kgt_t {x y : Int64} (h : 0 < lg_cmp x y) : y < x := by
  unfold lg_cmp at h
  split at h
  · assumption
  · split at h <;> exact absurd h (by decide)
theorem kgt_f {x y : Int64} (h : ¬ 0 < lg_cmp x y) : ¬ y < x := fun e => h (by unfold lg_cmp; rw [if_pos e]; decide)
/-- a least number over a set of ways, or none -/
def FvL (S : List Nat → Prop) (c : List Nat → Int) (x : Int64) : Prop := (x = 4611686018427387904 ∧ ∀ l, ¬ S l) ∨ (∃ l, S l ∧ x = lJ (c l) ∧ ∀ l', S l' → c l ≤ c l')
theorem FvL_congr {S S2 : List Nat → Prop} {c : List Nat → Int} {x : Int64} (h : ∀ l, S2 l ↔ S l) (hf : FvL S c x) : FvL S2 c x := by
  rcases hf with ⟨a, b⟩ | ⟨l, a, b, d⟩
  · exact Or.inl ⟨a, fun l hl => b l ((h l).mp hl)⟩
  · exact Or.inr ⟨l, (h l).mpr a, b, fun l' hl => d l' ((h l').mp hl)⟩
/-- the least of two sets: what came so far, and the ways of S1 made longer by f -/
theorem FvL_union {S S1 S2 : List Nat → Prop} {c c1 : List Nat → Int} {f : List Nat → List Nat} {x b : Int64} {a : Int} (hx : FvL S c x) (hb : FvL S1 c1 b) (hn : ¬ b = 4611686018427387904) (hc : ∀ l, S1 l → c (f l) = c1 l + a) (h2 : ∀ l, S2 l ↔ S l ∨ ∃ l1, S1 l1 ∧ l = f l1) (hr : ∀ l, S2 l → inL (c l)) : FvL S2 c (if b + lJ a < x then b + lJ a else x) := by
  rcases hb with ⟨e, _⟩ | ⟨l1, b1, b2, b3⟩
  · exact absurd e hn
  · have hsum : b + lJ a = lJ (c (f l1)) := by rw [b2, lJ_add, hc l1 b1]
    have hin := hr (f l1) ((h2 _).mpr (Or.inr ⟨l1, b1, rfl⟩))
    rw [hsum]
    rcases hx with ⟨e, hS⟩ | ⟨l0, a1, a2, a3⟩
    · have hlt : lJ (c (f l1)) < x := by
        rw [e, lJ_no, lJ_lt (by have := hin.1; have := hin.2; omega) (by omega)]; exact hin.2
      rw [if_pos hlt]
      refine Or.inr ⟨f l1, (h2 _).mpr (Or.inr ⟨l1, b1, rfl⟩), rfl, fun l' hl' => ?_⟩
      rcases (h2 l').mp hl' with q | ⟨l3, q1, q2⟩
      · exact absurd q (hS l')
      · have := b3 l3 q1
        rw [q2, hc l3 q1, hc l1 b1]; omega
    · have hin0 := hr l0 ((h2 _).mpr (Or.inl a1))
      have hiff := lJ_lt (a := c (f l1)) (b := c l0) (by have := hin.1; have := hin.2; omega) (by have := hin0.1; have := hin0.2; omega)
      rw [a2]
      by_cases q : c (f l1) < c l0
      · rw [if_pos (hiff.mpr q)]
        refine Or.inr ⟨f l1, (h2 _).mpr (Or.inr ⟨l1, b1, rfl⟩), rfl, fun l' hl' => ?_⟩
        rcases (h2 l').mp hl' with r | ⟨l3, q1, q2⟩
        · have := a3 l' r; omega
        · have := b3 l3 q1
          rw [q2, hc l3 q1, hc l1 b1]; omega
      · rw [if_neg (fun z => q (hiff.mp z))]
        refine Or.inr ⟨l0, (h2 _).mpr (Or.inl a1), rfl, fun l' hl' => ?_⟩
        rcases (h2 l').mp hl' with r | ⟨l3, q1, q2⟩
        · exact a3 l' r
        · have := b3 l3 q1
          have := hc l1 b1
          rw [q2, hc l3 q1]; omega
theorem FvL_none {S : List Nat → Prop} {c : List Nat → Int} {x : Int64} (hr : ∀ l, S l → inL (c l)) (h : FvL S c x) (hx : x = 4611686018427387904) : ∀ l, ¬ S l := by
  rcases h with ⟨_, b⟩ | ⟨l, a, b, _⟩
  · exact b
  · exact absurd (b.symm.trans hx) (lJ_ne (hr l a))
