/-! the reference: its simple calls -/
theorem ite_cg {p q : Prop} {dp : Decidable p} {dq : Decidable q} {x y : Int32} (h : p ↔ q) : (@ite _ p dp x y) = (@ite _ q dq x y) := by
  by_cases hp : p
  · rw [if_pos hp, if_pos (h.mp hp)]
  · rw [if_neg hp, if_neg (fun hq => hp (h.mpr hq))]
theorem in_hc {n : Nat} {k : Int32} (h1 : 1 ≤ n) (h2 : n < 2 ^ 31) : (¬ k < nI 0 ∧ ¬ nI (n - 1) < k) ↔ hcP n k := by
  rw [nI_0]
  refine ⟨fun ⟨a, b⟩ => ⟨a, fun c => ?_⟩, fun ⟨a, b⟩ => ⟨a, fun c => ?_⟩⟩
  · obtain ⟨j, hj, rfl⟩ := nI_of2 (nI_toInt (show n - 1 < 2 ^ 31 by omega)) a (Int32.not_lt.mp b)
    rw [nI_leI (by omega) (by omega)] at c; omega
  · obtain ⟨j, hj, rfl⟩ := hcP_of ⟨a, b⟩ h2
    rw [nI_ltI (by omega) (by omega)] at c; omega
theorem in_hp {n : Nat} {k : Int32} : (¬ k < nI 0 ∧ ¬ nI n < k) ↔ hpP n k := by rw [nI_0]
theorem in_sp {k : Int32} : (¬ k < nI 0 ∧ ¬ nI 6 < k) ↔ spP k := by rw [nI_0]
theorem in_tm {k : Int32} : (¬ k < nI 0 ∧ ¬ nI 1000 < k) ↔ tmP k := by rw [nI_0]
def eoI (st : Nat → Int32) (j q : Nat) (x : Int32) : Prop := (∃ r, x = nI r ∧ cnt st (q + 1) + r = j + 1) ∨ (x = -1 ∧ cnt st (q + 1) = j + 2 ∧ ¬ st q = 0)
theorem eoI_z {st : Nat → Int32} {j q r : Nat} (h : cnt st (q + 1) + r = j + 1) (hs : st (q + 1) = 0) : eoI st j (q + 1) (nI r - nI 0) :=
  Or.inl ⟨r, by rw [pk_sub (Nat.zero_le _)]; rfl, by rw [cnt_sz hs]; exact h⟩
theorem eoI_s {st : Nat → Int32} {j q r : Nat} (h : cnt st (q + 1) + r = j + 1) (hs : ¬ st (q + 1) = 0) : eoI st j (q + 1) (nI r - nI 1) := by
  cases r with
  | zero => exact Or.inr ⟨by decide, by rw [cnt_st hs]; omega, hs⟩
  | succ r => exact Or.inl ⟨r, by rw [pk_sub (by omega)]; rfl, by rw [cnt_st hs]; omega⟩
theorem d2_dec : ∀ u, u < 7 → ∀ v, v < 7 → (nI 2 < nI u - nI v ↔ v + 2 < u) := by decide +kernel
theorem aSR_k {n : Nat} {k u v : Int32} (h : hcP n k) (hu : spP u) (hv : spP v) : aSR n k u v = 0 := by rw [aSR, if_pos h, if_pos ⟨hu, hv⟩]; rfl
theorem aSt_u {F : Nat → Nat → Nat → Int32} {n : Nat} {k u v : Int32} (h : ¬ hcP n k) : -1 = aSt F n k u v := by
  have e : aSR n k u v = -1 := by rw [aSR, if_neg h]
  rw [aSt, e, if_neg (by decide)]
theorem aSt_o {F : Nat → Nat → Nat → Int32} {n : Nat} {k u v : Int32} (h : hcP n k) (h2 : ¬ (spP u ∧ spP v)) : -2 = aSt F n k u v := by
  have e : aSR n k u v = -2 := by rw [aSR, if_pos h, if_neg h2]
  rw [aSt, e, if_neg (by decide)]
theorem flN_cases (gr li nu : Nat → Int32) (k u v : Nat) : ∃ c : Nat, c ≤ 5 ∧ flN gr li nu k u v = nI c := by
  unfold flN fltE
  split
  · exact ⟨1, by omega, rfl⟩
  · split
    · exact ⟨2, by omega, rfl⟩
    · split
      · exact ⟨3, by omega, rfl⟩
      · split
        · exact ⟨4, by omega, rfl⟩
        · split
          · exact ⟨5, by omega, rfl⟩
          · exact ⟨0, by omega, rfl⟩
theorem fl_nz {gr li nu : Nat → Int32} {k u v : Nat} (h : flN gr li nu k u v = 0) : 0 < u + v := by
  rcases Nat.eq_zero_or_pos (u + v) with q | q
  · have e : flN gr li nu k u v = nI 1 ∨ flN gr li nu k u v = nI 2 := by
      unfold flN fltE
      by_cases c : li k < nI u ∨ li k < nI v
      · rw [if_pos c]; exact Or.inl rfl
      · rw [if_neg c, if_pos ⟨by omega, by omega⟩]; exact Or.inr rfl
    rw [h] at e
    rcases e with e | e <;> exact absurd e (by decide)
  · exact q
theorem aSt_ge {gr li nu : Nat → Int32} {n : Nat} {k u v : Int32} (h : 0 ≤ aSt (flN gr li nu) n k u v) : aSR n k u v = 0 := by
  by_cases e : aSR n k u v = 0
  · exact e
  · rw [aSt, if_neg e] at h
    by_cases h1 : hcP n k
    · by_cases h2 : spP u ∧ spP v
      · exact aSR_k h1 h2.1 h2.2
      · rw [aSR, if_pos h1, if_neg h2] at h; exact absurd h (by decide)
    · rw [aSR, if_neg h1] at h; exact absurd h (by decide)
theorem aSt_lt {gr li nu : Nat → Int32} {n : Nat} {k u v : Int32} (h : ¬ 0 ≤ aSt (flN gr li nu) n k u v) (F : Nat → Nat → Nat → Int32) : aSt (flN gr li nu) n k u v = aSt F n k u v := by
  by_cases e : aSR n k u v = 0
  · rw [aSt, if_pos e] at h
    obtain ⟨c, hc, e2⟩ := flN_cases gr li nu k.toNatClampNeg u.toNatClampNeg v.toNatClampNeg
    rw [e2] at h
    exact absurd (nI_pos' (by omega)) h
  · rw [aSt, aSt, if_neg e, if_neg e]
theorem flN_le0 {gr li nu : Nat → Int32} {k u v : Nat} (h : flN gr li nu k u v ≤ 0) : flN gr li nu k u v = 0 := by
  obtain ⟨c, hc, e⟩ := flN_cases gr li nu k u v
  rw [e] at h ⊢
  rw [← nI_0, nI_leI (by omega) (by omega)] at h
  rw [show c = 0 by omega]; rfl
theorem flN_nle0 {gr li nu : Nat → Int32} {k u v : Nat} (h : ¬ flN gr li nu k u v ≤ 0) : ¬ flN gr li nu k u v = 0 := fun e => h (by rw [e]; decide)
theorem aSt_v {F : Nat → Nat → Nat → Int32} {n k u v : Nat} (h : aSR n (nI k) (nI u) (nI v) = 0) (hk : k < 16) (hu : u ≤ 6) (hv : v ≤ 6) : aSt F n (nI k) (nI u) (nI v) = F k u v := (aSt_1 h hk hu hv rfl).symm
theorem cnt_ff (F : Nat → Int32) (h01 : ∀ j, F j = nI 0 ∨ F j = nI 1) : ∀ k, k < 2 ^ 20 → ∃ c, c ≤ k ∧ sumI F k = nI c ∧ (c = 0 ↔ ffU F k = -1000000)
  | 0, _ => ⟨0, Nat.le_refl _, rfl, ⟨fun _ => rfl, fun _ => rfl⟩⟩
  | k + 1, hk => by
    obtain ⟨c, h1, h2, h3⟩ := cnt_ff F h01 k (by omega)
    rcases h01 k with e | e
    · refine ⟨c, by omega, by rw [sumI, h2, e, nI_add]; rfl, ?_⟩
      rw [ffU, if_pos e]
      by_cases q : ffU F k = -1000000
      · rw [if_pos q]; exact ⟨fun _ => rfl, fun _ => h3.mpr q⟩
      · rw [if_neg q]; exact h3
    · refine ⟨c + 1, by omega, by rw [sumI, h2, e, nI_add], ?_⟩
      have e2 : (if F k = nI 0 then (-1000000 : Int32) else nI k) = nI k := if_neg (by rw [e]; decide)
      rw [ffU, e2]
      refine ⟨fun z => by omega, fun z => ?_⟩
      by_cases q : ffU F k = -1000000
      · rw [if_pos q] at z; exact absurd z (nI_nn (by omega))
      · rw [if_neg q] at z; exact absurd z q
theorem lgF_01 (gr li nu : Nat → Int32) (s : Nat → Nat) : ∀ j, lgF gr li nu s j = nI 0 ∨ lgF gr li nu s j = nI 1 := fun j => by
  unfold lgF; split <;> simp
theorem ff_z {gr li nu : Nat → Int32} {s : Nat → Nat} {k : Nat} (hk : k ≤ 17) (h : sumI (lgF gr li nu s) k = 0) : ffU (lgF gr li nu s) k = -1000000 := by
  obtain ⟨c, h1, h2, h3⟩ := cnt_ff _ (lgF_01 gr li nu s) k (by omega)
  rw [h2, ← nI_0, nI_eq (by omega) (by omega)] at h
  exact h3.mp h
theorem ff_nz {gr li nu : Nat → Int32} {s : Nat → Nat} {k : Nat} (hk : k ≤ 17) (h : ¬ sumI (lgF gr li nu s) k = 0) : ¬ ffU (lgF gr li nu s) k = -1000000 := by
  obtain ⟨c, h1, h2, h3⟩ := cnt_ff _ (lgF_01 gr li nu s) k (by omega)
  rw [h2, ← nI_0, nI_eq (by omega) (by omega)] at h
  exact fun q => h (h3.mpr q)
def trLo (k : Nat) : Nat := if k = 1 ∨ k = 4 then 0 else 1
def trHi (k : Nat) : Nat := if k < 2 then 20 else if k < 4 then 400 else 10
abbrev trP (k : Nat) (v : Int32) : Prop := ¬ v < nI (trLo k) ∧ ¬ nI (trHi k) < v
def aTrain (nu : Nat → Int32) (k v : Int32) : Int32 × (Nat → Int32) := if hcP 5 k then (if trP k.toNatClampNeg v then (nu k.toNatClampNeg, upd nu k.toNatClampNeg v) else (-2, nu)) else (-2, nu)
set_option maxHeartbeats 4000000 in
set_option maxRecDepth 100000 in
theorem c_X7_in (l : Launch) (D : va_G) (cI cJ cZ : ClassId) (b : Nat → Nat) (n : Nat) (gr li st tr : Nat → Int32) (t : Nat) (sd lea : Nat → Int32) (pa : Int32) (pt pp : Nat → Int32) (su : Int32) (sh tt : Nat → Int32) (x y z : Int32) : Met l yX7_in wsX7_in { frames := 0, cells := 0, slots := 0, locals := 0 } (gPc D (tyT cI cJ cZ) (wB b) FT (wM cI cJ cZ b (nI n) gr li st tr (nI t) sd lea pa pt pp su sh tt) [.int x, .int y, .int z]) (vp_Si (fun r => r = if ¬ x < y ∧ ¬ z < x then nI 1 else nI 0)) 0 0 (fun _ => False) := by
  refine gs_si (cc := cX7_in) (nL := 3) (ty := .boolean) (by decide) rfl (Nat.le_of_ble_eq_true rfl) (fun G C hret => ?_)
  show G 0 0 (wM cI cJ cZ b (nI n) gr li st tr (nI t) sd lea pa pt pp su sh tt) [(0, .int x), (1, .int y), (2, .int z)] 0 []
  refine g_iload_n C 0 dX7_in_0 rfl rfl rfl (q := 1) ?_
  refine g_iload_n C 1 dX7_in_1 rfl rfl rfl (q := 2) ?_
  refine g_icmp_lt C (t := 14) dX7_in_2 (by decide) (q := 5) rfl (fun c_2 => ?_) (fun c_2 => ?_)
  · refine g_iconst C (nI 0) dX7_in_14 (by decide) (q := 15) rfl ?_
    exact hret _ 15 _ _ dX7_in_15 (by decide) ((if_neg (by first | assumption | (refine ⟨?_, ?_⟩ <;> assumption) | (refine ⟨?_, ?_, ?_⟩ <;> assumption) | omega | simp_all)).symm)
  · refine g_iload_n C 0 dX7_in_5 rfl rfl rfl (q := 6) ?_
    refine g_iload_n C 2 dX7_in_6 rfl rfl rfl (q := 7) ?_
    refine g_icmp_gt C (t := 14) dX7_in_7 (by decide) (q := 10) rfl (fun c_7 => ?_) (fun c_7 => ?_)
    · refine g_iconst C (nI 0) dX7_in_14 (by decide) (q := 15) rfl ?_
      exact hret _ 15 _ _ dX7_in_15 (by decide) ((if_neg (by first | assumption | (refine ⟨?_, ?_⟩ <;> assumption) | (refine ⟨?_, ?_, ?_⟩ <;> assumption) | omega | simp_all)).symm)
    · refine g_iconst C (nI 1) dX7_in_10 (by decide) (q := 11) rfl ?_
      refine g_goto C (q := 15) dX7_in_11 (by decide) ?_
      exact hret _ 15 _ _ dX7_in_15 (by decide) ((if_pos (by first | assumption | (refine ⟨?_, ?_⟩ <;> assumption) | (refine ⟨?_, ?_, ?_⟩ <;> assumption) | omega | simp_all)).symm)
set_option maxHeartbeats 4000000 in
set_option maxRecDepth 100000 in
theorem c_X7_isCell (l : Launch) (D : va_G) (cI cJ cZ : ClassId) (b : Nat → Nat) (n : Nat) (gr li st tr : Nat → Int32) (t : Nat) (sd lea : Nat → Int32) (pa : Int32) (pt pp : Nat → Int32) (su : Int32) (sh tt : Nat → Int32) (k : Int32) (hn1 : 1 ≤ n) (hn : n ≤ 16) : Met l yX7_isCell wsX7_isCell { frames := 1, cells := 0, slots := 0, locals := 22 } (gPc D (tyT cI cJ cZ) (wB b) FT (wM cI cJ cZ b (nI n) gr li st tr (nI t) sd lea pa pt pp su sh tt) [.ref (b 0), .int k]) (vp_Si (fun r => r = if hcP n k then nI 1 else nI 0)) 0 0 (fun _ => False) := by
  refine gs_si (cc := cX7_isCell) (nL := 2) (ty := .boolean) (by decide) rfl (Nat.le_of_ble_eq_true rfl) (fun G C hret => ?_)
  show G 0 0 (wM cI cJ cZ b (nI n) gr li st tr (nI t) sd lea pa pt pp su sh tt) [(0, .ref (b 0)), (1, .int k)] 0 []
  refine g_iload_n C 1 dX7_isCell_0 rfl rfl rfl (q := 1) ?_
  refine g_iconst C (nI 0) dX7_isCell_1 (by decide) (q := 2) rfl ?_
  refine g_aload_n C 0 dX7_isCell_2 rfl rfl rfl (q := 3) ?_
  refine g_get C 0 0 dX7_isCell_3 (Cn := RX7) (T := TX7) (N := 14) (fun _ h => List.mem_cons_of_mem _ (List.mem_append_right _ h)) rfl rfl (by decide) (List.mem_cons_of_mem _ (List.mem_append_left _ (List.mem_of_getElem? (i := 0) rfl))) rfl (q := 6) rfl ?_
  refine g_iconst C (nI 1) dX7_isCell_6 (by decide) (q := 7) rfl ?_
  refine g_isub C dX7_isCell_7 (q := 8) rfl ?_
  refine g_eqi C (y := nI (n - 1)) (pk_sub hn1) ?_
  refine gcS_si C (n := 3) (As := [.int k, .int (nI 0), .int (nI (n - 1))]) (st := []) (fun h => h) dX7_isCell_8 gX7_isCell_X7_in (c_X7_in l D cI cJ cZ b n gr li st tr t sd lea pa pt pp su sh tt k (nI 0) (nI (n - 1))) rfl rfl rfl (by decide +kernel) ⟨Nat.le_of_ble_eq_true rfl, Nat.le_of_ble_eq_true rfl⟩ rfl rfl (Nat.le_of_ble_eq_true rfl) FT_b FT_h ⟨Nat.le_of_ble_eq_true rfl, Nat.le_of_ble_eq_true rfl⟩ (q := 11) rfl (fun r_8 h_8 => ?_)
  subst h_8
  refine g_eqi C (y := if hcP n k then nI 1 else nI 0) (ite_cg (in_hc hn1 (by omega))) ?_
  exact hret _ 11 _ _ dX7_isCell_11 (by split <;> decide) (rfl)
set_option maxHeartbeats 4000000 in
set_option maxRecDepth 100000 in
theorem c_X7_isSpeed (l : Launch) (D : va_G) (cI cJ cZ : ClassId) (b : Nat → Nat) (n : Nat) (gr li st tr : Nat → Int32) (t : Nat) (sd lea : Nat → Int32) (pa : Int32) (pt pp : Nat → Int32) (su : Int32) (sh tt : Nat → Int32) (x : Int32) : Met l yX7_isSpeed wsX7_isSpeed { frames := 1, cells := 0, slots := 0, locals := 22 } (gPc D (tyT cI cJ cZ) (wB b) FT (wM cI cJ cZ b (nI n) gr li st tr (nI t) sd lea pa pt pp su sh tt) [.int x]) (vp_Si (fun r => r = if spP x then nI 1 else nI 0)) 0 0 (fun _ => False) := by
  refine gs_si (cc := cX7_isSpeed) (nL := 1) (ty := .boolean) (by decide) rfl (Nat.le_of_ble_eq_true rfl) (fun G C hret => ?_)
  show G 0 0 (wM cI cJ cZ b (nI n) gr li st tr (nI t) sd lea pa pt pp su sh tt) [(0, .int x)] 0 []
  refine g_iload_n C 0 dX7_isSpeed_0 rfl rfl rfl (q := 1) ?_
  refine g_iconst C (nI 0) dX7_isSpeed_1 (by decide) (q := 2) rfl ?_
  refine g_bipush C (nI 6) dX7_isSpeed_2 (by decide) (q := 4) rfl ?_
  refine gcS_si C (n := 3) (As := [.int x, .int (nI 0), .int (nI 6)]) (st := []) (fun h => h) dX7_isSpeed_4 gX7_isSpeed_X7_in (c_X7_in l D cI cJ cZ b n gr li st tr t sd lea pa pt pp su sh tt x (nI 0) (nI 6)) rfl rfl rfl (by decide +kernel) ⟨Nat.le_of_ble_eq_true rfl, Nat.le_of_ble_eq_true rfl⟩ rfl rfl (Nat.le_of_ble_eq_true rfl) FT_b FT_h ⟨Nat.le_of_ble_eq_true rfl, Nat.le_of_ble_eq_true rfl⟩ (q := 7) rfl (fun r_4 h_4 => ?_)
  subst h_4
  refine g_eqi C (y := if spP x then nI 1 else nI 0) (ite_cg in_sp) ?_
  exact hret _ 7 _ _ dX7_isSpeed_7 (by split <;> decide) (rfl)
set_option maxHeartbeats 4000000 in
set_option maxRecDepth 100000 in
theorem c_X7_legs (l : Launch) (D : va_G) (cI cJ cZ : ClassId) (b : Nat → Nat) (n : Nat) (gr li st tr : Nat → Int32) (t : Nat) (sd lea : Nat → Int32) (pa : Int32) (pt pp : Nat → Int32) (su : Int32) (sh tt : Nat → Int32) (hn : n ≤ 16) (h0 : ¬ st 0 = 0) : Met l yX7_legs wsX7_legs { frames := 0, cells := 0, slots := 0, locals := 0 } (gPc D (tyT cI cJ cZ) (wB b) FT (wM cI cJ cZ b (nI n) gr li st tr (nI t) sd lea pa pt pp su sh tt) [.ref (b 0)]) (vp_Si (fun r => r = nI (cnt st (n + 1) - 1))) 0 0 (fun _ => False) := by
  refine gs_si (cc := cX7_legs) (nL := 3) (ty := .int) (by decide) rfl (Nat.le_of_ble_eq_true rfl) (fun G C hret => ?_)
  show G 0 0 (wM cI cJ cZ b (nI n) gr li st tr (nI t) sd lea pa pt pp su sh tt) [(0, .ref (b 0))] 0 []
  refine g_iconst C (nI 0) dX7_legs_0 (by decide) (q := 1) rfl ?_
  refine g_istore_n C [(1, .int (nI 0)), (0, .ref (b 0))] dX7_legs_1 rfl (by decide) rfl (q := 2) rfl ?_
  refine g_iconst C (nI 1) dX7_legs_2 (by decide) (q := 3) rfl ?_
  have c1 := cnt_st h0
  have c2 : nI 0 = nI (cnt st 1 - 1) := by rw [c1]; rfl
  rw [c2]
  refine g_istore_n C [(2, .int (nI 1)), (1, .int (nI (cnt st 1 - 1))), (0, .ref (b 0))] dX7_legs_3 rfl (by decide) rfl (q := 4) rfl ?_
  have lp_4 : ∀ (N : Nat) (k : Nat), (k ≤ n + 1) → (1 ≤ k) → n + 1 - k < N → G 0 0 (wM cI cJ cZ b (nI n) gr li st tr (nI t) sd lea pa pt pp su sh tt) [(2, .int (nI k)), (1, .int (nI (cnt st k - 1))), (0, .ref (b 0))] 4 [] := by
    intro N
    induction N with
    | zero => intro k _ _ hmu; exact absurd hmu (Nat.not_lt_zero _)
    | succ N ih_4 =>
      intro k hk hk1 hmu
      have hcl := cnt_le st k
      have c0 := cnt_mono st (show 0 + 1 ≤ k by omega)
      have c1 := cnt_st h0
      have c2 : cnt st 0 = 0 := rfl
      refine g_iload_n C 0 dX7_legs_4 rfl rfl rfl (q := 5) ?_
      refine g_aload_n C 2 dX7_legs_5 rfl rfl rfl (q := 6) ?_
      refine g_get C 0 0 dX7_legs_6 (Cn := RX7) (T := TX7) (N := 14) (fun _ h => List.mem_cons_of_mem _ (List.mem_append_right _ h)) rfl rfl (by decide) (List.mem_cons_of_mem _ (List.mem_append_left _ (List.mem_of_getElem? (i := 0) rfl))) rfl (q := 9) rfl ?_
      refine g_icmp_gt C (t := 35) dX7_legs_9 (by decide) (q := 12) rfl (fun c_9 => ?_) (fun c_9 => ?_)
      · rw [nI_ltI (by omega) (by omega)] at c_9
        refine g_iload_n C 1 dX7_legs_35 rfl rfl rfl (q := 36) ?_
        exact hret _ 36 _ _ dX7_legs_36 rfl (by rw [show k = n + 1 by omega])
      · rw [nI_ltI (by omega) (by omega)] at c_9
        refine g_iload_n C 1 dX7_legs_12 rfl rfl rfl (q := 13) ?_
        refine g_aload_n C 2 dX7_legs_13 rfl rfl rfl (q := 14) ?_
        refine g_get C 0 3 dX7_legs_14 (Cn := RX7) (T := TX7) (N := 14) (fun _ h => List.mem_cons_of_mem _ (List.mem_append_right _ h)) rfl rfl (by decide) (List.mem_cons_of_mem _ (List.mem_append_left _ (List.mem_of_getElem? (i := 1) rfl))) rfl (q := 17) rfl ?_
        refine g_iload_n C 0 dX7_legs_17 rfl rfl rfl (q := 18) ?_
        refine g_zald C 3 2 dX7_legs_18 rfl rfl (vp_in_nI (by omega) (by decide)) (q := 19) rfl ?_
        refine g_eqi C (y := st k) (by rw [nI_clamp (by omega)]) ?_
        refine g_if_eq C (t := 26) dX7_legs_19 (by decide) (q := 22) rfl (fun c_19 => ?_) (fun c_19 => ?_)
        · refine g_iconst C (nI 0) dX7_legs_26 (by decide) (q := 27) rfl ?_
          refine g_iadd C dX7_legs_27 (q := 28) rfl ?_
          refine g_eqi C (y := nI ((cnt st k - 1) + 0)) (nI_add (cnt st k - 1) 0) ?_
          refine g_eqi C (y := nI (cnt st (k + 1) - 1)) (congrArg nI (by first | (rw [cnt_st c_19]; omega) | (rw [cnt_sz c_19]; omega))) ?_
          refine g_istore_n C [(1, .int (nI (cnt st (k + 1) - 1))), (2, .int (nI k)), (0, .ref (b 0))] dX7_legs_28 rfl (by decide) rfl (q := 29) rfl ?_
          refine g_iinc C (z := 1) (nI (k + 1)) [(2, .int (nI (k + 1))), (1, .int (nI (cnt st (k + 1) - 1))), (0, .ref (b 0))] dX7_legs_29 rfl (nI_add k 1) (by decide) rfl (q := 32) rfl ?_
          refine g_goto C (q := 4) dX7_legs_32 (by decide) ?_
          exact ih_4 (k + 1) (by first | assumption | omega) (by first | assumption | omega) (by omega)
        · refine g_iconst C (nI 1) dX7_legs_22 (by decide) (q := 23) rfl ?_
          refine g_goto C (q := 27) dX7_legs_23 (by decide) ?_
          refine g_iadd C dX7_legs_27 (q := 28) rfl ?_
          refine g_eqi C (y := nI ((cnt st k - 1) + 1)) (nI_add (cnt st k - 1) 1) ?_
          refine g_eqi C (y := nI (cnt st (k + 1) - 1)) (congrArg nI (by first | (rw [cnt_st c_19]; omega) | (rw [cnt_sz c_19]; omega))) ?_
          refine g_istore_n C [(1, .int (nI (cnt st (k + 1) - 1))), (2, .int (nI k)), (0, .ref (b 0))] dX7_legs_28 rfl (by decide) rfl (q := 29) rfl ?_
          refine g_iinc C (z := 1) (nI (k + 1)) [(2, .int (nI (k + 1))), (1, .int (nI (cnt st (k + 1) - 1))), (0, .ref (b 0))] dX7_legs_29 rfl (nI_add k 1) (by decide) rfl (q := 32) rfl ?_
          refine g_goto C (q := 4) dX7_legs_32 (by decide) ?_
          exact ih_4 (k + 1) (by first | assumption | omega) (by first | assumption | omega) (by omega)
  exact lp_4 _ 1 (by first | assumption | omega) (by first | assumption | omega) (Nat.lt_succ_self _)
set_option maxHeartbeats 4000000 in
set_option maxRecDepth 100000 in
theorem c_X7_endOf (l : Launch) (D : va_G) (cI cJ cZ : ClassId) (b : Nat → Nat) (n : Nat) (gr li st tr : Nat → Int32) (t : Nat) (sd lea : Nat → Int32) (pa : Int32) (pt pp : Nat → Int32) (su : Int32) (sh tt : Nat → Int32) (j : Nat) (sp : Nat → Int32) (m : Nat) (hL : LInv st sp n m) (hj : j < m) : Met l yX7_endOf wsX7_endOf { frames := 0, cells := 0, slots := 0, locals := 0 } (gPc D (tyT cI cJ cZ) (wB b) FT (wM cI cJ cZ b (nI n) gr li st tr (nI t) sd lea pa pt pp su sh tt) [.ref (b 0), .int (nI j)]) (vp_Si (fun r => r = nI (posOf st (j + 1) n))) 0 0 (fun _ => False) := by
  refine gs_si (cc := cX7_endOf) (nL := 4) (ty := .int) (by decide) rfl (Nat.le_of_ble_eq_true rfl) (fun G C hret => ?_)
  show G 0 0 (wM cI cJ cZ b (nI n) gr li st tr (nI t) sd lea pa pt pp su sh tt) [(0, .ref (b 0)), (1, .int (nI j))] 0 []
  have hn := hL.2.1
  have hcm := hL.2.2.2.2.2.1
  refine g_iload_n C 1 dX7_endOf_0 rfl rfl rfl (q := 1) ?_
  refine g_istore_n C [(2, .int (nI j)), (0, .ref (b 0)), (1, .int (nI j))] dX7_endOf_1 rfl (by decide) rfl (q := 2) rfl ?_
  refine g_iconst C (nI 0) dX7_endOf_2 (by decide) (q := 3) rfl ?_
  refine g_istore_n C [(3, .int (nI 0)), (2, .int (nI j)), (0, .ref (b 0)), (1, .int (nI j))] dX7_endOf_3 rfl (by decide) rfl (q := 4) rfl ?_
  have lp_4 : ∀ (N : Nat) (q : Nat) (x : Int32), (q ≤ n) → (eoI st j q x) → n + 1 - q < N → G 0 0 (wM cI cJ cZ b (nI n) gr li st tr (nI t) sd lea pa pt pp su sh tt) [(3, .int (nI q)), (2, .int x), (0, .ref (b 0)), (1, .int (nI j))] 4 [] := by
    intro N
    induction N with
    | zero => intro q x _ _ hmu; exact absurd hmu (Nat.not_lt_zero _)
    | succ N ih_4 =>
      intro q x hq hx hmu
      refine g_iload_n C 1 dX7_endOf_4 rfl rfl rfl (q := 5) ?_
      refine g_if_lt C (t := 31) dX7_endOf_5 (by decide) (q := 8) rfl (fun c_5 => ?_) (fun c_5 => ?_)
      · refine g_iload_n C 0 dX7_endOf_31 rfl rfl rfl (q := 32) ?_
        exact hret _ 32 _ _ dX7_endOf_32 rfl (by have hz : cnt st (q + 1) = j + 2 ∧ ¬ st q = 0 := (by rcases hx with ⟨r, e, hr⟩ | h; (exact absurd (by rw [← e]; exact c_5) (nI_pos (show r < 2 ^ 31 by have := hL.m_le; omega))); (exact h.2)); have e := posOf_eq hz.2 n hq; have e2 := cnt_st hz.2; rw [show cnt st q = j + 1 by omega] at e; rw [e])
      · obtain ⟨r, rfl, hr⟩ : ∃ r, x = nI r ∧ cnt st (q + 1) + r = j + 1 := by rcases hx with h | h; (exact h); (exact absurd (by rw [h.1]; decide) c_5)
        have hqn : q < n := by rcases Nat.lt_or_ge q n with z | z; (exact z); (have := cnt_mono st (show n + 1 ≤ q + 1 by omega); omega)
        refine g_iinc C (z := 0) (nI (q + 1)) [(3, .int (nI (q + 1))), (2, .int (nI r)), (0, .ref (b 0)), (1, .int (nI j))] dX7_endOf_8 rfl (nI_add q 1) (by decide) rfl (q := 11) rfl ?_
        refine g_iload_n C 1 dX7_endOf_11 rfl rfl rfl (q := 12) ?_
        refine g_aload_n C 2 dX7_endOf_12 rfl rfl rfl (q := 13) ?_
        refine g_get C 0 3 dX7_endOf_13 (Cn := RX7) (T := TX7) (N := 14) (fun _ h => List.mem_cons_of_mem _ (List.mem_append_right _ h)) rfl rfl (by decide) (List.mem_cons_of_mem _ (List.mem_append_left _ (List.mem_of_getElem? (i := 0) rfl))) rfl (q := 16) rfl ?_
        refine g_iload_n C 0 dX7_endOf_16 rfl rfl rfl (q := 17) ?_
        refine g_zald C 3 2 dX7_endOf_17 rfl rfl (vp_in_nI (by omega) (by decide)) (q := 18) rfl ?_
        refine g_eqi C (y := st (q + 1)) (by rw [nI_clamp (by omega)]) ?_
        refine g_if_eq C (t := 25) dX7_endOf_18 (by decide) (q := 21) rfl (fun c_18 => ?_) (fun c_18 => ?_)
        · refine g_iconst C (nI 0) dX7_endOf_25 (by decide) (q := 26) rfl ?_
          refine g_isub C dX7_endOf_26 (q := 27) rfl ?_
          refine g_istore_n C [(2, .int ((nI r) - (nI 0))), (3, .int (nI (q + 1))), (0, .ref (b 0)), (1, .int (nI j))] dX7_endOf_27 rfl (by decide) rfl (q := 28) rfl ?_
          refine g_goto C (q := 4) dX7_endOf_28 (by decide) ?_
          refine g_locs C [(3, .int (nI (q + 1))), (2, .int ((nI r) - (nI 0))), (0, .ref (b 0)), (1, .int (nI j))] [1, 0, 2, 3] rfl ?_
          exact ih_4 (q + 1) ((nI r) - (nI 0)) (by first | assumption | omega) (by first | exact eoI_s hr c_18 | exact eoI_z hr c_18) (by omega)
        · refine g_iconst C (nI 1) dX7_endOf_21 (by decide) (q := 22) rfl ?_
          refine g_goto C (q := 26) dX7_endOf_22 (by decide) ?_
          refine g_isub C dX7_endOf_26 (q := 27) rfl ?_
          refine g_istore_n C [(2, .int ((nI r) - (nI 1))), (3, .int (nI (q + 1))), (0, .ref (b 0)), (1, .int (nI j))] dX7_endOf_27 rfl (by decide) rfl (q := 28) rfl ?_
          refine g_goto C (q := 4) dX7_endOf_28 (by decide) ?_
          refine g_locs C [(3, .int (nI (q + 1))), (2, .int ((nI r) - (nI 1))), (0, .ref (b 0)), (1, .int (nI j))] [1, 0, 2, 3] rfl ?_
          exact ih_4 (q + 1) ((nI r) - (nI 1)) (by first | assumption | omega) (by first | exact eoI_s hr c_18 | exact eoI_z hr c_18) (by omega)
  exact lp_4 _ 0 (nI j) (by first | assumption | omega) (Or.inl ⟨j, rfl, by rw [cnt_st hL.2.2.2.1]; show 0 + 1 + j = j + 1; omega⟩) (Nat.lt_succ_self _)
set_option maxHeartbeats 4000000 in
set_option maxRecDepth 100000 in
theorem c_X7_firstOf (l : Launch) (D : va_G) (cI cJ cZ : ClassId) (b : Nat → Nat) (n : Nat) (gr li st tr : Nat → Int32) (t : Nat) (sd lea : Nat → Int32) (pa : Int32) (pt pp : Nat → Int32) (su : Int32) (sh tt : Nat → Int32) (j : Nat) (sp : Nat → Int32) (m : Nat) (hL : LInv st sp n m) (hj : j ≤ m) : Met l yX7_firstOf wsX7_firstOf { frames := 1, cells := 0, slots := 0, locals := 23 } (gPc D (tyT cI cJ cZ) (wB b) FT (wM cI cJ cZ b (nI n) gr li st tr (nI t) sd lea pa pt pp su sh tt) [.ref (b 0), .int (nI j)]) (vp_Si (fun r => r = nI (posOf st j n))) 0 0 (fun _ => False) := by
  refine gs_si (cc := cX7_firstOf) (nL := 2) (ty := .int) (by decide) rfl (Nat.le_of_ble_eq_true rfl) (fun G C hret => ?_)
  show G 0 0 (wM cI cJ cZ b (nI n) gr li st tr (nI t) sd lea pa pt pp su sh tt) [(0, .ref (b 0)), (1, .int (nI j))] 0 []
  have hn := hL.2.1
  have hmn := hL.m_le
  refine g_iload_n C 1 dX7_firstOf_0 rfl rfl rfl (q := 1) ?_
  refine g_if_ne C (t := 8) dX7_firstOf_1 (by decide) (q := 4) rfl (fun c_1 => ?_) (fun c_1 => ?_)
  · rw [← nI_0, nI_eq (by omega) (by omega)] at c_1
    refine g_aload_n C 0 dX7_firstOf_8 rfl rfl rfl (q := 9) ?_
    refine g_iload_n C 1 dX7_firstOf_9 rfl rfl rfl (q := 10) ?_
    refine g_iconst C (nI 1) dX7_firstOf_10 (by decide) (q := 11) rfl ?_
    refine g_isub C dX7_firstOf_11 (q := 12) rfl ?_
    refine g_eqi C (y := nI (j - 1)) (pk_sub (by omega)) ?_
    refine gcV_si C (n := 1) (As := [.int (nI (j - 1))]) (st := []) 0 (fun h => h) dX7_firstOf_12 rfl rfl gX7_firstOf_X7_endOf (c_X7_endOf l D cI cJ cZ b n gr li st tr t sd lea pa pt pp su sh tt (j - 1) sp m hL (by omega)) rfl rfl rfl (by decide +kernel) ⟨Nat.le_of_ble_eq_true rfl, Nat.le_of_ble_eq_true rfl⟩ rfl rfl (Nat.le_of_ble_eq_true rfl) FT_b FT_h ⟨Nat.le_of_ble_eq_true rfl, Nat.le_of_ble_eq_true rfl⟩ (q := 15) rfl (fun r_12 h_12 => ?_)
    subst h_12
    exact hret _ 15 _ _ dX7_firstOf_15 rfl (by first | (rw [c_1, hL.z]) | (rw [show j - 1 + 1 = j by omega]))
  · rw [← nI_0, nI_eq (by omega) (by omega)] at c_1
    refine g_iconst C (nI 0) dX7_firstOf_4 (by decide) (q := 5) rfl ?_
    refine g_goto C (q := 15) dX7_firstOf_5 (by decide) ?_
    exact hret _ 15 _ _ dX7_firstOf_15 rfl (by first | (rw [c_1, hL.z]) | (rw [show j - 1 + 1 = j by omega]))
set_option maxHeartbeats 4000000 in
set_option maxRecDepth 100000 in
theorem c_X7_isLeg (l : Launch) (D : va_G) (cI cJ cZ : ClassId) (b : Nat → Nat) (n : Nat) (gr li st tr : Nat → Int32) (t : Nat) (sd lea : Nat → Int32) (pa : Int32) (pt pp : Nat → Int32) (su : Int32) (sh tt : Nat → Int32) (k : Int32) (sp : Nat → Int32) (m : Nat) (hL : LInv st sp n m) : Met l yX7_isLeg wsX7_isLeg { frames := 1, cells := 0, slots := 0, locals := 22 } (gPc D (tyT cI cJ cZ) (wB b) FT (wM cI cJ cZ b (nI n) gr li st tr (nI t) sd lea pa pt pp su sh tt) [.ref (b 0), .int k]) (vp_Si (fun r => r = if hcP m k then nI 1 else nI 0)) 0 0 (fun _ => False) := by
  refine gs_si (cc := cX7_isLeg) (nL := 2) (ty := .boolean) (by decide) rfl (Nat.le_of_ble_eq_true rfl) (fun G C hret => ?_)
  show G 0 0 (wM cI cJ cZ b (nI n) gr li st tr (nI t) sd lea pa pt pp su sh tt) [(0, .ref (b 0)), (1, .int k)] 0 []
  have hn := hL.2.1
  have hmn := hL.m_le
  have hm := hL.m_pos
  have hcm := hL.2.2.2.2.2.1
  refine g_iload_n C 1 dX7_isLeg_0 rfl rfl rfl (q := 1) ?_
  refine g_iconst C (nI 0) dX7_isLeg_1 (by decide) (q := 2) rfl ?_
  refine g_aload_n C 0 dX7_isLeg_2 rfl rfl rfl (q := 3) ?_
  refine gcV_si C (n := 0) (As := []) (st := [.int (nI 0), .int k]) 0 (fun h => h) dX7_isLeg_3 rfl rfl gX7_isLeg_X7_legs (c_X7_legs l D cI cJ cZ b n gr li st tr t sd lea pa pt pp su sh tt hn hL.2.2.2.1) rfl rfl rfl (by decide +kernel) ⟨Nat.le_of_ble_eq_true rfl, Nat.le_of_ble_eq_true rfl⟩ rfl rfl (Nat.le_of_ble_eq_true rfl) FT_b FT_h ⟨Nat.le_of_ble_eq_true rfl, Nat.le_of_ble_eq_true rfl⟩ (q := 6) rfl (fun r_3 h_3 => ?_)
  subst h_3
  refine g_eqi C (y := nI m) (by rw [hcm]; rfl) ?_
  refine g_iconst C (nI 1) dX7_isLeg_6 (by decide) (q := 7) rfl ?_
  refine g_isub C dX7_isLeg_7 (q := 8) rfl ?_
  refine g_eqi C (y := nI (m - 1)) (pk_sub hm) ?_
  refine gcS_si C (n := 3) (As := [.int k, .int (nI 0), .int (nI (m - 1))]) (st := []) (fun h => h) dX7_isLeg_8 gX7_isLeg_X7_in (c_X7_in l D cI cJ cZ b n gr li st tr t sd lea pa pt pp su sh tt k (nI 0) (nI (m - 1))) rfl rfl rfl (by decide +kernel) ⟨Nat.le_of_ble_eq_true rfl, Nat.le_of_ble_eq_true rfl⟩ rfl rfl (Nat.le_of_ble_eq_true rfl) FT_b FT_h ⟨Nat.le_of_ble_eq_true rfl, Nat.le_of_ble_eq_true rfl⟩ (q := 11) rfl (fun r_8 h_8 => ?_)
  subst h_8
  refine g_eqi C (y := if hcP m k then nI 1 else nI 0) (ite_cg (in_hc hm (by omega))) ?_
  exact hret _ 11 _ _ dX7_isLeg_11 (by split <;> decide) (rfl)
set_option maxHeartbeats 4000000 in
set_option maxRecDepth 100000 in
theorem c_X7_leg (l : Launch) (D : va_G) (cI cJ cZ : ClassId) (b : Nat → Nat) (n : Nat) (gr li st tr : Nat → Int32) (t : Nat) (sd lea : Nat → Int32) (pa : Int32) (pt pp : Nat → Int32) (su : Int32) (sh tt : Nat → Int32) (k v : Int32) (sp : Nat → Int32) (m : Nat) (hL : LInv st sp n m) : Met l yX7_leg wsX7_leg { frames := 2, cells := 0, slots := 0, locals := 44 } (gPc D (tyT cI cJ cZ) (wB b) FT (wM cI cJ cZ b (nI n) gr li st tr (nI t) sd lea pa pt pp su sh tt) [.ref (b 0), .int k, .int v]) (vp_Si (fun r => r = aLeg st n m k v)) 0 0 (fun _ => False) := by
  refine gs_si (cc := cX7_leg) (nL := 3) (ty := .int) (by decide) rfl (Nat.le_of_ble_eq_true rfl) (fun G C hret => ?_)
  show G 0 0 (wM cI cJ cZ b (nI n) gr li st tr (nI t) sd lea pa pt pp su sh tt) [(0, .ref (b 0)), (1, .int k), (2, .int v)] 0 []
  have hn := hL.2.1
  have hmn := hL.m_le
  refine g_aload_n C 0 dX7_leg_0 rfl rfl rfl (q := 1) ?_
  refine g_iload_n C 1 dX7_leg_1 rfl rfl rfl (q := 2) ?_
  refine gcV_si C (n := 1) (As := [.int k]) (st := []) 0 (fun h => h) dX7_leg_2 rfl rfl gX7_leg_X7_isLeg (c_X7_isLeg l D cI cJ cZ b n gr li st tr t sd lea pa pt pp su sh tt k sp m (by first | assumption | omega)) rfl rfl rfl (by decide +kernel) ⟨Nat.le_of_ble_eq_true rfl, Nat.le_of_ble_eq_true rfl⟩ rfl rfl (Nat.le_of_ble_eq_true rfl) FT_b FT_h ⟨Nat.le_of_ble_eq_true rfl, Nat.le_of_ble_eq_true rfl⟩ (q := 5) rfl (fun r_2 h_2 => ?_)
  subst h_2
  refine g_if_ne C (t := 10) dX7_leg_5 (by decide) (q := 8) rfl (fun c_5 => ?_) (fun c_5 => ?_)
  · replace c_5 := ite_n0 c_5
    obtain ⟨k1, hk, rfl⟩ := hcP_of c_5 (by omega)
    refine g_iload_n C 2 dX7_leg_10 rfl rfl rfl (q := 11) ?_
    refine g_if_eq C (t := 22) dX7_leg_11 (by decide) (q := 14) rfl (fun c_11 => ?_) (fun c_11 => ?_)
    · refine g_aload_n C 0 dX7_leg_22 rfl rfl rfl (q := 23) ?_
      refine g_iload_n C 1 dX7_leg_23 rfl rfl rfl (q := 24) ?_
      refine gcV_si C (n := 1) (As := [.int (nI k1)]) (st := []) 0 (fun h => h) dX7_leg_24 rfl rfl gX7_leg_X7_firstOf (c_X7_firstOf l D cI cJ cZ b n gr li st tr t sd lea pa pt pp su sh tt k1 sp m hL (by omega)) rfl rfl rfl (by decide +kernel) ⟨Nat.le_of_ble_eq_true rfl, Nat.le_of_ble_eq_true rfl⟩ rfl rfl (Nat.le_of_ble_eq_true rfl) FT_b FT_h ⟨Nat.le_of_ble_eq_true rfl, Nat.le_of_ble_eq_true rfl⟩ (q := 27) rfl (fun r_24 h_24 => ?_)
      subst h_24
      exact hret _ 27 _ _ dX7_leg_27 rfl (by first | (rw [aLeg, if_pos c_5, nI_clamp (by omega), if_neg c_11]) | (rw [aLeg, if_pos c_5, nI_clamp (by omega), if_pos c_11]; rfl))
    · refine g_aload_n C 0 dX7_leg_14 rfl rfl rfl (q := 15) ?_
      refine g_iload_n C 1 dX7_leg_15 rfl rfl rfl (q := 16) ?_
      refine gcV_si C (n := 1) (As := [.int (nI k1)]) (st := []) 0 (fun h => h) dX7_leg_16 rfl rfl gX7_leg_X7_endOf (c_X7_endOf l D cI cJ cZ b n gr li st tr t sd lea pa pt pp su sh tt k1 sp m hL hk) rfl rfl rfl (by decide +kernel) ⟨Nat.le_of_ble_eq_true rfl, Nat.le_of_ble_eq_true rfl⟩ rfl rfl (Nat.le_of_ble_eq_true rfl) FT_b FT_h ⟨Nat.le_of_ble_eq_true rfl, Nat.le_of_ble_eq_true rfl⟩ (q := 19) rfl (fun r_16 h_16 => ?_)
      subst h_16
      refine g_goto C (q := 27) dX7_leg_19 (by decide) ?_
      exact hret _ 27 _ _ dX7_leg_27 rfl (by first | (rw [aLeg, if_pos c_5, nI_clamp (by omega), if_neg c_11]) | (rw [aLeg, if_pos c_5, nI_clamp (by omega), if_pos c_11]; rfl))
  · replace c_5 := ite_e0 c_5
    refine g_iconst C (-1) dX7_leg_8 (by decide) (q := 9) rfl ?_
    exact hret _ 9 _ _ dX7_leg_9 rfl (by rw [aLeg, if_neg c_5])
set_option maxHeartbeats 4000000 in
set_option maxRecDepth 100000 in
theorem c_X7_forceOf (l : Launch) (D : va_G) (cI cJ cZ : ClassId) (b : Nat → Nat) (n : Nat) (gr li st tr : Nat → Int32) (t : Nat) (sd lea : Nat → Int32) (pa : Int32) (pt pp : Nat → Int32) (su : Int32) (sh tt : Nat → Int32) (k u v : Nat) (hk : k < 16) : Met l yX7_forceOf wsX7_forceOf { frames := 0, cells := 0, slots := 0, locals := 0 } (gPc D (tyT cI cJ cZ) (wB b) FT (wM cI cJ cZ b (nI n) gr li st tr (nI t) sd lea pa pt pp su sh tt) [.ref (b 0), .int (nI k), .int (nI u), .int (nI v)]) (vp_Si (fun r => r = fcN gr tr k u v)) 0 0 (fun _ => False) := by
  refine gs_si (cc := cX7_forceOf) (nL := 4) (ty := .int) (by decide) rfl (Nat.le_of_ble_eq_true rfl) (fun G C hret => ?_)
  show G 0 0 (wM cI cJ cZ b (nI n) gr li st tr (nI t) sd lea pa pt pp su sh tt) [(0, .ref (b 0)), (1, .int (nI k)), (2, .int (nI u)), (3, .int (nI v))] 0 []
  refine g_aload_n C 0 dX7_forceOf_0 rfl rfl rfl (q := 1) ?_
  refine g_get C 0 4 dX7_forceOf_1 (Cn := RX7) (T := TX7) (N := 14) (fun _ h => List.mem_cons_of_mem _ (List.mem_append_right _ h)) rfl rfl (by decide) (List.mem_cons_of_mem _ (List.mem_append_left _ (List.mem_of_getElem? (i := 0) rfl))) rfl (q := 4) rfl ?_
  refine g_iconst C (nI 0) dX7_forceOf_4 (by decide) (q := 5) rfl ?_
  refine g_iald C 4 0 dX7_forceOf_5 rfl rfl (vp_in_nI (by omega) (by decide)) (q := 6) rfl ?_
  refine g_eqi C (y := tr 0) (by rw [nI_clamp (by omega)]) ?_
  refine g_iload_n C 3 dX7_forceOf_6 rfl rfl rfl (q := 7) ?_
  refine g_iload_n C 3 dX7_forceOf_7 rfl rfl rfl (q := 8) ?_
  refine g_imul C dX7_forceOf_8 (q := 9) rfl ?_
  refine g_eqi C (y := nI (v * v)) (pk_mul v v) ?_
  refine g_iload_n C 2 dX7_forceOf_9 rfl rfl rfl (q := 10) ?_
  refine g_iload_n C 2 dX7_forceOf_10 rfl rfl rfl (q := 11) ?_
  refine g_imul C dX7_forceOf_11 (q := 12) rfl ?_
  refine g_eqi C (y := nI (u * u)) (pk_mul u u) ?_
  refine g_isub C dX7_forceOf_12 (q := 13) rfl ?_
  refine g_imul C dX7_forceOf_13 (q := 14) rfl ?_
  refine g_aload_n C 0 dX7_forceOf_14 rfl rfl rfl (q := 15) ?_
  refine g_get C 0 4 dX7_forceOf_15 (Cn := RX7) (T := TX7) (N := 14) (fun _ h => List.mem_cons_of_mem _ (List.mem_append_right _ h)) rfl rfl (by decide) (List.mem_cons_of_mem _ (List.mem_append_left _ (List.mem_of_getElem? (i := 0) rfl))) rfl (q := 18) rfl ?_
  refine g_iconst C (nI 0) dX7_forceOf_18 (by decide) (q := 19) rfl ?_
  refine g_iald C 4 0 dX7_forceOf_19 rfl rfl (vp_in_nI (by omega) (by decide)) (q := 20) rfl ?_
  refine g_eqi C (y := tr 0) (by rw [nI_clamp (by omega)]) ?_
  refine g_aload_n C 0 dX7_forceOf_20 rfl rfl rfl (q := 21) ?_
  refine g_get C 0 1 dX7_forceOf_21 (Cn := RX7) (T := TX7) (N := 14) (fun _ h => List.mem_cons_of_mem _ (List.mem_append_right _ h)) rfl rfl (by decide) (List.mem_cons_of_mem _ (List.mem_append_left _ (List.mem_of_getElem? (i := 1) rfl))) rfl (q := 24) rfl ?_
  refine g_iload_n C 1 dX7_forceOf_24 rfl rfl rfl (q := 25) ?_
  refine g_iald C 1 0 dX7_forceOf_25 rfl rfl (vp_in_nI (by omega) (by decide)) (q := 26) rfl ?_
  refine g_eqi C (y := gr k) (by rw [nI_clamp (by omega)]) ?_
  refine g_imul C dX7_forceOf_26 (q := 27) rfl ?_
  refine g_iadd C dX7_forceOf_27 (q := 28) rfl ?_
  refine g_aload_n C 0 dX7_forceOf_28 rfl rfl rfl (q := 29) ?_
  refine g_get C 0 4 dX7_forceOf_29 (Cn := RX7) (T := TX7) (N := 14) (fun _ h => List.mem_cons_of_mem _ (List.mem_append_right _ h)) rfl rfl (by decide) (List.mem_cons_of_mem _ (List.mem_append_left _ (List.mem_of_getElem? (i := 0) rfl))) rfl (q := 32) rfl ?_
  refine g_iconst C (nI 1) dX7_forceOf_32 (by decide) (q := 33) rfl ?_
  refine g_iald C 4 0 dX7_forceOf_33 rfl rfl (vp_in_nI (by omega) (by decide)) (q := 34) rfl ?_
  refine g_eqi C (y := tr 1) (by rw [nI_clamp (by omega)]) ?_
  refine g_iload_n C 2 dX7_forceOf_34 rfl rfl rfl (q := 35) ?_
  refine g_iload_n C 3 dX7_forceOf_35 rfl rfl rfl (q := 36) ?_
  refine g_iadd C dX7_forceOf_36 (q := 37) rfl ?_
  refine g_eqi C (y := nI (u + v)) (nI_add u v) ?_
  refine g_imul C dX7_forceOf_37 (q := 38) rfl ?_
  refine g_iadd C dX7_forceOf_38 (q := 39) rfl ?_
  exact hret _ 39 _ _ dX7_forceOf_39 rfl (rfl)
set_option maxHeartbeats 4000000 in
set_option maxRecDepth 100000 in
theorem c_X7_faultOf (l : Launch) (D : va_G) (cI cJ cZ : ClassId) (b : Nat → Nat) (n : Nat) (gr li st tr : Nat → Int32) (t : Nat) (sd lea : Nat → Int32) (pa : Int32) (pt pp : Nat → Int32) (su : Int32) (sh tt : Nat → Int32) (k u v : Nat) (hk : k < 16) (hu : u ≤ 6) (hv : v ≤ 6) : Met l yX7_faultOf wsX7_faultOf { frames := 1, cells := 0, slots := 0, locals := 23 } (gPc D (tyT cI cJ cZ) (wB b) FT (wM cI cJ cZ b (nI n) gr li st tr (nI t) sd lea pa pt pp su sh tt) [.ref (b 0), .int (nI k), .int (nI u), .int (nI v)]) (vp_Si (fun r => r = flN gr li tr k u v)) 0 0 (fun _ => False) := by
  refine gs_si (cc := cX7_faultOf) (nL := 5) (ty := .int) (by decide) rfl (Nat.le_of_ble_eq_true rfl) (fun G C hret => ?_)
  show G 0 0 (wM cI cJ cZ b (nI n) gr li st tr (nI t) sd lea pa pt pp su sh tt) [(0, .ref (b 0)), (1, .int (nI k)), (2, .int (nI u)), (3, .int (nI v))] 0 []
  refine g_iload_n C 2 dX7_faultOf_0 rfl rfl rfl (q := 1) ?_
  refine g_aload_n C 0 dX7_faultOf_1 rfl rfl rfl (q := 2) ?_
  refine g_get C 0 2 dX7_faultOf_2 (Cn := RX7) (T := TX7) (N := 14) (fun _ h => List.mem_cons_of_mem _ (List.mem_append_right _ h)) rfl rfl (by decide) (List.mem_cons_of_mem _ (List.mem_append_left _ (List.mem_of_getElem? (i := 0) rfl))) rfl (q := 5) rfl ?_
  refine g_iload_n C 1 dX7_faultOf_5 rfl rfl rfl (q := 6) ?_
  refine g_iald C 2 0 dX7_faultOf_6 rfl rfl (vp_in_nI (by omega) (by decide)) (q := 7) rfl ?_
  refine g_eqi C (y := li k) (by rw [nI_clamp (by omega)]) ?_
  refine g_icmp_gt C (t := 20) dX7_faultOf_7 (by decide) (q := 10) rfl (fun c_7 => ?_) (fun c_7 => ?_)
  · refine g_iconst C (nI 1) dX7_faultOf_20 (by decide) (q := 21) rfl ?_
    exact hret _ 21 _ _ dX7_faultOf_21 rfl (by first | (rw [flN, fltE, if_pos (show li k < nI u ∨ li k < nI v from Or.inl c_7)]) | (rw [flN, fltE, if_pos (show li k < nI u ∨ li k < nI v from Or.inr c_17)]))
  · refine g_iload_n C 3 dX7_faultOf_10 rfl rfl rfl (q := 11) ?_
    refine g_aload_n C 0 dX7_faultOf_11 rfl rfl rfl (q := 12) ?_
    refine g_get C 0 2 dX7_faultOf_12 (Cn := RX7) (T := TX7) (N := 14) (fun _ h => List.mem_cons_of_mem _ (List.mem_append_right _ h)) rfl rfl (by decide) (List.mem_cons_of_mem _ (List.mem_append_left _ (List.mem_of_getElem? (i := 0) rfl))) rfl (q := 15) rfl ?_
    refine g_iload_n C 1 dX7_faultOf_15 rfl rfl rfl (q := 16) ?_
    refine g_iald C 2 0 dX7_faultOf_16 rfl rfl (vp_in_nI (by omega) (by decide)) (q := 17) rfl ?_
    refine g_eqi C (y := li k) (by rw [nI_clamp (by omega)]) ?_
    refine g_icmp_le C (t := 22) dX7_faultOf_17 (by decide) (q := 20) rfl (fun c_17 => ?_) (fun c_17 => ?_)
    · replace c_17 := Int32.not_lt.mpr c_17
      refine g_iload_n C 2 dX7_faultOf_22 rfl rfl rfl (q := 23) ?_
      refine g_if_ne C (t := 32) dX7_faultOf_23 (by decide) (q := 26) rfl (fun c_23 => ?_) (fun c_23 => ?_)
      · rw [← nI_0, nI_eq (by omega) (by omega)] at c_23
        refine g_iload_n C 2 dX7_faultOf_32 rfl rfl rfl (q := 33) ?_
        refine g_iload_n C 3 dX7_faultOf_33 rfl rfl rfl (q := 34) ?_
        refine g_isub C dX7_faultOf_34 (q := 35) rfl ?_
        refine g_iconst C (nI 2) dX7_faultOf_35 (by decide) (q := 36) rfl ?_
        refine g_icmp_gt C (t := 46) dX7_faultOf_36 (by decide) (q := 39) rfl (fun c_36 => ?_) (fun c_36 => ?_)
        · rw [d2_dec u (by omega) v (by omega)] at c_36
          refine g_iconst C (nI 3) dX7_faultOf_46 (by decide) (q := 47) rfl ?_
          exact hret _ 47 _ _ dX7_faultOf_47 rfl (by rw [flN, fltE, if_neg (show ¬ (li k < nI u ∨ li k < nI v) from fun h => h.elim c_7 c_17), if_neg (by omega), if_pos (by omega)])
        · rw [d2_dec u (by omega) v (by omega)] at c_36
          refine g_iload_n C 3 dX7_faultOf_39 rfl rfl rfl (q := 40) ?_
          refine g_iload_n C 2 dX7_faultOf_40 rfl rfl rfl (q := 41) ?_
          refine g_isub C dX7_faultOf_41 (q := 42) rfl ?_
          refine g_iconst C (nI 2) dX7_faultOf_42 (by decide) (q := 43) rfl ?_
          refine g_icmp_le C (t := 48) dX7_faultOf_43 (by decide) (q := 46) rfl (fun c_43 => ?_) (fun c_43 => ?_)
          · replace c_43 := Int32.not_lt.mpr c_43
            rw [d2_dec v (by omega) u (by omega)] at c_43
            refine g_aload_n C 0 dX7_faultOf_48 rfl rfl rfl (q := 49) ?_
            refine g_iload_n C 1 dX7_faultOf_49 rfl rfl rfl (q := 50) ?_
            refine g_iload_n C 2 dX7_faultOf_50 rfl rfl rfl (q := 51) ?_
            refine g_iload_n C 3 dX7_faultOf_51 rfl rfl rfl (q := 52) ?_
            refine gcV_si C (n := 3) (As := [.int (nI k), .int (nI u), .int (nI v)]) (st := []) 0 (fun h => h) dX7_faultOf_52 rfl rfl gX7_faultOf_X7_forceOf (c_X7_forceOf l D cI cJ cZ b n gr li st tr t sd lea pa pt pp su sh tt k u v (by first | assumption | omega)) rfl rfl rfl (by decide +kernel) ⟨Nat.le_of_ble_eq_true rfl, Nat.le_of_ble_eq_true rfl⟩ rfl rfl (Nat.le_of_ble_eq_true rfl) FT_b FT_h ⟨Nat.le_of_ble_eq_true rfl, Nat.le_of_ble_eq_true rfl⟩ (q := 55) rfl (fun r_52 h_52 => ?_)
            subst h_52
            refine g_istore C [(4, .int (fcN gr tr k u v)), (0, .ref (b 0)), (1, .int (nI k)), (2, .int (nI u)), (3, .int (nI v))] dX7_faultOf_55 (by decide) rfl (q := 57) rfl ?_
            refine g_iload C 0 dX7_faultOf_57 rfl rfl (q := 59) ?_
            refine g_aload_n C 1 dX7_faultOf_59 rfl rfl rfl (q := 60) ?_
            refine g_get C 0 4 dX7_faultOf_60 (Cn := RX7) (T := TX7) (N := 14) (fun _ h => List.mem_cons_of_mem _ (List.mem_append_right _ h)) rfl rfl (by decide) (List.mem_cons_of_mem _ (List.mem_append_left _ (List.mem_of_getElem? (i := 1) rfl))) rfl (q := 63) rfl ?_
            refine g_iconst C (nI 2) dX7_faultOf_63 (by decide) (q := 64) rfl ?_
            refine g_iald C 4 0 dX7_faultOf_64 rfl rfl (vp_in_nI (by omega) (by decide)) (q := 65) rfl ?_
            refine g_eqi C (y := tr 2) (by rw [nI_clamp (by omega)]) ?_
            refine g_icmp_le C (t := 72) dX7_faultOf_65 (by decide) (q := 68) rfl (fun c_65 => ?_) (fun c_65 => ?_)
            · refine g_iload C 0 dX7_faultOf_72 rfl rfl (q := 74) ?_
              refine g_aload_n C 1 dX7_faultOf_74 rfl rfl rfl (q := 75) ?_
              refine g_get C 0 4 dX7_faultOf_75 (Cn := RX7) (T := TX7) (N := 14) (fun _ h => List.mem_cons_of_mem _ (List.mem_append_right _ h)) rfl rfl (by decide) (List.mem_cons_of_mem _ (List.mem_append_left _ (List.mem_of_getElem? (i := 1) rfl))) rfl (q := 78) rfl ?_
              refine g_iconst C (nI 3) dX7_faultOf_78 (by decide) (q := 79) rfl ?_
              refine g_iald C 4 0 dX7_faultOf_79 rfl rfl (vp_in_nI (by omega) (by decide)) (q := 80) rfl ?_
              refine g_eqi C (y := tr 3) (by rw [nI_clamp (by omega)]) ?_
              refine g_ineg C dX7_faultOf_80 (q := 81) rfl ?_
              refine g_icmp_ge C (t := 88) dX7_faultOf_81 (by decide) (q := 84) rfl (fun c_81 => ?_) (fun c_81 => ?_)
              · refine g_iconst C (nI 0) dX7_faultOf_88 (by decide) (q := 89) rfl ?_
                exact hret _ 89 _ _ dX7_faultOf_89 rfl (by first | (rw [flN, fltE, if_neg (show ¬ (li k < nI u ∨ li k < nI v) from fun h => h.elim c_7 c_17), if_neg (by omega), if_neg (by omega), if_pos c_65]) | (rw [flN, fltE, if_neg (show ¬ (li k < nI u ∨ li k < nI v) from fun h => h.elim c_7 c_17), if_neg (by omega), if_neg (by omega), if_neg (not_not_intro c_65), if_pos c_81]) | (rw [flN, fltE, if_neg (show ¬ (li k < nI u ∨ li k < nI v) from fun h => h.elim c_7 c_17), if_neg (by omega), if_neg (by omega), if_neg (not_not_intro c_65), if_neg (not_not_intro c_81)]))
              · refine g_iconst C (nI 5) dX7_faultOf_84 (by decide) (q := 85) rfl ?_
                refine g_goto C (q := 89) dX7_faultOf_85 (by decide) ?_
                exact hret _ 89 _ _ dX7_faultOf_89 rfl (by first | (rw [flN, fltE, if_neg (show ¬ (li k < nI u ∨ li k < nI v) from fun h => h.elim c_7 c_17), if_neg (by omega), if_neg (by omega), if_pos c_65]) | (rw [flN, fltE, if_neg (show ¬ (li k < nI u ∨ li k < nI v) from fun h => h.elim c_7 c_17), if_neg (by omega), if_neg (by omega), if_neg (not_not_intro c_65), if_pos c_81]) | (rw [flN, fltE, if_neg (show ¬ (li k < nI u ∨ li k < nI v) from fun h => h.elim c_7 c_17), if_neg (by omega), if_neg (by omega), if_neg (not_not_intro c_65), if_neg (not_not_intro c_81)]))
            · refine g_iconst C (nI 4) dX7_faultOf_68 (by decide) (q := 69) rfl ?_
              refine g_goto C (q := 89) dX7_faultOf_69 (by decide) ?_
              exact hret _ 89 _ _ dX7_faultOf_89 rfl (by first | (rw [flN, fltE, if_neg (show ¬ (li k < nI u ∨ li k < nI v) from fun h => h.elim c_7 c_17), if_neg (by omega), if_neg (by omega), if_pos c_65]) | (rw [flN, fltE, if_neg (show ¬ (li k < nI u ∨ li k < nI v) from fun h => h.elim c_7 c_17), if_neg (by omega), if_neg (by omega), if_neg (not_not_intro c_65), if_pos c_81]) | (rw [flN, fltE, if_neg (show ¬ (li k < nI u ∨ li k < nI v) from fun h => h.elim c_7 c_17), if_neg (by omega), if_neg (by omega), if_neg (not_not_intro c_65), if_neg (not_not_intro c_81)]))
          · replace c_43 := Int32.not_le.mp c_43
            rw [d2_dec v (by omega) u (by omega)] at c_43
            refine g_iconst C (nI 3) dX7_faultOf_46 (by decide) (q := 47) rfl ?_
            exact hret _ 47 _ _ dX7_faultOf_47 rfl (by rw [flN, fltE, if_neg (show ¬ (li k < nI u ∨ li k < nI v) from fun h => h.elim c_7 c_17), if_neg (by omega), if_pos (by omega)])
      · rw [← nI_0, nI_eq (by omega) (by omega)] at c_23
        refine g_iload_n C 3 dX7_faultOf_26 rfl rfl rfl (q := 27) ?_
        refine g_if_ne C (t := 32) dX7_faultOf_27 (by decide) (q := 30) rfl (fun c_27 => ?_) (fun c_27 => ?_)
        · rw [← nI_0, nI_eq (by omega) (by omega)] at c_27
          refine g_iload_n C 2 dX7_faultOf_32 rfl rfl rfl (q := 33) ?_
          refine g_iload_n C 3 dX7_faultOf_33 rfl rfl rfl (q := 34) ?_
          refine g_isub C dX7_faultOf_34 (q := 35) rfl ?_
          refine g_iconst C (nI 2) dX7_faultOf_35 (by decide) (q := 36) rfl ?_
          refine g_icmp_gt C (t := 46) dX7_faultOf_36 (by decide) (q := 39) rfl (fun c_36 => ?_) (fun c_36 => ?_)
          · rw [d2_dec u (by omega) v (by omega)] at c_36
            refine g_iconst C (nI 3) dX7_faultOf_46 (by decide) (q := 47) rfl ?_
            exact hret _ 47 _ _ dX7_faultOf_47 rfl (by rw [flN, fltE, if_neg (show ¬ (li k < nI u ∨ li k < nI v) from fun h => h.elim c_7 c_17), if_neg (by omega), if_pos (by omega)])
          · rw [d2_dec u (by omega) v (by omega)] at c_36
            refine g_iload_n C 3 dX7_faultOf_39 rfl rfl rfl (q := 40) ?_
            refine g_iload_n C 2 dX7_faultOf_40 rfl rfl rfl (q := 41) ?_
            refine g_isub C dX7_faultOf_41 (q := 42) rfl ?_
            refine g_iconst C (nI 2) dX7_faultOf_42 (by decide) (q := 43) rfl ?_
            refine g_icmp_le C (t := 48) dX7_faultOf_43 (by decide) (q := 46) rfl (fun c_43 => ?_) (fun c_43 => ?_)
            · replace c_43 := Int32.not_lt.mpr c_43
              rw [d2_dec v (by omega) u (by omega)] at c_43
              refine g_aload_n C 0 dX7_faultOf_48 rfl rfl rfl (q := 49) ?_
              refine g_iload_n C 1 dX7_faultOf_49 rfl rfl rfl (q := 50) ?_
              refine g_iload_n C 2 dX7_faultOf_50 rfl rfl rfl (q := 51) ?_
              refine g_iload_n C 3 dX7_faultOf_51 rfl rfl rfl (q := 52) ?_
              refine gcV_si C (n := 3) (As := [.int (nI k), .int (nI u), .int (nI v)]) (st := []) 0 (fun h => h) dX7_faultOf_52 rfl rfl gX7_faultOf_X7_forceOf (c_X7_forceOf l D cI cJ cZ b n gr li st tr t sd lea pa pt pp su sh tt k u v (by first | assumption | omega)) rfl rfl rfl (by decide +kernel) ⟨Nat.le_of_ble_eq_true rfl, Nat.le_of_ble_eq_true rfl⟩ rfl rfl (Nat.le_of_ble_eq_true rfl) FT_b FT_h ⟨Nat.le_of_ble_eq_true rfl, Nat.le_of_ble_eq_true rfl⟩ (q := 55) rfl (fun r_52 h_52 => ?_)
              subst h_52
              refine g_istore C [(4, .int (fcN gr tr k u v)), (0, .ref (b 0)), (1, .int (nI k)), (2, .int (nI u)), (3, .int (nI v))] dX7_faultOf_55 (by decide) rfl (q := 57) rfl ?_
              refine g_iload C 0 dX7_faultOf_57 rfl rfl (q := 59) ?_
              refine g_aload_n C 1 dX7_faultOf_59 rfl rfl rfl (q := 60) ?_
              refine g_get C 0 4 dX7_faultOf_60 (Cn := RX7) (T := TX7) (N := 14) (fun _ h => List.mem_cons_of_mem _ (List.mem_append_right _ h)) rfl rfl (by decide) (List.mem_cons_of_mem _ (List.mem_append_left _ (List.mem_of_getElem? (i := 1) rfl))) rfl (q := 63) rfl ?_
              refine g_iconst C (nI 2) dX7_faultOf_63 (by decide) (q := 64) rfl ?_
              refine g_iald C 4 0 dX7_faultOf_64 rfl rfl (vp_in_nI (by omega) (by decide)) (q := 65) rfl ?_
              refine g_eqi C (y := tr 2) (by rw [nI_clamp (by omega)]) ?_
              refine g_icmp_le C (t := 72) dX7_faultOf_65 (by decide) (q := 68) rfl (fun c_65 => ?_) (fun c_65 => ?_)
              · refine g_iload C 0 dX7_faultOf_72 rfl rfl (q := 74) ?_
                refine g_aload_n C 1 dX7_faultOf_74 rfl rfl rfl (q := 75) ?_
                refine g_get C 0 4 dX7_faultOf_75 (Cn := RX7) (T := TX7) (N := 14) (fun _ h => List.mem_cons_of_mem _ (List.mem_append_right _ h)) rfl rfl (by decide) (List.mem_cons_of_mem _ (List.mem_append_left _ (List.mem_of_getElem? (i := 1) rfl))) rfl (q := 78) rfl ?_
                refine g_iconst C (nI 3) dX7_faultOf_78 (by decide) (q := 79) rfl ?_
                refine g_iald C 4 0 dX7_faultOf_79 rfl rfl (vp_in_nI (by omega) (by decide)) (q := 80) rfl ?_
                refine g_eqi C (y := tr 3) (by rw [nI_clamp (by omega)]) ?_
                refine g_ineg C dX7_faultOf_80 (q := 81) rfl ?_
                refine g_icmp_ge C (t := 88) dX7_faultOf_81 (by decide) (q := 84) rfl (fun c_81 => ?_) (fun c_81 => ?_)
                · refine g_iconst C (nI 0) dX7_faultOf_88 (by decide) (q := 89) rfl ?_
                  exact hret _ 89 _ _ dX7_faultOf_89 rfl (by first | (rw [flN, fltE, if_neg (show ¬ (li k < nI u ∨ li k < nI v) from fun h => h.elim c_7 c_17), if_neg (by omega), if_neg (by omega), if_pos c_65]) | (rw [flN, fltE, if_neg (show ¬ (li k < nI u ∨ li k < nI v) from fun h => h.elim c_7 c_17), if_neg (by omega), if_neg (by omega), if_neg (not_not_intro c_65), if_pos c_81]) | (rw [flN, fltE, if_neg (show ¬ (li k < nI u ∨ li k < nI v) from fun h => h.elim c_7 c_17), if_neg (by omega), if_neg (by omega), if_neg (not_not_intro c_65), if_neg (not_not_intro c_81)]))
                · refine g_iconst C (nI 5) dX7_faultOf_84 (by decide) (q := 85) rfl ?_
                  refine g_goto C (q := 89) dX7_faultOf_85 (by decide) ?_
                  exact hret _ 89 _ _ dX7_faultOf_89 rfl (by first | (rw [flN, fltE, if_neg (show ¬ (li k < nI u ∨ li k < nI v) from fun h => h.elim c_7 c_17), if_neg (by omega), if_neg (by omega), if_pos c_65]) | (rw [flN, fltE, if_neg (show ¬ (li k < nI u ∨ li k < nI v) from fun h => h.elim c_7 c_17), if_neg (by omega), if_neg (by omega), if_neg (not_not_intro c_65), if_pos c_81]) | (rw [flN, fltE, if_neg (show ¬ (li k < nI u ∨ li k < nI v) from fun h => h.elim c_7 c_17), if_neg (by omega), if_neg (by omega), if_neg (not_not_intro c_65), if_neg (not_not_intro c_81)]))
              · refine g_iconst C (nI 4) dX7_faultOf_68 (by decide) (q := 69) rfl ?_
                refine g_goto C (q := 89) dX7_faultOf_69 (by decide) ?_
                exact hret _ 89 _ _ dX7_faultOf_89 rfl (by first | (rw [flN, fltE, if_neg (show ¬ (li k < nI u ∨ li k < nI v) from fun h => h.elim c_7 c_17), if_neg (by omega), if_neg (by omega), if_pos c_65]) | (rw [flN, fltE, if_neg (show ¬ (li k < nI u ∨ li k < nI v) from fun h => h.elim c_7 c_17), if_neg (by omega), if_neg (by omega), if_neg (not_not_intro c_65), if_pos c_81]) | (rw [flN, fltE, if_neg (show ¬ (li k < nI u ∨ li k < nI v) from fun h => h.elim c_7 c_17), if_neg (by omega), if_neg (by omega), if_neg (not_not_intro c_65), if_neg (not_not_intro c_81)]))
            · replace c_43 := Int32.not_le.mp c_43
              rw [d2_dec v (by omega) u (by omega)] at c_43
              refine g_iconst C (nI 3) dX7_faultOf_46 (by decide) (q := 47) rfl ?_
              exact hret _ 47 _ _ dX7_faultOf_47 rfl (by rw [flN, fltE, if_neg (show ¬ (li k < nI u ∨ li k < nI v) from fun h => h.elim c_7 c_17), if_neg (by omega), if_pos (by omega)])
        · rw [← nI_0, nI_eq (by omega) (by omega)] at c_27
          refine g_iconst C (nI 2) dX7_faultOf_30 (by decide) (q := 31) rfl ?_
          exact hret _ 31 _ _ dX7_faultOf_31 rfl (by rw [flN, fltE, if_neg (show ¬ (li k < nI u ∨ li k < nI v) from fun h => h.elim c_7 c_17), if_pos ⟨c_23, c_27⟩])
    · replace c_17 := Int32.not_le.mp c_17
      refine g_iconst C (nI 1) dX7_faultOf_20 (by decide) (q := 21) rfl ?_
      exact hret _ 21 _ _ dX7_faultOf_21 rfl (by first | (rw [flN, fltE, if_pos (show li k < nI u ∨ li k < nI v from Or.inl c_7)]) | (rw [flN, fltE, if_pos (show li k < nI u ∨ li k < nI v from Or.inr c_17)]))
set_option maxHeartbeats 4000000 in
set_option maxRecDepth 100000 in
theorem c_X7_powerOf (l : Launch) (D : va_G) (cI cJ cZ : ClassId) (b : Nat → Nat) (n : Nat) (gr li st tr : Nat → Int32) (t : Nat) (sd lea : Nat → Int32) (pa : Int32) (pt pp : Nat → Int32) (su : Int32) (sh tt : Nat → Int32) (k u v : Nat) (hk : k < 16) : Met l yX7_powerOf wsX7_powerOf { frames := 1, cells := 0, slots := 0, locals := 23 } (gPc D (tyT cI cJ cZ) (wB b) FT (wM cI cJ cZ b (nI n) gr li st tr (nI t) sd lea pa pt pp su sh tt) [.ref (b 0), .int (nI k), .int (nI u), .int (nI v)]) (vp_Si (fun r => r = pwN gr tr k u v)) 0 0 (fun _ => False) := by
  refine gs_si (cc := cX7_powerOf) (nL := 5) (ty := .int) (by decide) rfl (Nat.le_of_ble_eq_true rfl) (fun G C hret => ?_)
  show G 0 0 (wM cI cJ cZ b (nI n) gr li st tr (nI t) sd lea pa pt pp su sh tt) [(0, .ref (b 0)), (1, .int (nI k)), (2, .int (nI u)), (3, .int (nI v))] 0 []
  refine g_aload_n C 0 dX7_powerOf_0 rfl rfl rfl (q := 1) ?_
  refine g_iload_n C 1 dX7_powerOf_1 rfl rfl rfl (q := 2) ?_
  refine g_iload_n C 2 dX7_powerOf_2 rfl rfl rfl (q := 3) ?_
  refine g_iload_n C 3 dX7_powerOf_3 rfl rfl rfl (q := 4) ?_
  refine gcV_si C (n := 3) (As := [.int (nI k), .int (nI u), .int (nI v)]) (st := []) 0 (fun h => h) dX7_powerOf_4 rfl rfl gX7_powerOf_X7_forceOf (c_X7_forceOf l D cI cJ cZ b n gr li st tr t sd lea pa pt pp su sh tt k u v (by first | assumption | omega)) rfl rfl rfl (by decide +kernel) ⟨Nat.le_of_ble_eq_true rfl, Nat.le_of_ble_eq_true rfl⟩ rfl rfl (Nat.le_of_ble_eq_true rfl) FT_b FT_h ⟨Nat.le_of_ble_eq_true rfl, Nat.le_of_ble_eq_true rfl⟩ (q := 7) rfl (fun r_4 h_4 => ?_)
  subst h_4
  refine g_istore C [(4, .int (fcN gr tr k u v)), (0, .ref (b 0)), (1, .int (nI k)), (2, .int (nI u)), (3, .int (nI v))] dX7_powerOf_7 (by decide) rfl (q := 9) rfl ?_
  refine g_iload C 0 dX7_powerOf_9 rfl rfl (q := 11) ?_
  refine g_if_le C (t := 19) dX7_powerOf_11 (by decide) (q := 14) rfl (fun c_11 => ?_) (fun c_11 => ?_)
  · refine g_aload_n C 1 dX7_powerOf_19 rfl rfl rfl (q := 20) ?_
    refine g_get C 0 4 dX7_powerOf_20 (Cn := RX7) (T := TX7) (N := 14) (fun _ h => List.mem_cons_of_mem _ (List.mem_append_right _ h)) rfl rfl (by decide) (List.mem_cons_of_mem _ (List.mem_append_left _ (List.mem_of_getElem? (i := 0) rfl))) rfl (q := 23) rfl ?_
    refine g_iconst C (nI 4) dX7_powerOf_23 (by decide) (q := 24) rfl ?_
    refine g_iald C 4 0 dX7_powerOf_24 rfl rfl (vp_in_nI (by omega) (by decide)) (q := 25) rfl ?_
    refine g_eqi C (y := tr 4) (by rw [nI_clamp (by omega)]) ?_
    refine g_iload C 0 dX7_powerOf_25 rfl rfl (q := 27) ?_
    refine g_ineg C dX7_powerOf_27 (q := 28) rfl ?_
    refine g_imul C dX7_powerOf_28 (q := 29) rfl ?_
    refine g_bipush C (nI 10) dX7_powerOf_29 (by decide) (q := 31) rfl ?_
    refine g_idiv C dX7_powerOf_31 (by decide) (q := 32) rfl ?_
    refine g_ineg C dX7_powerOf_32 (q := 33) rfl ?_
    exact hret _ 33 _ _ dX7_powerOf_33 rfl (by first | (rw [pwN, pwE, if_pos c_11]) | (rw [pwN, pwE, if_neg (not_not_intro c_11)]))
  · refine g_iload C 0 dX7_powerOf_14 rfl rfl (q := 16) ?_
    refine g_goto C (q := 33) dX7_powerOf_16 (by decide) ?_
    exact hret _ 33 _ _ dX7_powerOf_33 rfl (by first | (rw [pwN, pwE, if_pos c_11]) | (rw [pwN, pwE, if_neg (not_not_intro c_11)]))
set_option maxHeartbeats 4000000 in
set_option maxRecDepth 100000 in
theorem c_X7_force (l : Launch) (D : va_G) (cI cJ cZ : ClassId) (b : Nat → Nat) (n : Nat) (gr li st tr : Nat → Int32) (t : Nat) (sd lea : Nat → Int32) (pa : Int32) (pt pp : Nat → Int32) (su : Int32) (sh tt : Nat → Int32) (k u v : Int32) (hn1 : 1 ≤ n) (hn : n ≤ 16) : Met l yX7_force wsX7_force { frames := 2, cells := 0, slots := 0, locals := 43 } (gPc D (tyT cI cJ cZ) (wB b) FT (wM cI cJ cZ b (nI n) gr li st tr (nI t) sd lea pa pt pp su sh tt) [.ref (b 0), .int k, .int u, .int v]) (vp_Si (fun r => r = aSt (fcN gr tr) n k u v)) 0 0 (fun _ => False) := by
  refine gs_si (cc := cX7_force) (nL := 4) (ty := .int) (by decide) rfl (Nat.le_of_ble_eq_true rfl) (fun G C hret => ?_)
  show G 0 0 (wM cI cJ cZ b (nI n) gr li st tr (nI t) sd lea pa pt pp su sh tt) [(0, .ref (b 0)), (1, .int k), (2, .int u), (3, .int v)] 0 []
  refine g_aload_n C 0 dX7_force_0 rfl rfl rfl (q := 1) ?_
  refine g_iload_n C 1 dX7_force_1 rfl rfl rfl (q := 2) ?_
  refine gcV_si C (n := 1) (As := [.int k]) (st := []) 0 (fun h => h) dX7_force_2 rfl rfl gX7_force_X7_isCell (c_X7_isCell l D cI cJ cZ b n gr li st tr t sd lea pa pt pp su sh tt k (by first | assumption | omega) (by first | assumption | omega)) rfl rfl rfl (by decide +kernel) ⟨Nat.le_of_ble_eq_true rfl, Nat.le_of_ble_eq_true rfl⟩ rfl rfl (Nat.le_of_ble_eq_true rfl) FT_b FT_h ⟨Nat.le_of_ble_eq_true rfl, Nat.le_of_ble_eq_true rfl⟩ (q := 5) rfl (fun r_2 h_2 => ?_)
  subst h_2
  refine g_if_ne C (t := 10) dX7_force_5 (by decide) (q := 8) rfl (fun c_5 => ?_) (fun c_5 => ?_)
  · replace c_5 := ite_n0 c_5
    refine g_iload_n C 2 dX7_force_10 rfl rfl rfl (q := 11) ?_
    refine gcS_si C (n := 1) (As := [.int u]) (st := []) (fun h => h) dX7_force_11 gX7_force_X7_isSpeed (c_X7_isSpeed l D cI cJ cZ b n gr li st tr t sd lea pa pt pp su sh tt u) rfl rfl rfl (by decide +kernel) ⟨Nat.le_of_ble_eq_true rfl, Nat.le_of_ble_eq_true rfl⟩ rfl rfl (Nat.le_of_ble_eq_true rfl) FT_b FT_h ⟨Nat.le_of_ble_eq_true rfl, Nat.le_of_ble_eq_true rfl⟩ (q := 14) rfl (fun r_11 h_11 => ?_)
    subst h_11
    refine g_if_eq C (t := 34) dX7_force_14 (by decide) (q := 17) rfl (fun c_14 => ?_) (fun c_14 => ?_)
    · replace c_14 := ite_e0 c_14
      refine g_bipush C (-2) dX7_force_34 (by decide) (q := 36) rfl ?_
      exact hret _ 36 _ _ dX7_force_36 rfl (by first | exact aSt_1 hsr (by omega) hu hv rfl | exact aSt_o c_5 (show ¬ (spP u ∧ spP v) from fun h => c_14 h.1) | exact aSt_o c_5 (show ¬ (spP u ∧ spP v) from fun h => c_21 h.2))
    · replace c_14 := ite_n0 c_14
      refine g_iload_n C 3 dX7_force_17 rfl rfl rfl (q := 18) ?_
      refine gcS_si C (n := 1) (As := [.int v]) (st := []) (fun h => h) dX7_force_18 gX7_force_X7_isSpeed (c_X7_isSpeed l D cI cJ cZ b n gr li st tr t sd lea pa pt pp su sh tt v) rfl rfl rfl (by decide +kernel) ⟨Nat.le_of_ble_eq_true rfl, Nat.le_of_ble_eq_true rfl⟩ rfl rfl (Nat.le_of_ble_eq_true rfl) FT_b FT_h ⟨Nat.le_of_ble_eq_true rfl, Nat.le_of_ble_eq_true rfl⟩ (q := 21) rfl (fun r_18 h_18 => ?_)
      subst h_18
      refine g_if_eq C (t := 34) dX7_force_21 (by decide) (q := 24) rfl (fun c_21 => ?_) (fun c_21 => ?_)
      · replace c_21 := ite_e0 c_21
        refine g_bipush C (-2) dX7_force_34 (by decide) (q := 36) rfl ?_
        exact hret _ 36 _ _ dX7_force_36 rfl (by first | exact aSt_1 hsr (by omega) hu hv rfl | exact aSt_o c_5 (show ¬ (spP u ∧ spP v) from fun h => c_14 h.1) | exact aSt_o c_5 (show ¬ (spP u ∧ spP v) from fun h => c_21 h.2))
      · replace c_21 := ite_n0 c_21
        have hsr := aSR_k c_5 c_14 c_21
        obtain ⟨k1, u1, v1, hk, hu, hv, rfl, rfl, rfl⟩ := aSR_0 (aSR_k c_5 c_14 c_21) hn
        refine g_aload_n C 0 dX7_force_24 rfl rfl rfl (q := 25) ?_
        refine g_iload_n C 1 dX7_force_25 rfl rfl rfl (q := 26) ?_
        refine g_iload_n C 2 dX7_force_26 rfl rfl rfl (q := 27) ?_
        refine g_iload_n C 3 dX7_force_27 rfl rfl rfl (q := 28) ?_
        refine gcV_si C (n := 3) (As := [.int (nI k1), .int (nI u1), .int (nI v1)]) (st := []) 0 (fun h => h) dX7_force_28 rfl rfl gX7_force_X7_forceOf (c_X7_forceOf l D cI cJ cZ b n gr li st tr t sd lea pa pt pp su sh tt k1 u1 v1 (by first | assumption | omega)) rfl rfl rfl (by decide +kernel) ⟨Nat.le_of_ble_eq_true rfl, Nat.le_of_ble_eq_true rfl⟩ rfl rfl (Nat.le_of_ble_eq_true rfl) FT_b FT_h ⟨Nat.le_of_ble_eq_true rfl, Nat.le_of_ble_eq_true rfl⟩ (q := 31) rfl (fun r_28 h_28 => ?_)
        subst h_28
        refine g_goto C (q := 36) dX7_force_31 (by decide) ?_
        exact hret _ 36 _ _ dX7_force_36 rfl (by first | exact aSt_1 hsr (by omega) hu hv rfl | exact aSt_o c_5 (show ¬ (spP u ∧ spP v) from fun h => c_14 h.1) | exact aSt_o c_5 (show ¬ (spP u ∧ spP v) from fun h => c_21 h.2))
  · replace c_5 := ite_e0 c_5
    refine g_iconst C (-1) dX7_force_8 (by decide) (q := 9) rfl ?_
    exact hret _ 9 _ _ dX7_force_9 rfl (aSt_u c_5)
set_option maxHeartbeats 4000000 in
set_option maxRecDepth 100000 in
theorem c_X7_fault (l : Launch) (D : va_G) (cI cJ cZ : ClassId) (b : Nat → Nat) (n : Nat) (gr li st tr : Nat → Int32) (t : Nat) (sd lea : Nat → Int32) (pa : Int32) (pt pp : Nat → Int32) (su : Int32) (sh tt : Nat → Int32) (k u v : Int32) (hn1 : 1 ≤ n) (hn : n ≤ 16) : Met l yX7_fault wsX7_fault { frames := 2, cells := 0, slots := 0, locals := 47 } (gPc D (tyT cI cJ cZ) (wB b) FT (wM cI cJ cZ b (nI n) gr li st tr (nI t) sd lea pa pt pp su sh tt) [.ref (b 0), .int k, .int u, .int v]) (vp_Si (fun r => r = aSt (flN gr li tr) n k u v)) 0 0 (fun _ => False) := by
  refine gs_si (cc := cX7_fault) (nL := 4) (ty := .int) (by decide) rfl (Nat.le_of_ble_eq_true rfl) (fun G C hret => ?_)
  show G 0 0 (wM cI cJ cZ b (nI n) gr li st tr (nI t) sd lea pa pt pp su sh tt) [(0, .ref (b 0)), (1, .int k), (2, .int u), (3, .int v)] 0 []
  refine g_aload_n C 0 dX7_fault_0 rfl rfl rfl (q := 1) ?_
  refine g_iload_n C 1 dX7_fault_1 rfl rfl rfl (q := 2) ?_
  refine gcV_si C (n := 1) (As := [.int k]) (st := []) 0 (fun h => h) dX7_fault_2 rfl rfl gX7_fault_X7_isCell (c_X7_isCell l D cI cJ cZ b n gr li st tr t sd lea pa pt pp su sh tt k (by first | assumption | omega) (by first | assumption | omega)) rfl rfl rfl (by decide +kernel) ⟨Nat.le_of_ble_eq_true rfl, Nat.le_of_ble_eq_true rfl⟩ rfl rfl (Nat.le_of_ble_eq_true rfl) FT_b FT_h ⟨Nat.le_of_ble_eq_true rfl, Nat.le_of_ble_eq_true rfl⟩ (q := 5) rfl (fun r_2 h_2 => ?_)
  subst h_2
  refine g_if_ne C (t := 10) dX7_fault_5 (by decide) (q := 8) rfl (fun c_5 => ?_) (fun c_5 => ?_)
  · replace c_5 := ite_n0 c_5
    refine g_iload_n C 2 dX7_fault_10 rfl rfl rfl (q := 11) ?_
    refine gcS_si C (n := 1) (As := [.int u]) (st := []) (fun h => h) dX7_fault_11 gX7_fault_X7_isSpeed (c_X7_isSpeed l D cI cJ cZ b n gr li st tr t sd lea pa pt pp su sh tt u) rfl rfl rfl (by decide +kernel) ⟨Nat.le_of_ble_eq_true rfl, Nat.le_of_ble_eq_true rfl⟩ rfl rfl (Nat.le_of_ble_eq_true rfl) FT_b FT_h ⟨Nat.le_of_ble_eq_true rfl, Nat.le_of_ble_eq_true rfl⟩ (q := 14) rfl (fun r_11 h_11 => ?_)
    subst h_11
    refine g_if_eq C (t := 34) dX7_fault_14 (by decide) (q := 17) rfl (fun c_14 => ?_) (fun c_14 => ?_)
    · replace c_14 := ite_e0 c_14
      refine g_bipush C (-2) dX7_fault_34 (by decide) (q := 36) rfl ?_
      exact hret _ 36 _ _ dX7_fault_36 rfl (by first | exact aSt_1 hsr (by omega) hu hv rfl | exact aSt_o c_5 (show ¬ (spP u ∧ spP v) from fun h => c_14 h.1) | exact aSt_o c_5 (show ¬ (spP u ∧ spP v) from fun h => c_21 h.2))
    · replace c_14 := ite_n0 c_14
      refine g_iload_n C 3 dX7_fault_17 rfl rfl rfl (q := 18) ?_
      refine gcS_si C (n := 1) (As := [.int v]) (st := []) (fun h => h) dX7_fault_18 gX7_fault_X7_isSpeed (c_X7_isSpeed l D cI cJ cZ b n gr li st tr t sd lea pa pt pp su sh tt v) rfl rfl rfl (by decide +kernel) ⟨Nat.le_of_ble_eq_true rfl, Nat.le_of_ble_eq_true rfl⟩ rfl rfl (Nat.le_of_ble_eq_true rfl) FT_b FT_h ⟨Nat.le_of_ble_eq_true rfl, Nat.le_of_ble_eq_true rfl⟩ (q := 21) rfl (fun r_18 h_18 => ?_)
      subst h_18
      refine g_if_eq C (t := 34) dX7_fault_21 (by decide) (q := 24) rfl (fun c_21 => ?_) (fun c_21 => ?_)
      · replace c_21 := ite_e0 c_21
        refine g_bipush C (-2) dX7_fault_34 (by decide) (q := 36) rfl ?_
        exact hret _ 36 _ _ dX7_fault_36 rfl (by first | exact aSt_1 hsr (by omega) hu hv rfl | exact aSt_o c_5 (show ¬ (spP u ∧ spP v) from fun h => c_14 h.1) | exact aSt_o c_5 (show ¬ (spP u ∧ spP v) from fun h => c_21 h.2))
      · replace c_21 := ite_n0 c_21
        have hsr := aSR_k c_5 c_14 c_21
        obtain ⟨k1, u1, v1, hk, hu, hv, rfl, rfl, rfl⟩ := aSR_0 (aSR_k c_5 c_14 c_21) hn
        refine g_aload_n C 0 dX7_fault_24 rfl rfl rfl (q := 25) ?_
        refine g_iload_n C 1 dX7_fault_25 rfl rfl rfl (q := 26) ?_
        refine g_iload_n C 2 dX7_fault_26 rfl rfl rfl (q := 27) ?_
        refine g_iload_n C 3 dX7_fault_27 rfl rfl rfl (q := 28) ?_
        refine gcV_si C (n := 3) (As := [.int (nI k1), .int (nI u1), .int (nI v1)]) (st := []) 0 (fun h => h) dX7_fault_28 rfl rfl gX7_fault_X7_faultOf (c_X7_faultOf l D cI cJ cZ b n gr li st tr t sd lea pa pt pp su sh tt k1 u1 v1 (by first | assumption | omega) (by first | assumption | omega) (by first | assumption | omega)) rfl rfl rfl (by decide +kernel) ⟨Nat.le_of_ble_eq_true rfl, Nat.le_of_ble_eq_true rfl⟩ rfl rfl (Nat.le_of_ble_eq_true rfl) FT_b FT_h ⟨Nat.le_of_ble_eq_true rfl, Nat.le_of_ble_eq_true rfl⟩ (q := 31) rfl (fun r_28 h_28 => ?_)
        subst h_28
        refine g_goto C (q := 36) dX7_fault_31 (by decide) ?_
        exact hret _ 36 _ _ dX7_fault_36 rfl (by first | exact aSt_1 hsr (by omega) hu hv rfl | exact aSt_o c_5 (show ¬ (spP u ∧ spP v) from fun h => c_14 h.1) | exact aSt_o c_5 (show ¬ (spP u ∧ spP v) from fun h => c_21 h.2))
  · replace c_5 := ite_e0 c_5
    refine g_iconst C (-1) dX7_fault_8 (by decide) (q := 9) rfl ?_
    exact hret _ 9 _ _ dX7_fault_9 rfl (aSt_u c_5)
set_option maxHeartbeats 4000000 in
set_option maxRecDepth 100000 in
theorem c_X7_time (l : Launch) (D : va_G) (cI cJ cZ : ClassId) (b : Nat → Nat) (n : Nat) (gr li st tr : Nat → Int32) (t : Nat) (sd lea : Nat → Int32) (pa : Int32) (pt pp : Nat → Int32) (su : Int32) (sh tt : Nat → Int32) (k u v : Int32) (hn1 : 1 ≤ n) (hn : n ≤ 16) : Met l yX7_time wsX7_time { frames := 3, cells := 0, slots := 0, locals := 70 } (gPc D (tyT cI cJ cZ) (wB b) FT (wM cI cJ cZ b (nI n) gr li st tr (nI t) sd lea pa pt pp su sh tt) [.ref (b 0), .int k, .int u, .int v]) (vp_Si (fun r => r = aSt (aTm gr li tr) n k u v)) 0 0 (fun _ => False) := by
  refine gs_si (cc := cX7_time) (nL := 5) (ty := .int) (by decide) rfl (Nat.le_of_ble_eq_true rfl) (fun G C hret => ?_)
  show G 0 0 (wM cI cJ cZ b (nI n) gr li st tr (nI t) sd lea pa pt pp su sh tt) [(0, .ref (b 0)), (1, .int k), (2, .int u), (3, .int v)] 0 []
  refine g_aload_n C 0 dX7_time_0 rfl rfl rfl (q := 1) ?_
  refine g_iload_n C 1 dX7_time_1 rfl rfl rfl (q := 2) ?_
  refine g_iload_n C 2 dX7_time_2 rfl rfl rfl (q := 3) ?_
  refine g_iload_n C 3 dX7_time_3 rfl rfl rfl (q := 4) ?_
  refine gcV_si C (n := 3) (As := [.int k, .int u, .int v]) (st := []) 0 (fun h => h) dX7_time_4 rfl rfl gX7_time_X7_fault (c_X7_fault l D cI cJ cZ b n gr li st tr t sd lea pa pt pp su sh tt k u v (by first | assumption | omega) (by first | assumption | omega)) rfl rfl rfl (by decide +kernel) ⟨Nat.le_of_ble_eq_true rfl, Nat.le_of_ble_eq_true rfl⟩ rfl rfl (Nat.le_of_ble_eq_true rfl) FT_b FT_h ⟨Nat.le_of_ble_eq_true rfl, Nat.le_of_ble_eq_true rfl⟩ (q := 7) rfl (fun r_4 h_4 => ?_)
  subst h_4
  refine g_istore C [(4, .int (aSt (flN gr li tr) n k u v)), (0, .ref (b 0)), (1, .int k), (2, .int u), (3, .int v)] dX7_time_7 (by decide) rfl (q := 9) rfl ?_
  refine g_iload C 0 dX7_time_9 rfl rfl (q := 11) ?_
  refine g_if_ge C (t := 19) dX7_time_11 (by decide) (q := 14) rfl (fun c_11 => ?_) (fun c_11 => ?_)
  · have hsr := aSt_ge c_11
    obtain ⟨k1, u1, v1, hk, hu, hv, rfl, rfl, rfl⟩ := aSR_0 hsr hn
    have ev : aSt (flN gr li tr) n (nI k1) (nI u1) (nI v1) = flN gr li tr k1 u1 v1 := aSt_v hsr (by omega) hu hv
    rw [ev]
    refine g_iload C 0 dX7_time_19 rfl rfl (q := 21) ?_
    refine g_if_le C (t := 29) dX7_time_21 (by decide) (q := 24) rfl (fun c_21 => ?_) (fun c_21 => ?_)
    · replace c_21 := flN_le0 c_21
      have huv := fl_nz c_21
      refine g_bipush C (nI 60) dX7_time_29 (by decide) (q := 31) rfl ?_
      refine g_iload_n C 3 dX7_time_31 rfl rfl rfl (q := 32) ?_
      refine g_iload_n C 4 dX7_time_32 rfl rfl rfl (q := 33) ?_
      refine g_iadd C dX7_time_33 (q := 34) rfl ?_
      refine g_eqi C (y := nI (u1 + v1)) (nI_add u1 v1) ?_
      refine g_idiv C dX7_time_34 (nI_ne0 (by omega) (by omega)) (q := 35) rfl ?_
      refine g_eqi C (y := nI (tmN u1 v1)) (pk_div (by decide) (by omega) (by omega)) ?_
      exact hret _ 35 _ _ dX7_time_35 rfl (by first | exact aSt_lt c_11 _ | exact aSt_1 hsr (by omega) hu hv (if_neg c_21).symm | exact aSt_1 hsr (by omega) hu hv (if_pos c_21).symm)
    · replace c_21 := flN_nle0 c_21
      refine g_ldc C (v := (-1000000)) dX7_time_24 (List.mem_cons_of_mem _ (List.mem_append_left _ (List.mem_of_getElem? (i := 0) rfl))) (q := 26) rfl ?_
      refine g_goto C (q := 35) dX7_time_26 (by decide) ?_
      exact hret _ 35 _ _ dX7_time_35 rfl (by first | exact aSt_lt c_11 _ | exact aSt_1 hsr (by omega) hu hv (if_neg c_21).symm | exact aSt_1 hsr (by omega) hu hv (if_pos c_21).symm)
  · refine g_iload C 0 dX7_time_14 rfl rfl (q := 16) ?_
    refine g_goto C (q := 35) dX7_time_16 (by decide) ?_
    exact hret _ 35 _ _ dX7_time_35 rfl (by first | exact aSt_lt c_11 _ | exact aSt_1 hsr (by omega) hu hv (if_neg c_21).symm | exact aSt_1 hsr (by omega) hu hv (if_pos c_21).symm)
set_option maxHeartbeats 4000000 in
set_option maxRecDepth 100000 in
theorem c_X7_power (l : Launch) (D : va_G) (cI cJ cZ : ClassId) (b : Nat → Nat) (n : Nat) (gr li st tr : Nat → Int32) (t : Nat) (sd lea : Nat → Int32) (pa : Int32) (pt pp : Nat → Int32) (su : Int32) (sh tt : Nat → Int32) (k u v : Int32) (hn1 : 1 ≤ n) (hn : n ≤ 16) : Met l yX7_power wsX7_power { frames := 3, cells := 0, slots := 0, locals := 70 } (gPc D (tyT cI cJ cZ) (wB b) FT (wM cI cJ cZ b (nI n) gr li st tr (nI t) sd lea pa pt pp su sh tt) [.ref (b 0), .int k, .int u, .int v]) (vp_Si (fun r => r = aSt (aPw gr li tr) n k u v)) 0 0 (fun _ => False) := by
  refine gs_si (cc := cX7_power) (nL := 5) (ty := .int) (by decide) rfl (Nat.le_of_ble_eq_true rfl) (fun G C hret => ?_)
  show G 0 0 (wM cI cJ cZ b (nI n) gr li st tr (nI t) sd lea pa pt pp su sh tt) [(0, .ref (b 0)), (1, .int k), (2, .int u), (3, .int v)] 0 []
  refine g_aload_n C 0 dX7_power_0 rfl rfl rfl (q := 1) ?_
  refine g_iload_n C 1 dX7_power_1 rfl rfl rfl (q := 2) ?_
  refine g_iload_n C 2 dX7_power_2 rfl rfl rfl (q := 3) ?_
  refine g_iload_n C 3 dX7_power_3 rfl rfl rfl (q := 4) ?_
  refine gcV_si C (n := 3) (As := [.int k, .int u, .int v]) (st := []) 0 (fun h => h) dX7_power_4 rfl rfl gX7_power_X7_fault (c_X7_fault l D cI cJ cZ b n gr li st tr t sd lea pa pt pp su sh tt k u v (by first | assumption | omega) (by first | assumption | omega)) rfl rfl rfl (by decide +kernel) ⟨Nat.le_of_ble_eq_true rfl, Nat.le_of_ble_eq_true rfl⟩ rfl rfl (Nat.le_of_ble_eq_true rfl) FT_b FT_h ⟨Nat.le_of_ble_eq_true rfl, Nat.le_of_ble_eq_true rfl⟩ (q := 7) rfl (fun r_4 h_4 => ?_)
  subst h_4
  refine g_istore C [(4, .int (aSt (flN gr li tr) n k u v)), (0, .ref (b 0)), (1, .int k), (2, .int u), (3, .int v)] dX7_power_7 (by decide) rfl (q := 9) rfl ?_
  refine g_iload C 0 dX7_power_9 rfl rfl (q := 11) ?_
  refine g_if_ge C (t := 19) dX7_power_11 (by decide) (q := 14) rfl (fun c_11 => ?_) (fun c_11 => ?_)
  · have hsr := aSt_ge c_11
    obtain ⟨k1, u1, v1, hk, hu, hv, rfl, rfl, rfl⟩ := aSR_0 hsr hn
    have ev : aSt (flN gr li tr) n (nI k1) (nI u1) (nI v1) = flN gr li tr k1 u1 v1 := aSt_v hsr (by omega) hu hv
    rw [ev]
    refine g_iload C 0 dX7_power_19 rfl rfl (q := 21) ?_
    refine g_if_le C (t := 29) dX7_power_21 (by decide) (q := 24) rfl (fun c_21 => ?_) (fun c_21 => ?_)
    · replace c_21 := flN_le0 c_21
      have huv := fl_nz c_21
      refine g_aload_n C 1 dX7_power_29 rfl rfl rfl (q := 30) ?_
      refine g_iload_n C 2 dX7_power_30 rfl rfl rfl (q := 31) ?_
      refine g_iload_n C 3 dX7_power_31 rfl rfl rfl (q := 32) ?_
      refine g_iload_n C 4 dX7_power_32 rfl rfl rfl (q := 33) ?_
      refine gcV_si C (n := 3) (As := [.int (nI k1), .int (nI u1), .int (nI v1)]) (st := []) 0 (fun h => h) dX7_power_33 rfl rfl gX7_power_X7_powerOf (c_X7_powerOf l D cI cJ cZ b n gr li st tr t sd lea pa pt pp su sh tt k1 u1 v1 (by first | assumption | omega)) rfl rfl rfl (by decide +kernel) ⟨Nat.le_of_ble_eq_true rfl, Nat.le_of_ble_eq_true rfl⟩ rfl rfl (Nat.le_of_ble_eq_true rfl) FT_b FT_h ⟨Nat.le_of_ble_eq_true rfl, Nat.le_of_ble_eq_true rfl⟩ (q := 36) rfl (fun r_33 h_33 => ?_)
      subst h_33
      exact hret _ 36 _ _ dX7_power_36 rfl (by first | exact aSt_lt c_11 _ | exact aSt_1 hsr (by omega) hu hv (if_neg c_21).symm | exact aSt_1 hsr (by omega) hu hv (if_pos c_21).symm)
    · replace c_21 := flN_nle0 c_21
      refine g_ldc C (v := (-1000000)) dX7_power_24 (List.mem_cons_of_mem _ (List.mem_append_left _ (List.mem_of_getElem? (i := 0) rfl))) (q := 26) rfl ?_
      refine g_goto C (q := 36) dX7_power_26 (by decide) ?_
      exact hret _ 36 _ _ dX7_power_36 rfl (by first | exact aSt_lt c_11 _ | exact aSt_1 hsr (by omega) hu hv (if_neg c_21).symm | exact aSt_1 hsr (by omega) hu hv (if_pos c_21).symm)
  · refine g_iload C 0 dX7_power_14 rfl rfl (q := 16) ?_
    refine g_goto C (q := 36) dX7_power_16 (by decide) ?_
    exact hret _ 36 _ _ dX7_power_36 rfl (by first | exact aSt_lt c_11 _ | exact aSt_1 hsr (by omega) hu hv (if_neg c_21).symm | exact aSt_1 hsr (by omega) hu hv (if_pos c_21).symm)
set_option maxHeartbeats 4000000 in
set_option maxRecDepth 100000 in
theorem c_X7_has (l : Launch) (D : va_G) (cI cJ cZ : ClassId) (b : Nat → Nat) (n : Nat) (gr li st tr : Nat → Int32) (t : Nat) (sd lea : Nat → Int32) (pa : Int32) (pt pp : Nat → Int32) (su : Int32) (sh tt : Nat → Int32) (k : Int32) : Met l yX7_has wsX7_has { frames := 1, cells := 0, slots := 0, locals := 22 } (gPc D (tyT cI cJ cZ) (wB b) FT (wM cI cJ cZ b (nI n) gr li st tr (nI t) sd lea pa pt pp su sh tt) [.ref (b 0), .int k]) (vp_Si (fun r => r = aHas tr k)) 0 0 (fun _ => False) := by
  refine gs_si (cc := cX7_has) (nL := 2) (ty := .int) (by decide) rfl (Nat.le_of_ble_eq_true rfl) (fun G C hret => ?_)
  show G 0 0 (wM cI cJ cZ b (nI n) gr li st tr (nI t) sd lea pa pt pp su sh tt) [(0, .ref (b 0)), (1, .int k)] 0 []
  refine g_iload_n C 1 dX7_has_0 rfl rfl rfl (q := 1) ?_
  refine g_iconst C (nI 0) dX7_has_1 (by decide) (q := 2) rfl ?_
  refine g_iconst C (nI 4) dX7_has_2 (by decide) (q := 3) rfl ?_
  refine gcS_si C (n := 3) (As := [.int k, .int (nI 0), .int (nI 4)]) (st := []) (fun h => h) dX7_has_3 gX7_has_X7_in (c_X7_in l D cI cJ cZ b n gr li st tr t sd lea pa pt pp su sh tt k (nI 0) (nI 4)) rfl rfl rfl (by decide +kernel) ⟨Nat.le_of_ble_eq_true rfl, Nat.le_of_ble_eq_true rfl⟩ rfl rfl (Nat.le_of_ble_eq_true rfl) FT_b FT_h ⟨Nat.le_of_ble_eq_true rfl, Nat.le_of_ble_eq_true rfl⟩ (q := 6) rfl (fun r_3 h_3 => ?_)
  subst h_3
  refine g_eqi C (y := if hcP 5 k then nI 1 else nI 0) (ite_cg (in_hc (n := 5) (by decide) (by decide))) ?_
  refine g_if_eq C (t := 18) dX7_has_6 (by decide) (q := 9) rfl (fun c_6 => ?_) (fun c_6 => ?_)
  · replace c_6 := ite_e0 c_6
    refine g_bipush C (-2) dX7_has_18 (by decide) (q := 20) rfl ?_
    exact hret _ 20 _ _ dX7_has_20 rfl (by first | (rw [aHas, if_neg c_6]) | (rw [aHas, if_pos c_6, nI_clamp (by omega)]))
  · replace c_6 := ite_n0 c_6
    obtain ⟨k1, hk, rfl⟩ := hcP_of c_6 (by decide)
    refine g_aload_n C 0 dX7_has_9 rfl rfl rfl (q := 10) ?_
    refine g_get C 0 4 dX7_has_10 (Cn := RX7) (T := TX7) (N := 14) (fun _ h => List.mem_cons_of_mem _ (List.mem_append_right _ h)) rfl rfl (by decide) (List.mem_cons_of_mem _ (List.mem_append_left _ (List.mem_of_getElem? (i := 0) rfl))) rfl (q := 13) rfl ?_
    refine g_iload_n C 1 dX7_has_13 rfl rfl rfl (q := 14) ?_
    refine g_iald C 4 0 dX7_has_14 rfl rfl (vp_in_nI (by omega) (by decide)) (q := 15) rfl ?_
    refine g_eqi C (y := tr k1) (by rw [nI_clamp (by omega)]) ?_
    refine g_goto C (q := 20) dX7_has_15 (by decide) ?_
    exact hret _ 20 _ _ dX7_has_20 rfl (by first | (rw [aHas, if_neg c_6]) | (rw [aHas, if_pos c_6, nI_clamp (by omega)]))
set_option maxHeartbeats 4000000 in
set_option maxRecDepth 100000 in
theorem c_X7_count (l : Launch) (D : va_G) (cI cJ cZ : ClassId) (b : Nat → Nat) (n : Nat) (gr li st tr : Nat → Int32) (t : Nat) (sd lea : Nat → Int32) (pa : Int32) (pt pp : Nat → Int32) (su : Int32) (sh tt : Nat → Int32) (w : Int32) (sp : Nat → Int32) (m : Nat) (hL : LInv st sp n m) : Met l yX7_count wsX7_count { frames := 1, cells := 0, slots := 0, locals := 22 } (gPc D (tyT cI cJ cZ) (wB b) FT (wM cI cJ cZ b (nI n) gr li st tr (nI t) sd lea pa pt pp su sh tt) [.ref (b 0), .int w]) (vp_Si (fun r => r = aCount n m t w)) 0 0 (fun _ => False) := by
  refine gs_si (cc := cX7_count) (nL := 2) (ty := .int) (by decide) rfl (Nat.le_of_ble_eq_true rfl) (fun G C hret => ?_)
  show G 0 0 (wM cI cJ cZ b (nI n) gr li st tr (nI t) sd lea pa pt pp su sh tt) [(0, .ref (b 0)), (1, .int w)] 0 []
  have hn := hL.2.1
  have hcm := hL.2.2.2.2.2.1
  refine g_iload_n C 1 dX7_count_0 rfl rfl rfl (q := 1) ?_
  refine g_if_ne C (t := 11) dX7_count_1 (by decide) (q := 4) rfl (fun c_1 => ?_) (fun c_1 => ?_)
  · refine g_iload_n C 1 dX7_count_11 rfl rfl rfl (q := 12) ?_
    refine g_iconst C (nI 1) dX7_count_12 (by decide) (q := 13) rfl ?_
    refine g_icmp_ne C (t := 23) dX7_count_13 (by decide) (q := 16) rfl (fun c_13 => ?_) (fun c_13 => ?_)
    · refine g_iload_n C 1 dX7_count_23 rfl rfl rfl (q := 24) ?_
      refine g_iconst C (nI 2) dX7_count_24 (by decide) (q := 25) rfl ?_
      refine g_icmp_ne C (t := 35) dX7_count_25 (by decide) (q := 28) rfl (fun c_25 => ?_) (fun c_25 => ?_)
      · refine g_bipush C (-2) dX7_count_35 (by decide) (q := 37) rfl ?_
        exact hret _ 37 _ _ dX7_count_37 rfl (by first | (rw [aCount, if_pos (show w = nI 0 from c_1)]) | (rw [aCount, if_neg (show ¬ w = nI 0 from c_1), if_pos c_13]) | (rw [aCount, if_neg (show ¬ w = nI 0 from c_1), if_neg c_13, if_pos c_25]) | (rw [aCount, if_neg (show ¬ w = nI 0 from c_1), if_neg c_13, if_neg c_25]))
      · refine g_aload_n C 0 dX7_count_28 rfl rfl rfl (q := 29) ?_
        refine g_get C 0 5 dX7_count_29 (Cn := RX7) (T := TX7) (N := 14) (fun _ h => List.mem_cons_of_mem _ (List.mem_append_right _ h)) rfl rfl (by decide) (List.mem_cons_of_mem _ (List.mem_append_left _ (List.mem_of_getElem? (i := 1) rfl))) rfl (q := 32) rfl ?_
        refine g_goto C (q := 37) dX7_count_32 (by decide) ?_
        exact hret _ 37 _ _ dX7_count_37 rfl (by first | (rw [aCount, if_pos (show w = nI 0 from c_1)]) | (rw [aCount, if_neg (show ¬ w = nI 0 from c_1), if_pos c_13]) | (rw [aCount, if_neg (show ¬ w = nI 0 from c_1), if_neg c_13, if_pos c_25]) | (rw [aCount, if_neg (show ¬ w = nI 0 from c_1), if_neg c_13, if_neg c_25]))
    · refine g_aload_n C 0 dX7_count_16 rfl rfl rfl (q := 17) ?_
      refine gcV_si C (n := 0) (As := []) (st := []) 0 (fun h => h) dX7_count_17 rfl rfl gX7_count_X7_legs (c_X7_legs l D cI cJ cZ b n gr li st tr t sd lea pa pt pp su sh tt hn hL.2.2.2.1) rfl rfl rfl (by decide +kernel) ⟨Nat.le_of_ble_eq_true rfl, Nat.le_of_ble_eq_true rfl⟩ rfl rfl (Nat.le_of_ble_eq_true rfl) FT_b FT_h ⟨Nat.le_of_ble_eq_true rfl, Nat.le_of_ble_eq_true rfl⟩ (q := 20) rfl (fun r_17 h_17 => ?_)
      subst h_17
      refine g_eqi C (y := nI m) (by rw [hcm]; rfl) ?_
      refine g_goto C (q := 37) dX7_count_20 (by decide) ?_
      exact hret _ 37 _ _ dX7_count_37 rfl (by first | (rw [aCount, if_pos (show w = nI 0 from c_1)]) | (rw [aCount, if_neg (show ¬ w = nI 0 from c_1), if_pos c_13]) | (rw [aCount, if_neg (show ¬ w = nI 0 from c_1), if_neg c_13, if_pos c_25]) | (rw [aCount, if_neg (show ¬ w = nI 0 from c_1), if_neg c_13, if_neg c_25]))
  · refine g_aload_n C 0 dX7_count_4 rfl rfl rfl (q := 5) ?_
    refine g_get C 0 0 dX7_count_5 (Cn := RX7) (T := TX7) (N := 14) (fun _ h => List.mem_cons_of_mem _ (List.mem_append_right _ h)) rfl rfl (by decide) (List.mem_cons_of_mem _ (List.mem_append_left _ (List.mem_of_getElem? (i := 0) rfl))) rfl (q := 8) rfl ?_
    refine g_goto C (q := 37) dX7_count_8 (by decide) ?_
    exact hret _ 37 _ _ dX7_count_37 rfl (by first | (rw [aCount, if_pos (show w = nI 0 from c_1)]) | (rw [aCount, if_neg (show ¬ w = nI 0 from c_1), if_pos c_13]) | (rw [aCount, if_neg (show ¬ w = nI 0 from c_1), if_neg c_13, if_pos c_25]) | (rw [aCount, if_neg (show ¬ w = nI 0 from c_1), if_neg c_13, if_neg c_25]))
set_option maxHeartbeats 4000000 in
set_option maxRecDepth 100000 in
theorem c_X7_clear (l : Launch) (D : va_G) (cI cJ cZ : ClassId) (b : Nat → Nat) (n : Nat) (gr li st tr : Nat → Int32) (t : Nat) (sd lea : Nat → Int32) (pa : Int32) (pt pp : Nat → Int32) (su : Int32) (sh tt : Nat → Int32) : Met l yX7_clear wsX7_clear { frames := 0, cells := 0, slots := 0, locals := 0 } (gPc D (tyT cI cJ cZ) (wB b) FT (wM cI cJ cZ b (nI n) gr li st tr (nI t) sd lea pa pt pp su sh tt) [.ref (b 0)]) (va_Qi (fun (r : Int32) (u : Unit) => r = nI t) (fun u tS => va_P D vwCl ((fun (u : Unit) => wM cI cJ cZ b (nI n) gr li st tr (nI 0) sd lea pa pt pp su sh tt) u) tS.heap ∧ va_D (wB b) ((fun (u : Unit) => wM cI cJ cZ b (nI n) gr li st tr (nI 0) sd lea pa pt pp su sh tt) u)) (wB b)) 0 0 (wB b) := by
  refine gs_qi (cc := cX7_clear) (nL := 2) (ty := .int) (W' := fun (u : Unit) => wM cI cJ cZ b (nI n) gr li st tr (nI 0) sd lea pa pt pp su sh tt) (by decide) rfl (Nat.le_of_ble_eq_true rfl) (fun G C hret => ?_)
  show G 0 0 (wM cI cJ cZ b (nI n) gr li st tr (nI t) sd lea pa pt pp su sh tt) [(0, .ref (b 0))] 0 []
  refine g_aload_n C 0 dX7_clear_0 rfl rfl rfl (q := 1) ?_
  refine g_get C 0 5 dX7_clear_1 (Cn := RX7) (T := TX7) (N := 14) (fun _ h => List.mem_cons_of_mem _ (List.mem_append_right _ h)) rfl rfl (by decide) (List.mem_cons_of_mem _ (List.mem_append_left _ (List.mem_of_getElem? (i := 0) rfl))) rfl (q := 4) rfl ?_
  refine g_istore_n C [(1, .int (nI t)), (0, .ref (b 0))] dX7_clear_4 rfl (by decide) rfl (q := 5) rfl ?_
  refine g_aload_n C 1 dX7_clear_5 rfl rfl rfl (q := 6) ?_
  refine g_iconst C (nI 0) dX7_clear_6 (by decide) (q := 7) rfl ?_
  refine g_put C 0 5 (wM cI cJ cZ b (nI n) gr li st tr (nI 0) sd lea pa pt pp su sh tt) dX7_clear_7 (Cn := RX7) (T := TX7) (N := 14) (fun _ h => List.mem_cons_of_mem _ (List.mem_append_right _ h)) tyX7_ok nmX7 rfl rfl (by decide) (List.mem_cons_of_mem _ (List.mem_append_left _ (List.mem_of_getElem? (i := 0) rfl))) rfl (ty := .int) (by decide +kernel) rfl rfl (Nat.le_of_ble_eq_true rfl) rfl (q := 10) rfl ?_
  refine g_iload_n C 0 dX7_clear_10 rfl rfl rfl (q := 11) ?_
  exact hret _ () 11 _ dX7_clear_11 rfl (rfl)
set_option maxHeartbeats 4000000 in
set_option maxRecDepth 100000 in
theorem c_X7_log (l : Launch) (D : va_G) (cI cJ cZ : ClassId) (b : Nat → Nat) (n : Nat) (gr li st tr : Nat → Int32) (t : Nat) (sd lea : Nat → Int32) (pa : Int32) (pt pp : Nat → Int32) (su : Int32) (sh tt : Nat → Int32) (v : Int32) (hn : n ≤ 16) (ht : t ≤ n + 1) : Met l yX7_log wsX7_log { frames := 2, cells := 0, slots := 0, locals := 42 } (gPc D (tyT cI cJ cZ) (wB b) FT (wM cI cJ cZ b (nI n) gr li st tr (nI t) sd lea pa pt pp su sh tt) [.ref (b 0), .int v]) (va_Qi (fun (r : Int32) (u : (Nat → Int32) × Nat) => (r, u.1, u.2) = aLog n t sd v) (fun u tS => va_P D vwCl ((fun (u : (Nat → Int32) × Nat) => wM cI cJ cZ b (nI n) gr li st tr (nI u.2) u.1 lea pa pt pp su sh tt) u) tS.heap ∧ va_D (wB b) ((fun (u : (Nat → Int32) × Nat) => wM cI cJ cZ b (nI n) gr li st tr (nI u.2) u.1 lea pa pt pp su sh tt) u)) (wB b)) 0 0 (wB b) := by
  refine gs_qi (cc := cX7_log) (nL := 2) (ty := .int) (W' := fun (u : (Nat → Int32) × Nat) => wM cI cJ cZ b (nI n) gr li st tr (nI u.2) u.1 lea pa pt pp su sh tt) (by decide) rfl (Nat.le_of_ble_eq_true rfl) (fun G C hret => ?_)
  show G 0 0 (wM cI cJ cZ b (nI n) gr li st tr (nI t) sd lea pa pt pp su sh tt) [(0, .ref (b 0)), (1, .int v)] 0 []
  refine g_iload_n C 1 dX7_log_0 rfl rfl rfl (q := 1) ?_
  refine gcS_si C (n := 1) (As := [.int v]) (st := []) (fun h => h) dX7_log_1 gX7_log_X7_isSpeed (c_X7_isSpeed l D cI cJ cZ b n gr li st tr t sd lea pa pt pp su sh tt v) rfl rfl rfl (by decide +kernel) ⟨Nat.le_of_ble_eq_true rfl, Nat.le_of_ble_eq_true rfl⟩ rfl rfl (Nat.le_of_ble_eq_true rfl) FT_b FT_h ⟨Nat.le_of_ble_eq_true rfl, Nat.le_of_ble_eq_true rfl⟩ (q := 4) rfl (fun r_1 h_1 => ?_)
  subst h_1
  refine g_if_ne C (t := 10) dX7_log_4 (by decide) (q := 7) rfl (fun c_4 => ?_) (fun c_4 => ?_)
  · replace c_4 := ite_n0 c_4
    refine g_aload_n C 0 dX7_log_10 rfl rfl rfl (q := 11) ?_
    refine g_get C 0 5 dX7_log_11 (Cn := RX7) (T := TX7) (N := 14) (fun _ h => List.mem_cons_of_mem _ (List.mem_append_right _ h)) rfl rfl (by decide) (List.mem_cons_of_mem _ (List.mem_append_left _ (List.mem_of_getElem? (i := 0) rfl))) rfl (q := 14) rfl ?_
    refine g_aload_n C 0 dX7_log_14 rfl rfl rfl (q := 15) ?_
    refine g_get C 0 0 dX7_log_15 (Cn := RX7) (T := TX7) (N := 14) (fun _ h => List.mem_cons_of_mem _ (List.mem_append_right _ h)) rfl rfl (by decide) (List.mem_cons_of_mem _ (List.mem_append_left _ (List.mem_of_getElem? (i := 1) rfl))) rfl (q := 18) rfl ?_
    refine g_icmp_le C (t := 24) dX7_log_18 (by decide) (q := 21) rfl (fun c_18 => ?_) (fun c_18 => ?_)
    · rw [nI_leI (by omega) (by omega)] at c_18
      refine g_aload_n C 0 dX7_log_24 rfl rfl rfl (q := 25) ?_
      refine g_get C 0 6 dX7_log_25 (Cn := RX7) (T := TX7) (N := 14) (fun _ h => List.mem_cons_of_mem _ (List.mem_append_right _ h)) rfl rfl (by decide) (List.mem_cons_of_mem _ (List.mem_append_left _ (List.mem_of_getElem? (i := 2) rfl))) rfl (q := 28) rfl ?_
      refine g_aload_n C 0 dX7_log_28 rfl rfl rfl (q := 29) ?_
      refine g_get C 0 5 dX7_log_29 (Cn := RX7) (T := TX7) (N := 14) (fun _ h => List.mem_cons_of_mem _ (List.mem_append_right _ h)) rfl rfl (by decide) (List.mem_cons_of_mem _ (List.mem_append_left _ (List.mem_of_getElem? (i := 0) rfl))) rfl (q := 32) rfl ?_
      refine g_iload_n C 1 dX7_log_32 rfl rfl rfl (q := 33) ?_
      refine g_iast C 5 0 (wM cI cJ cZ b (nI n) gr li st tr (nI t) (upd sd t v) lea pa pt pp su sh tt) dX7_log_33 rfl rfl (vp_in_nI (by omega) (by decide)) (by rw [nI_clamp (by omega)]; rfl) (q := 34) rfl ?_
      refine g_aload_n C 0 dX7_log_34 rfl rfl rfl (q := 35) ?_
      refine g_dup C dX7_log_35 rfl (q := 36) rfl ?_
      refine g_get C 0 5 dX7_log_36 (Cn := RX7) (T := TX7) (N := 14) (fun _ h => List.mem_cons_of_mem _ (List.mem_append_right _ h)) rfl rfl (by decide) (List.mem_cons_of_mem _ (List.mem_append_left _ (List.mem_of_getElem? (i := 0) rfl))) rfl (q := 39) rfl ?_
      refine g_iconst C (nI 1) dX7_log_39 (by decide) (q := 40) rfl ?_
      refine g_iadd C dX7_log_40 (q := 41) rfl ?_
      refine g_eqi C (y := nI (t + 1)) (nI_add t 1) ?_
      refine g_put C 0 5 (wM cI cJ cZ b (nI n) gr li st tr (nI (t + 1)) (upd sd t v) lea pa pt pp su sh tt) dX7_log_41 (Cn := RX7) (T := TX7) (N := 14) (fun _ h => List.mem_cons_of_mem _ (List.mem_append_right _ h)) tyX7_ok nmX7 rfl rfl (by decide) (List.mem_cons_of_mem _ (List.mem_append_left _ (List.mem_of_getElem? (i := 0) rfl))) rfl (ty := .int) (by decide +kernel) rfl rfl (Nat.le_of_ble_eq_true rfl) rfl (q := 44) rfl ?_
      refine g_aload_n C 0 dX7_log_44 rfl rfl rfl (q := 45) ?_
      refine g_get C 0 5 dX7_log_45 (Cn := RX7) (T := TX7) (N := 14) (fun _ h => List.mem_cons_of_mem _ (List.mem_append_right _ h)) rfl rfl (by decide) (List.mem_cons_of_mem _ (List.mem_append_left _ (List.mem_of_getElem? (i := 0) rfl))) rfl (q := 48) rfl ?_
      exact hret _ (upd sd t v, t + 1) 48 _ dX7_log_48 rfl (by rw [aLog, if_pos c_4, if_neg (by omega)])
    · rw [nI_leI (by omega) (by omega)] at c_18
      refine g_bipush C (-4) dX7_log_21 (by decide) (q := 23) rfl ?_
      exact hret _ (sd, t) 23 _ dX7_log_23 rfl (by rw [aLog, if_pos c_4, if_pos (by omega)])
  · replace c_4 := ite_e0 c_4
    refine g_bipush C (-2) dX7_log_7 (by decide) (q := 9) rfl ?_
    exact hret _ (sd, t) 9 _ dX7_log_9 rfl (by rw [aLog, if_neg c_4])
set_option maxHeartbeats 4000000 in
set_option maxRecDepth 100000 in
theorem c_X7_cell (l : Launch) (D : va_G) (cI cJ cZ : ClassId) (b : Nat → Nat) (n : Nat) (gr li st tr : Nat → Int32) (t : Nat) (sd lea : Nat → Int32) (pa : Int32) (pt pp : Nat → Int32) (su : Int32) (sh tt : Nat → Int32) (k g v : Int32) (hn1 : 1 ≤ n) (hn : n ≤ 16) : Met l yX7_cell wsX7_cell { frames := 2, cells := 0, slots := 0, locals := 43 } (gPc D (tyT cI cJ cZ) (wB b) FT (wM cI cJ cZ b (nI n) gr li st tr (nI t) sd lea pa pt pp su sh tt) [.ref (b 0), .int k, .int g, .int v]) (va_Qi (fun (r : Int32) (u : (Nat → Int32) × (Nat → Int32) × Int32) => (r, u.1, u.2.1) = aCell gr li n k g v ∧ ((u.1 = gr ∧ u.2.1 = li ∧ u.2.2 = su) ∨ u.2.2 = nI 0)) (fun u tS => va_P D vwCl ((fun (u : (Nat → Int32) × (Nat → Int32) × Int32) => wM cI cJ cZ b (nI n) u.1 u.2.1 st tr (nI t) sd lea pa pt pp u.2.2 sh tt) u) tS.heap ∧ va_D (wB b) ((fun (u : (Nat → Int32) × (Nat → Int32) × Int32) => wM cI cJ cZ b (nI n) u.1 u.2.1 st tr (nI t) sd lea pa pt pp u.2.2 sh tt) u)) (wB b)) 0 0 (wB b) := by
  refine gs_qi (cc := cX7_cell) (nL := 5) (ty := .int) (W' := fun (u : (Nat → Int32) × (Nat → Int32) × Int32) => wM cI cJ cZ b (nI n) u.1 u.2.1 st tr (nI t) sd lea pa pt pp u.2.2 sh tt) (by decide) rfl (Nat.le_of_ble_eq_true rfl) (fun G C hret => ?_)
  show G 0 0 (wM cI cJ cZ b (nI n) gr li st tr (nI t) sd lea pa pt pp su sh tt) [(0, .ref (b 0)), (1, .int k), (2, .int g), (3, .int v)] 0 []
  refine g_aload_n C 0 dX7_cell_0 rfl rfl rfl (q := 1) ?_
  refine g_iload_n C 1 dX7_cell_1 rfl rfl rfl (q := 2) ?_
  refine gcV_si C (n := 1) (As := [.int k]) (st := []) 0 (fun h => h) dX7_cell_2 rfl rfl gX7_cell_X7_isCell (c_X7_isCell l D cI cJ cZ b n gr li st tr t sd lea pa pt pp su sh tt k (by first | assumption | omega) (by first | assumption | omega)) rfl rfl rfl (by decide +kernel) ⟨Nat.le_of_ble_eq_true rfl, Nat.le_of_ble_eq_true rfl⟩ rfl rfl (Nat.le_of_ble_eq_true rfl) FT_b FT_h ⟨Nat.le_of_ble_eq_true rfl, Nat.le_of_ble_eq_true rfl⟩ (q := 5) rfl (fun r_2 h_2 => ?_)
  subst h_2
  refine g_if_ne C (t := 10) dX7_cell_5 (by decide) (q := 8) rfl (fun c_5 => ?_) (fun c_5 => ?_)
  · replace c_5 := ite_n0 c_5
    refine g_iload_n C 2 dX7_cell_10 rfl rfl rfl (q := 11) ?_
    refine g_bipush C (-4) dX7_cell_11 (by decide) (q := 13) rfl ?_
    refine g_iconst C (nI 4) dX7_cell_13 (by decide) (q := 14) rfl ?_
    refine gcS_si C (n := 3) (As := [.int g, .int (-4), .int (nI 4)]) (st := []) (fun h => h) dX7_cell_14 gX7_cell_X7_in (c_X7_in l D cI cJ cZ b n gr li st tr t sd lea pa pt pp su sh tt g (-4) (nI 4)) rfl rfl rfl (by decide +kernel) ⟨Nat.le_of_ble_eq_true rfl, Nat.le_of_ble_eq_true rfl⟩ rfl rfl (Nat.le_of_ble_eq_true rfl) FT_b FT_h ⟨Nat.le_of_ble_eq_true rfl, Nat.le_of_ble_eq_true rfl⟩ (q := 17) rfl (fun r_14 h_14 => ?_)
    subst h_14
    refine g_if_eq C (t := 30) dX7_cell_17 (by decide) (q := 20) rfl (fun c_17 => ?_) (fun c_17 => ?_)
    · replace c_17 := ite_e0 c_17
      refine g_bipush C (-2) dX7_cell_30 (by decide) (q := 32) rfl ?_
      exact hret _ (gr, li, su) 32 _ dX7_cell_32 rfl (⟨by first | (rw [aCell, if_pos c_5, if_neg (show ¬ okC g v from fun h => c_17 ⟨h.1, h.2.1⟩)]) | (rw [aCell, if_pos c_5, if_neg (show ¬ okC g v from fun h => c_27 h.2.2)]), Or.inl ⟨rfl, rfl, rfl⟩⟩)
    · replace c_17 := ite_n0 c_17
      refine g_iload_n C 3 dX7_cell_20 rfl rfl rfl (q := 21) ?_
      refine g_iconst C (nI 1) dX7_cell_21 (by decide) (q := 22) rfl ?_
      refine g_bipush C (nI 6) dX7_cell_22 (by decide) (q := 24) rfl ?_
      refine gcS_si C (n := 3) (As := [.int v, .int (nI 1), .int (nI 6)]) (st := []) (fun h => h) dX7_cell_24 gX7_cell_X7_in (c_X7_in l D cI cJ cZ b n gr li st tr t sd lea pa pt pp su sh tt v (nI 1) (nI 6)) rfl rfl rfl (by decide +kernel) ⟨Nat.le_of_ble_eq_true rfl, Nat.le_of_ble_eq_true rfl⟩ rfl rfl (Nat.le_of_ble_eq_true rfl) FT_b FT_h ⟨Nat.le_of_ble_eq_true rfl, Nat.le_of_ble_eq_true rfl⟩ (q := 27) rfl (fun r_24 h_24 => ?_)
      subst h_24
      refine g_if_ne C (t := 33) dX7_cell_27 (by decide) (q := 30) rfl (fun c_27 => ?_) (fun c_27 => ?_)
      · replace c_27 := ite_n0 c_27
        obtain ⟨k1, hk, rfl⟩ := hcP_of c_5 (by omega)
        refine g_aload_n C 0 dX7_cell_33 rfl rfl rfl (q := 34) ?_
        refine g_get C 0 2 dX7_cell_34 (Cn := RX7) (T := TX7) (N := 14) (fun _ h => List.mem_cons_of_mem _ (List.mem_append_right _ h)) rfl rfl (by decide) (List.mem_cons_of_mem _ (List.mem_append_left _ (List.mem_of_getElem? (i := 0) rfl))) rfl (q := 37) rfl ?_
        refine g_iload_n C 1 dX7_cell_37 rfl rfl rfl (q := 38) ?_
        refine g_iald C 2 0 dX7_cell_38 rfl rfl (vp_in_nI (by omega) (by decide)) (q := 39) rfl ?_
        refine g_eqi C (y := li k1) (by rw [nI_clamp (by omega)]) ?_
        refine g_istore C [(4, .int (li k1)), (0, .ref (b 0)), (1, .int (nI k1)), (2, .int g), (3, .int v)] dX7_cell_39 (by decide) rfl (q := 41) rfl ?_
        refine g_aload_n C 1 dX7_cell_41 rfl rfl rfl (q := 42) ?_
        refine g_get C 0 1 dX7_cell_42 (Cn := RX7) (T := TX7) (N := 14) (fun _ h => List.mem_cons_of_mem _ (List.mem_append_right _ h)) rfl rfl (by decide) (List.mem_cons_of_mem _ (List.mem_append_left _ (List.mem_of_getElem? (i := 1) rfl))) rfl (q := 45) rfl ?_
        refine g_iload_n C 2 dX7_cell_45 rfl rfl rfl (q := 46) ?_
        refine g_iload_n C 3 dX7_cell_46 rfl rfl rfl (q := 47) ?_
        refine g_iast C 1 0 (wM cI cJ cZ b (nI n) (upd gr k1 g) li st tr (nI t) sd lea pa pt pp su sh tt) dX7_cell_47 rfl rfl (vp_in_nI (by omega) (by decide)) (by rw [nI_clamp (by omega)]; rfl) (q := 48) rfl ?_
        refine g_aload_n C 1 dX7_cell_48 rfl rfl rfl (q := 49) ?_
        refine g_get C 0 2 dX7_cell_49 (Cn := RX7) (T := TX7) (N := 14) (fun _ h => List.mem_cons_of_mem _ (List.mem_append_right _ h)) rfl rfl (by decide) (List.mem_cons_of_mem _ (List.mem_append_left _ (List.mem_of_getElem? (i := 0) rfl))) rfl (q := 52) rfl ?_
        refine g_iload_n C 2 dX7_cell_52 rfl rfl rfl (q := 53) ?_
        refine g_iload_n C 4 dX7_cell_53 rfl rfl rfl (q := 54) ?_
        refine g_iast C 2 0 (wM cI cJ cZ b (nI n) (upd gr k1 g) (upd li k1 v) st tr (nI t) sd lea pa pt pp su sh tt) dX7_cell_54 rfl rfl (vp_in_nI (by omega) (by decide)) (by rw [nI_clamp (by omega)]; rfl) (q := 55) rfl ?_
        refine g_aload_n C 1 dX7_cell_55 rfl rfl rfl (q := 56) ?_
        refine g_iconst C (nI 0) dX7_cell_56 (by decide) (q := 57) rfl ?_
        refine g_put C 0 11 (wM cI cJ cZ b (nI n) (upd gr k1 g) (upd li k1 v) st tr (nI t) sd lea pa pt pp (nI 0) sh tt) dX7_cell_57 (Cn := RX7) (T := TX7) (N := 14) (fun _ h => List.mem_cons_of_mem _ (List.mem_append_right _ h)) tyX7_ok nmX7 rfl rfl (by decide) (List.mem_cons_of_mem _ (List.mem_append_left _ (List.mem_of_getElem? (i := 2) rfl))) rfl (ty := .boolean) (by decide +kernel) (by decide) rfl (Nat.le_of_ble_eq_true rfl) rfl (q := 60) rfl ?_
        refine g_iload C 0 dX7_cell_60 rfl rfl (q := 62) ?_
        exact hret _ (upd gr k1 g, upd li k1 v, nI 0) 62 _ dX7_cell_62 rfl (⟨by rw [aCell, if_pos c_5, if_pos ⟨c_17.1, c_17.2, c_27⟩, nI_clamp (by omega)], Or.inr rfl⟩)
      · replace c_27 := ite_e0 c_27
        refine g_bipush C (-2) dX7_cell_30 (by decide) (q := 32) rfl ?_
        exact hret _ (gr, li, su) 32 _ dX7_cell_32 rfl (⟨by first | (rw [aCell, if_pos c_5, if_neg (show ¬ okC g v from fun h => c_17 ⟨h.1, h.2.1⟩)]) | (rw [aCell, if_pos c_5, if_neg (show ¬ okC g v from fun h => c_27 h.2.2)]), Or.inl ⟨rfl, rfl, rfl⟩⟩)
  · replace c_5 := ite_e0 c_5
    refine g_iconst C (-1) dX7_cell_8 (by decide) (q := 9) rfl ?_
    exact hret _ (gr, li, su) 9 _ dX7_cell_9 rfl (⟨by rw [aCell, if_neg c_5], Or.inl ⟨rfl, rfl, rfl⟩⟩)
set_option maxHeartbeats 4000000 in
set_option maxRecDepth 100000 in
theorem c_X7_stop (l : Launch) (D : va_G) (cI cJ cZ : ClassId) (b : Nat → Nat) (n : Nat) (gr li st tr : Nat → Int32) (t : Nat) (sd lea : Nat → Int32) (pa : Int32) (pt pp : Nat → Int32) (su : Int32) (sh tt : Nat → Int32) (k v : Int32) (sp : Nat → Int32) (m : Nat) (hL : LInv st sp n m) (hv : v = nI 0 ∨ v = nI 1) : Met l yX7_stop wsX7_stop { frames := 1, cells := 0, slots := 0, locals := 22 } (gPc D (tyT cI cJ cZ) (wB b) FT (wM cI cJ cZ b (nI n) gr li st tr (nI t) sd lea pa pt pp su sh tt) [.ref (b 0), .int k, .int v]) (va_Qi (fun (r : Int32) (u : (Nat → Int32) × Int32) => (r, u.1) = aStop st n k v ∧ ((u.1 = st ∧ u.2 = su) ∨ u.2 = nI 0)) (fun u tS => va_P D vwCl ((fun (u : (Nat → Int32) × Int32) => wM cI cJ cZ b (nI n) gr li u.1 tr (nI t) sd lea pa pt pp u.2 sh tt) u) tS.heap ∧ va_D (wB b) ((fun (u : (Nat → Int32) × Int32) => wM cI cJ cZ b (nI n) gr li u.1 tr (nI t) sd lea pa pt pp u.2 sh tt) u)) (wB b)) 0 0 (wB b) := by
  refine gs_qi (cc := cX7_stop) (nL := 3) (ty := .int) (W' := fun (u : (Nat → Int32) × Int32) => wM cI cJ cZ b (nI n) gr li u.1 tr (nI t) sd lea pa pt pp u.2 sh tt) (by decide) rfl (Nat.le_of_ble_eq_true rfl) (fun G C hret => ?_)
  show G 0 0 (wM cI cJ cZ b (nI n) gr li st tr (nI t) sd lea pa pt pp su sh tt) [(0, .ref (b 0)), (1, .int k), (2, .int v)] 0 []
  have hn := hL.2.1
  have h0 := hL.2.2.2.1
  refine g_iload_n C 1 dX7_stop_0 rfl rfl rfl (q := 1) ?_
  refine g_iconst C (nI 0) dX7_stop_1 (by decide) (q := 2) rfl ?_
  refine g_aload_n C 0 dX7_stop_2 rfl rfl rfl (q := 3) ?_
  refine g_get C 0 0 dX7_stop_3 (Cn := RX7) (T := TX7) (N := 14) (fun _ h => List.mem_cons_of_mem _ (List.mem_append_right _ h)) rfl rfl (by decide) (List.mem_cons_of_mem _ (List.mem_append_left _ (List.mem_of_getElem? (i := 0) rfl))) rfl (q := 6) rfl ?_
  refine gcS_si C (n := 3) (As := [.int k, .int (nI 0), .int (nI n)]) (st := []) (fun h => h) dX7_stop_6 gX7_stop_X7_in (c_X7_in l D cI cJ cZ b n gr li st tr t sd lea pa pt pp su sh tt k (nI 0) (nI n)) rfl rfl rfl (by decide +kernel) ⟨Nat.le_of_ble_eq_true rfl, Nat.le_of_ble_eq_true rfl⟩ rfl rfl (Nat.le_of_ble_eq_true rfl) FT_b FT_h ⟨Nat.le_of_ble_eq_true rfl, Nat.le_of_ble_eq_true rfl⟩ (q := 9) rfl (fun r_6 h_6 => ?_)
  subst h_6
  refine g_eqi C (y := if hpP n k then nI 1 else nI 0) (ite_cg in_hp) ?_
  refine g_if_ne C (t := 14) dX7_stop_9 (by decide) (q := 12) rfl (fun c_9 => ?_) (fun c_9 => ?_)
  · replace c_9 := ite_n0 c_9
    obtain ⟨k1, hk, rfl⟩ := hpP_of c_9 (by omega)
    refine g_iload_n C 1 dX7_stop_14 rfl rfl rfl (q := 15) ?_
    refine g_if_eq C (t := 26) dX7_stop_15 (by decide) (q := 18) rfl (fun c_15 => ?_) (fun c_15 => ?_)
    · rw [← nI_0, nI_eq (by omega) (by omega)] at c_15
      refine g_bipush C (-3) dX7_stop_26 (by decide) (q := 28) rfl ?_
      exact hret _ (st, su) 28 _ dX7_stop_28 rfl (⟨by first | (rw [aStop, if_pos c_9, if_pos (show nI k1 = nI 0 ∨ nI k1 = nI n from Or.inl (by rw [c_15]))]) | (rw [aStop, if_pos c_9, if_pos (show nI k1 = nI 0 ∨ nI k1 = nI n from Or.inr (by rw [c_23]))]), Or.inl ⟨rfl, rfl⟩⟩)
    · rw [← nI_0, nI_eq (by omega) (by omega)] at c_15
      refine g_iload_n C 1 dX7_stop_18 rfl rfl rfl (q := 19) ?_
      refine g_aload_n C 0 dX7_stop_19 rfl rfl rfl (q := 20) ?_
      refine g_get C 0 0 dX7_stop_20 (Cn := RX7) (T := TX7) (N := 14) (fun _ h => List.mem_cons_of_mem _ (List.mem_append_right _ h)) rfl rfl (by decide) (List.mem_cons_of_mem _ (List.mem_append_left _ (List.mem_of_getElem? (i := 0) rfl))) rfl (q := 23) rfl ?_
      refine g_icmp_ne C (t := 29) dX7_stop_23 (by decide) (q := 26) rfl (fun c_23 => ?_) (fun c_23 => ?_)
      · rw [nI_eq (by omega) (by omega)] at c_23
        refine g_aload_n C 0 dX7_stop_29 rfl rfl rfl (q := 30) ?_
        refine g_get C 0 3 dX7_stop_30 (Cn := RX7) (T := TX7) (N := 14) (fun _ h => List.mem_cons_of_mem _ (List.mem_append_right _ h)) rfl rfl (by decide) (List.mem_cons_of_mem _ (List.mem_append_left _ (List.mem_of_getElem? (i := 1) rfl))) rfl (q := 33) rfl ?_
        refine g_iload_n C 1 dX7_stop_33 rfl rfl rfl (q := 34) ?_
        refine g_iload_n C 2 dX7_stop_34 rfl rfl rfl (q := 35) ?_
        refine g_zast C 3 2 (wM cI cJ cZ b (nI n) gr li (upd st k1 v) tr (nI t) sd lea pa pt pp su sh tt) dX7_stop_35 rfl rfl (vp_in_nI (by omega) (by decide)) (by rw [nI_clamp (by omega)]; rw [z01 hv]; rfl) (q := 36) rfl ?_
        refine g_aload_n C 0 dX7_stop_36 rfl rfl rfl (q := 37) ?_
        refine g_iconst C (nI 0) dX7_stop_37 (by decide) (q := 38) rfl ?_
        refine g_put C 0 11 (wM cI cJ cZ b (nI n) gr li (upd st k1 v) tr (nI t) sd lea pa pt pp (nI 0) sh tt) dX7_stop_38 (Cn := RX7) (T := TX7) (N := 14) (fun _ h => List.mem_cons_of_mem _ (List.mem_append_right _ h)) tyX7_ok nmX7 rfl rfl (by decide) (List.mem_cons_of_mem _ (List.mem_append_left _ (List.mem_of_getElem? (i := 2) rfl))) rfl (ty := .boolean) (by decide +kernel) (by decide) rfl (Nat.le_of_ble_eq_true rfl) rfl (q := 41) rfl ?_
        refine g_aload_n C 0 dX7_stop_41 rfl rfl rfl (q := 42) ?_
        refine gcV_si C (n := 0) (As := []) (st := []) 0 (fun h => h) dX7_stop_42 rfl rfl gX7_stop_X7_legs (c_X7_legs l D cI cJ cZ b n gr li (upd st k1 v) tr t sd lea pa pt pp (nI 0) sh tt hn (by rw [pk_un (by omega)]; exact h0)) rfl rfl rfl (by decide +kernel) ⟨Nat.le_of_ble_eq_true rfl, Nat.le_of_ble_eq_true rfl⟩ rfl rfl (Nat.le_of_ble_eq_true rfl) FT_b FT_h ⟨Nat.le_of_ble_eq_true rfl, Nat.le_of_ble_eq_true rfl⟩ (q := 45) rfl (fun r_42 h_42 => ?_)
        subst h_42
        exact hret _ (upd st k1 v, nI 0) 45 _ dX7_stop_45 rfl (⟨by rw [aStop, if_pos c_9, if_neg (by rintro (q | q) <;> (rw [nI_eq (by omega) (by omega)] at q; omega)), nI_clamp (by omega)], Or.inr rfl⟩)
      · rw [nI_eq (by omega) (by omega)] at c_23
        refine g_bipush C (-3) dX7_stop_26 (by decide) (q := 28) rfl ?_
        exact hret _ (st, su) 28 _ dX7_stop_28 rfl (⟨by first | (rw [aStop, if_pos c_9, if_pos (show nI k1 = nI 0 ∨ nI k1 = nI n from Or.inl (by rw [c_15]))]) | (rw [aStop, if_pos c_9, if_pos (show nI k1 = nI 0 ∨ nI k1 = nI n from Or.inr (by rw [c_23]))]), Or.inl ⟨rfl, rfl⟩⟩)
  · replace c_9 := ite_e0 c_9
    refine g_iconst C (-1) dX7_stop_12 (by decide) (q := 13) rfl ?_
    exact hret _ (st, su) 13 _ dX7_stop_13 rfl (⟨by rw [aStop, if_neg c_9], Or.inl ⟨rfl, rfl⟩⟩)
set_option maxHeartbeats 4000000 in
set_option maxRecDepth 100000 in
theorem c_X7_train (l : Launch) (D : va_G) (cI cJ cZ : ClassId) (b : Nat → Nat) (n : Nat) (gr li st tr : Nat → Int32) (t : Nat) (sd lea : Nat → Int32) (pa : Int32) (pt pp : Nat → Int32) (su : Int32) (sh tt : Nat → Int32) (k v : Int32) : Met l yX7_train wsX7_train { frames := 1, cells := 0, slots := 0, locals := 22 } (gPc D (tyT cI cJ cZ) (wB b) FT (wM cI cJ cZ b (nI n) gr li st tr (nI t) sd lea pa pt pp su sh tt) [.ref (b 0), .int k, .int v]) (va_Qi (fun (r : Int32) (u : (Nat → Int32) × Int32) => (r, u.1) = aTrain tr k v ∧ ((u.1 = tr ∧ u.2 = su) ∨ u.2 = nI 0)) (fun u tS => va_P D vwCl ((fun (u : (Nat → Int32) × Int32) => wM cI cJ cZ b (nI n) gr li st u.1 (nI t) sd lea pa pt pp u.2 sh tt) u) tS.heap ∧ va_D (wB b) ((fun (u : (Nat → Int32) × Int32) => wM cI cJ cZ b (nI n) gr li st u.1 (nI t) sd lea pa pt pp u.2 sh tt) u)) (wB b)) 0 0 (wB b) := by
  refine gs_qi (cc := cX7_train) (nL := 6) (ty := .int) (W' := fun (u : (Nat → Int32) × Int32) => wM cI cJ cZ b (nI n) gr li st u.1 (nI t) sd lea pa pt pp u.2 sh tt) (by decide) rfl (Nat.le_of_ble_eq_true rfl) (fun G C hret => ?_)
  show G 0 0 (wM cI cJ cZ b (nI n) gr li st tr (nI t) sd lea pa pt pp su sh tt) [(0, .ref (b 0)), (1, .int k), (2, .int v)] 0 []
  refine g_iload_n C 1 dX7_train_0 rfl rfl rfl (q := 1) ?_
  refine g_iconst C (nI 0) dX7_train_1 (by decide) (q := 2) rfl ?_
  refine g_iconst C (nI 4) dX7_train_2 (by decide) (q := 3) rfl ?_
  refine gcS_si C (n := 3) (As := [.int k, .int (nI 0), .int (nI 4)]) (st := []) (fun h => h) dX7_train_3 gX7_train_X7_in (c_X7_in l D cI cJ cZ b n gr li st tr t sd lea pa pt pp su sh tt k (nI 0) (nI 4)) rfl rfl rfl (by decide +kernel) ⟨Nat.le_of_ble_eq_true rfl, Nat.le_of_ble_eq_true rfl⟩ rfl rfl (Nat.le_of_ble_eq_true rfl) FT_b FT_h ⟨Nat.le_of_ble_eq_true rfl, Nat.le_of_ble_eq_true rfl⟩ (q := 6) rfl (fun r_3 h_3 => ?_)
  subst h_3
  refine g_eqi C (y := if hcP 5 k then nI 1 else nI 0) (ite_cg (in_hc (n := 5) (by decide) (by decide))) ?_
  refine g_if_ne C (t := 12) dX7_train_6 (by decide) (q := 9) rfl (fun c_6 => ?_) (fun c_6 => ?_)
  · replace c_6 := ite_n0 c_6
    obtain ⟨k1, hk, rfl⟩ := hcP_of c_6 (by decide)
    refine g_iload_n C 1 dX7_train_12 rfl rfl rfl (q := 13) ?_
    refine g_iconst C (nI 1) dX7_train_13 (by decide) (q := 14) rfl ?_
    refine g_icmp_eq C (t := 22) dX7_train_14 (by decide) (q := 17) rfl (fun c_14 => ?_) (fun c_14 => ?_)
    · rw [nI_eq (by omega) (by omega)] at c_14
      refine g_iconst C (nI 0) dX7_train_22 (by decide) (q := 23) rfl ?_
      refine g_goto C (q := 27) dX7_train_23 (by decide) ?_
      refine g_istore_n C [(3, .int (nI 0)), (0, .ref (b 0)), (1, .int (nI k1)), (2, .int v)] dX7_train_27 rfl (by decide) rfl (q := 28) rfl ?_
      refine g_iload_n C 2 dX7_train_28 rfl rfl rfl (q := 29) ?_
      refine g_iconst C (nI 2) dX7_train_29 (by decide) (q := 30) rfl ?_
      refine g_icmp_ge C (t := 38) dX7_train_30 (by decide) (q := 33) rfl (fun c_30 => ?_) (fun c_30 => ?_)
      · rw [nI_leI (by omega) (by omega)] at c_30
        refine g_iload_n C 2 dX7_train_38 rfl rfl rfl (q := 39) ?_
        refine g_iconst C (nI 4) dX7_train_39 (by decide) (q := 40) rfl ?_
        refine g_icmp_ge C (t := 49) dX7_train_40 (by decide) (q := 43) rfl (fun c_40 => ?_) (fun c_40 => ?_)
        · rw [nI_leI (by omega) (by omega)] at c_40
          refine g_bipush C (nI 10) dX7_train_49 (by decide) (q := 51) rfl ?_
          refine g_istore C [(4, .int (nI 10)), (3, .int (nI 0)), (0, .ref (b 0)), (1, .int (nI k1)), (2, .int v)] dX7_train_51 (by decide) rfl (q := 53) rfl ?_
          refine g_iload_n C 4 dX7_train_53 rfl rfl rfl (q := 54) ?_
          refine g_iload_n C 1 dX7_train_54 rfl rfl rfl (q := 55) ?_
          refine g_iload C 0 dX7_train_55 rfl rfl (q := 57) ?_
          refine gcS_si C (n := 3) (As := [.int v, .int (nI 0), .int (nI 10)]) (st := []) (fun h => h) dX7_train_57 gX7_train_X7_in (c_X7_in l D cI cJ cZ b n gr li st tr t sd lea pa pt pp su sh tt v (nI 0) (nI 10)) rfl rfl rfl (by decide +kernel) ⟨Nat.le_of_ble_eq_true rfl, Nat.le_of_ble_eq_true rfl⟩ rfl rfl (Nat.le_of_ble_eq_true rfl) FT_b FT_h ⟨Nat.le_of_ble_eq_true rfl, Nat.le_of_ble_eq_true rfl⟩ (q := 60) rfl (fun r_57 h_57 => ?_)
          subst h_57
          refine g_if_ne C (t := 66) dX7_train_60 (by decide) (q := 63) rfl (fun c_60 => ?_) (fun c_60 => ?_)
          · replace c_60 := ite_n0 c_60
            have ht : trP k1 v := by
              unfold trP
              rw [show trLo k1 = 0 by unfold trLo; first | exact if_pos (by omega) | exact if_neg (by omega), show trHi k1 = 10 by unfold trHi; first | exact if_pos (by omega) | exact (if_neg (by omega)).trans (if_pos (by omega)) | exact (if_neg (by omega)).trans (if_neg (by omega))]
              exact c_60
            refine g_aload_n C 2 dX7_train_66 rfl rfl rfl (q := 67) ?_
            refine g_get C 0 4 dX7_train_67 (Cn := RX7) (T := TX7) (N := 14) (fun _ h => List.mem_cons_of_mem _ (List.mem_append_right _ h)) rfl rfl (by decide) (List.mem_cons_of_mem _ (List.mem_append_left _ (List.mem_of_getElem? (i := 0) rfl))) rfl (q := 70) rfl ?_
            refine g_iload_n C 3 dX7_train_70 rfl rfl rfl (q := 71) ?_
            refine g_iald C 4 0 dX7_train_71 rfl rfl (vp_in_nI (by omega) (by decide)) (q := 72) rfl ?_
            refine g_eqi C (y := tr k1) (by rw [nI_clamp (by omega)]) ?_
            refine g_istore C [(5, .int (tr k1)), (4, .int (nI 10)), (3, .int (nI 0)), (0, .ref (b 0)), (1, .int (nI k1)), (2, .int v)] dX7_train_72 (by decide) rfl (q := 74) rfl ?_
            refine g_aload_n C 3 dX7_train_74 rfl rfl rfl (q := 75) ?_
            refine g_get C 0 4 dX7_train_75 (Cn := RX7) (T := TX7) (N := 14) (fun _ h => List.mem_cons_of_mem _ (List.mem_append_right _ h)) rfl rfl (by decide) (List.mem_cons_of_mem _ (List.mem_append_left _ (List.mem_of_getElem? (i := 0) rfl))) rfl (q := 78) rfl ?_
            refine g_iload_n C 4 dX7_train_78 rfl rfl rfl (q := 79) ?_
            refine g_iload_n C 5 dX7_train_79 rfl rfl rfl (q := 80) ?_
            refine g_iast C 4 0 (wM cI cJ cZ b (nI n) gr li st (upd tr k1 v) (nI t) sd lea pa pt pp su sh tt) dX7_train_80 rfl rfl (vp_in_nI (by omega) (by decide)) (by rw [nI_clamp (by omega)]; rfl) (q := 81) rfl ?_
            refine g_aload_n C 3 dX7_train_81 rfl rfl rfl (q := 82) ?_
            refine g_iconst C (nI 0) dX7_train_82 (by decide) (q := 83) rfl ?_
            refine g_put C 0 11 (wM cI cJ cZ b (nI n) gr li st (upd tr k1 v) (nI t) sd lea pa pt pp (nI 0) sh tt) dX7_train_83 (Cn := RX7) (T := TX7) (N := 14) (fun _ h => List.mem_cons_of_mem _ (List.mem_append_right _ h)) tyX7_ok nmX7 rfl rfl (by decide) (List.mem_cons_of_mem _ (List.mem_append_left _ (List.mem_of_getElem? (i := 1) rfl))) rfl (ty := .boolean) (by decide +kernel) (by decide) rfl (Nat.le_of_ble_eq_true rfl) rfl (q := 86) rfl ?_
            refine g_iload C 0 dX7_train_86 rfl rfl (q := 88) ?_
            exact hret _ (upd tr k1 v, nI 0) 88 _ dX7_train_88 rfl (⟨by rw [aTrain, if_pos c_6, nI_clamp (by omega), if_pos ht], Or.inr rfl⟩)
          · replace c_60 := ite_e0 c_60
            have ht : ¬ trP k1 v := by
              unfold trP
              rw [show trLo k1 = 0 by unfold trLo; first | exact if_pos (by omega) | exact if_neg (by omega), show trHi k1 = 10 by unfold trHi; first | exact if_pos (by omega) | exact (if_neg (by omega)).trans (if_pos (by omega)) | exact (if_neg (by omega)).trans (if_neg (by omega))]
              exact c_60
            refine g_bipush C (-2) dX7_train_63 (by decide) (q := 65) rfl ?_
            exact hret _ (tr, su) 65 _ dX7_train_65 rfl (⟨by rw [aTrain, if_pos c_6, nI_clamp (by omega), if_neg ht], Or.inl ⟨rfl, rfl⟩⟩)
        · rw [nI_leI (by omega) (by omega)] at c_40
          refine g_sipush C (nI 400) dX7_train_43 (by decide) (q := 46) rfl ?_
          refine g_goto C (q := 51) dX7_train_46 (by decide) ?_
          refine g_istore C [(4, .int (nI 400)), (3, .int (nI 0)), (0, .ref (b 0)), (1, .int (nI k1)), (2, .int v)] dX7_train_51 (by decide) rfl (q := 53) rfl ?_
          refine g_iload_n C 4 dX7_train_53 rfl rfl rfl (q := 54) ?_
          refine g_iload_n C 1 dX7_train_54 rfl rfl rfl (q := 55) ?_
          refine g_iload C 0 dX7_train_55 rfl rfl (q := 57) ?_
          refine gcS_si C (n := 3) (As := [.int v, .int (nI 0), .int (nI 400)]) (st := []) (fun h => h) dX7_train_57 gX7_train_X7_in (c_X7_in l D cI cJ cZ b n gr li st tr t sd lea pa pt pp su sh tt v (nI 0) (nI 400)) rfl rfl rfl (by decide +kernel) ⟨Nat.le_of_ble_eq_true rfl, Nat.le_of_ble_eq_true rfl⟩ rfl rfl (Nat.le_of_ble_eq_true rfl) FT_b FT_h ⟨Nat.le_of_ble_eq_true rfl, Nat.le_of_ble_eq_true rfl⟩ (q := 60) rfl (fun r_57 h_57 => ?_)
          subst h_57
          refine g_if_ne C (t := 66) dX7_train_60 (by decide) (q := 63) rfl (fun c_60 => ?_) (fun c_60 => ?_)
          · replace c_60 := ite_n0 c_60
            have ht : trP k1 v := by
              unfold trP
              rw [show trLo k1 = 0 by unfold trLo; first | exact if_pos (by omega) | exact if_neg (by omega), show trHi k1 = 400 by unfold trHi; first | exact if_pos (by omega) | exact (if_neg (by omega)).trans (if_pos (by omega)) | exact (if_neg (by omega)).trans (if_neg (by omega))]
              exact c_60
            refine g_aload_n C 2 dX7_train_66 rfl rfl rfl (q := 67) ?_
            refine g_get C 0 4 dX7_train_67 (Cn := RX7) (T := TX7) (N := 14) (fun _ h => List.mem_cons_of_mem _ (List.mem_append_right _ h)) rfl rfl (by decide) (List.mem_cons_of_mem _ (List.mem_append_left _ (List.mem_of_getElem? (i := 0) rfl))) rfl (q := 70) rfl ?_
            refine g_iload_n C 3 dX7_train_70 rfl rfl rfl (q := 71) ?_
            refine g_iald C 4 0 dX7_train_71 rfl rfl (vp_in_nI (by omega) (by decide)) (q := 72) rfl ?_
            refine g_eqi C (y := tr k1) (by rw [nI_clamp (by omega)]) ?_
            refine g_istore C [(5, .int (tr k1)), (4, .int (nI 400)), (3, .int (nI 0)), (0, .ref (b 0)), (1, .int (nI k1)), (2, .int v)] dX7_train_72 (by decide) rfl (q := 74) rfl ?_
            refine g_aload_n C 3 dX7_train_74 rfl rfl rfl (q := 75) ?_
            refine g_get C 0 4 dX7_train_75 (Cn := RX7) (T := TX7) (N := 14) (fun _ h => List.mem_cons_of_mem _ (List.mem_append_right _ h)) rfl rfl (by decide) (List.mem_cons_of_mem _ (List.mem_append_left _ (List.mem_of_getElem? (i := 0) rfl))) rfl (q := 78) rfl ?_
            refine g_iload_n C 4 dX7_train_78 rfl rfl rfl (q := 79) ?_
            refine g_iload_n C 5 dX7_train_79 rfl rfl rfl (q := 80) ?_
            refine g_iast C 4 0 (wM cI cJ cZ b (nI n) gr li st (upd tr k1 v) (nI t) sd lea pa pt pp su sh tt) dX7_train_80 rfl rfl (vp_in_nI (by omega) (by decide)) (by rw [nI_clamp (by omega)]; rfl) (q := 81) rfl ?_
            refine g_aload_n C 3 dX7_train_81 rfl rfl rfl (q := 82) ?_
            refine g_iconst C (nI 0) dX7_train_82 (by decide) (q := 83) rfl ?_
            refine g_put C 0 11 (wM cI cJ cZ b (nI n) gr li st (upd tr k1 v) (nI t) sd lea pa pt pp (nI 0) sh tt) dX7_train_83 (Cn := RX7) (T := TX7) (N := 14) (fun _ h => List.mem_cons_of_mem _ (List.mem_append_right _ h)) tyX7_ok nmX7 rfl rfl (by decide) (List.mem_cons_of_mem _ (List.mem_append_left _ (List.mem_of_getElem? (i := 1) rfl))) rfl (ty := .boolean) (by decide +kernel) (by decide) rfl (Nat.le_of_ble_eq_true rfl) rfl (q := 86) rfl ?_
            refine g_iload C 0 dX7_train_86 rfl rfl (q := 88) ?_
            exact hret _ (upd tr k1 v, nI 0) 88 _ dX7_train_88 rfl (⟨by rw [aTrain, if_pos c_6, nI_clamp (by omega), if_pos ht], Or.inr rfl⟩)
          · replace c_60 := ite_e0 c_60
            have ht : ¬ trP k1 v := by
              unfold trP
              rw [show trLo k1 = 0 by unfold trLo; first | exact if_pos (by omega) | exact if_neg (by omega), show trHi k1 = 400 by unfold trHi; first | exact if_pos (by omega) | exact (if_neg (by omega)).trans (if_pos (by omega)) | exact (if_neg (by omega)).trans (if_neg (by omega))]
              exact c_60
            refine g_bipush C (-2) dX7_train_63 (by decide) (q := 65) rfl ?_
            exact hret _ (tr, su) 65 _ dX7_train_65 rfl (⟨by rw [aTrain, if_pos c_6, nI_clamp (by omega), if_neg ht], Or.inl ⟨rfl, rfl⟩⟩)
      · rw [nI_leI (by omega) (by omega)] at c_30
        refine g_bipush C (nI 20) dX7_train_33 (by decide) (q := 35) rfl ?_
        refine g_goto C (q := 51) dX7_train_35 (by decide) ?_
        refine g_istore C [(4, .int (nI 20)), (3, .int (nI 0)), (0, .ref (b 0)), (1, .int (nI k1)), (2, .int v)] dX7_train_51 (by decide) rfl (q := 53) rfl ?_
        refine g_iload_n C 4 dX7_train_53 rfl rfl rfl (q := 54) ?_
        refine g_iload_n C 1 dX7_train_54 rfl rfl rfl (q := 55) ?_
        refine g_iload C 0 dX7_train_55 rfl rfl (q := 57) ?_
        refine gcS_si C (n := 3) (As := [.int v, .int (nI 0), .int (nI 20)]) (st := []) (fun h => h) dX7_train_57 gX7_train_X7_in (c_X7_in l D cI cJ cZ b n gr li st tr t sd lea pa pt pp su sh tt v (nI 0) (nI 20)) rfl rfl rfl (by decide +kernel) ⟨Nat.le_of_ble_eq_true rfl, Nat.le_of_ble_eq_true rfl⟩ rfl rfl (Nat.le_of_ble_eq_true rfl) FT_b FT_h ⟨Nat.le_of_ble_eq_true rfl, Nat.le_of_ble_eq_true rfl⟩ (q := 60) rfl (fun r_57 h_57 => ?_)
        subst h_57
        refine g_if_ne C (t := 66) dX7_train_60 (by decide) (q := 63) rfl (fun c_60 => ?_) (fun c_60 => ?_)
        · replace c_60 := ite_n0 c_60
          have ht : trP k1 v := by
            unfold trP
            rw [show trLo k1 = 0 by unfold trLo; first | exact if_pos (by omega) | exact if_neg (by omega), show trHi k1 = 20 by unfold trHi; first | exact if_pos (by omega) | exact (if_neg (by omega)).trans (if_pos (by omega)) | exact (if_neg (by omega)).trans (if_neg (by omega))]
            exact c_60
          refine g_aload_n C 2 dX7_train_66 rfl rfl rfl (q := 67) ?_
          refine g_get C 0 4 dX7_train_67 (Cn := RX7) (T := TX7) (N := 14) (fun _ h => List.mem_cons_of_mem _ (List.mem_append_right _ h)) rfl rfl (by decide) (List.mem_cons_of_mem _ (List.mem_append_left _ (List.mem_of_getElem? (i := 0) rfl))) rfl (q := 70) rfl ?_
          refine g_iload_n C 3 dX7_train_70 rfl rfl rfl (q := 71) ?_
          refine g_iald C 4 0 dX7_train_71 rfl rfl (vp_in_nI (by omega) (by decide)) (q := 72) rfl ?_
          refine g_eqi C (y := tr k1) (by rw [nI_clamp (by omega)]) ?_
          refine g_istore C [(5, .int (tr k1)), (4, .int (nI 20)), (3, .int (nI 0)), (0, .ref (b 0)), (1, .int (nI k1)), (2, .int v)] dX7_train_72 (by decide) rfl (q := 74) rfl ?_
          refine g_aload_n C 3 dX7_train_74 rfl rfl rfl (q := 75) ?_
          refine g_get C 0 4 dX7_train_75 (Cn := RX7) (T := TX7) (N := 14) (fun _ h => List.mem_cons_of_mem _ (List.mem_append_right _ h)) rfl rfl (by decide) (List.mem_cons_of_mem _ (List.mem_append_left _ (List.mem_of_getElem? (i := 0) rfl))) rfl (q := 78) rfl ?_
          refine g_iload_n C 4 dX7_train_78 rfl rfl rfl (q := 79) ?_
          refine g_iload_n C 5 dX7_train_79 rfl rfl rfl (q := 80) ?_
          refine g_iast C 4 0 (wM cI cJ cZ b (nI n) gr li st (upd tr k1 v) (nI t) sd lea pa pt pp su sh tt) dX7_train_80 rfl rfl (vp_in_nI (by omega) (by decide)) (by rw [nI_clamp (by omega)]; rfl) (q := 81) rfl ?_
          refine g_aload_n C 3 dX7_train_81 rfl rfl rfl (q := 82) ?_
          refine g_iconst C (nI 0) dX7_train_82 (by decide) (q := 83) rfl ?_
          refine g_put C 0 11 (wM cI cJ cZ b (nI n) gr li st (upd tr k1 v) (nI t) sd lea pa pt pp (nI 0) sh tt) dX7_train_83 (Cn := RX7) (T := TX7) (N := 14) (fun _ h => List.mem_cons_of_mem _ (List.mem_append_right _ h)) tyX7_ok nmX7 rfl rfl (by decide) (List.mem_cons_of_mem _ (List.mem_append_left _ (List.mem_of_getElem? (i := 1) rfl))) rfl (ty := .boolean) (by decide +kernel) (by decide) rfl (Nat.le_of_ble_eq_true rfl) rfl (q := 86) rfl ?_
          refine g_iload C 0 dX7_train_86 rfl rfl (q := 88) ?_
          exact hret _ (upd tr k1 v, nI 0) 88 _ dX7_train_88 rfl (⟨by rw [aTrain, if_pos c_6, nI_clamp (by omega), if_pos ht], Or.inr rfl⟩)
        · replace c_60 := ite_e0 c_60
          have ht : ¬ trP k1 v := by
            unfold trP
            rw [show trLo k1 = 0 by unfold trLo; first | exact if_pos (by omega) | exact if_neg (by omega), show trHi k1 = 20 by unfold trHi; first | exact if_pos (by omega) | exact (if_neg (by omega)).trans (if_pos (by omega)) | exact (if_neg (by omega)).trans (if_neg (by omega))]
            exact c_60
          refine g_bipush C (-2) dX7_train_63 (by decide) (q := 65) rfl ?_
          exact hret _ (tr, su) 65 _ dX7_train_65 rfl (⟨by rw [aTrain, if_pos c_6, nI_clamp (by omega), if_neg ht], Or.inl ⟨rfl, rfl⟩⟩)
    · rw [nI_eq (by omega) (by omega)] at c_14
      refine g_iload_n C 1 dX7_train_17 rfl rfl rfl (q := 18) ?_
      refine g_iconst C (nI 4) dX7_train_18 (by decide) (q := 19) rfl ?_
      refine g_icmp_ne C (t := 26) dX7_train_19 (by decide) (q := 22) rfl (fun c_19 => ?_) (fun c_19 => ?_)
      · rw [nI_eq (by omega) (by omega)] at c_19
        refine g_iconst C (nI 1) dX7_train_26 (by decide) (q := 27) rfl ?_
        refine g_istore_n C [(3, .int (nI 1)), (0, .ref (b 0)), (1, .int (nI k1)), (2, .int v)] dX7_train_27 rfl (by decide) rfl (q := 28) rfl ?_
        refine g_iload_n C 2 dX7_train_28 rfl rfl rfl (q := 29) ?_
        refine g_iconst C (nI 2) dX7_train_29 (by decide) (q := 30) rfl ?_
        refine g_icmp_ge C (t := 38) dX7_train_30 (by decide) (q := 33) rfl (fun c_30 => ?_) (fun c_30 => ?_)
        · rw [nI_leI (by omega) (by omega)] at c_30
          refine g_iload_n C 2 dX7_train_38 rfl rfl rfl (q := 39) ?_
          refine g_iconst C (nI 4) dX7_train_39 (by decide) (q := 40) rfl ?_
          refine g_icmp_ge C (t := 49) dX7_train_40 (by decide) (q := 43) rfl (fun c_40 => ?_) (fun c_40 => ?_)
          · rw [nI_leI (by omega) (by omega)] at c_40
            refine g_bipush C (nI 10) dX7_train_49 (by decide) (q := 51) rfl ?_
            refine g_istore C [(4, .int (nI 10)), (3, .int (nI 1)), (0, .ref (b 0)), (1, .int (nI k1)), (2, .int v)] dX7_train_51 (by decide) rfl (q := 53) rfl ?_
            refine g_iload_n C 4 dX7_train_53 rfl rfl rfl (q := 54) ?_
            refine g_iload_n C 1 dX7_train_54 rfl rfl rfl (q := 55) ?_
            refine g_iload C 0 dX7_train_55 rfl rfl (q := 57) ?_
            refine gcS_si C (n := 3) (As := [.int v, .int (nI 1), .int (nI 10)]) (st := []) (fun h => h) dX7_train_57 gX7_train_X7_in (c_X7_in l D cI cJ cZ b n gr li st tr t sd lea pa pt pp su sh tt v (nI 1) (nI 10)) rfl rfl rfl (by decide +kernel) ⟨Nat.le_of_ble_eq_true rfl, Nat.le_of_ble_eq_true rfl⟩ rfl rfl (Nat.le_of_ble_eq_true rfl) FT_b FT_h ⟨Nat.le_of_ble_eq_true rfl, Nat.le_of_ble_eq_true rfl⟩ (q := 60) rfl (fun r_57 h_57 => ?_)
            subst h_57
            refine g_if_ne C (t := 66) dX7_train_60 (by decide) (q := 63) rfl (fun c_60 => ?_) (fun c_60 => ?_)
            · replace c_60 := ite_n0 c_60
              have ht : trP k1 v := by
                unfold trP
                rw [show trLo k1 = 1 by unfold trLo; first | exact if_pos (by omega) | exact if_neg (by omega), show trHi k1 = 10 by unfold trHi; first | exact if_pos (by omega) | exact (if_neg (by omega)).trans (if_pos (by omega)) | exact (if_neg (by omega)).trans (if_neg (by omega))]
                exact c_60
              refine g_aload_n C 2 dX7_train_66 rfl rfl rfl (q := 67) ?_
              refine g_get C 0 4 dX7_train_67 (Cn := RX7) (T := TX7) (N := 14) (fun _ h => List.mem_cons_of_mem _ (List.mem_append_right _ h)) rfl rfl (by decide) (List.mem_cons_of_mem _ (List.mem_append_left _ (List.mem_of_getElem? (i := 0) rfl))) rfl (q := 70) rfl ?_
              refine g_iload_n C 3 dX7_train_70 rfl rfl rfl (q := 71) ?_
              refine g_iald C 4 0 dX7_train_71 rfl rfl (vp_in_nI (by omega) (by decide)) (q := 72) rfl ?_
              refine g_eqi C (y := tr k1) (by rw [nI_clamp (by omega)]) ?_
              refine g_istore C [(5, .int (tr k1)), (4, .int (nI 10)), (3, .int (nI 1)), (0, .ref (b 0)), (1, .int (nI k1)), (2, .int v)] dX7_train_72 (by decide) rfl (q := 74) rfl ?_
              refine g_aload_n C 3 dX7_train_74 rfl rfl rfl (q := 75) ?_
              refine g_get C 0 4 dX7_train_75 (Cn := RX7) (T := TX7) (N := 14) (fun _ h => List.mem_cons_of_mem _ (List.mem_append_right _ h)) rfl rfl (by decide) (List.mem_cons_of_mem _ (List.mem_append_left _ (List.mem_of_getElem? (i := 0) rfl))) rfl (q := 78) rfl ?_
              refine g_iload_n C 4 dX7_train_78 rfl rfl rfl (q := 79) ?_
              refine g_iload_n C 5 dX7_train_79 rfl rfl rfl (q := 80) ?_
              refine g_iast C 4 0 (wM cI cJ cZ b (nI n) gr li st (upd tr k1 v) (nI t) sd lea pa pt pp su sh tt) dX7_train_80 rfl rfl (vp_in_nI (by omega) (by decide)) (by rw [nI_clamp (by omega)]; rfl) (q := 81) rfl ?_
              refine g_aload_n C 3 dX7_train_81 rfl rfl rfl (q := 82) ?_
              refine g_iconst C (nI 0) dX7_train_82 (by decide) (q := 83) rfl ?_
              refine g_put C 0 11 (wM cI cJ cZ b (nI n) gr li st (upd tr k1 v) (nI t) sd lea pa pt pp (nI 0) sh tt) dX7_train_83 (Cn := RX7) (T := TX7) (N := 14) (fun _ h => List.mem_cons_of_mem _ (List.mem_append_right _ h)) tyX7_ok nmX7 rfl rfl (by decide) (List.mem_cons_of_mem _ (List.mem_append_left _ (List.mem_of_getElem? (i := 1) rfl))) rfl (ty := .boolean) (by decide +kernel) (by decide) rfl (Nat.le_of_ble_eq_true rfl) rfl (q := 86) rfl ?_
              refine g_iload C 0 dX7_train_86 rfl rfl (q := 88) ?_
              exact hret _ (upd tr k1 v, nI 0) 88 _ dX7_train_88 rfl (⟨by rw [aTrain, if_pos c_6, nI_clamp (by omega), if_pos ht], Or.inr rfl⟩)
            · replace c_60 := ite_e0 c_60
              have ht : ¬ trP k1 v := by
                unfold trP
                rw [show trLo k1 = 1 by unfold trLo; first | exact if_pos (by omega) | exact if_neg (by omega), show trHi k1 = 10 by unfold trHi; first | exact if_pos (by omega) | exact (if_neg (by omega)).trans (if_pos (by omega)) | exact (if_neg (by omega)).trans (if_neg (by omega))]
                exact c_60
              refine g_bipush C (-2) dX7_train_63 (by decide) (q := 65) rfl ?_
              exact hret _ (tr, su) 65 _ dX7_train_65 rfl (⟨by rw [aTrain, if_pos c_6, nI_clamp (by omega), if_neg ht], Or.inl ⟨rfl, rfl⟩⟩)
          · rw [nI_leI (by omega) (by omega)] at c_40
            refine g_sipush C (nI 400) dX7_train_43 (by decide) (q := 46) rfl ?_
            refine g_goto C (q := 51) dX7_train_46 (by decide) ?_
            refine g_istore C [(4, .int (nI 400)), (3, .int (nI 1)), (0, .ref (b 0)), (1, .int (nI k1)), (2, .int v)] dX7_train_51 (by decide) rfl (q := 53) rfl ?_
            refine g_iload_n C 4 dX7_train_53 rfl rfl rfl (q := 54) ?_
            refine g_iload_n C 1 dX7_train_54 rfl rfl rfl (q := 55) ?_
            refine g_iload C 0 dX7_train_55 rfl rfl (q := 57) ?_
            refine gcS_si C (n := 3) (As := [.int v, .int (nI 1), .int (nI 400)]) (st := []) (fun h => h) dX7_train_57 gX7_train_X7_in (c_X7_in l D cI cJ cZ b n gr li st tr t sd lea pa pt pp su sh tt v (nI 1) (nI 400)) rfl rfl rfl (by decide +kernel) ⟨Nat.le_of_ble_eq_true rfl, Nat.le_of_ble_eq_true rfl⟩ rfl rfl (Nat.le_of_ble_eq_true rfl) FT_b FT_h ⟨Nat.le_of_ble_eq_true rfl, Nat.le_of_ble_eq_true rfl⟩ (q := 60) rfl (fun r_57 h_57 => ?_)
            subst h_57
            refine g_if_ne C (t := 66) dX7_train_60 (by decide) (q := 63) rfl (fun c_60 => ?_) (fun c_60 => ?_)
            · replace c_60 := ite_n0 c_60
              have ht : trP k1 v := by
                unfold trP
                rw [show trLo k1 = 1 by unfold trLo; first | exact if_pos (by omega) | exact if_neg (by omega), show trHi k1 = 400 by unfold trHi; first | exact if_pos (by omega) | exact (if_neg (by omega)).trans (if_pos (by omega)) | exact (if_neg (by omega)).trans (if_neg (by omega))]
                exact c_60
              refine g_aload_n C 2 dX7_train_66 rfl rfl rfl (q := 67) ?_
              refine g_get C 0 4 dX7_train_67 (Cn := RX7) (T := TX7) (N := 14) (fun _ h => List.mem_cons_of_mem _ (List.mem_append_right _ h)) rfl rfl (by decide) (List.mem_cons_of_mem _ (List.mem_append_left _ (List.mem_of_getElem? (i := 0) rfl))) rfl (q := 70) rfl ?_
              refine g_iload_n C 3 dX7_train_70 rfl rfl rfl (q := 71) ?_
              refine g_iald C 4 0 dX7_train_71 rfl rfl (vp_in_nI (by omega) (by decide)) (q := 72) rfl ?_
              refine g_eqi C (y := tr k1) (by rw [nI_clamp (by omega)]) ?_
              refine g_istore C [(5, .int (tr k1)), (4, .int (nI 400)), (3, .int (nI 1)), (0, .ref (b 0)), (1, .int (nI k1)), (2, .int v)] dX7_train_72 (by decide) rfl (q := 74) rfl ?_
              refine g_aload_n C 3 dX7_train_74 rfl rfl rfl (q := 75) ?_
              refine g_get C 0 4 dX7_train_75 (Cn := RX7) (T := TX7) (N := 14) (fun _ h => List.mem_cons_of_mem _ (List.mem_append_right _ h)) rfl rfl (by decide) (List.mem_cons_of_mem _ (List.mem_append_left _ (List.mem_of_getElem? (i := 0) rfl))) rfl (q := 78) rfl ?_
              refine g_iload_n C 4 dX7_train_78 rfl rfl rfl (q := 79) ?_
              refine g_iload_n C 5 dX7_train_79 rfl rfl rfl (q := 80) ?_
              refine g_iast C 4 0 (wM cI cJ cZ b (nI n) gr li st (upd tr k1 v) (nI t) sd lea pa pt pp su sh tt) dX7_train_80 rfl rfl (vp_in_nI (by omega) (by decide)) (by rw [nI_clamp (by omega)]; rfl) (q := 81) rfl ?_
              refine g_aload_n C 3 dX7_train_81 rfl rfl rfl (q := 82) ?_
              refine g_iconst C (nI 0) dX7_train_82 (by decide) (q := 83) rfl ?_
              refine g_put C 0 11 (wM cI cJ cZ b (nI n) gr li st (upd tr k1 v) (nI t) sd lea pa pt pp (nI 0) sh tt) dX7_train_83 (Cn := RX7) (T := TX7) (N := 14) (fun _ h => List.mem_cons_of_mem _ (List.mem_append_right _ h)) tyX7_ok nmX7 rfl rfl (by decide) (List.mem_cons_of_mem _ (List.mem_append_left _ (List.mem_of_getElem? (i := 1) rfl))) rfl (ty := .boolean) (by decide +kernel) (by decide) rfl (Nat.le_of_ble_eq_true rfl) rfl (q := 86) rfl ?_
              refine g_iload C 0 dX7_train_86 rfl rfl (q := 88) ?_
              exact hret _ (upd tr k1 v, nI 0) 88 _ dX7_train_88 rfl (⟨by rw [aTrain, if_pos c_6, nI_clamp (by omega), if_pos ht], Or.inr rfl⟩)
            · replace c_60 := ite_e0 c_60
              have ht : ¬ trP k1 v := by
                unfold trP
                rw [show trLo k1 = 1 by unfold trLo; first | exact if_pos (by omega) | exact if_neg (by omega), show trHi k1 = 400 by unfold trHi; first | exact if_pos (by omega) | exact (if_neg (by omega)).trans (if_pos (by omega)) | exact (if_neg (by omega)).trans (if_neg (by omega))]
                exact c_60
              refine g_bipush C (-2) dX7_train_63 (by decide) (q := 65) rfl ?_
              exact hret _ (tr, su) 65 _ dX7_train_65 rfl (⟨by rw [aTrain, if_pos c_6, nI_clamp (by omega), if_neg ht], Or.inl ⟨rfl, rfl⟩⟩)
        · rw [nI_leI (by omega) (by omega)] at c_30
          refine g_bipush C (nI 20) dX7_train_33 (by decide) (q := 35) rfl ?_
          refine g_goto C (q := 51) dX7_train_35 (by decide) ?_
          refine g_istore C [(4, .int (nI 20)), (3, .int (nI 1)), (0, .ref (b 0)), (1, .int (nI k1)), (2, .int v)] dX7_train_51 (by decide) rfl (q := 53) rfl ?_
          refine g_iload_n C 4 dX7_train_53 rfl rfl rfl (q := 54) ?_
          refine g_iload_n C 1 dX7_train_54 rfl rfl rfl (q := 55) ?_
          refine g_iload C 0 dX7_train_55 rfl rfl (q := 57) ?_
          refine gcS_si C (n := 3) (As := [.int v, .int (nI 1), .int (nI 20)]) (st := []) (fun h => h) dX7_train_57 gX7_train_X7_in (c_X7_in l D cI cJ cZ b n gr li st tr t sd lea pa pt pp su sh tt v (nI 1) (nI 20)) rfl rfl rfl (by decide +kernel) ⟨Nat.le_of_ble_eq_true rfl, Nat.le_of_ble_eq_true rfl⟩ rfl rfl (Nat.le_of_ble_eq_true rfl) FT_b FT_h ⟨Nat.le_of_ble_eq_true rfl, Nat.le_of_ble_eq_true rfl⟩ (q := 60) rfl (fun r_57 h_57 => ?_)
          subst h_57
          refine g_if_ne C (t := 66) dX7_train_60 (by decide) (q := 63) rfl (fun c_60 => ?_) (fun c_60 => ?_)
          · replace c_60 := ite_n0 c_60
            have ht : trP k1 v := by
              unfold trP
              rw [show trLo k1 = 1 by unfold trLo; first | exact if_pos (by omega) | exact if_neg (by omega), show trHi k1 = 20 by unfold trHi; first | exact if_pos (by omega) | exact (if_neg (by omega)).trans (if_pos (by omega)) | exact (if_neg (by omega)).trans (if_neg (by omega))]
              exact c_60
            refine g_aload_n C 2 dX7_train_66 rfl rfl rfl (q := 67) ?_
            refine g_get C 0 4 dX7_train_67 (Cn := RX7) (T := TX7) (N := 14) (fun _ h => List.mem_cons_of_mem _ (List.mem_append_right _ h)) rfl rfl (by decide) (List.mem_cons_of_mem _ (List.mem_append_left _ (List.mem_of_getElem? (i := 0) rfl))) rfl (q := 70) rfl ?_
            refine g_iload_n C 3 dX7_train_70 rfl rfl rfl (q := 71) ?_
            refine g_iald C 4 0 dX7_train_71 rfl rfl (vp_in_nI (by omega) (by decide)) (q := 72) rfl ?_
            refine g_eqi C (y := tr k1) (by rw [nI_clamp (by omega)]) ?_
            refine g_istore C [(5, .int (tr k1)), (4, .int (nI 20)), (3, .int (nI 1)), (0, .ref (b 0)), (1, .int (nI k1)), (2, .int v)] dX7_train_72 (by decide) rfl (q := 74) rfl ?_
            refine g_aload_n C 3 dX7_train_74 rfl rfl rfl (q := 75) ?_
            refine g_get C 0 4 dX7_train_75 (Cn := RX7) (T := TX7) (N := 14) (fun _ h => List.mem_cons_of_mem _ (List.mem_append_right _ h)) rfl rfl (by decide) (List.mem_cons_of_mem _ (List.mem_append_left _ (List.mem_of_getElem? (i := 0) rfl))) rfl (q := 78) rfl ?_
            refine g_iload_n C 4 dX7_train_78 rfl rfl rfl (q := 79) ?_
            refine g_iload_n C 5 dX7_train_79 rfl rfl rfl (q := 80) ?_
            refine g_iast C 4 0 (wM cI cJ cZ b (nI n) gr li st (upd tr k1 v) (nI t) sd lea pa pt pp su sh tt) dX7_train_80 rfl rfl (vp_in_nI (by omega) (by decide)) (by rw [nI_clamp (by omega)]; rfl) (q := 81) rfl ?_
            refine g_aload_n C 3 dX7_train_81 rfl rfl rfl (q := 82) ?_
            refine g_iconst C (nI 0) dX7_train_82 (by decide) (q := 83) rfl ?_
            refine g_put C 0 11 (wM cI cJ cZ b (nI n) gr li st (upd tr k1 v) (nI t) sd lea pa pt pp (nI 0) sh tt) dX7_train_83 (Cn := RX7) (T := TX7) (N := 14) (fun _ h => List.mem_cons_of_mem _ (List.mem_append_right _ h)) tyX7_ok nmX7 rfl rfl (by decide) (List.mem_cons_of_mem _ (List.mem_append_left _ (List.mem_of_getElem? (i := 1) rfl))) rfl (ty := .boolean) (by decide +kernel) (by decide) rfl (Nat.le_of_ble_eq_true rfl) rfl (q := 86) rfl ?_
            refine g_iload C 0 dX7_train_86 rfl rfl (q := 88) ?_
            exact hret _ (upd tr k1 v, nI 0) 88 _ dX7_train_88 rfl (⟨by rw [aTrain, if_pos c_6, nI_clamp (by omega), if_pos ht], Or.inr rfl⟩)
          · replace c_60 := ite_e0 c_60
            have ht : ¬ trP k1 v := by
              unfold trP
              rw [show trLo k1 = 1 by unfold trLo; first | exact if_pos (by omega) | exact if_neg (by omega), show trHi k1 = 20 by unfold trHi; first | exact if_pos (by omega) | exact (if_neg (by omega)).trans (if_pos (by omega)) | exact (if_neg (by omega)).trans (if_neg (by omega))]
              exact c_60
            refine g_bipush C (-2) dX7_train_63 (by decide) (q := 65) rfl ?_
            exact hret _ (tr, su) 65 _ dX7_train_65 rfl (⟨by rw [aTrain, if_pos c_6, nI_clamp (by omega), if_neg ht], Or.inl ⟨rfl, rfl⟩⟩)
      · rw [nI_eq (by omega) (by omega)] at c_19
        refine g_iconst C (nI 0) dX7_train_22 (by decide) (q := 23) rfl ?_
        refine g_goto C (q := 27) dX7_train_23 (by decide) ?_
        refine g_istore_n C [(3, .int (nI 0)), (0, .ref (b 0)), (1, .int (nI k1)), (2, .int v)] dX7_train_27 rfl (by decide) rfl (q := 28) rfl ?_
        refine g_iload_n C 2 dX7_train_28 rfl rfl rfl (q := 29) ?_
        refine g_iconst C (nI 2) dX7_train_29 (by decide) (q := 30) rfl ?_
        refine g_icmp_ge C (t := 38) dX7_train_30 (by decide) (q := 33) rfl (fun c_30 => ?_) (fun c_30 => ?_)
        · rw [nI_leI (by omega) (by omega)] at c_30
          refine g_iload_n C 2 dX7_train_38 rfl rfl rfl (q := 39) ?_
          refine g_iconst C (nI 4) dX7_train_39 (by decide) (q := 40) rfl ?_
          refine g_icmp_ge C (t := 49) dX7_train_40 (by decide) (q := 43) rfl (fun c_40 => ?_) (fun c_40 => ?_)
          · rw [nI_leI (by omega) (by omega)] at c_40
            refine g_bipush C (nI 10) dX7_train_49 (by decide) (q := 51) rfl ?_
            refine g_istore C [(4, .int (nI 10)), (3, .int (nI 0)), (0, .ref (b 0)), (1, .int (nI k1)), (2, .int v)] dX7_train_51 (by decide) rfl (q := 53) rfl ?_
            refine g_iload_n C 4 dX7_train_53 rfl rfl rfl (q := 54) ?_
            refine g_iload_n C 1 dX7_train_54 rfl rfl rfl (q := 55) ?_
            refine g_iload C 0 dX7_train_55 rfl rfl (q := 57) ?_
            refine gcS_si C (n := 3) (As := [.int v, .int (nI 0), .int (nI 10)]) (st := []) (fun h => h) dX7_train_57 gX7_train_X7_in (c_X7_in l D cI cJ cZ b n gr li st tr t sd lea pa pt pp su sh tt v (nI 0) (nI 10)) rfl rfl rfl (by decide +kernel) ⟨Nat.le_of_ble_eq_true rfl, Nat.le_of_ble_eq_true rfl⟩ rfl rfl (Nat.le_of_ble_eq_true rfl) FT_b FT_h ⟨Nat.le_of_ble_eq_true rfl, Nat.le_of_ble_eq_true rfl⟩ (q := 60) rfl (fun r_57 h_57 => ?_)
            subst h_57
            refine g_if_ne C (t := 66) dX7_train_60 (by decide) (q := 63) rfl (fun c_60 => ?_) (fun c_60 => ?_)
            · replace c_60 := ite_n0 c_60
              have ht : trP k1 v := by
                unfold trP
                rw [show trLo k1 = 0 by unfold trLo; first | exact if_pos (by omega) | exact if_neg (by omega), show trHi k1 = 10 by unfold trHi; first | exact if_pos (by omega) | exact (if_neg (by omega)).trans (if_pos (by omega)) | exact (if_neg (by omega)).trans (if_neg (by omega))]
                exact c_60
              refine g_aload_n C 2 dX7_train_66 rfl rfl rfl (q := 67) ?_
              refine g_get C 0 4 dX7_train_67 (Cn := RX7) (T := TX7) (N := 14) (fun _ h => List.mem_cons_of_mem _ (List.mem_append_right _ h)) rfl rfl (by decide) (List.mem_cons_of_mem _ (List.mem_append_left _ (List.mem_of_getElem? (i := 0) rfl))) rfl (q := 70) rfl ?_
              refine g_iload_n C 3 dX7_train_70 rfl rfl rfl (q := 71) ?_
              refine g_iald C 4 0 dX7_train_71 rfl rfl (vp_in_nI (by omega) (by decide)) (q := 72) rfl ?_
              refine g_eqi C (y := tr k1) (by rw [nI_clamp (by omega)]) ?_
              refine g_istore C [(5, .int (tr k1)), (4, .int (nI 10)), (3, .int (nI 0)), (0, .ref (b 0)), (1, .int (nI k1)), (2, .int v)] dX7_train_72 (by decide) rfl (q := 74) rfl ?_
              refine g_aload_n C 3 dX7_train_74 rfl rfl rfl (q := 75) ?_
              refine g_get C 0 4 dX7_train_75 (Cn := RX7) (T := TX7) (N := 14) (fun _ h => List.mem_cons_of_mem _ (List.mem_append_right _ h)) rfl rfl (by decide) (List.mem_cons_of_mem _ (List.mem_append_left _ (List.mem_of_getElem? (i := 0) rfl))) rfl (q := 78) rfl ?_
              refine g_iload_n C 4 dX7_train_78 rfl rfl rfl (q := 79) ?_
              refine g_iload_n C 5 dX7_train_79 rfl rfl rfl (q := 80) ?_
              refine g_iast C 4 0 (wM cI cJ cZ b (nI n) gr li st (upd tr k1 v) (nI t) sd lea pa pt pp su sh tt) dX7_train_80 rfl rfl (vp_in_nI (by omega) (by decide)) (by rw [nI_clamp (by omega)]; rfl) (q := 81) rfl ?_
              refine g_aload_n C 3 dX7_train_81 rfl rfl rfl (q := 82) ?_
              refine g_iconst C (nI 0) dX7_train_82 (by decide) (q := 83) rfl ?_
              refine g_put C 0 11 (wM cI cJ cZ b (nI n) gr li st (upd tr k1 v) (nI t) sd lea pa pt pp (nI 0) sh tt) dX7_train_83 (Cn := RX7) (T := TX7) (N := 14) (fun _ h => List.mem_cons_of_mem _ (List.mem_append_right _ h)) tyX7_ok nmX7 rfl rfl (by decide) (List.mem_cons_of_mem _ (List.mem_append_left _ (List.mem_of_getElem? (i := 1) rfl))) rfl (ty := .boolean) (by decide +kernel) (by decide) rfl (Nat.le_of_ble_eq_true rfl) rfl (q := 86) rfl ?_
              refine g_iload C 0 dX7_train_86 rfl rfl (q := 88) ?_
              exact hret _ (upd tr k1 v, nI 0) 88 _ dX7_train_88 rfl (⟨by rw [aTrain, if_pos c_6, nI_clamp (by omega), if_pos ht], Or.inr rfl⟩)
            · replace c_60 := ite_e0 c_60
              have ht : ¬ trP k1 v := by
                unfold trP
                rw [show trLo k1 = 0 by unfold trLo; first | exact if_pos (by omega) | exact if_neg (by omega), show trHi k1 = 10 by unfold trHi; first | exact if_pos (by omega) | exact (if_neg (by omega)).trans (if_pos (by omega)) | exact (if_neg (by omega)).trans (if_neg (by omega))]
                exact c_60
              refine g_bipush C (-2) dX7_train_63 (by decide) (q := 65) rfl ?_
              exact hret _ (tr, su) 65 _ dX7_train_65 rfl (⟨by rw [aTrain, if_pos c_6, nI_clamp (by omega), if_neg ht], Or.inl ⟨rfl, rfl⟩⟩)
          · rw [nI_leI (by omega) (by omega)] at c_40
            refine g_sipush C (nI 400) dX7_train_43 (by decide) (q := 46) rfl ?_
            refine g_goto C (q := 51) dX7_train_46 (by decide) ?_
            refine g_istore C [(4, .int (nI 400)), (3, .int (nI 0)), (0, .ref (b 0)), (1, .int (nI k1)), (2, .int v)] dX7_train_51 (by decide) rfl (q := 53) rfl ?_
            refine g_iload_n C 4 dX7_train_53 rfl rfl rfl (q := 54) ?_
            refine g_iload_n C 1 dX7_train_54 rfl rfl rfl (q := 55) ?_
            refine g_iload C 0 dX7_train_55 rfl rfl (q := 57) ?_
            refine gcS_si C (n := 3) (As := [.int v, .int (nI 0), .int (nI 400)]) (st := []) (fun h => h) dX7_train_57 gX7_train_X7_in (c_X7_in l D cI cJ cZ b n gr li st tr t sd lea pa pt pp su sh tt v (nI 0) (nI 400)) rfl rfl rfl (by decide +kernel) ⟨Nat.le_of_ble_eq_true rfl, Nat.le_of_ble_eq_true rfl⟩ rfl rfl (Nat.le_of_ble_eq_true rfl) FT_b FT_h ⟨Nat.le_of_ble_eq_true rfl, Nat.le_of_ble_eq_true rfl⟩ (q := 60) rfl (fun r_57 h_57 => ?_)
            subst h_57
            refine g_if_ne C (t := 66) dX7_train_60 (by decide) (q := 63) rfl (fun c_60 => ?_) (fun c_60 => ?_)
            · replace c_60 := ite_n0 c_60
              have ht : trP k1 v := by
                unfold trP
                rw [show trLo k1 = 0 by unfold trLo; first | exact if_pos (by omega) | exact if_neg (by omega), show trHi k1 = 400 by unfold trHi; first | exact if_pos (by omega) | exact (if_neg (by omega)).trans (if_pos (by omega)) | exact (if_neg (by omega)).trans (if_neg (by omega))]
                exact c_60
              refine g_aload_n C 2 dX7_train_66 rfl rfl rfl (q := 67) ?_
              refine g_get C 0 4 dX7_train_67 (Cn := RX7) (T := TX7) (N := 14) (fun _ h => List.mem_cons_of_mem _ (List.mem_append_right _ h)) rfl rfl (by decide) (List.mem_cons_of_mem _ (List.mem_append_left _ (List.mem_of_getElem? (i := 0) rfl))) rfl (q := 70) rfl ?_
              refine g_iload_n C 3 dX7_train_70 rfl rfl rfl (q := 71) ?_
              refine g_iald C 4 0 dX7_train_71 rfl rfl (vp_in_nI (by omega) (by decide)) (q := 72) rfl ?_
              refine g_eqi C (y := tr k1) (by rw [nI_clamp (by omega)]) ?_
              refine g_istore C [(5, .int (tr k1)), (4, .int (nI 400)), (3, .int (nI 0)), (0, .ref (b 0)), (1, .int (nI k1)), (2, .int v)] dX7_train_72 (by decide) rfl (q := 74) rfl ?_
              refine g_aload_n C 3 dX7_train_74 rfl rfl rfl (q := 75) ?_
              refine g_get C 0 4 dX7_train_75 (Cn := RX7) (T := TX7) (N := 14) (fun _ h => List.mem_cons_of_mem _ (List.mem_append_right _ h)) rfl rfl (by decide) (List.mem_cons_of_mem _ (List.mem_append_left _ (List.mem_of_getElem? (i := 0) rfl))) rfl (q := 78) rfl ?_
              refine g_iload_n C 4 dX7_train_78 rfl rfl rfl (q := 79) ?_
              refine g_iload_n C 5 dX7_train_79 rfl rfl rfl (q := 80) ?_
              refine g_iast C 4 0 (wM cI cJ cZ b (nI n) gr li st (upd tr k1 v) (nI t) sd lea pa pt pp su sh tt) dX7_train_80 rfl rfl (vp_in_nI (by omega) (by decide)) (by rw [nI_clamp (by omega)]; rfl) (q := 81) rfl ?_
              refine g_aload_n C 3 dX7_train_81 rfl rfl rfl (q := 82) ?_
              refine g_iconst C (nI 0) dX7_train_82 (by decide) (q := 83) rfl ?_
              refine g_put C 0 11 (wM cI cJ cZ b (nI n) gr li st (upd tr k1 v) (nI t) sd lea pa pt pp (nI 0) sh tt) dX7_train_83 (Cn := RX7) (T := TX7) (N := 14) (fun _ h => List.mem_cons_of_mem _ (List.mem_append_right _ h)) tyX7_ok nmX7 rfl rfl (by decide) (List.mem_cons_of_mem _ (List.mem_append_left _ (List.mem_of_getElem? (i := 1) rfl))) rfl (ty := .boolean) (by decide +kernel) (by decide) rfl (Nat.le_of_ble_eq_true rfl) rfl (q := 86) rfl ?_
              refine g_iload C 0 dX7_train_86 rfl rfl (q := 88) ?_
              exact hret _ (upd tr k1 v, nI 0) 88 _ dX7_train_88 rfl (⟨by rw [aTrain, if_pos c_6, nI_clamp (by omega), if_pos ht], Or.inr rfl⟩)
            · replace c_60 := ite_e0 c_60
              have ht : ¬ trP k1 v := by
                unfold trP
                rw [show trLo k1 = 0 by unfold trLo; first | exact if_pos (by omega) | exact if_neg (by omega), show trHi k1 = 400 by unfold trHi; first | exact if_pos (by omega) | exact (if_neg (by omega)).trans (if_pos (by omega)) | exact (if_neg (by omega)).trans (if_neg (by omega))]
                exact c_60
              refine g_bipush C (-2) dX7_train_63 (by decide) (q := 65) rfl ?_
              exact hret _ (tr, su) 65 _ dX7_train_65 rfl (⟨by rw [aTrain, if_pos c_6, nI_clamp (by omega), if_neg ht], Or.inl ⟨rfl, rfl⟩⟩)
        · rw [nI_leI (by omega) (by omega)] at c_30
          refine g_bipush C (nI 20) dX7_train_33 (by decide) (q := 35) rfl ?_
          refine g_goto C (q := 51) dX7_train_35 (by decide) ?_
          refine g_istore C [(4, .int (nI 20)), (3, .int (nI 0)), (0, .ref (b 0)), (1, .int (nI k1)), (2, .int v)] dX7_train_51 (by decide) rfl (q := 53) rfl ?_
          refine g_iload_n C 4 dX7_train_53 rfl rfl rfl (q := 54) ?_
          refine g_iload_n C 1 dX7_train_54 rfl rfl rfl (q := 55) ?_
          refine g_iload C 0 dX7_train_55 rfl rfl (q := 57) ?_
          refine gcS_si C (n := 3) (As := [.int v, .int (nI 0), .int (nI 20)]) (st := []) (fun h => h) dX7_train_57 gX7_train_X7_in (c_X7_in l D cI cJ cZ b n gr li st tr t sd lea pa pt pp su sh tt v (nI 0) (nI 20)) rfl rfl rfl (by decide +kernel) ⟨Nat.le_of_ble_eq_true rfl, Nat.le_of_ble_eq_true rfl⟩ rfl rfl (Nat.le_of_ble_eq_true rfl) FT_b FT_h ⟨Nat.le_of_ble_eq_true rfl, Nat.le_of_ble_eq_true rfl⟩ (q := 60) rfl (fun r_57 h_57 => ?_)
          subst h_57
          refine g_if_ne C (t := 66) dX7_train_60 (by decide) (q := 63) rfl (fun c_60 => ?_) (fun c_60 => ?_)
          · replace c_60 := ite_n0 c_60
            have ht : trP k1 v := by
              unfold trP
              rw [show trLo k1 = 0 by unfold trLo; first | exact if_pos (by omega) | exact if_neg (by omega), show trHi k1 = 20 by unfold trHi; first | exact if_pos (by omega) | exact (if_neg (by omega)).trans (if_pos (by omega)) | exact (if_neg (by omega)).trans (if_neg (by omega))]
              exact c_60
            refine g_aload_n C 2 dX7_train_66 rfl rfl rfl (q := 67) ?_
            refine g_get C 0 4 dX7_train_67 (Cn := RX7) (T := TX7) (N := 14) (fun _ h => List.mem_cons_of_mem _ (List.mem_append_right _ h)) rfl rfl (by decide) (List.mem_cons_of_mem _ (List.mem_append_left _ (List.mem_of_getElem? (i := 0) rfl))) rfl (q := 70) rfl ?_
            refine g_iload_n C 3 dX7_train_70 rfl rfl rfl (q := 71) ?_
            refine g_iald C 4 0 dX7_train_71 rfl rfl (vp_in_nI (by omega) (by decide)) (q := 72) rfl ?_
            refine g_eqi C (y := tr k1) (by rw [nI_clamp (by omega)]) ?_
            refine g_istore C [(5, .int (tr k1)), (4, .int (nI 20)), (3, .int (nI 0)), (0, .ref (b 0)), (1, .int (nI k1)), (2, .int v)] dX7_train_72 (by decide) rfl (q := 74) rfl ?_
            refine g_aload_n C 3 dX7_train_74 rfl rfl rfl (q := 75) ?_
            refine g_get C 0 4 dX7_train_75 (Cn := RX7) (T := TX7) (N := 14) (fun _ h => List.mem_cons_of_mem _ (List.mem_append_right _ h)) rfl rfl (by decide) (List.mem_cons_of_mem _ (List.mem_append_left _ (List.mem_of_getElem? (i := 0) rfl))) rfl (q := 78) rfl ?_
            refine g_iload_n C 4 dX7_train_78 rfl rfl rfl (q := 79) ?_
            refine g_iload_n C 5 dX7_train_79 rfl rfl rfl (q := 80) ?_
            refine g_iast C 4 0 (wM cI cJ cZ b (nI n) gr li st (upd tr k1 v) (nI t) sd lea pa pt pp su sh tt) dX7_train_80 rfl rfl (vp_in_nI (by omega) (by decide)) (by rw [nI_clamp (by omega)]; rfl) (q := 81) rfl ?_
            refine g_aload_n C 3 dX7_train_81 rfl rfl rfl (q := 82) ?_
            refine g_iconst C (nI 0) dX7_train_82 (by decide) (q := 83) rfl ?_
            refine g_put C 0 11 (wM cI cJ cZ b (nI n) gr li st (upd tr k1 v) (nI t) sd lea pa pt pp (nI 0) sh tt) dX7_train_83 (Cn := RX7) (T := TX7) (N := 14) (fun _ h => List.mem_cons_of_mem _ (List.mem_append_right _ h)) tyX7_ok nmX7 rfl rfl (by decide) (List.mem_cons_of_mem _ (List.mem_append_left _ (List.mem_of_getElem? (i := 1) rfl))) rfl (ty := .boolean) (by decide +kernel) (by decide) rfl (Nat.le_of_ble_eq_true rfl) rfl (q := 86) rfl ?_
            refine g_iload C 0 dX7_train_86 rfl rfl (q := 88) ?_
            exact hret _ (upd tr k1 v, nI 0) 88 _ dX7_train_88 rfl (⟨by rw [aTrain, if_pos c_6, nI_clamp (by omega), if_pos ht], Or.inr rfl⟩)
          · replace c_60 := ite_e0 c_60
            have ht : ¬ trP k1 v := by
              unfold trP
              rw [show trLo k1 = 0 by unfold trLo; first | exact if_pos (by omega) | exact if_neg (by omega), show trHi k1 = 20 by unfold trHi; first | exact if_pos (by omega) | exact (if_neg (by omega)).trans (if_pos (by omega)) | exact (if_neg (by omega)).trans (if_neg (by omega))]
              exact c_60
            refine g_bipush C (-2) dX7_train_63 (by decide) (q := 65) rfl ?_
            exact hret _ (tr, su) 65 _ dX7_train_65 rfl (⟨by rw [aTrain, if_pos c_6, nI_clamp (by omega), if_neg ht], Or.inl ⟨rfl, rfl⟩⟩)
  · replace c_6 := ite_e0 c_6
    refine g_bipush C (-2) dX7_train_9 (by decide) (q := 11) rfl ?_
    exact hret _ (tr, su) 11 _ dX7_train_11 rfl (⟨by rw [aTrain, if_neg c_6], Or.inl ⟨rfl, rfl⟩⟩)
