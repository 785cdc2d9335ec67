/-! the reference: bestSpeed -/
theorem on_eq {gr li nu : Nat → Int32} (hT : TrOK nu) {k u v : Nat} {b e : Int} (hok : okM gr li nu k u v = true) (hb : inR b) (hb2 : b < BIG) (he : inR e) : pwN gr nu k u v + jN b = jN e ↔ pwM gr nu k u v + b = e := by
  have hp := (SB_M hT k u v hok).1
  have hpe : pwN gr nu k u v = jN (pwM gr nu k u v) := (jN_of _).symm
  have hB : BIG = 100000000 := rfl
  rw [hpe, jN_add, jN_eq (by rcases hb with h | h <;> omega) (by rcases he with h | h <;> omega)]
theorem lastS_snoc : ∀ (l : List Nat) (u v : Nat), lastS u (l ++ [v]) = v
  | [], _, _ => rfl
  | _ :: l, _, v => lastS_snoc l _ v
theorem on_TB {ok : Nat → Nat → Nat → Bool} {pw : Nat → Nat → Nat → Int} {P Q k u v t n : Nat} {e : Int} (hn : Q - k = n + 1) (hP : P ≤ k) (h : onW ok pw k u v t (fun s => TB ok pw P Q (k + 1) v s) e) : (n ≠ 0 → 1 ≤ v) ∧ onW ok pw k u v t (fun s => BB ok pw n (k + 1) v s) e := by
  obtain ⟨h1, h2, h3, h4⟩ := h
  by_cases q : v = 0 ∧ P < k + 1 ∧ k + 1 < Q
  · have h3' : TB ok pw P Q (k + 1) v (t - tmN u v) < BIG := h3
    rw [TB, if_pos q] at h3'; omega
  · have e1 : ∀ s, TB ok pw P Q (k + 1) v s = BB ok pw n (k + 1) v s := fun s => by rw [TB, if_neg q, show Q - (k + 1) = n by omega]
    exact ⟨fun z => by omega, h1, h2, by show BB ok pw n (k + 1) v (t - tmN u v) < BIG; rw [← e1]; exact h3, by show pw k u v + BB ok pw n (k + 1) v (t - tmN u v) = e; rw [← e1]; exact h4⟩
theorem on_BB {ok : Nat → Nat → Nat → Bool} {pw : Nat → Nat → Nat → Int} {P Q k u v t n : Nat} {e : Int} (hn : Q - k = n + 1) (hv : n ≠ 0 → 1 ≤ v) (h : onW ok pw k u v t (fun s => BB ok pw n (k + 1) v s) e) : onW ok pw k u v t (fun s => TB ok pw P Q (k + 1) v s) e := by
  obtain ⟨h1, h2, h3, h4⟩ := h
  have e1 : ∀ s, TB ok pw P Q (k + 1) v s = BB ok pw n (k + 1) v s := fun s => by rw [TB, if_neg (by omega), show Q - (k + 1) = n by omega]
  exact ⟨h1, h2, by show TB ok pw P Q (k + 1) v (t - tmN u v) < BIG; rw [e1]; exact h3, by show pw k u v + TB ok pw P Q (k + 1) v (t - tmN u v) = e; rw [e1]; exact h4⟩
/-- a place on the best way Lw of the leg from P to Q: post k, speed u, time t left, the rest l2 -/
def AT (ok : Nat → Nat → Nat → Bool) (pw : Nat → Nat → Nat → Int) (P Q : Nat) (Lw : List Nat) (k u t : Nat) (l2 : List Nat) : Prop := LX ok pw (Q - k) k u t (k - P) l2 ∧ (∃ l1, Lw = l1 ++ l2 ∧ l1.length = k - P ∧ u = lastS 0 l1) ∧ ((k = P ∧ u = 0) ∨ (P < k ∧ (k < Q → 1 ≤ u)))
theorem AT_cons {ok : Nat → Nat → Nat → Bool} {pw : Nat → Nat → Nat → Int} {P Q : Nat} {Lw : List Nat} {k u t : Nat} {l2 : List Nat} (hk : k < Q) (h : AT ok pw P Q Lw k u t l2) : ∃ v l3, l2 = v :: l3 := by
  have := h.1.1.1
  cases l2 with
  | nil => simp at this; omega
  | cons v l3 => exact ⟨v, l3, rfl⟩
theorem AT_on {ok : Nat → Nat → Nat → Bool} {pw : Nat → Nat → Nat → Int} (hs : SB ok pw) {P Q : Nat} {Lw : List Nat} {k u t v : Nat} {l3 : List Nat} (hP : P ≤ k) (hQ : Q ≤ 16) (hk : k < Q) (h : AT ok pw P Q Lw k u t (v :: l3)) : onW ok pw k u v t (fun s => TB ok pw P Q (k + 1) v s) (BB ok pw (Q - k) k u t) ∧ v ≤ 6 ∧ AT ok pw P Q Lw (k + 1) v (t - tmN u v) l3 := by
  obtain ⟨h1, ⟨l1, a1, a2, a3⟩, h3⟩ := h
  obtain ⟨n, hn⟩ : ∃ n, Q - k = n + 1 := ⟨Q - k - 1, by omega⟩
  rw [hn] at h1 ⊢
  obtain ⟨b1, b2, b3, b4⟩ := LX_on hs (by omega) h1
  refine ⟨on_BB hn b4 b1, b3, ?_, ⟨l1 ++ [v], by rw [a1]; simp, by simp [a2]; omega, (lastS_snoc l1 0 v).symm⟩, Or.inr ⟨by omega, fun q => b4 (by omega)⟩⟩
  rw [show Q - (k + 1) = n by omega, show k + 1 - P = k - P + 1 by omega]
  exact b2
theorem AT_eq {ok : Nat → Nat → Nat → Bool} {pw : Nat → Nat → Nat → Int} (hs : SB ok pw) {P Q : Nat} {Lw : List Nat} {k u t v y : Nat} {l3 : List Nat} (hP : P ≤ k) (hQ : Q ≤ 16) (hk : k < Q) (h : AT ok pw P Q Lw k u t (v :: l3)) (hy : y ≤ v) (ho : onW ok pw k u y t (fun s => TB ok pw P Q (k + 1) y s) (BB ok pw (Q - k) k u t)) : y = v := by
  obtain ⟨h1, _, _⟩ := h
  obtain ⟨n, hn⟩ : ∃ n, Q - k = n + 1 := ⟨Q - k - 1, by omega⟩
  rw [hn] at h1 ho
  obtain ⟨c1, c2⟩ := on_TB hn hP ho
  rcases Nat.lt_or_ge y v with q | q
  · exact absurd c2 (LX_less hs (by omega) (by omega) h1 q c1)
  · omega
theorem AT_row {gr li nu : Nat → Int32} {P Q : Nat} {Lw : List Nat} {k u t : Nat} {l2 : List Nat} {g : Nat → Int32} (ht : t ≤ 1000) (hu : u ≤ 6) (hk : k < Q) (ha : WIa (okM gr li nu) (pwM gr nu) P Q P g) (hc : WIc (okM gr li nu) (pwM gr nu) P Q g) (h : AT (okM gr li nu) (pwM gr nu) P Q Lw k u t l2) : g (1001 * (7 * k + u) + t) = jN (BB (okM gr li nu) (pwM gr nu) (Q - k) k u t) := by
  rcases h.2.2 with ⟨e1, e2⟩ | ⟨e1, e2⟩
  · rw [e1, e2]; exact hc t ht
  · rw [ha k (by omega) (by omega) e1 u hu t ht, TB, if_neg (by have := e2 hk; omega)]
theorem AT_end {ok : Nat → Nat → Nat → Bool} {pw : Nat → Nat → Nat → Int} {P Q : Nat} {Lw : List Nat} {k u t : Nat} {l2 : List Nat} (h : AT ok pw P Q Lw k u t l2) : lastS 0 (Lw.take (k - P)) = u := by
  obtain ⟨_, ⟨l1, a1, a2, a3⟩, _⟩ := h
  rw [a1, ← a2, List.take_left, a3]
set_option maxHeartbeats 4000000 in
set_option maxRecDepth 100000 in
theorem c_X7_isOn (l : Launch) (D : va_G) (cI cJ cZ : ClassId) (b : Nat → Nat) (n : Nat) (gr li st tr : Nat → Int32) (t : Nat) (sd lea : Nat → Int32) (pa : Int32) (pt pp : Nat → Int32) (su : Int32) (sh tt : Nat → Int32) (k x y z : Nat) (bb : Nat → Int) (e : Int) (hk : k < 16) (hx : x ≤ 6) (hy : y ≤ 6) (hz : z ≤ 1000) (hT : TrOK tr) (hA : ∀ s, s ≤ 1000 → lea (1001 * (7 * (k + 1) + y) + s) = jN (bb s)) (hE : lea (1001 * (7 * k + x) + z) = jN e) (hrb : ∀ s, inR (bb s)) (hre : inR e) : Met l yX7_isOn wsX7_isOn { frames := 2, cells := 0, slots := 0, locals := 47 } (gPc D (tyT cI cJ cZ) (wB b) FT (wM cI cJ cZ b (nI n) gr li st tr (nI t) sd lea pa pt pp su sh tt) [.ref (b 0), .int (nI k), .int (nI x), .int (nI y), .int (nI z)]) (vp_Si (fun r => r = if okM gr li tr k x y = true ∧ tmN x y ≤ z ∧ bb (z - tmN x y) < BIG ∧ pwM gr tr k x y + bb (z - tmN x y) = e then nI 1 else nI 0)) 0 0 (fun _ => False) := by
  refine gs_si (cc := cX7_isOn) (nL := 6) (ty := .boolean) (by decide) rfl (Nat.le_of_ble_eq_true rfl) (fun G C hret => ?_)
  show G 0 0 (wM cI cJ cZ b (nI n) gr li st tr (nI t) sd lea pa pt pp su sh tt) [(0, .ref (b 0)), (1, .int (nI k)), (2, .int (nI x)), (3, .int (nI y)), (4, .int (nI z))] 0 []
  refine g_aload_n C 0 dX7_isOn_0 rfl rfl rfl (q := 1) ?_
  refine g_iload_n C 1 dX7_isOn_1 rfl rfl rfl (q := 2) ?_
  refine g_iload_n C 2 dX7_isOn_2 rfl rfl rfl (q := 3) ?_
  refine g_iload_n C 3 dX7_isOn_3 rfl rfl rfl (q := 4) ?_
  refine gcV_si C (n := 3) (As := [.int (nI k), .int (nI x), .int (nI y)]) (st := []) 0 (fun h => h) dX7_isOn_4 rfl rfl gX7_isOn_X7_faultOf (c_X7_faultOf l D cI cJ cZ b n gr li st tr t sd lea pa pt pp su sh tt k x y (by first | assumption | omega) (by first | assumption | omega) (by first | assumption | omega)) rfl rfl rfl (by decide +kernel) ⟨Nat.le_of_ble_eq_true rfl, Nat.le_of_ble_eq_true rfl⟩ rfl rfl (Nat.le_of_ble_eq_true rfl) FT_b FT_h ⟨Nat.le_of_ble_eq_true rfl, Nat.le_of_ble_eq_true rfl⟩ (q := 7) rfl (fun r_4 h_4 => ?_)
  subst h_4
  refine g_if_ne C (t := 21) dX7_isOn_7 (by decide) (q := 10) rfl (fun c_7 => ?_) (fun c_7 => ?_)
  · refine g_iconst C (nI 0) dX7_isOn_21 (by decide) (q := 22) rfl ?_
    exact hret _ 22 _ _ dX7_isOn_22 (by decide) (by first | exact (if_neg (fun h => okM_f c_7 h.1)).symm | exact (if_neg (fun h => c_18 h.2.1)).symm)
  · have hxy := fl_nz c_7
    have hok := okM_t c_7
    have htm := tm_le hxy
    refine g_bipush C (nI 60) dX7_isOn_10 (by decide) (q := 12) rfl ?_
    refine g_iload_n C 2 dX7_isOn_12 rfl rfl rfl (q := 13) ?_
    refine g_iload_n C 3 dX7_isOn_13 rfl rfl rfl (q := 14) ?_
    refine g_iadd C dX7_isOn_14 (q := 15) rfl ?_
    refine g_eqi C (y := nI (x + y)) (nI_add x y) ?_
    refine g_idiv C dX7_isOn_15 (nI_ne0 (by omega) (by omega)) (q := 16) rfl ?_
    refine g_eqi C (y := nI (tmN x y)) (pk_div (by decide) (by omega) (by omega)) ?_
    refine g_iload C 4 dX7_isOn_16 rfl rfl (q := 18) ?_
    refine g_icmp_le C (t := 23) dX7_isOn_18 (by decide) (q := 21) rfl (fun c_18 => ?_) (fun c_18 => ?_)
    · rw [nI_leI (by omega) (by omega)] at c_18
      refine g_aload_n C 0 dX7_isOn_23 rfl rfl rfl (q := 24) ?_
      refine g_get C 0 7 dX7_isOn_24 (Cn := RX7) (T := TX7) (N := 14) (fun _ h => List.mem_cons_of_mem _ (List.mem_append_right _ h)) rfl rfl (by decide) (List.mem_cons_of_mem _ (List.mem_append_left _ (List.mem_of_getElem? (i := 0) rfl))) rfl (q := 27) rfl ?_
      refine g_aload_n C 0 dX7_isOn_27 rfl rfl rfl (q := 28) ?_
      refine g_iload_n C 1 dX7_isOn_28 rfl rfl rfl (q := 29) ?_
      refine g_iconst C (nI 1) dX7_isOn_29 (by decide) (q := 30) rfl ?_
      refine g_iadd C dX7_isOn_30 (q := 31) rfl ?_
      refine g_eqi C (y := nI (k + 1)) (nI_add k 1) ?_
      refine g_iload_n C 3 dX7_isOn_31 rfl rfl rfl (q := 32) ?_
      refine gcV_si C (n := 2) (As := [.int (nI (k + 1)), .int (nI y)]) (st := [.ref (b 6)]) 0 (fun h => h) dX7_isOn_32 rfl rfl gX7_isOn_X7_place (c_X7_place l D cI cJ cZ b n gr li st tr t sd lea pa pt pp su sh tt (k + 1) y) rfl rfl rfl (by decide +kernel) ⟨Nat.le_of_ble_eq_true rfl, Nat.le_of_ble_eq_true rfl⟩ rfl rfl (Nat.le_of_ble_eq_true rfl) FT_b FT_h ⟨Nat.le_of_ble_eq_true rfl, Nat.le_of_ble_eq_true rfl⟩ (q := 35) rfl (fun r_32 h_32 => ?_)
      subst h_32
      refine g_iload C 4 dX7_isOn_35 rfl rfl (q := 37) ?_
      refine g_iadd C dX7_isOn_37 (q := 38) rfl ?_
      refine g_eqi C (y := nI ((1001 * (7 * (k + 1) + y)) + z)) (nI_add (1001 * (7 * (k + 1) + y)) z) ?_
      refine g_bipush C (nI 60) dX7_isOn_38 (by decide) (q := 40) rfl ?_
      refine g_iload_n C 2 dX7_isOn_40 rfl rfl rfl (q := 41) ?_
      refine g_iload_n C 3 dX7_isOn_41 rfl rfl rfl (q := 42) ?_
      refine g_iadd C dX7_isOn_42 (q := 43) rfl ?_
      refine g_eqi C (y := nI (x + y)) (nI_add x y) ?_
      refine g_idiv C dX7_isOn_43 (nI_ne0 (by omega) (by omega)) (q := 44) rfl ?_
      refine g_eqi C (y := nI (tmN x y)) (pk_div (by decide) (by omega) (by omega)) ?_
      refine g_isub C dX7_isOn_44 (q := 45) rfl ?_
      refine g_eqi C (y := nI (((1001 * (7 * (k + 1) + y)) + z) - (tmN x y))) (pk_sub (by omega)) ?_
      refine g_iald C 6 0 dX7_isOn_45 rfl rfl (vp_in_nI (by omega) (by decide)) (q := 46) rfl ?_
      refine g_eqi C (y := lea (((1001 * (7 * (k + 1) + y)) + z) - (tmN x y))) (by rw [nI_clamp (by omega)]) ?_
      refine g_eqi C (y := jN (bb (z - tmN x y))) (by rw [show 1001 * (7 * (k + 1) + y) + z - tmN x y = 1001 * (7 * (k + 1) + y) + (z - tmN x y) by omega]; exact hA _ (by omega)) ?_
      refine g_istore C [(5, .int (jN (bb (z - tmN x y)))), (0, .ref (b 0)), (1, .int (nI k)), (2, .int (nI x)), (3, .int (nI y)), (4, .int (nI z))] dX7_isOn_46 (by decide) rfl (q := 48) rfl ?_
      refine g_iload C 0 dX7_isOn_48 rfl rfl (q := 50) ?_
      refine g_ldc C (v := (100000000)) dX7_isOn_50 (List.mem_cons_of_mem _ (List.mem_append_left _ (List.mem_of_getElem? (i := 1) rfl))) (q := 52) rfl ?_
      refine g_icmp_ge C (t := 86) dX7_isOn_52 (by decide) (q := 55) rfl (fun c_52 => ?_) (fun c_52 => ?_)
      · refine g_iconst C (nI 0) dX7_isOn_86 (by decide) (q := 87) rfl ?_
        exact hret _ 87 _ _ dX7_isOn_87 (by decide) (by first | exact (if_pos ⟨hok, c_18, inR_lt (hrb _) c_52, (on_eq hT hok (hrb _) (inR_lt (hrb _) c_52) hre).mp c_79⟩).symm | exact (if_neg (fun h => c_79 ((on_eq hT hok (hrb _) (inR_lt (hrb _) c_52) hre).mpr h.2.2.2))).symm | exact (if_neg (fun h => Int.ne_of_lt h.2.2.1 ((jbig (hrb _)).mp c_52))).symm)
      · refine g_aload_n C 1 dX7_isOn_55 rfl rfl rfl (q := 56) ?_
        refine g_iload_n C 2 dX7_isOn_56 rfl rfl rfl (q := 57) ?_
        refine g_iload_n C 3 dX7_isOn_57 rfl rfl rfl (q := 58) ?_
        refine g_iload_n C 4 dX7_isOn_58 rfl rfl rfl (q := 59) ?_
        refine gcV_si C (n := 3) (As := [.int (nI k), .int (nI x), .int (nI y)]) (st := []) 0 (fun h => h) dX7_isOn_59 rfl rfl gX7_isOn_X7_powerOf (c_X7_powerOf l D cI cJ cZ b n gr li st tr t sd lea pa pt pp su sh tt k x y (by first | assumption | omega)) rfl rfl rfl (by decide +kernel) ⟨Nat.le_of_ble_eq_true rfl, Nat.le_of_ble_eq_true rfl⟩ rfl rfl (Nat.le_of_ble_eq_true rfl) FT_b FT_h ⟨Nat.le_of_ble_eq_true rfl, Nat.le_of_ble_eq_true rfl⟩ (q := 62) rfl (fun r_59 h_59 => ?_)
        subst h_59
        refine g_iload C 0 dX7_isOn_62 rfl rfl (q := 64) ?_
        refine g_iadd C dX7_isOn_64 (q := 65) rfl ?_
        refine g_aload_n C 1 dX7_isOn_65 rfl rfl rfl (q := 66) ?_
        refine g_get C 0 7 dX7_isOn_66 (Cn := RX7) (T := TX7) (N := 14) (fun _ h => List.mem_cons_of_mem _ (List.mem_append_right _ h)) rfl rfl (by decide) (List.mem_cons_of_mem _ (List.mem_append_left _ (List.mem_of_getElem? (i := 0) rfl))) rfl (q := 69) rfl ?_
        refine g_aload_n C 1 dX7_isOn_69 rfl rfl rfl (q := 70) ?_
        refine g_iload_n C 2 dX7_isOn_70 rfl rfl rfl (q := 71) ?_
        refine g_iload_n C 3 dX7_isOn_71 rfl rfl rfl (q := 72) ?_
        refine gcV_si C (n := 2) (As := [.int (nI k), .int (nI x)]) (st := [.ref (b 6), .int ((pwN gr tr k x y) + (jN (bb (z - tmN x y))))]) 0 (fun h => h) dX7_isOn_72 rfl rfl gX7_isOn_X7_place (c_X7_place l D cI cJ cZ b n gr li st tr t sd lea pa pt pp su sh tt k x) rfl rfl rfl (by decide +kernel) ⟨Nat.le_of_ble_eq_true rfl, Nat.le_of_ble_eq_true rfl⟩ rfl rfl (Nat.le_of_ble_eq_true rfl) FT_b FT_h ⟨Nat.le_of_ble_eq_true rfl, Nat.le_of_ble_eq_true rfl⟩ (q := 75) rfl (fun r_72 h_72 => ?_)
        subst h_72
        refine g_iload C 5 dX7_isOn_75 rfl rfl (q := 77) ?_
        refine g_iadd C dX7_isOn_77 (q := 78) rfl ?_
        refine g_eqi C (y := nI ((1001 * (7 * k + x)) + z)) (nI_add (1001 * (7 * k + x)) z) ?_
        refine g_iald C 6 0 dX7_isOn_78 rfl rfl (vp_in_nI (by omega) (by decide)) (q := 79) rfl ?_
        refine g_eqi C (y := lea ((1001 * (7 * k + x)) + z)) (by rw [nI_clamp (by omega)]) ?_
        refine g_eqi C (y := jN e) (hE) ?_
        refine g_icmp_ne C (t := 86) dX7_isOn_79 (by decide) (q := 82) rfl (fun c_79 => ?_) (fun c_79 => ?_)
        · refine g_iconst C (nI 0) dX7_isOn_86 (by decide) (q := 87) rfl ?_
          exact hret _ 87 _ _ dX7_isOn_87 (by decide) (by first | exact (if_pos ⟨hok, c_18, inR_lt (hrb _) c_52, (on_eq hT hok (hrb _) (inR_lt (hrb _) c_52) hre).mp c_79⟩).symm | exact (if_neg (fun h => c_79 ((on_eq hT hok (hrb _) (inR_lt (hrb _) c_52) hre).mpr h.2.2.2))).symm | exact (if_neg (fun h => Int.ne_of_lt h.2.2.1 ((jbig (hrb _)).mp c_52))).symm)
        · refine g_iconst C (nI 1) dX7_isOn_82 (by decide) (q := 83) rfl ?_
          refine g_goto C (q := 87) dX7_isOn_83 (by decide) ?_
          exact hret _ 87 _ _ dX7_isOn_87 (by decide) (by first | exact (if_pos ⟨hok, c_18, inR_lt (hrb _) c_52, (on_eq hT hok (hrb _) (inR_lt (hrb _) c_52) hre).mp c_79⟩).symm | exact (if_neg (fun h => c_79 ((on_eq hT hok (hrb _) (inR_lt (hrb _) c_52) hre).mpr h.2.2.2))).symm | exact (if_neg (fun h => Int.ne_of_lt h.2.2.1 ((jbig (hrb _)).mp c_52))).symm)
    · rw [nI_leI (by omega) (by omega)] at c_18
      refine g_iconst C (nI 0) dX7_isOn_21 (by decide) (q := 22) rfl ?_
      exact hret _ 22 _ _ dX7_isOn_22 (by decide) (by first | exact (if_neg (fun h => okM_f c_7 h.1)).symm | exact (if_neg (fun h => c_18 h.2.1)).symm)
set_option maxHeartbeats 4000000 in
set_option maxRecDepth 100000 in
theorem c_X7_bestSpeed (l : Launch) (D : va_G) (cI cJ cZ : ClassId) (b : Nat → Nat) (n : Nat) (gr li st tr : Nat → Int32) (t : Nat) (sd lea : Nat → Int32) (pa : Int32) (pt pp : Nat → Int32) (su : Int32) (sh tt : Nat → Int32) (k z q : Int32) (sp : Nat → Int32) (m : Nat) (hL : LInv st sp n m) (hT : TrOK tr) : Met l yX7_bestSpeed wsX7_bestSpeed { frames := 4, cells := 0, slots := 0, locals := 102 } (gPc D (tyT cI cJ cZ) (wB b) FT (wM cI cJ cZ b (nI n) gr li st tr (nI t) sd lea pa pt pp su sh tt) [.ref (b 0), .int k, .int z, .int q]) (va_Qi (fun (r : Int32) (u : (Nat → Int32)) => aBS gr li tr st n m k z q r) (fun u tS => va_P D vwCl ((fun (u : (Nat → Int32)) => wM cI cJ cZ b (nI n) gr li st tr (nI t) sd u pa pt pp su sh tt) u) tS.heap ∧ va_D (wB b) ((fun (u : (Nat → Int32)) => wM cI cJ cZ b (nI n) gr li st tr (nI t) sd u pa pt pp su sh tt) u)) (wB b)) 0 0 (wB b) := by
  refine gs_qi (cc := cX7_bestSpeed) (nL := 9) (ty := .int) (W' := fun (u : (Nat → Int32)) => wM cI cJ cZ b (nI n) gr li st tr (nI t) sd u pa pt pp su sh tt) (by decide) rfl (Nat.le_of_ble_eq_true rfl) (fun G C hret => ?_)
  show G 0 0 (wM cI cJ cZ b (nI n) gr li st tr (nI t) sd lea pa pt pp su sh tt) [(0, .ref (b 0)), (1, .int k), (2, .int z), (3, .int q)] 0 []
  have hn := hL.2.1
  have hmn := hL.m_le
  refine g_aload_n C 0 dX7_bestSpeed_0 rfl rfl rfl (q := 1) ?_
  refine g_iload_n C 1 dX7_bestSpeed_1 rfl rfl rfl (q := 2) ?_
  refine gcV_si C (n := 1) (As := [.int k]) (st := []) 0 (fun h => h) dX7_bestSpeed_2 rfl rfl gX7_bestSpeed_X7_isLeg (c_X7_isLeg l D cI cJ cZ b n gr li st tr t sd lea pa pt pp su sh tt k sp m (by first | assumption | omega)) rfl rfl rfl (by decide +kernel) ⟨Nat.le_of_ble_eq_true rfl, Nat.le_of_ble_eq_true rfl⟩ rfl rfl (Nat.le_of_ble_eq_true rfl) FT_b FT_h ⟨Nat.le_of_ble_eq_true rfl, Nat.le_of_ble_eq_true rfl⟩ (q := 5) rfl (fun r_2 h_2 => ?_)
  subst h_2
  refine g_if_eq C (t := 20) dX7_bestSpeed_5 (by decide) (q := 8) rfl (fun c_5 => ?_) (fun c_5 => ?_)
  · replace c_5 := ite_e0 c_5
    refine g_iconst C (-1) dX7_bestSpeed_20 (by decide) (q := 21) rfl ?_
    exact hret _ lea 21 _ dX7_bestSpeed_21 rfl (by first | (rw [aBS, if_neg (show ¬ (hcP m k ∧ hpP n q) from fun h => c_5 h.1)]) | (rw [aBS, if_neg (show ¬ (hcP m k ∧ hpP n q) from fun h => c_17 h.2)]))
  · replace c_5 := ite_n0 c_5
    refine g_iload_n C 3 dX7_bestSpeed_8 rfl rfl rfl (q := 9) ?_
    refine g_iconst C (nI 0) dX7_bestSpeed_9 (by decide) (q := 10) rfl ?_
    refine g_aload_n C 0 dX7_bestSpeed_10 rfl rfl rfl (q := 11) ?_
    refine g_get C 0 0 dX7_bestSpeed_11 (Cn := RX7) (T := TX7) (N := 14) (fun _ h => List.mem_cons_of_mem _ (List.mem_append_right _ h)) rfl rfl (by decide) (List.mem_cons_of_mem _ (List.mem_append_left _ (List.mem_of_getElem? (i := 0) rfl))) rfl (q := 14) rfl ?_
    refine gcS_si C (n := 3) (As := [.int q, .int (nI 0), .int (nI n)]) (st := []) (fun h => h) dX7_bestSpeed_14 gX7_bestSpeed_X7_in (c_X7_in l D cI cJ cZ b n gr li st tr t sd lea pa pt pp su sh tt q (nI 0) (nI n)) rfl rfl rfl (by decide +kernel) ⟨Nat.le_of_ble_eq_true rfl, Nat.le_of_ble_eq_true rfl⟩ rfl rfl (Nat.le_of_ble_eq_true rfl) FT_b FT_h ⟨Nat.le_of_ble_eq_true rfl, Nat.le_of_ble_eq_true rfl⟩ (q := 17) rfl (fun r_14 h_14 => ?_)
    subst h_14
    refine g_eqi C (y := if hpP n q then nI 1 else nI 0) (ite_cg in_hp) ?_
    refine g_if_ne C (t := 22) dX7_bestSpeed_17 (by decide) (q := 20) rfl (fun c_17 => ?_) (fun c_17 => ?_)
    · replace c_17 := ite_n0 c_17
      refine g_iload_n C 2 dX7_bestSpeed_22 rfl rfl rfl (q := 23) ?_
      refine g_iconst C (nI 0) dX7_bestSpeed_23 (by decide) (q := 24) rfl ?_
      refine g_sipush C (nI 1000) dX7_bestSpeed_24 (by decide) (q := 27) rfl ?_
      refine gcS_si C (n := 3) (As := [.int z, .int (nI 0), .int (nI 1000)]) (st := []) (fun h => h) dX7_bestSpeed_27 gX7_bestSpeed_X7_in (c_X7_in l D cI cJ cZ b n gr li st tr t sd lea pa pt pp su sh tt z (nI 0) (nI 1000)) rfl rfl rfl (by decide +kernel) ⟨Nat.le_of_ble_eq_true rfl, Nat.le_of_ble_eq_true rfl⟩ rfl rfl (Nat.le_of_ble_eq_true rfl) FT_b FT_h ⟨Nat.le_of_ble_eq_true rfl, Nat.le_of_ble_eq_true rfl⟩ (q := 30) rfl (fun r_27 h_27 => ?_)
      subst h_27
      refine g_eqi C (y := if tmP z then nI 1 else nI 0) (ite_cg in_tm) ?_
      refine g_if_ne C (t := 36) dX7_bestSpeed_30 (by decide) (q := 33) rfl (fun c_30 => ?_) (fun c_30 => ?_)
      · replace c_30 := ite_n0 c_30
        have hc5 := c_5
        have hc17 := c_17
        have hc30 := c_30
        obtain ⟨k1, hk, rfl⟩ := hcP_of c_5 (by omega)
        obtain ⟨q1, hq1, rfl⟩ := hpP_of c_17 (by omega)
        obtain ⟨z1, hz, rfl⟩ := tmP_of c_30
        refine g_aload_n C 0 dX7_bestSpeed_36 rfl rfl rfl (q := 37) ?_
        refine g_iload_n C 1 dX7_bestSpeed_37 rfl rfl rfl (q := 38) ?_
        refine gcV_qv C (n := 1) (As := [.int (nI k1)]) (st := []) 0 (fun h => h) (fun _ h => h) dX7_bestSpeed_38 rfl rfl gX7_bestSpeed_X7_work (c_X7_work l D cI cJ cZ b n gr li st tr t sd lea pa pt pp su sh tt k1 sp m hL hk hT) rfl rfl rfl (by decide +kernel) ⟨Nat.le_of_ble_eq_true rfl, Nat.le_of_ble_eq_true rfl⟩ rfl rfl (Nat.le_of_ble_eq_true rfl) FT_b FT_h ⟨Nat.le_of_ble_eq_true rfl, Nat.le_of_ble_eq_true rfl⟩ (q := 41) rfl (fun u_38 h_38 => ?_)
        have h_38 : WIa (okM gr li tr) (pwM gr tr) (posOf st k1 n) (posOf st (k1 + 1) n) (posOf st k1 n) u_38 ∧ WIc (okM gr li tr) (pwM gr tr) (posOf st k1 n) (posOf st (k1 + 1) n) u_38 := h_38
        show G 0 0 (wM cI cJ cZ b (nI n) gr li st tr (nI t) sd u_38 pa pt pp su sh tt) [(0, .ref (b 0)), (1, .int (nI k1)), (2, .int (nI z1)), (3, .int (nI q1))] 41 []
        refine g_aload_n C 0 dX7_bestSpeed_41 rfl rfl rfl (q := 42) ?_
        refine g_iload_n C 1 dX7_bestSpeed_42 rfl rfl rfl (q := 43) ?_
        refine g_iload_n C 2 dX7_bestSpeed_43 rfl rfl rfl (q := 44) ?_
        refine gcV_si C (n := 2) (As := [.int (nI k1), .int (nI z1)]) (st := []) 0 (fun h => h) dX7_bestSpeed_44 rfl rfl gX7_bestSpeed_X7_bestOf (c_X7_bestOf l D cI cJ cZ b n gr li st tr t sd u_38 pa pt pp su sh tt k1 z1 sp m hL hk hT hz h_38.2) rfl rfl rfl (by decide +kernel) ⟨Nat.le_of_ble_eq_true rfl, Nat.le_of_ble_eq_true rfl⟩ rfl rfl (Nat.le_of_ble_eq_true rfl) FT_b FT_h ⟨Nat.le_of_ble_eq_true rfl, Nat.le_of_ble_eq_true rfl⟩ (q := 47) rfl (fun r_44 h_44 => ?_)
        subst h_44
        refine g_istore C [(4, .int (lastI (prs (mL gr li tr st n k1) (z1 + 1)))), (0, .ref (b 0)), (1, .int (nI k1)), (2, .int (nI z1)), (3, .int (nI q1))] dX7_bestSpeed_47 (by decide) rfl (q := 49) rfl ?_
        refine g_aload_n C 1 dX7_bestSpeed_49 rfl rfl rfl (q := 50) ?_
        refine g_iload_n C 2 dX7_bestSpeed_50 rfl rfl rfl (q := 51) ?_
        refine gcV_si C (n := 1) (As := [.int (nI k1)]) (st := []) 0 (fun h => h) dX7_bestSpeed_51 rfl rfl gX7_bestSpeed_X7_firstOf (c_X7_firstOf l D cI cJ cZ b n gr li st tr t sd u_38 pa pt pp su sh tt k1 sp m hL (by omega)) rfl rfl rfl (by decide +kernel) ⟨Nat.le_of_ble_eq_true rfl, Nat.le_of_ble_eq_true rfl⟩ rfl rfl (Nat.le_of_ble_eq_true rfl) FT_b FT_h ⟨Nat.le_of_ble_eq_true rfl, Nat.le_of_ble_eq_true rfl⟩ (q := 54) rfl (fun r_51 h_51 => ?_)
        subst h_51
        refine g_istore C [(5, .int (nI (posOf st k1 n))), (4, .int (lastI (prs (mL gr li tr st n k1) (z1 + 1)))), (0, .ref (b 0)), (1, .int (nI k1)), (2, .int (nI z1)), (3, .int (nI q1))] dX7_bestSpeed_54 (by decide) rfl (q := 56) rfl ?_
        obtain ⟨P, hP⟩ : ∃ P, P = posOf st k1 n := ⟨_, rfl⟩
        obtain ⟨Q, hQ⟩ : ∃ Q, Q = posOf st (k1 + 1) n := ⟨_, rfl⟩
        rw [← hP]
        have hPQ : P < Q := by rw [hP, hQ]; exact hL.mono hk
        have hQ16 : Q ≤ 16 := by rw [hQ]; exact Nat.le_trans (hL.pos (by omega)).1 hL.2.1
        rw [← hP, ← hQ] at h_38
        refine g_iload C 1 dX7_bestSpeed_56 rfl rfl (q := 58) ?_
        refine g_ldc C (v := (-1000000)) dX7_bestSpeed_58 (List.mem_cons_of_mem _ (List.mem_append_left _ (List.mem_of_getElem? (i := 1) rfl))) (q := 60) rfl ?_
        refine g_icmp_eq C (t := 77) dX7_bestSpeed_60 (by decide) (q := 63) rfl (fun c_60 => ?_) (fun c_60 => ?_)
        · refine g_ldc C (v := (-1000000)) dX7_bestSpeed_77 (List.mem_cons_of_mem _ (List.mem_append_left _ (List.mem_of_getElem? (i := 1) rfl))) (q := 79) rfl ?_
          exact hret _ u_38 79 _ dX7_bestSpeed_79 rfl (by rw [aBS, if_pos ⟨hc5, hc17⟩, if_pos hc30, nI_clamp (by omega), nI_clamp (by omega), nI_clamp (by omega), ← hP, ← hQ]; refine (if_neg (fun h => ?_)).mpr rfl; first | exact h.1 c_60 | exact c_74 ⟨by rw [nI_ltI (by omega) (by omega)]; omega, by rw [nI_ltI (by omega) (by omega)]; omega⟩)
        · refine g_iload_n C 5 dX7_bestSpeed_63 rfl rfl rfl (q := 64) ?_
          refine g_iload C 0 dX7_bestSpeed_64 rfl rfl (q := 66) ?_
          refine g_aload_n C 2 dX7_bestSpeed_66 rfl rfl rfl (q := 67) ?_
          refine g_iload_n C 3 dX7_bestSpeed_67 rfl rfl rfl (q := 68) ?_
          refine gcV_si C (n := 1) (As := [.int (nI k1)]) (st := [.int (nI P), .int (nI q1)]) 0 (fun h => h) dX7_bestSpeed_68 rfl rfl gX7_bestSpeed_X7_endOf (c_X7_endOf l D cI cJ cZ b n gr li st tr t sd u_38 pa pt pp su sh tt k1 sp m hL hk) rfl rfl rfl (by decide +kernel) ⟨Nat.le_of_ble_eq_true rfl, Nat.le_of_ble_eq_true rfl⟩ rfl rfl (Nat.le_of_ble_eq_true rfl) FT_b FT_h ⟨Nat.le_of_ble_eq_true rfl, Nat.le_of_ble_eq_true rfl⟩ (q := 71) rfl (fun r_68 h_68 => ?_)
          subst h_68
          refine g_eqi C (y := nI Q) (by rw [hQ]) ?_
          refine gcS_si C (n := 3) (As := [.int (nI q1), .int (nI P), .int (nI Q)]) (st := []) (fun h => h) dX7_bestSpeed_71 gX7_bestSpeed_X7_in (c_X7_in l D cI cJ cZ b n gr li st tr t sd u_38 pa pt pp su sh tt (nI q1) (nI P) (nI Q)) rfl rfl rfl (by decide +kernel) ⟨Nat.le_of_ble_eq_true rfl, Nat.le_of_ble_eq_true rfl⟩ rfl rfl (Nat.le_of_ble_eq_true rfl) FT_b FT_h ⟨Nat.le_of_ble_eq_true rfl, Nat.le_of_ble_eq_true rfl⟩ (q := 74) rfl (fun r_71 h_71 => ?_)
          subst h_71
          refine g_if_ne C (t := 80) dX7_bestSpeed_74 (by decide) (q := 77) rfl (fun c_74 => ?_) (fun c_74 => ?_)
          · replace c_74 := ite_n0 c_74
            obtain ⟨x, hx, hx1, hx2, hx3, _⟩ := last_ne c_60
            have hbb : BB (okM gr li tr) (pwM gr tr) (Q - P) P 0 x < BIG := by rw [hP, hQ]; exact hx3
            obtain ⟨Lw, hLw⟩ := LX_ex (SB_M hT) 0 (show Q - P ≤ 16 by omega) hbb
            have hqP : P ≤ q1 := by have := c_74.1; rw [nI_ltI (by omega) (by omega)] at this; omega
            have hqQ : q1 ≤ Q := by have := c_74.2; rw [nI_ltI (by omega) (by omega)] at this; omega
            refine g_lset C (z := 1) (y := nI x) [(5, .int (nI P)), (4, .int (nI x)), (0, .ref (b 0)), (1, .int (nI k1)), (2, .int (nI z1)), (3, .int (nI q1))] rfl hx rfl ?_
            refine g_iconst C (nI 0) dX7_bestSpeed_80 (by decide) (q := 81) rfl ?_
            refine g_istore C [(6, .int (nI 0)), (5, .int (nI P)), (4, .int (nI x)), (0, .ref (b 0)), (1, .int (nI k1)), (2, .int (nI z1)), (3, .int (nI q1))] dX7_bestSpeed_81 (by decide) rfl (q := 83) rfl ?_
            refine g_iload C 1 dX7_bestSpeed_83 rfl rfl (q := 85) ?_
            refine g_istore C [(7, .int (nI P)), (6, .int (nI 0)), (5, .int (nI P)), (4, .int (nI x)), (0, .ref (b 0)), (1, .int (nI k1)), (2, .int (nI z1)), (3, .int (nI q1))] dX7_bestSpeed_85 (by decide) rfl (q := 87) rfl ?_
            have lp_87 : ∀ (N : Nat) (kk uu tt1 : Nat) (l2 : List Nat), (P ≤ kk) → (kk ≤ q1) → (tt1 ≤ 1000) → (uu ≤ 6) → (AT (okM gr li tr) (pwM gr tr) P Q Lw kk uu tt1 l2) → q1 - kk < N → G 0 0 (wM cI cJ cZ b (nI n) gr li st tr (nI t) sd u_38 pa pt pp su sh tt) [(7, .int (nI kk)), (6, .int (nI uu)), (4, .int (nI tt1)), (5, .int (nI P)), (0, .ref (b 0)), (1, .int (nI k1)), (2, .int (nI z1)), (3, .int (nI q1))] 87 [] := by
              intro N
              induction N with
              | zero => intro kk uu tt1 l2 _ _ _ _ _ hmu; exact absurd hmu (Nat.not_lt_zero _)
              | succ N ih_87 =>
                intro kk uu tt1 l2 h1 h2 h3 h4 hX hmu
                refine g_iload C 0 dX7_bestSpeed_87 rfl rfl (q := 89) ?_
                refine g_iload_n C 7 dX7_bestSpeed_89 rfl rfl rfl (q := 90) ?_
                refine g_icmp_ge C (t := 140) dX7_bestSpeed_90 (by decide) (q := 93) rfl (fun c_90 => ?_) (fun c_90 => ?_)
                · rw [nI_leI (by omega) (by omega)] at c_90
                  refine g_iload C 1 dX7_bestSpeed_140 rfl rfl (q := 142) ?_
                  exact hret _ u_38 142 _ dX7_bestSpeed_142 rfl (by rw [aBS, if_pos ⟨hc5, hc17⟩, if_pos hc30, nI_clamp (show k1 < 2 ^ 31 by omega), nI_clamp (show z1 < 2 ^ 31 by omega), nI_clamp (show q1 < 2 ^ 31 by omega), ← hP, ← hQ, if_pos ⟨c_60, hqP, hqQ⟩, hx, nI_clamp (show x < 2 ^ 31 by omega)]; obtain rfl : kk = q1 := (by omega); exact ⟨Lw, hLw, by rw [AT_end hX]⟩)
                · rw [nI_leI (by omega) (by omega)] at c_90
                  obtain ⟨vs, l3, rfl⟩ := AT_cons (by omega) hX
                  have hat := AT_on (SB_M hT) h1 hQ16 (by omega) hX
                  have hrow := AT_row h3 h4 (by omega) h_38.1 h_38.2 hX
                  refine g_iconst C (nI 0) dX7_bestSpeed_93 (by decide) (q := 94) rfl ?_
                  refine g_istore C [(8, .int (nI 0)), (7, .int (nI kk)), (6, .int (nI uu)), (4, .int (nI tt1)), (5, .int (nI P)), (0, .ref (b 0)), (1, .int (nI k1)), (2, .int (nI z1)), (3, .int (nI q1))] dX7_bestSpeed_94 (by decide) rfl (q := 96) rfl ?_
                  have lp_96 : ∀ (N : Nat) (y : Nat), (y ≤ vs) → vs + 1 - y < N → G 0 0 (wM cI cJ cZ b (nI n) gr li st tr (nI t) sd u_38 pa pt pp su sh tt) [(8, .int (nI y)), (7, .int (nI kk)), (6, .int (nI uu)), (4, .int (nI tt1)), (5, .int (nI P)), (0, .ref (b 0)), (1, .int (nI k1)), (2, .int (nI z1)), (3, .int (nI q1))] 96 [] := by
                    intro N
                    induction N with
                    | zero => intro y _ hmu; exact absurd hmu (Nat.not_lt_zero _)
                    | succ N ih_96 =>
                      intro y hy hmu
                      refine g_aload_n C 5 dX7_bestSpeed_96 rfl rfl rfl (q := 97) ?_
                      refine g_iload C 1 dX7_bestSpeed_97 rfl rfl (q := 99) ?_
                      refine g_iload C 2 dX7_bestSpeed_99 rfl rfl (q := 101) ?_
                      refine g_iload C 0 dX7_bestSpeed_101 rfl rfl (q := 103) ?_
                      refine g_iload C 3 dX7_bestSpeed_103 rfl rfl (q := 105) ?_
                      refine gcV_si C (n := 4) (As := [.int (nI kk), .int (nI uu), .int (nI y), .int (nI tt1)]) (st := []) 0 (fun h => h) dX7_bestSpeed_105 rfl rfl gX7_bestSpeed_X7_isOn (c_X7_isOn l D cI cJ cZ b n gr li st tr t sd u_38 pa pt pp su sh tt kk uu y tt1 (fun s => TB (okM gr li tr) (pwM gr tr) P Q (kk + 1) y s) (BB (okM gr li tr) (pwM gr tr) (Q - kk) kk uu tt1) (by omega) h4 (by omega) h3 hT (fun s hs => h_38.1 (kk + 1) (by omega) (by omega) (by omega) y (by omega) s hs) hrow (fun s => TB_rg (SB_M hT) hQ16) (BB_rg (SB_M hT) (by omega))) rfl rfl rfl (by decide +kernel) ⟨Nat.le_of_ble_eq_true rfl, Nat.le_of_ble_eq_true rfl⟩ rfl rfl (Nat.le_of_ble_eq_true rfl) FT_b FT_h ⟨Nat.le_of_ble_eq_true rfl, Nat.le_of_ble_eq_true rfl⟩ (q := 108) rfl (fun r_105 h_105 => ?_)
                      subst h_105
                      refine g_if_ne C (t := 117) dX7_bestSpeed_108 (by decide) (q := 111) rfl (fun c_108 => ?_) (fun c_108 => ?_)
                      · replace c_108 := ite_n0 c_108
                        have hys := AT_eq (SB_M hT) h1 hQ16 (by omega) hX hy c_108
                        subst hys
                        have huv := (SB_M hT _ _ _ c_108.1).2
                        have htm := c_108.2.1
                        refine g_iload C 3 dX7_bestSpeed_117 rfl rfl (q := 119) ?_
                        refine g_bipush C (nI 60) dX7_bestSpeed_119 (by decide) (q := 121) rfl ?_
                        refine g_iload C 2 dX7_bestSpeed_121 rfl rfl (q := 123) ?_
                        refine g_iload C 0 dX7_bestSpeed_123 rfl rfl (q := 125) ?_
                        refine g_iadd C dX7_bestSpeed_125 (q := 126) rfl ?_
                        refine g_eqi C (y := nI (uu + y)) (nI_add uu y) ?_
                        refine g_idiv C dX7_bestSpeed_126 (nI_ne0 (by omega) (by omega)) (q := 127) rfl ?_
                        refine g_eqi C (y := nI (tmN uu y)) (pk_div (by decide) (by omega) (by omega)) ?_
                        refine g_isub C dX7_bestSpeed_127 (q := 128) rfl ?_
                        refine g_eqi C (y := nI (tt1 - (tmN uu y))) (pk_sub (by omega)) ?_
                        refine g_istore C [(4, .int (nI (tt1 - (tmN uu y)))), (8, .int (nI y)), (7, .int (nI kk)), (6, .int (nI uu)), (5, .int (nI P)), (0, .ref (b 0)), (1, .int (nI k1)), (2, .int (nI z1)), (3, .int (nI q1))] dX7_bestSpeed_128 (by decide) rfl (q := 130) rfl ?_
                        refine g_iload C 1 dX7_bestSpeed_130 rfl rfl (q := 132) ?_
                        refine g_istore C [(6, .int (nI y)), (4, .int (nI (tt1 - (tmN uu y)))), (8, .int (nI y)), (7, .int (nI kk)), (5, .int (nI P)), (0, .ref (b 0)), (1, .int (nI k1)), (2, .int (nI z1)), (3, .int (nI q1))] dX7_bestSpeed_132 (by decide) rfl (q := 134) rfl ?_
                        refine g_iinc C (z := 3) (nI (kk + 1)) [(7, .int (nI (kk + 1))), (6, .int (nI y)), (4, .int (nI (tt1 - (tmN uu y)))), (8, .int (nI y)), (5, .int (nI P)), (0, .ref (b 0)), (1, .int (nI k1)), (2, .int (nI z1)), (3, .int (nI q1))] dX7_bestSpeed_134 rfl (nI_add kk 1) (by decide) rfl (q := 137) rfl ?_
                        refine g_goto C (q := 87) dX7_bestSpeed_137 (by decide) ?_
                        refine g_locs C [(7, .int (nI (kk + 1))), (6, .int (nI y)), (4, .int (nI (tt1 - (tmN uu y)))), (5, .int (nI P)), (0, .ref (b 0)), (1, .int (nI k1)), (2, .int (nI z1)), (3, .int (nI q1))] [0, 1, 2, 4, 5, 6, 7, 8] rfl ?_
                        exact ih_87 (kk + 1) y (tt1 - (tmN uu y)) l3 (by first | assumption | omega) (by first | assumption | omega) (by first | assumption | omega) (by first | assumption | omega) hat.2.2 (by omega)
                      · replace c_108 := ite_e0 c_108
                        refine g_iinc C (z := 0) (nI (y + 1)) [(8, .int (nI (y + 1))), (7, .int (nI kk)), (6, .int (nI uu)), (4, .int (nI tt1)), (5, .int (nI P)), (0, .ref (b 0)), (1, .int (nI k1)), (2, .int (nI z1)), (3, .int (nI q1))] dX7_bestSpeed_111 rfl (nI_add y 1) (by decide) rfl (q := 114) rfl ?_
                        refine g_goto C (q := 96) dX7_bestSpeed_114 (by decide) ?_
                        exact ih_96 (y + 1) (by have hne : y ≠ vs := fun e => c_108 (by rw [e]; exact hat.1); omega) (by omega)
                  exact lp_96 _ 0 (by first | assumption | omega) (Nat.lt_succ_self _)
            refine g_locs C [(7, .int (nI P)), (6, .int (nI 0)), (4, .int (nI x)), (5, .int (nI P)), (0, .ref (b 0)), (1, .int (nI k1)), (2, .int (nI z1)), (3, .int (nI q1))] [0, 1, 3, 2, 4, 5, 6, 7] rfl ?_
            exact lp_87 _ P 0 x Lw (by first | assumption | omega) (by first | assumption | omega) (by first | assumption | omega) (by first | assumption | omega) ⟨by rw [show P - P = 0 by omega]; exact hLw, ⟨[], rfl, (Nat.sub_self P).symm, rfl⟩, Or.inl ⟨rfl, rfl⟩⟩ (Nat.lt_succ_self _)
          · replace c_74 := ite_e0 c_74
            refine g_ldc C (v := (-1000000)) dX7_bestSpeed_77 (List.mem_cons_of_mem _ (List.mem_append_left _ (List.mem_of_getElem? (i := 1) rfl))) (q := 79) rfl ?_
            exact hret _ u_38 79 _ dX7_bestSpeed_79 rfl (by rw [aBS, if_pos ⟨hc5, hc17⟩, if_pos hc30, nI_clamp (by omega), nI_clamp (by omega), nI_clamp (by omega), ← hP, ← hQ]; refine (if_neg (fun h => ?_)).mpr rfl; first | exact h.1 c_60 | exact c_74 ⟨by rw [nI_ltI (by omega) (by omega)]; omega, by rw [nI_ltI (by omega) (by omega)]; omega⟩)
      · replace c_30 := ite_e0 c_30
        refine g_bipush C (-2) dX7_bestSpeed_33 (by decide) (q := 35) rfl ?_
        exact hret _ lea 35 _ dX7_bestSpeed_35 rfl (by rw [aBS, if_pos ⟨c_5, c_17⟩, if_neg c_30])
    · replace c_17 := ite_e0 c_17
      refine g_iconst C (-1) dX7_bestSpeed_20 (by decide) (q := 21) rfl ?_
      exact hret _ lea 21 _ dX7_bestSpeed_21 rfl (by first | (rw [aBS, if_neg (show ¬ (hcP m k ∧ hpP n q) from fun h => c_5 h.1)]) | (rw [aBS, if_neg (show ¬ (hcP m k ∧ hpP n q) from fun h => c_17 h.2)]))
