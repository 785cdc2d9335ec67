/-! the reference: the table of least powers over a leg -/
theorem WI_init {ok : Nat → Nat → Nat → Bool} {pw : Nat → Nat → Nat → Int} {P Q : Nat} {g : Nat → Int32} (hPQ : P < Q) (hz : ∀ i, 1001 * (7 * P + 0) ≤ i → i < 1001 * (7 * (Q + 1) + 0) → g i = 100000000) : WIa ok pw P Q Q (upd g (1001 * (7 * Q + 0)) (nI 0)) ∧ WIb P Q (upd g (1001 * (7 * Q + 0)) (nI 0)) := by
  refine ⟨fun j h1 h2 h3 u hu t ht => ?_, fun j h1 h2 u hu t ht => ?_⟩
  · obtain rfl : j = Q := by omega
    rw [TB, if_neg (by omega), show j - j = 0 by omega, BB]
    by_cases e : u = 0 ∧ t = 0
    · rw [if_pos e, e.1, e.2]; exact pk_us
    · rw [if_neg e, pk_un (by omega), hz _ (by omega) (by omega), jN_big]
  · rw [pk_un (by omega), hz _ (by omega) (by omega)]
set_option maxHeartbeats 4000000 in
set_option maxRecDepth 100000 in
theorem c_X7_place (l : Launch) (D : va_G) (cI cJ cZ : ClassId) (b : Nat → Nat) (n : Nat) (gr li st tr : Nat → Int32) (t : Nat) (sd lea : Nat → Int32) (pa : Int32) (pt pp : Nat → Int32) (su : Int32) (sh tt : Nat → Int32) (k x : Nat) : Met l yX7_place wsX7_place { frames := 0, cells := 0, slots := 0, locals := 0 } (gPc D (tyT cI cJ cZ) (wB b) FT (wM cI cJ cZ b (nI n) gr li st tr (nI t) sd lea pa pt pp su sh tt) [.ref (b 0), .int (nI k), .int (nI x)]) (vp_Si (fun r => r = nI (1001 * (7 * k + x)))) 0 0 (fun _ => False) := by
  refine gs_si (cc := cX7_place) (nL := 3) (ty := .int) (by decide) rfl (Nat.le_of_ble_eq_true rfl) (fun G C hret => ?_)
  show G 0 0 (wM cI cJ cZ b (nI n) gr li st tr (nI t) sd lea pa pt pp su sh tt) [(0, .ref (b 0)), (1, .int (nI k)), (2, .int (nI x))] 0 []
  refine g_sipush C (nI 1001) dX7_place_0 (by decide) (q := 3) rfl ?_
  refine g_bipush C (nI 7) dX7_place_3 (by decide) (q := 5) rfl ?_
  refine g_iload_n C 1 dX7_place_5 rfl rfl rfl (q := 6) ?_
  refine g_imul C dX7_place_6 (q := 7) rfl ?_
  refine g_eqi C (y := nI (7 * k)) (pk_mul 7 k) ?_
  refine g_iload_n C 2 dX7_place_7 rfl rfl rfl (q := 8) ?_
  refine g_iadd C dX7_place_8 (q := 9) rfl ?_
  refine g_eqi C (y := nI ((7 * k) + x)) (nI_add (7 * k) x) ?_
  refine g_imul C dX7_place_9 (q := 10) rfl ?_
  refine g_eqi C (y := nI (1001 * ((7 * k) + x))) (pk_mul 1001 ((7 * k) + x)) ?_
  exact hret _ 10 _ _ dX7_place_10 rfl (rfl)
set_option maxHeartbeats 4000000 in
set_option maxRecDepth 100000 in
theorem c_X7_carry (l : Launch) (D : va_G) (cI cJ cZ : ClassId) (b : Nat → Nat) (n : Nat) (gr li st tr : Nat → Int32) (t : Nat) (sd lea : Nat → Int32) (pa : Int32) (pt pp : Nat → Int32) (su : Int32) (sh tt : Nat → Int32) (k x y : Nat) (hk : k < 16) (hx : x ≤ 6) (hy : y ≤ 6) (hxy : 0 < x + y) : Met l yX7_carry wsX7_carry { frames := 2, cells := 0, slots := 0, locals := 47 } (gPc D (tyT cI cJ cZ) (wB b) FT (wM cI cJ cZ b (nI n) gr li st tr (nI t) sd lea pa pt pp su sh tt) [.ref (b 0), .int (nI k), .int (nI x), .int (nI y)]) (va_Qv (fun (u : (Nat → Int32)) => (∀ t, t < 1001 → u (1001 * (7 * k + x) + t) = cryV lea (1001 * (7 * k + x)) (1001 * (7 * (k + 1) + y)) (tmN x y) (pwN gr tr k x y) t) ∧ ∀ j, (j < 1001 * (7 * k + x) ∨ 1001 * (7 * k + x) + 1001 ≤ j) → u j = lea j) (fun u tS => va_P D vwCl ((fun (u : (Nat → Int32)) => wM cI cJ cZ b (nI n) gr li st tr (nI t) sd u pa pt pp su sh tt) u) tS.heap ∧ va_D (wB b) ((fun (u : (Nat → Int32)) => wM cI cJ cZ b (nI n) gr li st tr (nI t) sd u pa pt pp su sh tt) u)) (wB b)) 0 0 (wB b) := by
  refine gs_qv (cc := cX7_carry) (nL := 10) (W' := fun (u : (Nat → Int32)) => wM cI cJ cZ b (nI n) gr li st tr (nI t) sd u pa pt pp su sh tt) (by decide) rfl (Nat.le_of_ble_eq_true rfl) (fun G C hret => ?_)
  show G 0 0 (wM cI cJ cZ b (nI n) gr li st tr (nI t) sd lea pa pt pp su sh tt) [(0, .ref (b 0)), (1, .int (nI k)), (2, .int (nI x)), (3, .int (nI y))] 0 []
  have htm := tm_le hxy
  refine g_bipush C (nI 60) dX7_carry_0 (by decide) (q := 2) rfl ?_
  refine g_iload_n C 2 dX7_carry_2 rfl rfl rfl (q := 3) ?_
  refine g_iload_n C 3 dX7_carry_3 rfl rfl rfl (q := 4) ?_
  refine g_iadd C dX7_carry_4 (q := 5) rfl ?_
  refine g_eqi C (y := nI (x + y)) (nI_add x y) ?_
  refine g_idiv C dX7_carry_5 (nI_ne0 (by omega) (by omega)) (q := 6) rfl ?_
  refine g_eqi C (y := nI (tmN x y)) (pk_div (by decide) (by omega) (by omega)) ?_
  refine g_istore C [(4, .int (nI (tmN x y))), (0, .ref (b 0)), (1, .int (nI k)), (2, .int (nI x)), (3, .int (nI y))] dX7_carry_6 (by decide) rfl (q := 8) rfl ?_
  refine g_aload_n C 1 dX7_carry_8 rfl rfl rfl (q := 9) ?_
  refine g_iload_n C 2 dX7_carry_9 rfl rfl rfl (q := 10) ?_
  refine g_iload_n C 3 dX7_carry_10 rfl rfl rfl (q := 11) ?_
  refine g_iload_n C 4 dX7_carry_11 rfl rfl rfl (q := 12) ?_
  refine gcV_si C (n := 3) (As := [.int (nI k), .int (nI x), .int (nI y)]) (st := []) 0 (fun h => h) dX7_carry_12 rfl rfl gX7_carry_X7_powerOf (c_X7_powerOf l D cI cJ cZ b n gr li st tr t sd lea pa pt pp su sh tt k x y (by first | assumption | omega)) rfl rfl rfl (by decide +kernel) ⟨Nat.le_of_ble_eq_true rfl, Nat.le_of_ble_eq_true rfl⟩ rfl rfl (Nat.le_of_ble_eq_true rfl) FT_b FT_h ⟨Nat.le_of_ble_eq_true rfl, Nat.le_of_ble_eq_true rfl⟩ (q := 15) rfl (fun r_12 h_12 => ?_)
  subst h_12
  refine g_istore C [(5, .int (pwN gr tr k x y)), (4, .int (nI (tmN x y))), (0, .ref (b 0)), (1, .int (nI k)), (2, .int (nI x)), (3, .int (nI y))] dX7_carry_15 (by decide) rfl (q := 17) rfl ?_
  refine g_aload_n C 2 dX7_carry_17 rfl rfl rfl (q := 18) ?_
  refine g_iload_n C 3 dX7_carry_18 rfl rfl rfl (q := 19) ?_
  refine g_iload_n C 4 dX7_carry_19 rfl rfl rfl (q := 20) ?_
  refine gcV_si C (n := 2) (As := [.int (nI k), .int (nI x)]) (st := []) 0 (fun h => h) dX7_carry_20 rfl rfl gX7_carry_X7_place (c_X7_place l D cI cJ cZ b n gr li st tr t sd lea pa pt pp su sh tt k x) rfl rfl rfl (by decide +kernel) ⟨Nat.le_of_ble_eq_true rfl, Nat.le_of_ble_eq_true rfl⟩ rfl rfl (Nat.le_of_ble_eq_true rfl) FT_b FT_h ⟨Nat.le_of_ble_eq_true rfl, Nat.le_of_ble_eq_true rfl⟩ (q := 23) rfl (fun r_20 h_20 => ?_)
  subst h_20
  refine g_istore C [(6, .int (nI (1001 * (7 * k + x)))), (5, .int (pwN gr tr k x y)), (4, .int (nI (tmN x y))), (0, .ref (b 0)), (1, .int (nI k)), (2, .int (nI x)), (3, .int (nI y))] dX7_carry_23 (by decide) rfl (q := 25) rfl ?_
  refine g_aload_n C 3 dX7_carry_25 rfl rfl rfl (q := 26) ?_
  refine g_iload_n C 4 dX7_carry_26 rfl rfl rfl (q := 27) ?_
  refine g_iconst C (nI 1) dX7_carry_27 (by decide) (q := 28) rfl ?_
  refine g_iadd C dX7_carry_28 (q := 29) rfl ?_
  refine g_eqi C (y := nI (k + 1)) (nI_add k 1) ?_
  refine g_iload_n C 6 dX7_carry_29 rfl rfl rfl (q := 30) ?_
  refine gcV_si C (n := 2) (As := [.int (nI (k + 1)), .int (nI y)]) (st := []) 0 (fun h => h) dX7_carry_30 rfl rfl gX7_carry_X7_place (c_X7_place l D cI cJ cZ b n gr li st tr t sd lea pa pt pp su sh tt (k + 1) y) rfl rfl rfl (by decide +kernel) ⟨Nat.le_of_ble_eq_true rfl, Nat.le_of_ble_eq_true rfl⟩ rfl rfl (Nat.le_of_ble_eq_true rfl) FT_b FT_h ⟨Nat.le_of_ble_eq_true rfl, Nat.le_of_ble_eq_true rfl⟩ (q := 33) rfl (fun r_30 h_30 => ?_)
  subst h_30
  refine g_istore C [(7, .int (nI (1001 * (7 * (k + 1) + y)))), (6, .int (nI (1001 * (7 * k + x)))), (5, .int (pwN gr tr k x y)), (4, .int (nI (tmN x y))), (0, .ref (b 0)), (1, .int (nI k)), (2, .int (nI x)), (3, .int (nI y))] dX7_carry_33 (by decide) rfl (q := 35) rfl ?_
  refine g_iload C 3 dX7_carry_35 rfl rfl (q := 37) ?_
  refine g_istore C [(8, .int (nI (tmN x y))), (7, .int (nI (1001 * (7 * (k + 1) + y)))), (6, .int (nI (1001 * (7 * k + x)))), (5, .int (pwN gr tr k x y)), (4, .int (nI (tmN x y))), (0, .ref (b 0)), (1, .int (nI k)), (2, .int (nI x)), (3, .int (nI y))] dX7_carry_37 (by decide) rfl (q := 39) rfl ?_
  have lp_39 : ∀ (N : Nat) (q : Nat) (g : Nat → Int32), (q ≤ 1001) → (tmN x y ≤ q) → (∀ t, t < 1001 → g ((1001 * (7 * k + x)) + t) = if t < q then (cryV lea (1001 * (7 * k + x)) (1001 * (7 * (k + 1) + y)) (tmN x y) (pwN gr tr k x y)) t else lea ((1001 * (7 * k + x)) + t)) → (∀ j, (j < (1001 * (7 * k + x)) ∨ (1001 * (7 * k + x)) + 1001 ≤ j) → g j = lea j) → 1001 - q < N → G 0 0 (wM cI cJ cZ b (nI n) gr li st tr (nI t) sd g pa pt pp su sh tt) [(8, .int (nI q)), (7, .int (nI (1001 * (7 * (k + 1) + y)))), (6, .int (nI (1001 * (7 * k + x)))), (5, .int (pwN gr tr k x y)), (4, .int (nI (tmN x y))), (0, .ref (b 0)), (1, .int (nI k)), (2, .int (nI x)), (3, .int (nI y))] 39 [] := by
    intro N
    induction N with
    | zero => intro q g _ _ _ _ hmu; exact absurd hmu (Nat.not_lt_zero _)
    | succ N ih_39 =>
      intro q g hq hq2 hg hg2 hmu
      refine g_iload C 0 dX7_carry_39 rfl rfl (q := 41) ?_
      refine g_sipush C (nI 1001) dX7_carry_41 (by decide) (q := 44) rfl ?_
      refine g_icmp_ge C (t := 108) dX7_carry_44 (by decide) (q := 47) rfl (fun c_44 => ?_) (fun c_44 => ?_)
      · rw [nI_leI (by omega) (by omega)] at c_44
        exact hret g 108 _ dX7_carry_108 (⟨fun t ht => (hg t ht).trans (if_pos (by omega)), hg2⟩)
      · rw [nI_leI (by omega) (by omega)] at c_44
        refine g_aload_n C 5 dX7_carry_47 rfl rfl rfl (q := 48) ?_
        refine g_get C 0 7 dX7_carry_48 (Cn := RX7) (T := TX7) (N := 14) (fun _ h => List.mem_cons_of_mem _ (List.mem_append_right _ h)) rfl rfl (by decide) (List.mem_cons_of_mem _ (List.mem_append_left _ (List.mem_of_getElem? (i := 0) rfl))) rfl (q := 51) rfl ?_
        refine g_iload C 1 dX7_carry_51 rfl rfl (q := 53) ?_
        refine g_iload C 0 dX7_carry_53 rfl rfl (q := 55) ?_
        refine g_iadd C dX7_carry_55 (q := 56) rfl ?_
        refine g_eqi C (y := nI ((1001 * (7 * (k + 1) + y)) + q)) (nI_add (1001 * (7 * (k + 1) + y)) q) ?_
        refine g_iload C 4 dX7_carry_56 rfl rfl (q := 58) ?_
        refine g_isub C dX7_carry_58 (q := 59) rfl ?_
        refine g_eqi C (y := nI (((1001 * (7 * (k + 1) + y)) + q) - (tmN x y))) (pk_sub (by omega)) ?_
        refine g_iald C 6 0 dX7_carry_59 rfl rfl (vp_in_nI (by omega) (by decide)) (q := 60) rfl ?_
        refine g_eqi C (y := g (((1001 * (7 * (k + 1) + y)) + q) - (tmN x y))) (by rw [nI_clamp (by omega)]) ?_
        refine g_eqi C (y := lea ((1001 * (7 * (k + 1) + y)) + q - tmN x y)) (hg2 _ (Or.inr (by omega))) ?_
        refine g_istore C [(9, .int (lea ((1001 * (7 * (k + 1) + y)) + q - tmN x y))), (8, .int (nI q)), (7, .int (nI (1001 * (7 * (k + 1) + y)))), (6, .int (nI (1001 * (7 * k + x)))), (5, .int (pwN gr tr k x y)), (4, .int (nI (tmN x y))), (0, .ref (b 0)), (1, .int (nI k)), (2, .int (nI x)), (3, .int (nI y))] dX7_carry_60 (by decide) rfl (q := 62) rfl ?_
        refine g_iload C 0 dX7_carry_62 rfl rfl (q := 64) ?_
        refine g_ldc C (v := (100000000)) dX7_carry_64 (List.mem_cons_of_mem _ (List.mem_append_left _ (List.mem_of_getElem? (i := 1) rfl))) (q := 66) rfl ?_
        refine g_icmp_ge C (t := 102) dX7_carry_66 (by decide) (q := 69) rfl (fun c_66 => ?_) (fun c_66 => ?_)
        · refine g_iinc C (z := 1) (nI (q + 1)) [(8, .int (nI (q + 1))), (9, .int (lea ((1001 * (7 * (k + 1) + y)) + q - tmN x y))), (7, .int (nI (1001 * (7 * (k + 1) + y)))), (6, .int (nI (1001 * (7 * k + x)))), (5, .int (pwN gr tr k x y)), (4, .int (nI (tmN x y))), (0, .ref (b 0)), (1, .int (nI k)), (2, .int (nI x)), (3, .int (nI y))] dX7_carry_102 rfl (nI_add q 1) (by decide) rfl (q := 105) rfl ?_
          refine g_goto C (q := 39) dX7_carry_105 (by decide) ?_
          refine g_locs C [(8, .int (nI (q + 1))), (7, .int (nI (1001 * (7 * (k + 1) + y)))), (6, .int (nI (1001 * (7 * k + x)))), (5, .int (pwN gr tr k x y)), (4, .int (nI (tmN x y))), (0, .ref (b 0)), (1, .int (nI k)), (2, .int (nI x)), (3, .int (nI y))] [0, 2, 3, 4, 5, 6, 7, 8, 9] rfl ?_
          exact ih_39 (q + 1) g (by first | assumption | omega) (by first | assumption | omega) (by first | exact cry_set hg (cry_c c_66 c_84 hq2) | exact cry_keep hg (cry_a c_66) | exact cry_keep hg (cry_b c_84)) (by first | exact hg2 | exact (fun j hj => (pk_un (by omega)).trans (hg2 j hj))) (by omega)
        · refine g_iload C 4 dX7_carry_69 rfl rfl (q := 71) ?_
          refine g_iload C 0 dX7_carry_71 rfl rfl (q := 73) ?_
          refine g_iadd C dX7_carry_73 (q := 74) rfl ?_
          refine g_aload_n C 6 dX7_carry_74 rfl rfl rfl (q := 75) ?_
          refine g_get C 0 7 dX7_carry_75 (Cn := RX7) (T := TX7) (N := 14) (fun _ h => List.mem_cons_of_mem _ (List.mem_append_right _ h)) rfl rfl (by decide) (List.mem_cons_of_mem _ (List.mem_append_left _ (List.mem_of_getElem? (i := 0) rfl))) rfl (q := 78) rfl ?_
          refine g_iload C 3 dX7_carry_78 rfl rfl (q := 80) ?_
          refine g_iload C 1 dX7_carry_80 rfl rfl (q := 82) ?_
          refine g_iadd C dX7_carry_82 (q := 83) rfl ?_
          refine g_eqi C (y := nI ((1001 * (7 * k + x)) + q)) (nI_add (1001 * (7 * k + x)) q) ?_
          refine g_iald C 6 0 dX7_carry_83 rfl rfl (vp_in_nI (by omega) (by decide)) (q := 84) rfl ?_
          refine g_eqi C (y := g ((1001 * (7 * k + x)) + q)) (by rw [nI_clamp (by omega)]) ?_
          refine g_eqi C (y := lea ((1001 * (7 * k + x)) + q)) ((hg q (by omega)).trans (if_neg (by omega))) ?_
          refine g_icmp_ge C (t := 102) dX7_carry_84 (by decide) (q := 87) rfl (fun c_84 => ?_) (fun c_84 => ?_)
          · refine g_iinc C (z := 1) (nI (q + 1)) [(8, .int (nI (q + 1))), (9, .int (lea ((1001 * (7 * (k + 1) + y)) + q - tmN x y))), (7, .int (nI (1001 * (7 * (k + 1) + y)))), (6, .int (nI (1001 * (7 * k + x)))), (5, .int (pwN gr tr k x y)), (4, .int (nI (tmN x y))), (0, .ref (b 0)), (1, .int (nI k)), (2, .int (nI x)), (3, .int (nI y))] dX7_carry_102 rfl (nI_add q 1) (by decide) rfl (q := 105) rfl ?_
            refine g_goto C (q := 39) dX7_carry_105 (by decide) ?_
            refine g_locs C [(8, .int (nI (q + 1))), (7, .int (nI (1001 * (7 * (k + 1) + y)))), (6, .int (nI (1001 * (7 * k + x)))), (5, .int (pwN gr tr k x y)), (4, .int (nI (tmN x y))), (0, .ref (b 0)), (1, .int (nI k)), (2, .int (nI x)), (3, .int (nI y))] [0, 2, 3, 4, 5, 6, 7, 8, 9] rfl ?_
            exact ih_39 (q + 1) g (by first | assumption | omega) (by first | assumption | omega) (by first | exact cry_set hg (cry_c c_66 c_84 hq2) | exact cry_keep hg (cry_a c_66) | exact cry_keep hg (cry_b c_84)) (by first | exact hg2 | exact (fun j hj => (pk_un (by omega)).trans (hg2 j hj))) (by omega)
          · refine g_aload_n C 6 dX7_carry_87 rfl rfl rfl (q := 88) ?_
            refine g_get C 0 7 dX7_carry_88 (Cn := RX7) (T := TX7) (N := 14) (fun _ h => List.mem_cons_of_mem _ (List.mem_append_right _ h)) rfl rfl (by decide) (List.mem_cons_of_mem _ (List.mem_append_left _ (List.mem_of_getElem? (i := 0) rfl))) rfl (q := 91) rfl ?_
            refine g_iload C 3 dX7_carry_91 rfl rfl (q := 93) ?_
            refine g_iload C 1 dX7_carry_93 rfl rfl (q := 95) ?_
            refine g_iadd C dX7_carry_95 (q := 96) rfl ?_
            refine g_eqi C (y := nI ((1001 * (7 * k + x)) + q)) (nI_add (1001 * (7 * k + x)) q) ?_
            refine g_iload C 4 dX7_carry_96 rfl rfl (q := 98) ?_
            refine g_iload C 0 dX7_carry_98 rfl rfl (q := 100) ?_
            refine g_iadd C dX7_carry_100 (q := 101) rfl ?_
            refine g_iast C 6 0 (wM cI cJ cZ b (nI n) gr li st tr (nI t) sd (upd g ((1001 * (7 * k + x)) + q) ((pwN gr tr k x y) + (lea ((1001 * (7 * (k + 1) + y)) + q - tmN x y)))) pa pt pp su sh tt) dX7_carry_101 rfl rfl (vp_in_nI (by omega) (by decide)) (by rw [nI_clamp (by omega)]; rfl) (q := 102) rfl ?_
            refine g_iinc C (z := 1) (nI (q + 1)) [(8, .int (nI (q + 1))), (9, .int (lea ((1001 * (7 * (k + 1) + y)) + q - tmN x y))), (7, .int (nI (1001 * (7 * (k + 1) + y)))), (6, .int (nI (1001 * (7 * k + x)))), (5, .int (pwN gr tr k x y)), (4, .int (nI (tmN x y))), (0, .ref (b 0)), (1, .int (nI k)), (2, .int (nI x)), (3, .int (nI y))] dX7_carry_102 rfl (nI_add q 1) (by decide) rfl (q := 105) rfl ?_
            refine g_goto C (q := 39) dX7_carry_105 (by decide) ?_
            refine g_locs C [(8, .int (nI (q + 1))), (7, .int (nI (1001 * (7 * (k + 1) + y)))), (6, .int (nI (1001 * (7 * k + x)))), (5, .int (pwN gr tr k x y)), (4, .int (nI (tmN x y))), (0, .ref (b 0)), (1, .int (nI k)), (2, .int (nI x)), (3, .int (nI y))] [0, 2, 3, 4, 5, 6, 7, 8, 9] rfl ?_
            exact ih_39 (q + 1) (upd g ((1001 * (7 * k + x)) + q) ((pwN gr tr k x y) + (lea ((1001 * (7 * (k + 1) + y)) + q - tmN x y)))) (by first | assumption | omega) (by first | assumption | omega) (by first | exact cry_set hg (cry_c c_66 c_84 hq2) | exact cry_keep hg (cry_a c_66) | exact cry_keep hg (cry_b c_84)) (by first | exact hg2 | exact (fun j hj => (pk_un (by omega)).trans (hg2 j hj))) (by omega)
  exact lp_39 _ (tmN x y) lea (by first | assumption | omega) (by first | assumption | omega) (fun t ht => by by_cases e : t < tmN x y; (rw [if_pos e, cry_d e]); (rw [if_neg e])) (fun _ _ => rfl) (Nat.lt_succ_self _)
set_option maxHeartbeats 4000000 in
set_option maxRecDepth 100000 in
theorem c_X7_work (l : Launch) (D : va_G) (cI cJ cZ : ClassId) (b : Nat → Nat) (n : Nat) (gr li st tr : Nat → Int32) (t : Nat) (sd lea : Nat → Int32) (pa : Int32) (pt pp : Nat → Int32) (su : Int32) (sh tt : Nat → Int32) (j : Nat) (sp : Nat → Int32) (m : Nat) (hL : LInv st sp n m) (hj : j < m) (hT : TrOK tr) : Met l yX7_work wsX7_work { frames := 3, cells := 0, slots := 0, locals := 76 } (gPc D (tyT cI cJ cZ) (wB b) FT (wM cI cJ cZ b (nI n) gr li st tr (nI t) sd lea pa pt pp su sh tt) [.ref (b 0), .int (nI j)]) (va_Qv (fun (u : (Nat → Int32)) => WIa (okM gr li tr) (pwM gr tr) (posOf st j n) (posOf st (j + 1) n) (posOf st j n) u ∧ WIc (okM gr li tr) (pwM gr tr) (posOf st j n) (posOf st (j + 1) n) u) (fun u tS => va_P D vwCl ((fun (u : (Nat → Int32)) => wM cI cJ cZ b (nI n) gr li st tr (nI t) sd u pa pt pp su sh tt) u) tS.heap ∧ va_D (wB b) ((fun (u : (Nat → Int32)) => wM cI cJ cZ b (nI n) gr li st tr (nI t) sd u pa pt pp su sh tt) u)) (wB b)) 0 0 (wB b) := by
  refine gs_qv (cc := cX7_work) (nL := 7) (W' := fun (u : (Nat → Int32)) => wM cI cJ cZ b (nI n) gr li st tr (nI t) sd u pa pt pp su sh tt) (by decide) rfl (Nat.le_of_ble_eq_true rfl) (fun G C hret => ?_)
  show G 0 0 (wM cI cJ cZ b (nI n) gr li st tr (nI t) sd lea pa pt pp su sh tt) [(0, .ref (b 0)), (1, .int (nI j))] 0 []
  have hn := hL.2.1
  have hmn := hL.m_le
  refine g_aload_n C 0 dX7_work_0 rfl rfl rfl (q := 1) ?_
  refine g_iload_n C 1 dX7_work_1 rfl rfl rfl (q := 2) ?_
  refine gcV_si C (n := 1) (As := [.int (nI j)]) (st := []) 0 (fun h => h) dX7_work_2 rfl rfl gX7_work_X7_firstOf (c_X7_firstOf l D cI cJ cZ b n gr li st tr t sd lea pa pt pp su sh tt j sp m hL (by omega)) rfl rfl rfl (by decide +kernel) ⟨Nat.le_of_ble_eq_true rfl, Nat.le_of_ble_eq_true rfl⟩ rfl rfl (Nat.le_of_ble_eq_true rfl) FT_b FT_h ⟨Nat.le_of_ble_eq_true rfl, Nat.le_of_ble_eq_true rfl⟩ (q := 5) rfl (fun r_2 h_2 => ?_)
  subst h_2
  refine g_istore_n C [(2, .int (nI (posOf st j n))), (0, .ref (b 0)), (1, .int (nI j))] dX7_work_5 rfl (by decide) rfl (q := 6) rfl ?_
  refine g_aload_n C 1 dX7_work_6 rfl rfl rfl (q := 7) ?_
  refine g_iload_n C 2 dX7_work_7 rfl rfl rfl (q := 8) ?_
  refine gcV_si C (n := 1) (As := [.int (nI j)]) (st := []) 0 (fun h => h) dX7_work_8 rfl rfl gX7_work_X7_endOf (c_X7_endOf l D cI cJ cZ b n gr li st tr t sd lea pa pt pp su sh tt j sp m hL hj) rfl rfl rfl (by decide +kernel) ⟨Nat.le_of_ble_eq_true rfl, Nat.le_of_ble_eq_true rfl⟩ rfl rfl (Nat.le_of_ble_eq_true rfl) FT_b FT_h ⟨Nat.le_of_ble_eq_true rfl, Nat.le_of_ble_eq_true rfl⟩ (q := 11) rfl (fun r_8 h_8 => ?_)
  subst h_8
  refine g_istore_n C [(3, .int (nI (posOf st (j + 1) n))), (2, .int (nI (posOf st j n))), (0, .ref (b 0)), (1, .int (nI j))] dX7_work_11 rfl (by decide) rfl (q := 12) rfl ?_
  obtain ⟨P, hP⟩ : ∃ P, P = posOf st j n := ⟨_, rfl⟩
  obtain ⟨Q, hQ⟩ : ∃ Q, Q = posOf st (j + 1) n := ⟨_, rfl⟩
  rw [← hP, ← hQ]
  have hPQ : P < Q := by rw [hP, hQ]; exact hL.mono hj
  have hQ16 : Q ≤ 16 := by rw [hQ]; exact Nat.le_trans (hL.pos (by omega)).1 hL.2.1
  refine g_iload_n C 1 dX7_work_12 rfl rfl rfl (q := 13) ?_
  refine g_istore C [(4, .int (nI P)), (3, .int (nI Q)), (2, .int (nI P)), (0, .ref (b 0)), (1, .int (nI j))] dX7_work_13 (by decide) rfl (q := 15) rfl ?_
  have lp_15 : ∀ (N : Nat) (k : Nat) (g : Nat → Int32), (P ≤ k) → (k ≤ Q + 1) → (∀ i, 1001 * (7 * P + 0) ≤ i → i < 1001 * (7 * k + 0) → g i = 100000000) → Q + 1 - k < N → G 0 0 (wM cI cJ cZ b (nI n) gr li st tr (nI t) sd g pa pt pp su sh tt) [(4, .int (nI k)), (3, .int (nI Q)), (2, .int (nI P)), (0, .ref (b 0)), (1, .int (nI j))] 15 [] := by
    intro N
    induction N with
    | zero => intro k g _ _ _ hmu; exact absurd hmu (Nat.not_lt_zero _)
    | succ N ih_15 =>
      intro k g hk1 hk2 hz hmu
      refine g_iload C 0 dX7_work_15 rfl rfl (q := 17) ?_
      refine g_iload_n C 1 dX7_work_17 rfl rfl rfl (q := 18) ?_
      refine g_icmp_gt C (t := 65) dX7_work_18 (by decide) (q := 21) rfl (fun c_18 => ?_) (fun c_18 => ?_)
      · rw [nI_ltI (by omega) (by omega)] at c_18
        obtain rfl : k = Q + 1 := by omega
        refine g_aload_n C 3 dX7_work_65 rfl rfl rfl (q := 66) ?_
        refine g_get C 0 7 dX7_work_66 (Cn := RX7) (T := TX7) (N := 14) (fun _ h => List.mem_cons_of_mem _ (List.mem_append_right _ h)) rfl rfl (by decide) (List.mem_cons_of_mem _ (List.mem_append_left _ (List.mem_of_getElem? (i := 0) rfl))) rfl (q := 69) rfl ?_
        refine g_aload_n C 3 dX7_work_69 rfl rfl rfl (q := 70) ?_
        refine g_iload_n C 1 dX7_work_70 rfl rfl rfl (q := 71) ?_
        refine g_iconst C (nI 0) dX7_work_71 (by decide) (q := 72) rfl ?_
        refine gcV_si C (n := 2) (As := [.int (nI Q), .int (nI 0)]) (st := [.ref (b 6)]) 0 (fun h => h) dX7_work_72 rfl rfl gX7_work_X7_place (c_X7_place l D cI cJ cZ b n gr li st tr t sd g pa pt pp su sh tt Q 0) rfl rfl rfl (by decide +kernel) ⟨Nat.le_of_ble_eq_true rfl, Nat.le_of_ble_eq_true rfl⟩ rfl rfl (Nat.le_of_ble_eq_true rfl) FT_b FT_h ⟨Nat.le_of_ble_eq_true rfl, Nat.le_of_ble_eq_true rfl⟩ (q := 75) rfl (fun r_72 h_72 => ?_)
        subst h_72
        refine g_iconst C (nI 0) dX7_work_75 (by decide) (q := 76) rfl ?_
        refine g_iast C 6 0 (wM cI cJ cZ b (nI n) gr li st tr (nI t) sd (upd g (1001 * (7 * Q + 0)) (nI 0)) pa pt pp su sh tt) dX7_work_76 rfl rfl (vp_in_nI (by omega) (by decide)) (by rw [nI_clamp (by omega)]; rfl) (q := 77) rfl ?_
        refine g_iload_n C 1 dX7_work_77 rfl rfl rfl (q := 78) ?_
        refine g_iconst C (nI 1) dX7_work_78 (by decide) (q := 79) rfl ?_
        refine g_isub C dX7_work_79 (q := 80) rfl ?_
        refine g_eqi C (y := nI (P + (Q - P)) + (-1)) ((pk_sub (by omega)).trans (by rw [show P + (Q - P) = (Q - 1) + 1 by omega, pk_m1])) ?_
        refine g_istore C [(4, .int (nI (P + (Q - P)) + (-1))), (3, .int (nI Q)), (2, .int (nI P)), (0, .ref (b 0)), (1, .int (nI j))] dX7_work_80 (by decide) rfl (q := 82) rfl ?_
        have lp_82 : ∀ (N : Nat) (r : Nat) (f : Nat → Int32), (P + r ≤ Q) → (WIa (okM gr li tr) (pwM gr tr) P Q (P + r) f) → (WIb P (P + r) f) → (r = 0 → WIc (okM gr li tr) (pwM gr tr) P Q f) → r < N → G 0 0 (wM cI cJ cZ b (nI n) gr li st tr (nI t) sd f pa pt pp su sh tt) [(4, .int (nI (P + r) + (-1))), (3, .int (nI Q)), (2, .int (nI P)), (0, .ref (b 0)), (1, .int (nI j))] 82 [] := by
          intro N
          induction N with
          | zero => intro r f _ _ _ _ hmu; exact absurd hmu (Nat.not_lt_zero _)
          | succ N ih_82 =>
            intro r f hr ha hb hc hmu
            refine g_iload C 0 dX7_work_82 rfl rfl (q := 84) ?_
            refine g_iload_n C 2 dX7_work_84 rfl rfl rfl (q := 85) ?_
            refine g_icmp_lt C (t := 193) dX7_work_85 (by decide) (q := 88) rfl (fun c_85 => ?_) (fun c_85 => ?_)
            · exact hret f 193 _ dX7_work_193 (by obtain rfl : r = 0 := (by rw [dn_iff (by omega)] at c_85; exact c_85); subst hP; subst hQ; exact ⟨ha, hc rfl⟩)
            · obtain ⟨r1, rfl⟩ : ∃ r1, r = r1 + 1 := ⟨r - 1, by rw [dn_iff (by omega)] at c_85; omega⟩
              refine g_lset C (z := 0) (y := nI (P + r1)) [(4, .int (nI (P + r1))), (3, .int (nI Q)), (2, .int (nI P)), (0, .ref (b 0)), (1, .int (nI j))] rfl (pk_m1 (P + r1)) rfl ?_
              refine g_iload C 0 dX7_work_88 rfl rfl (q := 90) ?_
              refine g_iload_n C 2 dX7_work_90 rfl rfl rfl (q := 91) ?_
              refine g_icmp_ne C (t := 98) dX7_work_91 (by decide) (q := 94) rfl (fun c_91 => ?_) (fun c_91 => ?_)
              · rw [nI_eq (by omega) (by omega)] at c_91
                refine g_iconst C (nI 1) dX7_work_98 (by decide) (q := 99) rfl ?_
                refine g_istore C [(5, .int (nI 1)), (4, .int (nI (P + r1))), (3, .int (nI Q)), (2, .int (nI P)), (0, .ref (b 0)), (1, .int (nI j))] dX7_work_99 (by decide) rfl (q := 101) rfl ?_
                have lp_101 : ∀ (N : Nat) (x : Nat) (f2 : Nat → Int32), (1 ≤ x) → (x ≤ 7) → (WR (okM gr li tr) (pwM gr tr) Q (P + r1) 1 x f2) → (WIa (okM gr li tr) (pwM gr tr) P Q ((P + r1) + 1) f2) → (WIb P (P + r1) f2) → 7 - x < N → G 0 0 (wM cI cJ cZ b (nI n) gr li st tr (nI t) sd f2 pa pt pp su sh tt) [(5, .int (nI x)), (4, .int (nI (P + r1))), (3, .int (nI Q)), (2, .int (nI P)), (0, .ref (b 0)), (1, .int (nI j))] 101 [] := by
                  intro N
                  induction N with
                  | zero => intro x f2 _ _ _ _ _ hmu; exact absurd hmu (Nat.not_lt_zero _)
                  | succ N ih_101 =>
                    intro x f2 hx1 hx2 hR ha2 hb2 hmu
                    refine g_iload C 0 dX7_work_101 rfl rfl (q := 103) ?_
                    refine g_iload C 1 dX7_work_103 rfl rfl (q := 105) ?_
                    refine g_iload_n C 3 dX7_work_105 rfl rfl rfl (q := 106) ?_
                    refine g_icmp_ne C (t := 113) dX7_work_106 (by decide) (q := 109) rfl (fun c_106 => ?_) (fun c_106 => ?_)
                    · rw [nI_eq (by omega) (by omega)] at c_106
                      refine g_bipush C (nI 6) dX7_work_113 (by decide) (q := 115) rfl ?_
                      refine g_icmp_gt C (t := 187) dX7_work_115 (by decide) (q := 118) rfl (fun c_115 => ?_) (fun c_115 => ?_)
                      · rw [nI_ltI (by omega) (by omega)] at c_115
                        obtain rfl : x = 7 := by omega
                        refine g_iinc C (z := 1) ((nI (P + r1)) + (-1)) [(4, .int ((nI (P + r1)) + (-1))), (5, .int (nI 7)), (3, .int (nI Q)), (2, .int (nI P)), (0, .ref (b 0)), (1, .int (nI j))] dX7_work_187 rfl rfl (by decide) rfl (q := 190) rfl ?_
                        refine g_goto C (q := 82) dX7_work_190 (by decide) ?_
                        refine g_locs C [(4, .int ((nI (P + r1)) + (-1))), (3, .int (nI Q)), (2, .int (nI P)), (0, .ref (b 0)), (1, .int (nI j))] [0, 2, 3, 4, 5] rfl ?_
                        exact ih_82 r1 f2 (by first | assumption | omega) (by first | exact WIa_next (by omega) ha2 (fun _ => hR) | exact WIa_next (by omega) ha2 (fun h => absurd c_91 (by omega))) hb2 (by intro h; first | exact absurd (show P + r1 = P by omega) c_91 | (subst h; exact WIc_of hR)) (by omega)
                      · rw [nI_ltI (by omega) (by omega)] at c_115
                        refine g_iload C 1 dX7_work_118 rfl rfl (q := 120) ?_
                        refine g_iconst C (nI 1) dX7_work_120 (by decide) (q := 121) rfl ?_
                        refine g_iadd C dX7_work_121 (q := 122) rfl ?_
                        refine g_eqi C (y := nI ((P + r1) + 1)) (nI_add (P + r1) 1) ?_
                        refine g_iload_n C 2 dX7_work_122 rfl rfl rfl (q := 123) ?_
                        refine g_icmp_ne C (t := 130) dX7_work_123 (by decide) (q := 126) rfl (fun c_123 => ?_) (fun c_123 => ?_)
                        · rw [nI_eq (by omega) (by omega)] at c_123
                          refine g_iconst C (nI 1) dX7_work_130 (by decide) (q := 131) rfl ?_
                          refine g_istore C [(6, .int (nI 1)), (5, .int (nI x)), (4, .int (nI (P + r1))), (3, .int (nI Q)), (2, .int (nI P)), (0, .ref (b 0)), (1, .int (nI j))] dX7_work_131 (by decide) rfl (q := 133) rfl ?_
                          have lp_133 : ∀ (N : Nat) (i : Nat) (f3 : Nat → Int32), (i ≤ 6) → (WX (okM gr li tr) (pwM gr tr) Q (P + r1) 1 x 1 i f3) → (WIa (okM gr li tr) (pwM gr tr) P Q ((P + r1) + 1) f3) → (WIb P (P + r1) f3) → 6 - i < N → G 0 0 (wM cI cJ cZ b (nI n) gr li st tr (nI t) sd f3 pa pt pp su sh tt) [(6, .int (nI (1 + i))), (5, .int (nI x)), (4, .int (nI (P + r1))), (3, .int (nI Q)), (2, .int (nI P)), (0, .ref (b 0)), (1, .int (nI j))] 133 [] := by
                            intro N
                            induction N with
                            | zero => intro i f3 _ _ _ _ hmu; exact absurd hmu (Nat.not_lt_zero _)
                            | succ N ih_133 =>
                              intro i f3 hi hX ha3 hb3 hmu
                              refine g_iload C 0 dX7_work_133 rfl rfl (q := 135) ?_
                              refine g_iload C 2 dX7_work_135 rfl rfl (q := 137) ?_
                              refine g_iconst C (nI 1) dX7_work_137 (by decide) (q := 138) rfl ?_
                              refine g_iadd C dX7_work_138 (q := 139) rfl ?_
                              refine g_eqi C (y := nI ((P + r1) + 1)) (nI_add (P + r1) 1) ?_
                              refine g_iload_n C 3 dX7_work_139 rfl rfl rfl (q := 140) ?_
                              refine g_icmp_ne C (t := 147) dX7_work_140 (by decide) (q := 143) rfl (fun c_140 => ?_) (fun c_140 => ?_)
                              · rw [nI_eq (by omega) (by omega)] at c_140
                                refine g_bipush C (nI 6) dX7_work_147 (by decide) (q := 149) rfl ?_
                                refine g_icmp_gt C (t := 181) dX7_work_149 (by decide) (q := 152) rfl (fun c_149 => ?_) (fun c_149 => ?_)
                                · rw [nI_ltI (by omega) (by omega)] at c_149
                                  obtain rfl : i = 6 := by omega
                                  refine g_iinc C (z := 1) (nI (x + 1)) [(5, .int (nI (x + 1))), (6, .int (nI (1 + 6))), (4, .int (nI (P + r1))), (3, .int (nI Q)), (2, .int (nI P)), (0, .ref (b 0)), (1, .int (nI j))] dX7_work_181 rfl (nI_add x 1) (by decide) rfl (q := 184) rfl ?_
                                  refine g_goto C (q := 101) dX7_work_184 (by decide) ?_
                                  refine g_locs C [(5, .int (nI (x + 1))), (4, .int (nI (P + r1))), (3, .int (nI Q)), (2, .int (nI P)), (0, .ref (b 0)), (1, .int (nI j))] [0, 2, 3, 4, 5, 6] rfl ?_
                                  exact ih_101 (x + 1) f3 (by first | assumption | omega) (by first | assumption | omega) (WX_WR (by omega) hx1 (by first | (rw [if_pos c_123, if_pos c_123]; exact hX) | (rw [if_neg c_123, if_neg c_123]; exact hX))) ha3 hb3 (by omega)
                                · rw [nI_ltI (by omega) (by omega)] at c_149
                                  refine g_aload_n C 5 dX7_work_152 rfl rfl rfl (q := 153) ?_
                                  refine g_iload C 2 dX7_work_153 rfl rfl (q := 155) ?_
                                  refine g_iload C 1 dX7_work_155 rfl rfl (q := 157) ?_
                                  refine g_iload C 0 dX7_work_157 rfl rfl (q := 159) ?_
                                  refine gcV_si C (n := 3) (As := [.int (nI (P + r1)), .int (nI x), .int (nI (1 + i))]) (st := []) 0 (fun h => h) dX7_work_159 rfl rfl gX7_work_X7_faultOf (c_X7_faultOf l D cI cJ cZ b n gr li st tr t sd f3 pa pt pp su sh tt (P + r1) x (1 + i) (by first | assumption | omega) (by first | assumption | omega) (by first | assumption | omega)) rfl rfl rfl (by decide +kernel) ⟨Nat.le_of_ble_eq_true rfl, Nat.le_of_ble_eq_true rfl⟩ rfl rfl (Nat.le_of_ble_eq_true rfl) FT_b FT_h ⟨Nat.le_of_ble_eq_true rfl, Nat.le_of_ble_eq_true rfl⟩ (q := 162) rfl (fun r_159 h_159 => ?_)
                                  subst h_159
                                  refine g_if_ne C (t := 175) dX7_work_162 (by decide) (q := 165) rfl (fun c_162 => ?_) (fun c_162 => ?_)
                                  · refine g_iinc C (z := 0) (nI ((1 + i) + 1)) [(6, .int (nI ((1 + i) + 1))), (5, .int (nI x)), (4, .int (nI (P + r1))), (3, .int (nI Q)), (2, .int (nI P)), (0, .ref (b 0)), (1, .int (nI j))] dX7_work_175 rfl (nI_add (1 + i) 1) (by decide) rfl (q := 178) rfl ?_
                                    refine g_goto C (q := 133) dX7_work_178 (by decide) ?_
                                    exact ih_133 (i + 1) f3 (by first | assumption | omega) (by first | exact WX_yes hT hQ16 (by omega) (by omega) (by omega) (by omega) (by omega) (okM_t c_162) ha3 hX h_172.1 h_172.2 | exact WX_no (okM_f c_162) hX) (by first | exact WIa_keep (by omega) ha3 h_172.2 | exact ha3) (by first | exact WIb_keep hb3 h_172.2 | exact hb3) (by omega)
                                  · have hxy := fl_nz c_162
                                    refine g_aload_n C 5 dX7_work_165 rfl rfl rfl (q := 166) ?_
                                    refine g_iload C 2 dX7_work_166 rfl rfl (q := 168) ?_
                                    refine g_iload C 1 dX7_work_168 rfl rfl (q := 170) ?_
                                    refine g_iload C 0 dX7_work_170 rfl rfl (q := 172) ?_
                                    refine gcV_qv C (n := 3) (As := [.int (nI (P + r1)), .int (nI x), .int (nI (1 + i))]) (st := []) 0 (fun h => h) (fun _ h => h) dX7_work_172 rfl rfl gX7_work_X7_carry (c_X7_carry l D cI cJ cZ b n gr li st tr t sd f3 pa pt pp su sh tt (P + r1) x (1 + i) (by first | assumption | omega) (by first | assumption | omega) (by first | assumption | omega) (by first | assumption | omega)) rfl rfl rfl (by decide +kernel) ⟨Nat.le_of_ble_eq_true rfl, Nat.le_of_ble_eq_true rfl⟩ rfl rfl (Nat.le_of_ble_eq_true rfl) FT_b FT_h ⟨Nat.le_of_ble_eq_true rfl, Nat.le_of_ble_eq_true rfl⟩ (q := 175) rfl (fun u_172 h_172 => ?_)
                                    have h_172 : (∀ t, t < 1001 → u_172 (1001 * (7 * (P + r1) + x) + t) = cryV f3 (1001 * (7 * (P + r1) + x)) (1001 * (7 * ((P + r1) + 1) + (1 + i))) (tmN x (1 + i)) (pwN gr tr (P + r1) x (1 + i)) t) ∧ ∀ j, (j < 1001 * (7 * (P + r1) + x) ∨ 1001 * (7 * (P + r1) + x) + 1001 ≤ j) → u_172 j = f3 j := h_172
                                    show G 0 0 (wM cI cJ cZ b (nI n) gr li st tr (nI t) sd u_172 pa pt pp su sh tt) [(6, .int (nI (1 + i))), (5, .int (nI x)), (4, .int (nI (P + r1))), (3, .int (nI Q)), (2, .int (nI P)), (0, .ref (b 0)), (1, .int (nI j))] 175 []
                                    refine g_iinc C (z := 0) (nI ((1 + i) + 1)) [(6, .int (nI ((1 + i) + 1))), (5, .int (nI x)), (4, .int (nI (P + r1))), (3, .int (nI Q)), (2, .int (nI P)), (0, .ref (b 0)), (1, .int (nI j))] dX7_work_175 rfl (nI_add (1 + i) 1) (by decide) rfl (q := 178) rfl ?_
                                    refine g_goto C (q := 133) dX7_work_178 (by decide) ?_
                                    exact ih_133 (i + 1) u_172 (by first | assumption | omega) (by first | exact WX_yes hT hQ16 (by omega) (by omega) (by omega) (by omega) (by omega) (okM_t c_162) ha3 hX h_172.1 h_172.2 | exact WX_no (okM_f c_162) hX) (by first | exact WIa_keep (by omega) ha3 h_172.2 | exact ha3) (by first | exact WIb_keep hb3 h_172.2 | exact hb3) (by omega)
                              · rw [nI_eq (by omega) (by omega)] at c_140
                                exact absurd c_140 c_123
                          exact lp_133 _ 0 f2 (by first | assumption | omega) (WR_WX hR) ha2 hb2 (Nat.lt_succ_self _)
                        · rw [nI_eq (by omega) (by omega)] at c_123
                          refine g_iconst C (nI 0) dX7_work_126 (by decide) (q := 127) rfl ?_
                          refine g_goto C (q := 131) dX7_work_127 (by decide) ?_
                          refine g_istore C [(6, .int (nI 0)), (5, .int (nI x)), (4, .int (nI (P + r1))), (3, .int (nI Q)), (2, .int (nI P)), (0, .ref (b 0)), (1, .int (nI j))] dX7_work_131 (by decide) rfl (q := 133) rfl ?_
                          have lp_133 : ∀ (N : Nat) (i : Nat) (f3 : Nat → Int32), (i ≤ 1) → (WX (okM gr li tr) (pwM gr tr) Q (P + r1) 1 x 0 i f3) → (WIa (okM gr li tr) (pwM gr tr) P Q ((P + r1) + 1) f3) → (WIb P (P + r1) f3) → 1 - i < N → G 0 0 (wM cI cJ cZ b (nI n) gr li st tr (nI t) sd f3 pa pt pp su sh tt) [(6, .int (nI (0 + i))), (5, .int (nI x)), (4, .int (nI (P + r1))), (3, .int (nI Q)), (2, .int (nI P)), (0, .ref (b 0)), (1, .int (nI j))] 133 [] := by
                            intro N
                            induction N with
                            | zero => intro i f3 _ _ _ _ hmu; exact absurd hmu (Nat.not_lt_zero _)
                            | succ N ih_133 =>
                              intro i f3 hi hX ha3 hb3 hmu
                              refine g_iload C 0 dX7_work_133 rfl rfl (q := 135) ?_
                              refine g_iload C 2 dX7_work_135 rfl rfl (q := 137) ?_
                              refine g_iconst C (nI 1) dX7_work_137 (by decide) (q := 138) rfl ?_
                              refine g_iadd C dX7_work_138 (q := 139) rfl ?_
                              refine g_eqi C (y := nI ((P + r1) + 1)) (nI_add (P + r1) 1) ?_
                              refine g_iload_n C 3 dX7_work_139 rfl rfl rfl (q := 140) ?_
                              refine g_icmp_ne C (t := 147) dX7_work_140 (by decide) (q := 143) rfl (fun c_140 => ?_) (fun c_140 => ?_)
                              · rw [nI_eq (by omega) (by omega)] at c_140
                                exact absurd c_123 c_140
                              · rw [nI_eq (by omega) (by omega)] at c_140
                                refine g_iconst C (nI 0) dX7_work_143 (by decide) (q := 144) rfl ?_
                                refine g_goto C (q := 149) dX7_work_144 (by decide) ?_
                                refine g_icmp_gt C (t := 181) dX7_work_149 (by decide) (q := 152) rfl (fun c_149 => ?_) (fun c_149 => ?_)
                                · rw [nI_ltI (by omega) (by omega)] at c_149
                                  obtain rfl : i = 1 := by omega
                                  refine g_iinc C (z := 1) (nI (x + 1)) [(5, .int (nI (x + 1))), (6, .int (nI (0 + 1))), (4, .int (nI (P + r1))), (3, .int (nI Q)), (2, .int (nI P)), (0, .ref (b 0)), (1, .int (nI j))] dX7_work_181 rfl (nI_add x 1) (by decide) rfl (q := 184) rfl ?_
                                  refine g_goto C (q := 101) dX7_work_184 (by decide) ?_
                                  refine g_locs C [(5, .int (nI (x + 1))), (4, .int (nI (P + r1))), (3, .int (nI Q)), (2, .int (nI P)), (0, .ref (b 0)), (1, .int (nI j))] [0, 2, 3, 4, 5, 6] rfl ?_
                                  exact ih_101 (x + 1) f3 (by first | assumption | omega) (by first | assumption | omega) (WX_WR (by omega) hx1 (by first | (rw [if_pos c_123, if_pos c_123]; exact hX) | (rw [if_neg c_123, if_neg c_123]; exact hX))) ha3 hb3 (by omega)
                                · rw [nI_ltI (by omega) (by omega)] at c_149
                                  refine g_aload_n C 5 dX7_work_152 rfl rfl rfl (q := 153) ?_
                                  refine g_iload C 2 dX7_work_153 rfl rfl (q := 155) ?_
                                  refine g_iload C 1 dX7_work_155 rfl rfl (q := 157) ?_
                                  refine g_iload C 0 dX7_work_157 rfl rfl (q := 159) ?_
                                  refine gcV_si C (n := 3) (As := [.int (nI (P + r1)), .int (nI x), .int (nI (0 + i))]) (st := []) 0 (fun h => h) dX7_work_159 rfl rfl gX7_work_X7_faultOf (c_X7_faultOf l D cI cJ cZ b n gr li st tr t sd f3 pa pt pp su sh tt (P + r1) x (0 + i) (by first | assumption | omega) (by first | assumption | omega) (by first | assumption | omega)) rfl rfl rfl (by decide +kernel) ⟨Nat.le_of_ble_eq_true rfl, Nat.le_of_ble_eq_true rfl⟩ rfl rfl (Nat.le_of_ble_eq_true rfl) FT_b FT_h ⟨Nat.le_of_ble_eq_true rfl, Nat.le_of_ble_eq_true rfl⟩ (q := 162) rfl (fun r_159 h_159 => ?_)
                                  subst h_159
                                  refine g_if_ne C (t := 175) dX7_work_162 (by decide) (q := 165) rfl (fun c_162 => ?_) (fun c_162 => ?_)
                                  · refine g_iinc C (z := 0) (nI ((0 + i) + 1)) [(6, .int (nI ((0 + i) + 1))), (5, .int (nI x)), (4, .int (nI (P + r1))), (3, .int (nI Q)), (2, .int (nI P)), (0, .ref (b 0)), (1, .int (nI j))] dX7_work_175 rfl (nI_add (0 + i) 1) (by decide) rfl (q := 178) rfl ?_
                                    refine g_goto C (q := 133) dX7_work_178 (by decide) ?_
                                    exact ih_133 (i + 1) f3 (by first | assumption | omega) (by first | exact WX_yes hT hQ16 (by omega) (by omega) (by omega) (by omega) (by omega) (okM_t c_162) ha3 hX h_172.1 h_172.2 | exact WX_no (okM_f c_162) hX) (by first | exact WIa_keep (by omega) ha3 h_172.2 | exact ha3) (by first | exact WIb_keep hb3 h_172.2 | exact hb3) (by omega)
                                  · have hxy := fl_nz c_162
                                    refine g_aload_n C 5 dX7_work_165 rfl rfl rfl (q := 166) ?_
                                    refine g_iload C 2 dX7_work_166 rfl rfl (q := 168) ?_
                                    refine g_iload C 1 dX7_work_168 rfl rfl (q := 170) ?_
                                    refine g_iload C 0 dX7_work_170 rfl rfl (q := 172) ?_
                                    refine gcV_qv C (n := 3) (As := [.int (nI (P + r1)), .int (nI x), .int (nI (0 + i))]) (st := []) 0 (fun h => h) (fun _ h => h) dX7_work_172 rfl rfl gX7_work_X7_carry (c_X7_carry l D cI cJ cZ b n gr li st tr t sd f3 pa pt pp su sh tt (P + r1) x (0 + i) (by first | assumption | omega) (by first | assumption | omega) (by first | assumption | omega) (by first | assumption | omega)) rfl rfl rfl (by decide +kernel) ⟨Nat.le_of_ble_eq_true rfl, Nat.le_of_ble_eq_true rfl⟩ rfl rfl (Nat.le_of_ble_eq_true rfl) FT_b FT_h ⟨Nat.le_of_ble_eq_true rfl, Nat.le_of_ble_eq_true rfl⟩ (q := 175) rfl (fun u_172 h_172 => ?_)
                                    have h_172 : (∀ t, t < 1001 → u_172 (1001 * (7 * (P + r1) + x) + t) = cryV f3 (1001 * (7 * (P + r1) + x)) (1001 * (7 * ((P + r1) + 1) + (0 + i))) (tmN x (0 + i)) (pwN gr tr (P + r1) x (0 + i)) t) ∧ ∀ j, (j < 1001 * (7 * (P + r1) + x) ∨ 1001 * (7 * (P + r1) + x) + 1001 ≤ j) → u_172 j = f3 j := h_172
                                    show G 0 0 (wM cI cJ cZ b (nI n) gr li st tr (nI t) sd u_172 pa pt pp su sh tt) [(6, .int (nI (0 + i))), (5, .int (nI x)), (4, .int (nI (P + r1))), (3, .int (nI Q)), (2, .int (nI P)), (0, .ref (b 0)), (1, .int (nI j))] 175 []
                                    refine g_iinc C (z := 0) (nI ((0 + i) + 1)) [(6, .int (nI ((0 + i) + 1))), (5, .int (nI x)), (4, .int (nI (P + r1))), (3, .int (nI Q)), (2, .int (nI P)), (0, .ref (b 0)), (1, .int (nI j))] dX7_work_175 rfl (nI_add (0 + i) 1) (by decide) rfl (q := 178) rfl ?_
                                    refine g_goto C (q := 133) dX7_work_178 (by decide) ?_
                                    exact ih_133 (i + 1) u_172 (by first | assumption | omega) (by first | exact WX_yes hT hQ16 (by omega) (by omega) (by omega) (by omega) (by omega) (okM_t c_162) ha3 hX h_172.1 h_172.2 | exact WX_no (okM_f c_162) hX) (by first | exact WIa_keep (by omega) ha3 h_172.2 | exact ha3) (by first | exact WIb_keep hb3 h_172.2 | exact hb3) (by omega)
                          exact lp_133 _ 0 f2 (by first | assumption | omega) (WR_WX hR) ha2 hb2 (Nat.lt_succ_self _)
                    · rw [nI_eq (by omega) (by omega)] at c_106
                      exact absurd c_106 c_91
                exact lp_101 _ 1 f (by first | assumption | omega) (by first | assumption | omega) (WR_of (by omega) hb) ha (WIb_less hb) (Nat.lt_succ_self _)
              · rw [nI_eq (by omega) (by omega)] at c_91
                refine g_iconst C (nI 0) dX7_work_94 (by decide) (q := 95) rfl ?_
                refine g_goto C (q := 99) dX7_work_95 (by decide) ?_
                refine g_istore C [(5, .int (nI 0)), (4, .int (nI (P + r1))), (3, .int (nI Q)), (2, .int (nI P)), (0, .ref (b 0)), (1, .int (nI j))] dX7_work_99 (by decide) rfl (q := 101) rfl ?_
                have lp_101 : ∀ (N : Nat) (x : Nat) (f2 : Nat → Int32), (0 ≤ x) → (x ≤ 1) → (WR (okM gr li tr) (pwM gr tr) Q (P + r1) 0 x f2) → (WIa (okM gr li tr) (pwM gr tr) P Q ((P + r1) + 1) f2) → (WIb P (P + r1) f2) → 1 - x < N → G 0 0 (wM cI cJ cZ b (nI n) gr li st tr (nI t) sd f2 pa pt pp su sh tt) [(5, .int (nI x)), (4, .int (nI (P + r1))), (3, .int (nI Q)), (2, .int (nI P)), (0, .ref (b 0)), (1, .int (nI j))] 101 [] := by
                  intro N
                  induction N with
                  | zero => intro x f2 _ _ _ _ _ hmu; exact absurd hmu (Nat.not_lt_zero _)
                  | succ N ih_101 =>
                    intro x f2 hx1 hx2 hR ha2 hb2 hmu
                    refine g_iload C 0 dX7_work_101 rfl rfl (q := 103) ?_
                    refine g_iload C 1 dX7_work_103 rfl rfl (q := 105) ?_
                    refine g_iload_n C 3 dX7_work_105 rfl rfl rfl (q := 106) ?_
                    refine g_icmp_ne C (t := 113) dX7_work_106 (by decide) (q := 109) rfl (fun c_106 => ?_) (fun c_106 => ?_)
                    · rw [nI_eq (by omega) (by omega)] at c_106
                      exact absurd c_91 c_106
                    · rw [nI_eq (by omega) (by omega)] at c_106
                      refine g_iconst C (nI 0) dX7_work_109 (by decide) (q := 110) rfl ?_
                      refine g_goto C (q := 115) dX7_work_110 (by decide) ?_
                      refine g_icmp_gt C (t := 187) dX7_work_115 (by decide) (q := 118) rfl (fun c_115 => ?_) (fun c_115 => ?_)
                      · rw [nI_ltI (by omega) (by omega)] at c_115
                        obtain rfl : x = 1 := by omega
                        refine g_iinc C (z := 1) ((nI (P + r1)) + (-1)) [(4, .int ((nI (P + r1)) + (-1))), (5, .int (nI 1)), (3, .int (nI Q)), (2, .int (nI P)), (0, .ref (b 0)), (1, .int (nI j))] dX7_work_187 rfl rfl (by decide) rfl (q := 190) rfl ?_
                        refine g_goto C (q := 82) dX7_work_190 (by decide) ?_
                        refine g_locs C [(4, .int ((nI (P + r1)) + (-1))), (3, .int (nI Q)), (2, .int (nI P)), (0, .ref (b 0)), (1, .int (nI j))] [0, 2, 3, 4, 5] rfl ?_
                        exact ih_82 r1 f2 (by first | assumption | omega) (by first | exact WIa_next (by omega) ha2 (fun _ => hR) | exact WIa_next (by omega) ha2 (fun h => absurd c_91 (by omega))) hb2 (by intro h; first | exact absurd (show P + r1 = P by omega) c_91 | (subst h; exact WIc_of hR)) (by omega)
                      · rw [nI_ltI (by omega) (by omega)] at c_115
                        refine g_iload C 1 dX7_work_118 rfl rfl (q := 120) ?_
                        refine g_iconst C (nI 1) dX7_work_120 (by decide) (q := 121) rfl ?_
                        refine g_iadd C dX7_work_121 (q := 122) rfl ?_
                        refine g_eqi C (y := nI ((P + r1) + 1)) (nI_add (P + r1) 1) ?_
                        refine g_iload_n C 2 dX7_work_122 rfl rfl rfl (q := 123) ?_
                        refine g_icmp_ne C (t := 130) dX7_work_123 (by decide) (q := 126) rfl (fun c_123 => ?_) (fun c_123 => ?_)
                        · rw [nI_eq (by omega) (by omega)] at c_123
                          refine g_iconst C (nI 1) dX7_work_130 (by decide) (q := 131) rfl ?_
                          refine g_istore C [(6, .int (nI 1)), (5, .int (nI x)), (4, .int (nI (P + r1))), (3, .int (nI Q)), (2, .int (nI P)), (0, .ref (b 0)), (1, .int (nI j))] dX7_work_131 (by decide) rfl (q := 133) rfl ?_
                          have lp_133 : ∀ (N : Nat) (i : Nat) (f3 : Nat → Int32), (i ≤ 6) → (WX (okM gr li tr) (pwM gr tr) Q (P + r1) 0 x 1 i f3) → (WIa (okM gr li tr) (pwM gr tr) P Q ((P + r1) + 1) f3) → (WIb P (P + r1) f3) → 6 - i < N → G 0 0 (wM cI cJ cZ b (nI n) gr li st tr (nI t) sd f3 pa pt pp su sh tt) [(6, .int (nI (1 + i))), (5, .int (nI x)), (4, .int (nI (P + r1))), (3, .int (nI Q)), (2, .int (nI P)), (0, .ref (b 0)), (1, .int (nI j))] 133 [] := by
                            intro N
                            induction N with
                            | zero => intro i f3 _ _ _ _ hmu; exact absurd hmu (Nat.not_lt_zero _)
                            | succ N ih_133 =>
                              intro i f3 hi hX ha3 hb3 hmu
                              refine g_iload C 0 dX7_work_133 rfl rfl (q := 135) ?_
                              refine g_iload C 2 dX7_work_135 rfl rfl (q := 137) ?_
                              refine g_iconst C (nI 1) dX7_work_137 (by decide) (q := 138) rfl ?_
                              refine g_iadd C dX7_work_138 (q := 139) rfl ?_
                              refine g_eqi C (y := nI ((P + r1) + 1)) (nI_add (P + r1) 1) ?_
                              refine g_iload_n C 3 dX7_work_139 rfl rfl rfl (q := 140) ?_
                              refine g_icmp_ne C (t := 147) dX7_work_140 (by decide) (q := 143) rfl (fun c_140 => ?_) (fun c_140 => ?_)
                              · rw [nI_eq (by omega) (by omega)] at c_140
                                refine g_bipush C (nI 6) dX7_work_147 (by decide) (q := 149) rfl ?_
                                refine g_icmp_gt C (t := 181) dX7_work_149 (by decide) (q := 152) rfl (fun c_149 => ?_) (fun c_149 => ?_)
                                · rw [nI_ltI (by omega) (by omega)] at c_149
                                  obtain rfl : i = 6 := by omega
                                  refine g_iinc C (z := 1) (nI (x + 1)) [(5, .int (nI (x + 1))), (6, .int (nI (1 + 6))), (4, .int (nI (P + r1))), (3, .int (nI Q)), (2, .int (nI P)), (0, .ref (b 0)), (1, .int (nI j))] dX7_work_181 rfl (nI_add x 1) (by decide) rfl (q := 184) rfl ?_
                                  refine g_goto C (q := 101) dX7_work_184 (by decide) ?_
                                  refine g_locs C [(5, .int (nI (x + 1))), (4, .int (nI (P + r1))), (3, .int (nI Q)), (2, .int (nI P)), (0, .ref (b 0)), (1, .int (nI j))] [0, 2, 3, 4, 5, 6] rfl ?_
                                  exact ih_101 (x + 1) f3 (by first | assumption | omega) (by first | assumption | omega) (WX_WR (by omega) hx1 (by first | (rw [if_pos c_123, if_pos c_123]; exact hX) | (rw [if_neg c_123, if_neg c_123]; exact hX))) ha3 hb3 (by omega)
                                · rw [nI_ltI (by omega) (by omega)] at c_149
                                  refine g_aload_n C 5 dX7_work_152 rfl rfl rfl (q := 153) ?_
                                  refine g_iload C 2 dX7_work_153 rfl rfl (q := 155) ?_
                                  refine g_iload C 1 dX7_work_155 rfl rfl (q := 157) ?_
                                  refine g_iload C 0 dX7_work_157 rfl rfl (q := 159) ?_
                                  refine gcV_si C (n := 3) (As := [.int (nI (P + r1)), .int (nI x), .int (nI (1 + i))]) (st := []) 0 (fun h => h) dX7_work_159 rfl rfl gX7_work_X7_faultOf (c_X7_faultOf l D cI cJ cZ b n gr li st tr t sd f3 pa pt pp su sh tt (P + r1) x (1 + i) (by first | assumption | omega) (by first | assumption | omega) (by first | assumption | omega)) rfl rfl rfl (by decide +kernel) ⟨Nat.le_of_ble_eq_true rfl, Nat.le_of_ble_eq_true rfl⟩ rfl rfl (Nat.le_of_ble_eq_true rfl) FT_b FT_h ⟨Nat.le_of_ble_eq_true rfl, Nat.le_of_ble_eq_true rfl⟩ (q := 162) rfl (fun r_159 h_159 => ?_)
                                  subst h_159
                                  refine g_if_ne C (t := 175) dX7_work_162 (by decide) (q := 165) rfl (fun c_162 => ?_) (fun c_162 => ?_)
                                  · refine g_iinc C (z := 0) (nI ((1 + i) + 1)) [(6, .int (nI ((1 + i) + 1))), (5, .int (nI x)), (4, .int (nI (P + r1))), (3, .int (nI Q)), (2, .int (nI P)), (0, .ref (b 0)), (1, .int (nI j))] dX7_work_175 rfl (nI_add (1 + i) 1) (by decide) rfl (q := 178) rfl ?_
                                    refine g_goto C (q := 133) dX7_work_178 (by decide) ?_
                                    exact ih_133 (i + 1) f3 (by first | assumption | omega) (by first | exact WX_yes hT hQ16 (by omega) (by omega) (by omega) (by omega) (by omega) (okM_t c_162) ha3 hX h_172.1 h_172.2 | exact WX_no (okM_f c_162) hX) (by first | exact WIa_keep (by omega) ha3 h_172.2 | exact ha3) (by first | exact WIb_keep hb3 h_172.2 | exact hb3) (by omega)
                                  · have hxy := fl_nz c_162
                                    refine g_aload_n C 5 dX7_work_165 rfl rfl rfl (q := 166) ?_
                                    refine g_iload C 2 dX7_work_166 rfl rfl (q := 168) ?_
                                    refine g_iload C 1 dX7_work_168 rfl rfl (q := 170) ?_
                                    refine g_iload C 0 dX7_work_170 rfl rfl (q := 172) ?_
                                    refine gcV_qv C (n := 3) (As := [.int (nI (P + r1)), .int (nI x), .int (nI (1 + i))]) (st := []) 0 (fun h => h) (fun _ h => h) dX7_work_172 rfl rfl gX7_work_X7_carry (c_X7_carry l D cI cJ cZ b n gr li st tr t sd f3 pa pt pp su sh tt (P + r1) x (1 + i) (by first | assumption | omega) (by first | assumption | omega) (by first | assumption | omega) (by first | assumption | omega)) rfl rfl rfl (by decide +kernel) ⟨Nat.le_of_ble_eq_true rfl, Nat.le_of_ble_eq_true rfl⟩ rfl rfl (Nat.le_of_ble_eq_true rfl) FT_b FT_h ⟨Nat.le_of_ble_eq_true rfl, Nat.le_of_ble_eq_true rfl⟩ (q := 175) rfl (fun u_172 h_172 => ?_)
                                    have h_172 : (∀ t, t < 1001 → u_172 (1001 * (7 * (P + r1) + x) + t) = cryV f3 (1001 * (7 * (P + r1) + x)) (1001 * (7 * ((P + r1) + 1) + (1 + i))) (tmN x (1 + i)) (pwN gr tr (P + r1) x (1 + i)) t) ∧ ∀ j, (j < 1001 * (7 * (P + r1) + x) ∨ 1001 * (7 * (P + r1) + x) + 1001 ≤ j) → u_172 j = f3 j := h_172
                                    show G 0 0 (wM cI cJ cZ b (nI n) gr li st tr (nI t) sd u_172 pa pt pp su sh tt) [(6, .int (nI (1 + i))), (5, .int (nI x)), (4, .int (nI (P + r1))), (3, .int (nI Q)), (2, .int (nI P)), (0, .ref (b 0)), (1, .int (nI j))] 175 []
                                    refine g_iinc C (z := 0) (nI ((1 + i) + 1)) [(6, .int (nI ((1 + i) + 1))), (5, .int (nI x)), (4, .int (nI (P + r1))), (3, .int (nI Q)), (2, .int (nI P)), (0, .ref (b 0)), (1, .int (nI j))] dX7_work_175 rfl (nI_add (1 + i) 1) (by decide) rfl (q := 178) rfl ?_
                                    refine g_goto C (q := 133) dX7_work_178 (by decide) ?_
                                    exact ih_133 (i + 1) u_172 (by first | assumption | omega) (by first | exact WX_yes hT hQ16 (by omega) (by omega) (by omega) (by omega) (by omega) (okM_t c_162) ha3 hX h_172.1 h_172.2 | exact WX_no (okM_f c_162) hX) (by first | exact WIa_keep (by omega) ha3 h_172.2 | exact ha3) (by first | exact WIb_keep hb3 h_172.2 | exact hb3) (by omega)
                              · rw [nI_eq (by omega) (by omega)] at c_140
                                exact absurd c_140 c_123
                          exact lp_133 _ 0 f2 (by first | assumption | omega) (WR_WX hR) ha2 hb2 (Nat.lt_succ_self _)
                        · rw [nI_eq (by omega) (by omega)] at c_123
                          refine g_iconst C (nI 0) dX7_work_126 (by decide) (q := 127) rfl ?_
                          refine g_goto C (q := 131) dX7_work_127 (by decide) ?_
                          refine g_istore C [(6, .int (nI 0)), (5, .int (nI x)), (4, .int (nI (P + r1))), (3, .int (nI Q)), (2, .int (nI P)), (0, .ref (b 0)), (1, .int (nI j))] dX7_work_131 (by decide) rfl (q := 133) rfl ?_
                          have lp_133 : ∀ (N : Nat) (i : Nat) (f3 : Nat → Int32), (i ≤ 1) → (WX (okM gr li tr) (pwM gr tr) Q (P + r1) 0 x 0 i f3) → (WIa (okM gr li tr) (pwM gr tr) P Q ((P + r1) + 1) f3) → (WIb P (P + r1) f3) → 1 - i < N → G 0 0 (wM cI cJ cZ b (nI n) gr li st tr (nI t) sd f3 pa pt pp su sh tt) [(6, .int (nI (0 + i))), (5, .int (nI x)), (4, .int (nI (P + r1))), (3, .int (nI Q)), (2, .int (nI P)), (0, .ref (b 0)), (1, .int (nI j))] 133 [] := by
                            intro N
                            induction N with
                            | zero => intro i f3 _ _ _ _ hmu; exact absurd hmu (Nat.not_lt_zero _)
                            | succ N ih_133 =>
                              intro i f3 hi hX ha3 hb3 hmu
                              refine g_iload C 0 dX7_work_133 rfl rfl (q := 135) ?_
                              refine g_iload C 2 dX7_work_135 rfl rfl (q := 137) ?_
                              refine g_iconst C (nI 1) dX7_work_137 (by decide) (q := 138) rfl ?_
                              refine g_iadd C dX7_work_138 (q := 139) rfl ?_
                              refine g_eqi C (y := nI ((P + r1) + 1)) (nI_add (P + r1) 1) ?_
                              refine g_iload_n C 3 dX7_work_139 rfl rfl rfl (q := 140) ?_
                              refine g_icmp_ne C (t := 147) dX7_work_140 (by decide) (q := 143) rfl (fun c_140 => ?_) (fun c_140 => ?_)
                              · rw [nI_eq (by omega) (by omega)] at c_140
                                exact absurd c_123 c_140
                              · rw [nI_eq (by omega) (by omega)] at c_140
                                refine g_iconst C (nI 0) dX7_work_143 (by decide) (q := 144) rfl ?_
                                refine g_goto C (q := 149) dX7_work_144 (by decide) ?_
                                refine g_icmp_gt C (t := 181) dX7_work_149 (by decide) (q := 152) rfl (fun c_149 => ?_) (fun c_149 => ?_)
                                · rw [nI_ltI (by omega) (by omega)] at c_149
                                  obtain rfl : i = 1 := by omega
                                  refine g_iinc C (z := 1) (nI (x + 1)) [(5, .int (nI (x + 1))), (6, .int (nI (0 + 1))), (4, .int (nI (P + r1))), (3, .int (nI Q)), (2, .int (nI P)), (0, .ref (b 0)), (1, .int (nI j))] dX7_work_181 rfl (nI_add x 1) (by decide) rfl (q := 184) rfl ?_
                                  refine g_goto C (q := 101) dX7_work_184 (by decide) ?_
                                  refine g_locs C [(5, .int (nI (x + 1))), (4, .int (nI (P + r1))), (3, .int (nI Q)), (2, .int (nI P)), (0, .ref (b 0)), (1, .int (nI j))] [0, 2, 3, 4, 5, 6] rfl ?_
                                  exact ih_101 (x + 1) f3 (by first | assumption | omega) (by first | assumption | omega) (WX_WR (by omega) hx1 (by first | (rw [if_pos c_123, if_pos c_123]; exact hX) | (rw [if_neg c_123, if_neg c_123]; exact hX))) ha3 hb3 (by omega)
                                · rw [nI_ltI (by omega) (by omega)] at c_149
                                  refine g_aload_n C 5 dX7_work_152 rfl rfl rfl (q := 153) ?_
                                  refine g_iload C 2 dX7_work_153 rfl rfl (q := 155) ?_
                                  refine g_iload C 1 dX7_work_155 rfl rfl (q := 157) ?_
                                  refine g_iload C 0 dX7_work_157 rfl rfl (q := 159) ?_
                                  refine gcV_si C (n := 3) (As := [.int (nI (P + r1)), .int (nI x), .int (nI (0 + i))]) (st := []) 0 (fun h => h) dX7_work_159 rfl rfl gX7_work_X7_faultOf (c_X7_faultOf l D cI cJ cZ b n gr li st tr t sd f3 pa pt pp su sh tt (P + r1) x (0 + i) (by first | assumption | omega) (by first | assumption | omega) (by first | assumption | omega)) rfl rfl rfl (by decide +kernel) ⟨Nat.le_of_ble_eq_true rfl, Nat.le_of_ble_eq_true rfl⟩ rfl rfl (Nat.le_of_ble_eq_true rfl) FT_b FT_h ⟨Nat.le_of_ble_eq_true rfl, Nat.le_of_ble_eq_true rfl⟩ (q := 162) rfl (fun r_159 h_159 => ?_)
                                  subst h_159
                                  refine g_if_ne C (t := 175) dX7_work_162 (by decide) (q := 165) rfl (fun c_162 => ?_) (fun c_162 => ?_)
                                  · refine g_iinc C (z := 0) (nI ((0 + i) + 1)) [(6, .int (nI ((0 + i) + 1))), (5, .int (nI x)), (4, .int (nI (P + r1))), (3, .int (nI Q)), (2, .int (nI P)), (0, .ref (b 0)), (1, .int (nI j))] dX7_work_175 rfl (nI_add (0 + i) 1) (by decide) rfl (q := 178) rfl ?_
                                    refine g_goto C (q := 133) dX7_work_178 (by decide) ?_
                                    exact ih_133 (i + 1) f3 (by first | assumption | omega) (by first | exact WX_yes hT hQ16 (by omega) (by omega) (by omega) (by omega) (by omega) (okM_t c_162) ha3 hX h_172.1 h_172.2 | exact WX_no (okM_f c_162) hX) (by first | exact WIa_keep (by omega) ha3 h_172.2 | exact ha3) (by first | exact WIb_keep hb3 h_172.2 | exact hb3) (by omega)
                                  · have hxy := fl_nz c_162
                                    refine g_aload_n C 5 dX7_work_165 rfl rfl rfl (q := 166) ?_
                                    refine g_iload C 2 dX7_work_166 rfl rfl (q := 168) ?_
                                    refine g_iload C 1 dX7_work_168 rfl rfl (q := 170) ?_
                                    refine g_iload C 0 dX7_work_170 rfl rfl (q := 172) ?_
                                    refine gcV_qv C (n := 3) (As := [.int (nI (P + r1)), .int (nI x), .int (nI (0 + i))]) (st := []) 0 (fun h => h) (fun _ h => h) dX7_work_172 rfl rfl gX7_work_X7_carry (c_X7_carry l D cI cJ cZ b n gr li st tr t sd f3 pa pt pp su sh tt (P + r1) x (0 + i) (by first | assumption | omega) (by first | assumption | omega) (by first | assumption | omega) (by first | assumption | omega)) rfl rfl rfl (by decide +kernel) ⟨Nat.le_of_ble_eq_true rfl, Nat.le_of_ble_eq_true rfl⟩ rfl rfl (Nat.le_of_ble_eq_true rfl) FT_b FT_h ⟨Nat.le_of_ble_eq_true rfl, Nat.le_of_ble_eq_true rfl⟩ (q := 175) rfl (fun u_172 h_172 => ?_)
                                    have h_172 : (∀ t, t < 1001 → u_172 (1001 * (7 * (P + r1) + x) + t) = cryV f3 (1001 * (7 * (P + r1) + x)) (1001 * (7 * ((P + r1) + 1) + (0 + i))) (tmN x (0 + i)) (pwN gr tr (P + r1) x (0 + i)) t) ∧ ∀ j, (j < 1001 * (7 * (P + r1) + x) ∨ 1001 * (7 * (P + r1) + x) + 1001 ≤ j) → u_172 j = f3 j := h_172
                                    show G 0 0 (wM cI cJ cZ b (nI n) gr li st tr (nI t) sd u_172 pa pt pp su sh tt) [(6, .int (nI (0 + i))), (5, .int (nI x)), (4, .int (nI (P + r1))), (3, .int (nI Q)), (2, .int (nI P)), (0, .ref (b 0)), (1, .int (nI j))] 175 []
                                    refine g_iinc C (z := 0) (nI ((0 + i) + 1)) [(6, .int (nI ((0 + i) + 1))), (5, .int (nI x)), (4, .int (nI (P + r1))), (3, .int (nI Q)), (2, .int (nI P)), (0, .ref (b 0)), (1, .int (nI j))] dX7_work_175 rfl (nI_add (0 + i) 1) (by decide) rfl (q := 178) rfl ?_
                                    refine g_goto C (q := 133) dX7_work_178 (by decide) ?_
                                    exact ih_133 (i + 1) u_172 (by first | assumption | omega) (by first | exact WX_yes hT hQ16 (by omega) (by omega) (by omega) (by omega) (by omega) (okM_t c_162) ha3 hX h_172.1 h_172.2 | exact WX_no (okM_f c_162) hX) (by first | exact WIa_keep (by omega) ha3 h_172.2 | exact ha3) (by first | exact WIb_keep hb3 h_172.2 | exact hb3) (by omega)
                          exact lp_133 _ 0 f2 (by first | assumption | omega) (WR_WX hR) ha2 hb2 (Nat.lt_succ_self _)
                exact lp_101 _ 0 f (by first | assumption | omega) (by first | assumption | omega) (WR_of (by omega) hb) ha (WIb_less hb) (Nat.lt_succ_self _)
        exact lp_82 _ (Q - P) (upd g (1001 * (7 * Q + 0)) (nI 0)) (by first | assumption | omega) (by rw [show P + (Q - P) = Q by omega]; exact (WI_init hPQ (fun i h1 h2 => hz i h1 (by omega))).1) (by rw [show P + (Q - P) = Q by omega]; exact (WI_init (ok := okM gr li tr) (pw := pwM gr tr) hPQ (fun i h1 h2 => hz i h1 (by omega))).2) (fun h => by omega) (Nat.lt_succ_self _)
      · rw [nI_ltI (by omega) (by omega)] at c_18
        refine g_aload_n C 3 dX7_work_21 rfl rfl rfl (q := 22) ?_
        refine g_iload C 0 dX7_work_22 rfl rfl (q := 24) ?_
        refine g_iconst C (nI 0) dX7_work_24 (by decide) (q := 25) rfl ?_
        refine gcV_si C (n := 2) (As := [.int (nI k), .int (nI 0)]) (st := []) 0 (fun h => h) dX7_work_25 rfl rfl gX7_work_X7_place (c_X7_place l D cI cJ cZ b n gr li st tr t sd g pa pt pp su sh tt k 0) rfl rfl rfl (by decide +kernel) ⟨Nat.le_of_ble_eq_true rfl, Nat.le_of_ble_eq_true rfl⟩ rfl rfl (Nat.le_of_ble_eq_true rfl) FT_b FT_h ⟨Nat.le_of_ble_eq_true rfl, Nat.le_of_ble_eq_true rfl⟩ (q := 28) rfl (fun r_25 h_25 => ?_)
        subst h_25
        refine g_istore C [(5, .int (nI (1001 * (7 * k + 0)))), (4, .int (nI k)), (3, .int (nI Q)), (2, .int (nI P)), (0, .ref (b 0)), (1, .int (nI j))] dX7_work_28 (by decide) rfl (q := 30) rfl ?_
        have lp_30 : ∀ (N : Nat) (i : Nat) (g2 : Nat → Int32), (1001 * (7 * k + 0) ≤ i) → (i ≤ 1001 * (7 * (k + 1) + 0)) → (∀ x, 1001 * (7 * P + 0) ≤ x → x < i → g2 x = 100000000) → 1001 * (7 * (k + 1) + 0) - i < N → G 0 0 (wM cI cJ cZ b (nI n) gr li st tr (nI t) sd g2 pa pt pp su sh tt) [(5, .int (nI i)), (4, .int (nI k)), (3, .int (nI Q)), (2, .int (nI P)), (0, .ref (b 0)), (1, .int (nI j))] 30 [] := by
          intro N
          induction N with
          | zero => intro i g2 _ _ _ hmu; exact absurd hmu (Nat.not_lt_zero _)
          | succ N ih_30 =>
            intro i g2 hi1 hi2 hz2 hmu
            refine g_iload C 0 dX7_work_30 rfl rfl (q := 32) ?_
            refine g_aload_n C 4 dX7_work_32 rfl rfl rfl (q := 33) ?_
            refine g_iload C 1 dX7_work_33 rfl rfl (q := 35) ?_
            refine g_iconst C (nI 1) dX7_work_35 (by decide) (q := 36) rfl ?_
            refine g_iadd C dX7_work_36 (q := 37) rfl ?_
            refine g_eqi C (y := nI (k + 1)) (nI_add k 1) ?_
            refine g_iconst C (nI 0) dX7_work_37 (by decide) (q := 38) rfl ?_
            refine gcV_si C (n := 2) (As := [.int (nI (k + 1)), .int (nI 0)]) (st := [.int (nI i)]) 0 (fun h => h) dX7_work_38 rfl rfl gX7_work_X7_place (c_X7_place l D cI cJ cZ b n gr li st tr t sd g2 pa pt pp su sh tt (k + 1) 0) rfl rfl rfl (by decide +kernel) ⟨Nat.le_of_ble_eq_true rfl, Nat.le_of_ble_eq_true rfl⟩ rfl rfl (Nat.le_of_ble_eq_true rfl) FT_b FT_h ⟨Nat.le_of_ble_eq_true rfl, Nat.le_of_ble_eq_true rfl⟩ (q := 41) rfl (fun r_38 h_38 => ?_)
            subst h_38
            refine g_icmp_ge C (t := 59) dX7_work_41 (by decide) (q := 44) rfl (fun c_41 => ?_) (fun c_41 => ?_)
            · rw [nI_leI (by omega) (by omega)] at c_41
              refine g_iinc C (z := 1) (nI (k + 1)) [(4, .int (nI (k + 1))), (5, .int (nI i)), (3, .int (nI Q)), (2, .int (nI P)), (0, .ref (b 0)), (1, .int (nI j))] dX7_work_59 rfl (nI_add k 1) (by decide) rfl (q := 62) rfl ?_
              refine g_goto C (q := 15) dX7_work_62 (by decide) ?_
              refine g_locs C [(4, .int (nI (k + 1))), (3, .int (nI Q)), (2, .int (nI P)), (0, .ref (b 0)), (1, .int (nI j))] [0, 2, 3, 4, 5] rfl ?_
              exact ih_15 (k + 1) g2 (by first | assumption | omega) (by first | assumption | omega) (fun x h1 h2 => hz2 x h1 (by omega)) (by omega)
            · rw [nI_leI (by omega) (by omega)] at c_41
              refine g_aload_n C 4 dX7_work_44 rfl rfl rfl (q := 45) ?_
              refine g_get C 0 7 dX7_work_45 (Cn := RX7) (T := TX7) (N := 14) (fun _ h => List.mem_cons_of_mem _ (List.mem_append_right _ h)) rfl rfl (by decide) (List.mem_cons_of_mem _ (List.mem_append_left _ (List.mem_of_getElem? (i := 0) rfl))) rfl (q := 48) rfl ?_
              refine g_iload C 0 dX7_work_48 rfl rfl (q := 50) ?_
              refine g_ldc C (v := (100000000)) dX7_work_50 (List.mem_cons_of_mem _ (List.mem_append_left _ (List.mem_of_getElem? (i := 1) rfl))) (q := 52) rfl ?_
              refine g_iast C 6 0 (wM cI cJ cZ b (nI n) gr li st tr (nI t) sd (upd g2 i (100000000)) pa pt pp su sh tt) dX7_work_52 rfl rfl (vp_in_nI (by omega) (by decide)) (by rw [nI_clamp (by omega)]; rfl) (q := 53) rfl ?_
              refine g_iinc C (z := 0) (nI (i + 1)) [(5, .int (nI (i + 1))), (4, .int (nI k)), (3, .int (nI Q)), (2, .int (nI P)), (0, .ref (b 0)), (1, .int (nI j))] dX7_work_53 rfl (nI_add i 1) (by decide) rfl (q := 56) rfl ?_
              refine g_goto C (q := 30) dX7_work_56 (by decide) ?_
              exact ih_30 (i + 1) (upd g2 i (100000000)) (by first | assumption | omega) (by first | assumption | omega) (fun x h1 h2 => by by_cases e : x = i; (subst e; exact pk_us); (rw [pk_un e]; exact hz2 x h1 (by omega))) (by omega)
        exact lp_30 _ (1001 * (7 * k + 0)) g (by first | assumption | omega) (by first | assumption | omega) hz (Nat.lt_succ_self _)
  exact lp_15 _ P lea (by first | assumption | omega) (by first | assumption | omega) (fun i h1 h2 => by omega) (Nat.lt_succ_self _)
