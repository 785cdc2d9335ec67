set_option maxHeartbeats 4000000 in
set_option maxRecDepth 100000 in
theorem c_X0_findLegs (l : Launch) (D : va_G) (cI cJ cZ : ClassId) (a : Nat → Nat) (hA nA : Nat) (gr li st sp : Nat → Int32) (n : Nat) (le : Int32) (nu : Nat → Int32) (ev od : Nat → Int64) (fp ti : Nat → Int32) (wc : Nat → Int64) (wu : Int32) (sc pv : Nat → Int64) (su : Int32) (sd : Nat → Int32) (t : Nat) (hn : n ≤ 16) (h0 : ¬ st 0 = 0) : Met l yX0_findLegs wsX0_findLegs { frames := 0, cells := 0, slots := 0, locals := 0 } (gPc D (tyT cI cJ cZ) (wA a (a 11) (a 12)) FT (wC cI cJ cZ a hA nA gr li st sp (nI n) le nu ev od fp ti wc wu sc pv su sd (nI t)) [.ref (a 1)]) (va_Qv (fun (u : (Nat → Int32)) => ∀ p, p ≤ n → ¬ st p = 0 → u (cnt st p) = nI p) (fun u tS => va_P D vwCl ((fun (u : (Nat → Int32)) => wC cI cJ cZ a hA nA gr li st u (nI n) (nI (cnt st (n + 1) - 1)) nu ev od fp ti wc wu sc pv su sd (nI t)) u) tS.heap ∧ va_D (wA a (a 11) (a 12)) ((fun (u : (Nat → Int32)) => wC cI cJ cZ a hA nA gr li st u (nI n) (nI (cnt st (n + 1) - 1)) nu ev od fp ti wc wu sc pv su sd (nI t)) u)) (wA a (a 11) (a 12))) 0 0 (wA a (a 11) (a 12)) := by
  refine gs_qv (cc := cX0_findLegs) (nL := 3) (W' := fun (u : (Nat → Int32)) => wC cI cJ cZ a hA nA gr li st u (nI n) (nI (cnt st (n + 1) - 1)) nu ev od fp ti wc wu sc pv su sd (nI t)) (by decide) rfl (Nat.le_of_ble_eq_true rfl) (fun G C hret => ?_)
  show G 0 0 (wC cI cJ cZ a hA nA gr li st sp (nI n) le nu ev od fp ti wc wu sc pv su sd (nI t)) [(0, .ref (a 1))] 0 []
  refine g_iconst C (nI 0) dX0_findLegs_0 (by decide) (q := 1) rfl ?_
  refine g_istore_n C [(1, .int (nI 0)), (0, .ref (a 1))] dX0_findLegs_1 rfl (by decide) rfl (q := 2) rfl ?_
  refine g_iconst C (nI 0) dX0_findLegs_2 (by decide) (q := 3) rfl ?_
  refine g_istore_n C [(2, .int (nI 0)), (1, .int (nI 0)), (0, .ref (a 1))] dX0_findLegs_3 rfl (by decide) rfl (q := 4) rfl ?_
  have lp_4 : ∀ (N : Nat) (k : Nat) (f : Nat → Int32), (k ≤ n + 1) → (∀ p, p < k → ¬ st p = 0 → f (cnt st p) = nI p) → n + 1 - k < N → G 0 0 (wC cI cJ cZ a hA nA gr li st f (nI n) le nu ev od fp ti wc wu sc pv su sd (nI t)) [(2, .int (nI k)), (1, .int (nI (cnt st k))), (0, .ref (a 1))] 4 [] := by
    intro N
    induction N with
    | zero => intro k f _ _ hmu; exact absurd hmu (Nat.not_lt_zero _)
    | succ N ih_4 =>
      intro k f hk hf hmu
      have hcl := cnt_le st k
      refine g_iload_n C 0 dX0_findLegs_4 rfl rfl rfl (q := 5) ?_
      refine g_aload_n C 2 dX0_findLegs_5 rfl rfl rfl (q := 6) ?_
      refine g_get C 1 4 dX0_findLegs_6 (Cn := RX0) (T := TX0) (N := 6) (fun _ h => List.mem_cons_of_mem _ (List.mem_append_right _ h)) rfl rfl (by decide) (List.mem_cons_of_mem _ (List.mem_append_left _ (List.mem_of_getElem? (i := 0) rfl))) rfl (q := 9) rfl ?_
      refine g_icmp_gt C (t := 37) dX0_findLegs_9 (by decide) (q := 12) rfl (fun c_9 => ?_) (fun c_9 => ?_)
      · rw [nI_ltI (by omega) (by omega)] at c_9
        obtain rfl : k = n + 1 := by omega
        show G 0 0 (wC cI cJ cZ a hA nA gr li st f (nI n) le nu ev od fp ti wc wu sc pv su sd (nI t)) [(2, .int (nI (n + 1))), (1, .int (nI (cnt st (n + 1)))), (0, .ref (a 1))] 37 []
        refine g_aload_n C 2 dX0_findLegs_37 rfl rfl rfl (q := 38) ?_
        refine g_iload_n C 1 dX0_findLegs_38 rfl rfl rfl (q := 39) ?_
        refine g_iconst C (nI 1) dX0_findLegs_39 (by decide) (q := 40) rfl ?_
        refine g_isub C dX0_findLegs_40 (q := 41) rfl ?_
        refine g_eqi C (y := nI ((cnt st (n + 1)) - 1)) (pk_sub (by have := cnt_mono st (show 0 + 1 ≤ n + 1 by omega); have := cnt_st h0; omega)) ?_
        refine g_put C 1 5 (wC cI cJ cZ a hA nA gr li st f (nI n) (nI ((cnt st (n + 1)) - 1)) nu ev od fp ti wc wu sc pv su sd (nI t)) dX0_findLegs_41 (Cn := RX0) (T := TX0) (N := 6) (fun _ h => List.mem_cons_of_mem _ (List.mem_append_right _ h)) tyX0_ok nmX0 rfl rfl (by decide) (List.mem_cons_of_mem _ (List.mem_append_left _ (List.mem_of_getElem? (i := 3) rfl))) rfl (ty := .int) (by decide +kernel) rfl rfl (Nat.le_of_ble_eq_true rfl) rfl (q := 44) rfl ?_
        exact hret f 44 _ dX0_findLegs_44 (fun p hp hs => hf p (by omega) hs)
      · rw [nI_ltI (by omega) (by omega)] at c_9
        refine g_aload_n C 2 dX0_findLegs_12 rfl rfl rfl (q := 13) ?_
        refine g_get C 1 2 dX0_findLegs_13 (Cn := RX0) (T := TX0) (N := 6) (fun _ h => List.mem_cons_of_mem _ (List.mem_append_right _ h)) rfl rfl (by decide) (List.mem_cons_of_mem _ (List.mem_append_left _ (List.mem_of_getElem? (i := 1) rfl))) rfl (q := 16) rfl ?_
        refine g_iload_n C 0 dX0_findLegs_16 rfl rfl rfl (q := 17) ?_
        refine g_zald C 9 2 dX0_findLegs_17 rfl rfl (vp_in_nI (by omega) (by decide)) (q := 18) rfl ?_
        refine g_eqi C (y := st k) (by rw [nI_clamp (by omega)]) ?_
        refine g_if_eq C (t := 31) dX0_findLegs_18 (by decide) (q := 21) rfl (fun c_18 => ?_) (fun c_18 => ?_)
        · have ec : nI (cnt st k) = nI (cnt st (k + 1)) := by rw [cnt_sz c_18]
          rw [ec]
          refine g_iinc C (z := 0) (nI (k + 1)) [(2, .int (nI (k + 1))), (1, .int (nI (cnt st (k + 1)))), (0, .ref (a 1))] dX0_findLegs_31 rfl (nI_add k 1) (by decide) rfl (q := 34) rfl ?_
          refine g_goto C (q := 4) dX0_findLegs_34 (by decide) ?_
          exact ih_4 (k + 1) f (by first | assumption | omega) (by intro p hp hs; by_cases e : p = k; (subst e; first | exact pk_us | exact absurd c_18 hs); (first | (rw [pk_un (fun q => e (cnt_inj hs c_18 q))]; exact hf p (by omega) hs) | exact hf p (by omega) hs)) (by omega)
        · refine g_aload_n C 2 dX0_findLegs_21 rfl rfl rfl (q := 22) ?_
          refine g_get C 1 3 dX0_findLegs_22 (Cn := RX0) (T := TX0) (N := 6) (fun _ h => List.mem_cons_of_mem _ (List.mem_append_right _ h)) rfl rfl (by decide) (List.mem_cons_of_mem _ (List.mem_append_left _ (List.mem_of_getElem? (i := 2) rfl))) rfl (q := 25) rfl ?_
          refine g_iload_n C 1 dX0_findLegs_25 rfl rfl rfl (q := 26) ?_
          refine g_iload_n C 0 dX0_findLegs_26 rfl rfl rfl (q := 27) ?_
          refine g_iast C 10 0 (wC cI cJ cZ a hA nA gr li st (upd f (cnt st k) (nI k)) (nI n) le nu ev od fp ti wc wu sc pv su sd (nI t)) dX0_findLegs_27 rfl rfl (vp_in_nI (by omega) (by decide)) (by rw [nI_clamp (by omega)]; rfl) (q := 28) rfl ?_
          refine g_iinc C (z := 1) (nI ((cnt st k) + 1)) [(1, .int (nI ((cnt st k) + 1))), (2, .int (nI k)), (0, .ref (a 1))] dX0_findLegs_28 rfl (nI_add (cnt st k) 1) (by decide) rfl (q := 31) rfl ?_
          have ec : nI ((cnt st k) + 1) = nI (cnt st (k + 1)) := by rw [cnt_st c_18]
          rw [ec]
          refine g_iinc C (z := 1) (nI (k + 1)) [(2, .int (nI (k + 1))), (1, .int (nI (cnt st (k + 1)))), (0, .ref (a 1))] dX0_findLegs_31 rfl (nI_add k 1) (by decide) rfl (q := 34) rfl ?_
          refine g_goto C (q := 4) dX0_findLegs_34 (by decide) ?_
          exact ih_4 (k + 1) (upd f (cnt st k) (nI k)) (by first | assumption | omega) (by intro p hp hs; by_cases e : p = k; (subst e; first | exact pk_us | exact absurd c_18 hs); (first | (rw [pk_un (fun q => e (cnt_inj hs c_18 q))]; exact hf p (by omega) hs) | exact hf p (by omega) hs)) (by omega)
  exact lp_4 _ 0 sp (by first | assumption | omega) (fun p h => absurd h (Nat.not_lt_zero _)) (Nat.lt_succ_self _)
set_option maxHeartbeats 4000000 in
set_option maxRecDepth 100000 in
theorem c_X0_shape (l : Launch) (D : va_G) (cI cJ cZ : ClassId) (a : Nat → Nat) (hA nA : Nat) (gr li st sp : Nat → Int32) (n m : Nat) (nu : Nat → Int32) (ev od : Nat → Int64) (fp ti : Nat → Int32) (wc : Nat → Int64) (wu : Int32) (sc pv : Nat → Int64) (su : Int32) (sd : Nat → Int32) (t k : Nat) (g v : Int32) (hk : k < 16) : Met l yX0_shape wsX0_shape { frames := 0, cells := 0, slots := 0, locals := 0 } (gPc D (tyT cI cJ cZ) (wA a (a 11) (a 12)) FT (wC cI cJ cZ a hA nA gr li st sp (nI n) (nI m) nu ev od fp ti wc wu sc pv su sd (nI t)) [.ref (a 1), .int (nI k), .int g, .int v]) (va_Qv (fun (u : Unit) => True) (fun u tS => va_P D vwCl ((fun (u : Unit) => wC cI cJ cZ a hA nA (upd gr k g) (upd li k v) st sp (nI n) (nI m) nu ev od fp ti wc wu sc pv su sd (nI t)) u) tS.heap ∧ va_D (wA a (a 11) (a 12)) ((fun (u : Unit) => wC cI cJ cZ a hA nA (upd gr k g) (upd li k v) st sp (nI n) (nI m) nu ev od fp ti wc wu sc pv su sd (nI t)) u)) (wA a (a 11) (a 12))) 0 0 (wA a (a 11) (a 12)) := by
  refine gs_qv (cc := cX0_shape) (nL := 4) (W' := fun (u : Unit) => wC cI cJ cZ a hA nA (upd gr k g) (upd li k v) st sp (nI n) (nI m) nu ev od fp ti wc wu sc pv su sd (nI t)) (by decide) rfl (Nat.le_of_ble_eq_true rfl) (fun G C hret => ?_)
  show G 0 0 (wC cI cJ cZ a hA nA gr li st sp (nI n) (nI m) nu ev od fp ti wc wu sc pv su sd (nI t)) [(0, .ref (a 1)), (1, .int (nI k)), (2, .int g), (3, .int v)] 0 []
  refine g_aload_n C 0 dX0_shape_0 rfl rfl rfl (q := 1) ?_
  refine g_get C 1 0 dX0_shape_1 (Cn := RX0) (T := TX0) (N := 6) (fun _ h => List.mem_cons_of_mem _ (List.mem_append_right _ h)) rfl rfl (by decide) (List.mem_cons_of_mem _ (List.mem_append_left _ (List.mem_of_getElem? (i := 0) rfl))) rfl (q := 4) rfl ?_
  refine g_iload_n C 1 dX0_shape_4 rfl rfl rfl (q := 5) ?_
  refine g_iload_n C 2 dX0_shape_5 rfl rfl rfl (q := 6) ?_
  refine g_iast C 7 0 (wC cI cJ cZ a hA nA (upd gr k g) li st sp (nI n) (nI m) nu ev od fp ti wc wu sc pv su sd (nI t)) dX0_shape_6 rfl rfl (vp_in_nI (by omega) (by decide)) (by rw [nI_clamp (by omega)]; rfl) (q := 7) rfl ?_
  refine g_aload_n C 0 dX0_shape_7 rfl rfl rfl (q := 8) ?_
  refine g_get C 1 1 dX0_shape_8 (Cn := RX0) (T := TX0) (N := 6) (fun _ h => List.mem_cons_of_mem _ (List.mem_append_right _ h)) rfl rfl (by decide) (List.mem_cons_of_mem _ (List.mem_append_left _ (List.mem_of_getElem? (i := 1) rfl))) rfl (q := 11) rfl ?_
  refine g_iload_n C 1 dX0_shape_11 rfl rfl rfl (q := 12) ?_
  refine g_iload_n C 3 dX0_shape_12 rfl rfl rfl (q := 13) ?_
  refine g_iast C 8 0 (wC cI cJ cZ a hA nA (upd gr k g) (upd li k v) st sp (nI n) (nI m) nu ev od fp ti wc wu sc pv su sd (nI t)) dX0_shape_13 rfl rfl (vp_in_nI (by omega) (by decide)) (by rw [nI_clamp (by omega)]; rfl) (q := 14) rfl ?_
  exact hret () 14 _ dX0_shape_14 (trivial)
set_option maxHeartbeats 4000000 in
set_option maxRecDepth 100000 in
theorem c_X0_markStop (l : Launch) (D : va_G) (cI cJ cZ : ClassId) (a : Nat → Nat) (hA nA : Nat) (gr li st sp : Nat → Int32) (n : Nat) (le : Int32) (nu : Nat → Int32) (ev od : Nat → Int64) (fp ti : Nat → Int32) (wc : Nat → Int64) (wu : Int32) (sc pv : Nat → Int64) (su : Int32) (sd : Nat → Int32) (t k : Nat) (v : Int32) (hk : k ≤ 16) (hn : n ≤ 16) (h0 : ¬ st 0 = 0) (hk0 : 0 < k) (hv : v = nI 0 ∨ v = nI 1) : Met l yX0_markStop wsX0_markStop { frames := 1, cells := 0, slots := 0, locals := 22 } (gPc D (tyT cI cJ cZ) (wA a (a 11) (a 12)) FT (wC cI cJ cZ a hA nA gr li st sp (nI n) le nu ev od fp ti wc wu sc pv su sd (nI t)) [.ref (a 1), .int (nI k), .int v]) (va_Qv (fun (u : (Nat → Int32)) => ∀ p, p ≤ n → ¬ upd st k v p = 0 → u (cnt (upd st k v) p) = nI p) (fun u tS => va_P D vwCl ((fun (u : (Nat → Int32)) => wC cI cJ cZ a hA nA gr li (upd st k v) u (nI n) (nI (cnt (upd st k v) (n + 1) - 1)) nu ev od fp ti wc wu sc pv su sd (nI t)) u) tS.heap ∧ va_D (wA a (a 11) (a 12)) ((fun (u : (Nat → Int32)) => wC cI cJ cZ a hA nA gr li (upd st k v) u (nI n) (nI (cnt (upd st k v) (n + 1) - 1)) nu ev od fp ti wc wu sc pv su sd (nI t)) u)) (wA a (a 11) (a 12))) 0 0 (wA a (a 11) (a 12)) := by
  refine gs_qv (cc := cX0_markStop) (nL := 3) (W' := fun (u : (Nat → Int32)) => wC cI cJ cZ a hA nA gr li (upd st k v) u (nI n) (nI (cnt (upd st k v) (n + 1) - 1)) nu ev od fp ti wc wu sc pv su sd (nI t)) (by decide) rfl (Nat.le_of_ble_eq_true rfl) (fun G C hret => ?_)
  show G 0 0 (wC cI cJ cZ a hA nA gr li st sp (nI n) le nu ev od fp ti wc wu sc pv su sd (nI t)) [(0, .ref (a 1)), (1, .int (nI k)), (2, .int v)] 0 []
  refine g_aload_n C 0 dX0_markStop_0 rfl rfl rfl (q := 1) ?_
  refine g_get C 1 2 dX0_markStop_1 (Cn := RX0) (T := TX0) (N := 6) (fun _ h => List.mem_cons_of_mem _ (List.mem_append_right _ h)) rfl rfl (by decide) (List.mem_cons_of_mem _ (List.mem_append_left _ (List.mem_of_getElem? (i := 0) rfl))) rfl (q := 4) rfl ?_
  refine g_iload_n C 1 dX0_markStop_4 rfl rfl rfl (q := 5) ?_
  refine g_iload_n C 2 dX0_markStop_5 rfl rfl rfl (q := 6) ?_
  refine g_zast C 9 2 (wC cI cJ cZ a hA nA gr li (upd st k v) sp (nI n) le nu ev od fp ti wc wu sc pv su sd (nI t)) dX0_markStop_6 rfl rfl (vp_in_nI (by omega) (by decide)) (by rw [nI_clamp (by omega)]; rw [z01 hv]; rfl) (q := 7) rfl ?_
  refine g_aload_n C 0 dX0_markStop_7 rfl rfl rfl (q := 8) ?_
  refine gcV_qv C (n := 0) (As := []) (st := []) 1 (fun h => h) (fun _ h => h) dX0_markStop_8 rfl rfl gX0_markStop_X0_findLegs (c_X0_findLegs l D cI cJ cZ a hA nA gr li (upd st k v) sp n le nu ev od fp ti wc wu sc pv su sd t hn (by rw [pk_un (by omega)]; exact h0)) rfl rfl rfl (by decide +kernel) ⟨Nat.le_of_ble_eq_true rfl, Nat.le_of_ble_eq_true rfl⟩ rfl rfl (Nat.le_of_ble_eq_true rfl) FT_b FT_h ⟨Nat.le_of_ble_eq_true rfl, Nat.le_of_ble_eq_true rfl⟩ (q := 11) rfl (fun u_8 h_8 => ?_)
  have h_8 : ∀ p, p ≤ n → ¬ (upd st k v) p = 0 → u_8 (cnt (upd st k v) p) = nI p := h_8
  show G 0 0 (wC cI cJ cZ a hA nA gr li (upd st k v) u_8 (nI n) (nI (cnt (upd st k v) (n + 1) - 1)) nu ev od fp ti wc wu sc pv su sd (nI t)) [(0, .ref (a 1)), (1, .int (nI k)), (2, .int v)] 11 []
  exact hret u_8 11 _ dX0_markStop_11 (h_8)
set_option maxHeartbeats 4000000 in
set_option maxRecDepth 100000 in
theorem c_X0_lay (l : Launch) (D : va_G) (cI cJ cZ : ClassId) (a : Nat → Nat) (hA nA : Nat) (gr li st sp : Nat → Int32) (ce le : Int32) (nu : Nat → Int32) (ev od : Nat → Int64) (fp ti : Nat → Int32) (wc : Nat → Int64) (wu : Int32) (sc pv : Nat → Int64) (su : Int32) (sd : Nat → Int32) (t z : Nat) (hz : 1 ≤ z) (hz2 : z ≤ 16) : Met l yX0_lay wsX0_lay { frames := 1, cells := 0, slots := 0, locals := 22 } (gPc D (tyT cI cJ cZ) (wA a (a 11) (a 12)) FT (wC cI cJ cZ a hA nA gr li st sp ce le nu ev od fp ti wc wu sc pv su sd (nI t)) [.ref (a 1), .int (nI z)]) (va_Qv (fun (u : (Nat → Int32)) => ∀ p, p ≤ z → ¬ stL z p = 0 → u (cnt (stL z) p) = nI p) (fun u tS => va_P D vwCl ((fun (u : (Nat → Int32)) => wC cI cJ cZ a hA nA (fun _ => nI 0) (fun _ => nI 6) (stL z) u (nI z) (nI (cnt (stL z) (z + 1) - 1)) nu ev od fp ti wc wu sc pv su sd (nI t)) u) tS.heap ∧ va_D (wA a (a 11) (a 12)) ((fun (u : (Nat → Int32)) => wC cI cJ cZ a hA nA (fun _ => nI 0) (fun _ => nI 6) (stL z) u (nI z) (nI (cnt (stL z) (z + 1) - 1)) nu ev od fp ti wc wu sc pv su sd (nI t)) u)) (wA a (a 11) (a 12))) 0 0 (wA a (a 11) (a 12)) := by
  refine gs_qv (cc := cX0_lay) (nL := 3) (W' := fun (u : (Nat → Int32)) => wC cI cJ cZ a hA nA (fun _ => nI 0) (fun _ => nI 6) (stL z) u (nI z) (nI (cnt (stL z) (z + 1) - 1)) nu ev od fp ti wc wu sc pv su sd (nI t)) (by decide) rfl (Nat.le_of_ble_eq_true rfl) (fun G C hret => ?_)
  show G 0 0 (wC cI cJ cZ a hA nA gr li st sp ce le nu ev od fp ti wc wu sc pv su sd (nI t)) [(0, .ref (a 1)), (1, .int (nI z))] 0 []
  refine g_aload_n C 0 dX0_lay_0 rfl rfl rfl (q := 1) ?_
  refine g_iload_n C 1 dX0_lay_1 rfl rfl rfl (q := 2) ?_
  refine g_put C 1 4 (wC cI cJ cZ a hA nA gr li st sp (nI z) le nu ev od fp ti wc wu sc pv su sd (nI t)) dX0_lay_2 (Cn := RX0) (T := TX0) (N := 6) (fun _ h => List.mem_cons_of_mem _ (List.mem_append_right _ h)) tyX0_ok nmX0 rfl rfl (by decide) (List.mem_cons_of_mem _ (List.mem_append_left _ (List.mem_of_getElem? (i := 0) rfl))) rfl (ty := .int) (by decide +kernel) rfl rfl (Nat.le_of_ble_eq_true rfl) rfl (q := 5) rfl ?_
  refine g_iconst C (nI 0) dX0_lay_5 (by decide) (q := 6) rfl ?_
  refine g_istore_n C [(2, .int (nI 0)), (0, .ref (a 1)), (1, .int (nI z))] dX0_lay_6 rfl (by decide) rfl (q := 7) rfl ?_
  have lp_7 : ∀ (N : Nat) (k : Nat) (f g : Nat → Int32), (k ≤ 16) → (∀ p, p < k → f p = nI 0) → (∀ p, p < k → g p = nI 6) → 16 - k < N → G 0 0 (wC cI cJ cZ a hA nA f g st sp (nI z) le nu ev od fp ti wc wu sc pv su sd (nI t)) [(2, .int (nI k)), (0, .ref (a 1)), (1, .int (nI z))] 7 [] := by
    intro N
    induction N with
    | zero => intro k f g _ _ _ hmu; exact absurd hmu (Nat.not_lt_zero _)
    | succ N ih_7 =>
      intro k f g hk hf hg hmu
      refine g_iload_n C 0 dX0_lay_7 rfl rfl rfl (q := 8) ?_
      refine g_bipush C (nI 16) dX0_lay_8 (by decide) (q := 10) rfl ?_
      refine g_icmp_ge C (t := 34) dX0_lay_10 (by decide) (q := 13) rfl (fun c_10 => ?_) (fun c_10 => ?_)
      · rw [nI_leI (by omega) (by omega)] at c_10
        refine g_arrI C (fun _ => nI 0) 7 (wC cI cJ cZ a hA nA (fun _ => nI 0) g st sp (nI z) le nu ev od fp ti wc wu sc pv su sd (nI t)) rfl (fun j hj => hf j (by omega)) rfl ?_
        refine g_arrI C (fun _ => nI 6) 8 (wC cI cJ cZ a hA nA (fun _ => nI 0) (fun _ => nI 6) st sp (nI z) le nu ev od fp ti wc wu sc pv su sd (nI t)) rfl (fun j hj => hg j (by omega)) rfl ?_
        refine g_iconst C (nI 0) dX0_lay_34 (by decide) (q := 35) rfl ?_
        refine g_istore_n C [(2, .int (nI 0)), (0, .ref (a 1)), (1, .int (nI z))] dX0_lay_35 rfl (by decide) rfl (q := 36) rfl ?_
        have lp_36 : ∀ (N : Nat) (k : Nat) (f2 : Nat → Int32), (k ≤ 17) → (∀ p, p < k → f2 p = stL z p) → 17 - k < N → G 0 0 (wC cI cJ cZ a hA nA (fun _ => nI 0) (fun _ => nI 6) f2 sp (nI z) le nu ev od fp ti wc wu sc pv su sd (nI t)) [(2, .int (nI k)), (0, .ref (a 1)), (1, .int (nI z))] 36 [] := by
          intro N
          induction N with
          | zero => intro k f2 _ _ hmu; exact absurd hmu (Nat.not_lt_zero _)
          | succ N ih_36 =>
            intro k f2 hk hf2 hmu
            refine g_iload_n C 0 dX0_lay_36 rfl rfl rfl (q := 37) ?_
            refine g_bipush C (nI 16) dX0_lay_37 (by decide) (q := 39) rfl ?_
            refine g_icmp_gt C (t := 68) dX0_lay_39 (by decide) (q := 42) rfl (fun c_39 => ?_) (fun c_39 => ?_)
            · rw [nI_ltI (by omega) (by omega)] at c_39
              refine g_arrI C (stL z) 9 (wC cI cJ cZ a hA nA (fun _ => nI 0) (fun _ => nI 6) (stL z) sp (nI z) le nu ev od fp ti wc wu sc pv su sd (nI t)) rfl (fun j hj => hf2 j (by omega)) rfl ?_
              refine g_aload_n C 1 dX0_lay_68 rfl rfl rfl (q := 69) ?_
              refine gcV_qv C (n := 0) (As := []) (st := []) 1 (fun h => h) (fun _ h => h) dX0_lay_69 rfl rfl gX0_lay_X0_findLegs (c_X0_findLegs l D cI cJ cZ a hA nA (fun _ => nI 0) (fun _ => nI 6) (stL z) sp z le nu ev od fp ti wc wu sc pv su sd t hz2 (by rw [stL, if_pos (Or.inl rfl)]; decide)) rfl rfl rfl (by decide +kernel) ⟨Nat.le_of_ble_eq_true rfl, Nat.le_of_ble_eq_true rfl⟩ rfl rfl (Nat.le_of_ble_eq_true rfl) FT_b FT_h ⟨Nat.le_of_ble_eq_true rfl, Nat.le_of_ble_eq_true rfl⟩ (q := 72) rfl (fun u_69 h_69 => ?_)
              have h_69 : ∀ p, p ≤ z → ¬ (stL z) p = 0 → u_69 (cnt (stL z) p) = nI p := h_69
              show G 0 0 (wC cI cJ cZ a hA nA (fun _ => nI 0) (fun _ => nI 6) (stL z) u_69 (nI z) (nI (cnt (stL z) (z + 1) - 1)) nu ev od fp ti wc wu sc pv su sd (nI t)) [(2, .int (nI k)), (0, .ref (a 1)), (1, .int (nI z))] 72 []
              exact hret u_69 72 _ dX0_lay_72 (h_69)
            · rw [nI_ltI (by omega) (by omega)] at c_39
              refine g_aload_n C 1 dX0_lay_42 rfl rfl rfl (q := 43) ?_
              refine g_get C 1 2 dX0_lay_43 (Cn := RX0) (T := TX0) (N := 6) (fun _ h => List.mem_cons_of_mem _ (List.mem_append_right _ h)) rfl rfl (by decide) (List.mem_cons_of_mem _ (List.mem_append_left _ (List.mem_of_getElem? (i := 3) rfl))) rfl (q := 46) rfl ?_
              refine g_iload_n C 0 dX0_lay_46 rfl rfl rfl (q := 47) ?_
              refine g_iload_n C 0 dX0_lay_47 rfl rfl rfl (q := 48) ?_
              refine g_if_eq C (t := 56) dX0_lay_48 (by decide) (q := 51) rfl (fun c_48 => ?_) (fun c_48 => ?_)
              · rw [← nI_0, nI_eq (by omega) (by omega)] at c_48
                refine g_iconst C (nI 1) dX0_lay_56 (by decide) (q := 57) rfl ?_
                refine g_goto C (q := 61) dX0_lay_57 (by decide) ?_
                refine g_zast C 9 2 (wC cI cJ cZ a hA nA (fun _ => nI 0) (fun _ => nI 6) (upd f2 k (nI 1)) sp (nI z) le nu ev od fp ti wc wu sc pv su sd (nI t)) dX0_lay_61 rfl rfl (vp_in_nI (by omega) (by decide)) (by rw [nI_clamp (by omega)]; rw [show vp_nar .boolean (nI 1) = (nI 1) from rfl]; rfl) (q := 62) rfl ?_
                refine g_iinc C (z := 0) (nI (k + 1)) [(2, .int (nI (k + 1))), (0, .ref (a 1)), (1, .int (nI z))] dX0_lay_62 rfl (nI_add k 1) (by decide) rfl (q := 65) rfl ?_
                refine g_goto C (q := 36) dX0_lay_65 (by decide) ?_
                exact ih_36 (k + 1) (upd f2 k (nI 1)) (by first | assumption | omega) (by intro p hp; by_cases e : p = k; (subst e; rw [pk_us, stL]; first | exact (if_pos (by omega)).symm | exact (if_neg (by omega)).symm); (rw [pk_un e]; exact hf2 p (by omega))) (by omega)
              · rw [← nI_0, nI_eq (by omega) (by omega)] at c_48
                refine g_iload_n C 0 dX0_lay_51 rfl rfl rfl (q := 52) ?_
                refine g_iload_n C 2 dX0_lay_52 rfl rfl rfl (q := 53) ?_
                refine g_icmp_ne C (t := 60) dX0_lay_53 (by decide) (q := 56) rfl (fun c_53 => ?_) (fun c_53 => ?_)
                · rw [nI_eq (by omega) (by omega)] at c_53
                  refine g_iconst C (nI 0) dX0_lay_60 (by decide) (q := 61) rfl ?_
                  refine g_zast C 9 2 (wC cI cJ cZ a hA nA (fun _ => nI 0) (fun _ => nI 6) (upd f2 k (nI 0)) sp (nI z) le nu ev od fp ti wc wu sc pv su sd (nI t)) dX0_lay_61 rfl rfl (vp_in_nI (by omega) (by decide)) (by rw [nI_clamp (by omega)]; rw [show vp_nar .boolean (nI 0) = (nI 0) from rfl]; rfl) (q := 62) rfl ?_
                  refine g_iinc C (z := 0) (nI (k + 1)) [(2, .int (nI (k + 1))), (0, .ref (a 1)), (1, .int (nI z))] dX0_lay_62 rfl (nI_add k 1) (by decide) rfl (q := 65) rfl ?_
                  refine g_goto C (q := 36) dX0_lay_65 (by decide) ?_
                  exact ih_36 (k + 1) (upd f2 k (nI 0)) (by first | assumption | omega) (by intro p hp; by_cases e : p = k; (subst e; rw [pk_us, stL]; first | exact (if_pos (by omega)).symm | exact (if_neg (by omega)).symm); (rw [pk_un e]; exact hf2 p (by omega))) (by omega)
                · rw [nI_eq (by omega) (by omega)] at c_53
                  refine g_iconst C (nI 1) dX0_lay_56 (by decide) (q := 57) rfl ?_
                  refine g_goto C (q := 61) dX0_lay_57 (by decide) ?_
                  refine g_zast C 9 2 (wC cI cJ cZ a hA nA (fun _ => nI 0) (fun _ => nI 6) (upd f2 k (nI 1)) sp (nI z) le nu ev od fp ti wc wu sc pv su sd (nI t)) dX0_lay_61 rfl rfl (vp_in_nI (by omega) (by decide)) (by rw [nI_clamp (by omega)]; rw [show vp_nar .boolean (nI 1) = (nI 1) from rfl]; rfl) (q := 62) rfl ?_
                  refine g_iinc C (z := 0) (nI (k + 1)) [(2, .int (nI (k + 1))), (0, .ref (a 1)), (1, .int (nI z))] dX0_lay_62 rfl (nI_add k 1) (by decide) rfl (q := 65) rfl ?_
                  refine g_goto C (q := 36) dX0_lay_65 (by decide) ?_
                  exact ih_36 (k + 1) (upd f2 k (nI 1)) (by first | assumption | omega) (by intro p hp; by_cases e : p = k; (subst e; rw [pk_us, stL]; first | exact (if_pos (by omega)).symm | exact (if_neg (by omega)).symm); (rw [pk_un e]; exact hf2 p (by omega))) (by omega)
        exact lp_36 _ 0 st (by first | assumption | omega) (fun p h => absurd h (Nat.not_lt_zero _)) (Nat.lt_succ_self _)
      · rw [nI_leI (by omega) (by omega)] at c_10
        refine g_aload_n C 1 dX0_lay_13 rfl rfl rfl (q := 14) ?_
        refine g_get C 1 0 dX0_lay_14 (Cn := RX0) (T := TX0) (N := 6) (fun _ h => List.mem_cons_of_mem _ (List.mem_append_right _ h)) rfl rfl (by decide) (List.mem_cons_of_mem _ (List.mem_append_left _ (List.mem_of_getElem? (i := 1) rfl))) rfl (q := 17) rfl ?_
        refine g_iload_n C 0 dX0_lay_17 rfl rfl rfl (q := 18) ?_
        refine g_iconst C (nI 0) dX0_lay_18 (by decide) (q := 19) rfl ?_
        refine g_iast C 7 0 (wC cI cJ cZ a hA nA (upd f k (nI 0)) g st sp (nI z) le nu ev od fp ti wc wu sc pv su sd (nI t)) dX0_lay_19 rfl rfl (vp_in_nI (by omega) (by decide)) (by rw [nI_clamp (by omega)]; rfl) (q := 20) rfl ?_
        refine g_aload_n C 1 dX0_lay_20 rfl rfl rfl (q := 21) ?_
        refine g_get C 1 1 dX0_lay_21 (Cn := RX0) (T := TX0) (N := 6) (fun _ h => List.mem_cons_of_mem _ (List.mem_append_right _ h)) rfl rfl (by decide) (List.mem_cons_of_mem _ (List.mem_append_left _ (List.mem_of_getElem? (i := 2) rfl))) rfl (q := 24) rfl ?_
        refine g_iload_n C 0 dX0_lay_24 rfl rfl rfl (q := 25) ?_
        refine g_bipush C (nI 6) dX0_lay_25 (by decide) (q := 27) rfl ?_
        refine g_iast C 8 0 (wC cI cJ cZ a hA nA (upd f k (nI 0)) (upd g k (nI 6)) st sp (nI z) le nu ev od fp ti wc wu sc pv su sd (nI t)) dX0_lay_27 rfl rfl (vp_in_nI (by omega) (by decide)) (by rw [nI_clamp (by omega)]; rfl) (q := 28) rfl ?_
        refine g_iinc C (z := 0) (nI (k + 1)) [(2, .int (nI (k + 1))), (0, .ref (a 1)), (1, .int (nI z))] dX0_lay_28 rfl (nI_add k 1) (by decide) rfl (q := 31) rfl ?_
        refine g_goto C (q := 7) dX0_lay_31 (by decide) ?_
        exact ih_7 (k + 1) (upd f k (nI 0)) (upd g k (nI 6)) (by first | assumption | omega) (by intro p hp; by_cases e : p = k; (subst e; exact pk_us); (rw [pk_un e]; exact hf p (by omega))) (by intro p hp; by_cases e : p = k; (subst e; exact pk_us); (rw [pk_un e]; exact hg p (by omega))) (by omega)
  exact lp_7 _ 0 gr li (by first | assumption | omega) (fun p h => absurd h (Nat.not_lt_zero _)) (fun p h => absurd h (Nat.not_lt_zero _)) (Nat.lt_succ_self _)
