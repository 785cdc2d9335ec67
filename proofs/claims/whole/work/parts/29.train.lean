/-! the class: mayBe, train -/
set_option maxHeartbeats 4000000 in
set_option maxRecDepth 100000 in
theorem c_X4_mayBe (l : Launch) (D : va_G) (cI cJ cZ : ClassId) (a : Nat → Nat) (hA nA : Nat) (gr li st sp : Nat → Int32) (n m : Nat) (nu : Nat → Int32) (ev od : Nat → Int64) (fp ti : Nat → Int32) (wc : Nat → Int64) (wu : Int32) (sc pv : Nat → Int64) (su : Int32) (sd : Nat → Int32) (t k : Nat) (v : Int32) (gL gM : Nat → Int32) (rL rM : Nat) (hk : k < 5) : Met l yX4_mayBe wsX4_mayBe { frames := 0, cells := 0, slots := 0, locals := 0 } (gPc D (tyT cI cJ cZ) (wA a (a 11) (a 12)) (FZr (wA a (a 11) (a 12)) gL gM rL rM) (wC cI cJ cZ a hA nA gr li st sp (nI n) (nI m) nu ev od fp ti wc wu sc pv su sd (nI t)) [.ref (a 2), .int (nI k), .int v]) (vp_Si (fun r => r = if ¬ v < gL k ∧ ¬ gM k < v then nI 1 else nI 0)) 0 0 (fun _ => False) := by
  refine gs_si (cc := cX4_mayBe) (nL := 3) (ty := .boolean) (by decide) rfl (Nat.le_of_ble_eq_true rfl) (fun G C hret => ?_)
  show G 0 0 (wC cI cJ cZ a hA nA gr li st sp (nI n) (nI m) nu ev od fp ti wc wu sc pv su sd (nI t)) [(0, .ref (a 2)), (1, .int (nI k)), (2, .int v)] 0 []
  refine g_iload_n C 2 dX4_mayBe_0 rfl rfl rfl (q := 1) ?_
  refine g_gets C (fun s h => h.1) dX4_mayBe_1 (List.mem_cons_of_mem _ (List.mem_of_getElem? (i := 0) rfl)) (q := 4) rfl ?_
  refine g_iload_n C 1 dX4_mayBe_4 rfl rfl rfl (q := 5) ?_
  refine g_ti C (fun s h => h.2.2.1) dX4_mayBe_5 (vp_in_nI (by omega) (by decide)) (q := 6) rfl ?_
  refine g_eqi C (y := gL k) (by rw [nI_clamp (by omega)]) ?_
  refine g_icmp_lt C (t := 22) dX4_mayBe_6 (by decide) (q := 9) rfl (fun c_6 => ?_) (fun c_6 => ?_)
  · refine g_iconst C (nI 0) dX4_mayBe_22 (by decide) (q := 23) rfl ?_
    exact hret _ 23 _ _ dX4_mayBe_23 (by decide) ((if_neg (by first | assumption | (refine ⟨?_, ?_⟩ <;> assumption) | (refine ⟨?_, ?_, ?_⟩ <;> assumption) | omega | simp_all)).symm)
  · refine g_iload_n C 2 dX4_mayBe_9 rfl rfl rfl (q := 10) ?_
    refine g_gets C (fun s h => h.2.1) dX4_mayBe_10 (List.mem_cons_of_mem _ (List.mem_of_getElem? (i := 1) rfl)) (q := 13) rfl ?_
    refine g_iload_n C 1 dX4_mayBe_13 rfl rfl rfl (q := 14) ?_
    refine g_ti C (fun s h => h.2.2.2) dX4_mayBe_14 (vp_in_nI (by omega) (by decide)) (q := 15) rfl ?_
    refine g_eqi C (y := gM k) (by rw [nI_clamp (by omega)]) ?_
    refine g_icmp_gt C (t := 22) dX4_mayBe_15 (by decide) (q := 18) rfl (fun c_15 => ?_) (fun c_15 => ?_)
    · refine g_iconst C (nI 0) dX4_mayBe_22 (by decide) (q := 23) rfl ?_
      exact hret _ 23 _ _ dX4_mayBe_23 (by decide) ((if_neg (by first | assumption | (refine ⟨?_, ?_⟩ <;> assumption) | (refine ⟨?_, ?_, ?_⟩ <;> assumption) | omega | simp_all)).symm)
    · refine g_iconst C (nI 1) dX4_mayBe_18 (by decide) (q := 19) rfl ?_
      refine g_goto C (q := 23) dX4_mayBe_19 (by decide) ?_
      exact hret _ 23 _ _ dX4_mayBe_23 (by decide) ((if_pos (by first | assumption | (refine ⟨?_, ?_⟩ <;> assumption) | (refine ⟨?_, ?_, ?_⟩ <;> assumption) | omega | simp_all)).symm)
set_option maxHeartbeats 4000000 in
set_option maxRecDepth 100000 in
theorem c_X6_train (l : Launch) (D : va_G) (cI cJ cZ : ClassId) (a : Nat → Nat) (hA nA : Nat) (gr li st sp : Nat → Int32) (n m : Nat) (nu : Nat → Int32) (ev od : Nat → Int64) (fp ti : Nat → Int32) (wc : Nat → Int64) (wu : Int32) (sc pv : Nat → Int64) (su : Int32) (sd : Nat → Int32) (t : Nat) (k v : Int32) (rL rM : Nat) : Met l yX6_train wsX6_train { frames := 2, cells := 0, slots := 0, locals := 40 } (gPc D (tyT cI cJ cZ) (wA a (a 11) (a 12)) (FZr (wA a (a 11) (a 12)) (fun j => nI (trLo j)) (fun j => nI (trHi j)) rL rM) (wC cI cJ cZ a hA nA gr li st sp (nI n) (nI m) nu ev od fp ti wc wu sc pv su sd (nI t)) [.ref (a 0), .int k, .int v]) (va_Qi (fun (r : Int32) (u : (Nat → Int32) × Int32 × Int32) => (r, u.1) = aTrain nu k v ∧ ((u.1 = nu ∧ u.2 = (wu, su)) ∨ u.2 = (nI 0, nI 0))) (fun u tS => va_P D vwCl ((fun (u : (Nat → Int32) × Int32 × Int32) => wC cI cJ cZ a hA nA gr li st sp (nI n) (nI m) u.1 ev od fp ti wc u.2.1 sc pv u.2.2 sd (nI t)) u) tS.heap ∧ va_D (wA a (a 11) (a 12)) ((fun (u : (Nat → Int32) × Int32 × Int32) => wC cI cJ cZ a hA nA gr li st sp (nI n) (nI m) u.1 ev od fp ti wc u.2.1 sc pv u.2.2 sd (nI t)) u)) (wA a (a 11) (a 12))) 0 0 (wA a (a 11) (a 12)) := by
  refine gs_qi (cc := cX6_train) (nL := 4) (ty := .int) (W' := fun (u : (Nat → Int32) × Int32 × Int32) => wC cI cJ cZ a hA nA gr li st sp (nI n) (nI m) u.1 ev od fp ti wc u.2.1 sc pv u.2.2 sd (nI t)) (by decide) rfl (Nat.le_of_ble_eq_true rfl) (fun G C hret => ?_)
  show G 0 0 (wC cI cJ cZ a hA nA gr li st sp (nI n) (nI m) nu ev od fp ti wc wu sc pv su sd (nI t)) [(0, .ref (a 0)), (1, .int k), (2, .int v)] 0 []
  refine g_aload_n C 0 dX6_train_0 rfl rfl rfl (q := 1) ?_
  refine g_get C 0 1 dX6_train_1 (Cn := RX6) (T := TX6) (N := 6) (fun _ h => List.mem_cons_of_mem _ (List.mem_append_left _ (List.mem_append_left _ (List.mem_append_left _ (List.mem_append_right _ h))))) rfl rfl (by decide) (List.mem_cons_of_mem _ (List.mem_append_left _ (List.mem_append_left _ (List.mem_append_left _ (List.mem_append_left _ (List.mem_of_getElem? (i := 0) rfl)))))) rfl (q := 4) rfl ?_
  refine g_iload_n C 1 dX6_train_4 rfl rfl rfl (q := 5) ?_
  refine gcV_si C (n := 1) (As := [.int k]) (st := []) 2 (fun h => h) dX6_train_5 rfl rfl gX6_train_X4_knows (c_X4_knows l D cI cJ cZ a hA nA gr li st sp n m nu ev od fp ti wc wu sc pv su sd t k) rfl rfl rfl (by decide +kernel) ⟨Nat.le_of_ble_eq_true rfl, Nat.le_of_ble_eq_true rfl⟩ rfl rfl (Nat.le_of_ble_eq_true rfl) FT_b FT_h ⟨Nat.le_of_ble_eq_true rfl, Nat.le_of_ble_eq_true rfl⟩ (q := 8) rfl (fun r_5 h_5 => ?_)
  subst h_5
  refine g_if_eq C (t := 23) dX6_train_8 (by decide) (q := 11) rfl (fun c_8 => ?_) (fun c_8 => ?_)
  · replace c_8 := ite_e0 c_8
    refine g_bipush C (-2) dX6_train_23 (by decide) (q := 25) rfl ?_
    exact hret _ (nu, wu, su) 25 _ dX6_train_25 rfl (⟨by first | (rw [aTrain, if_neg c_8]) | (rw [aTrain, if_pos hc8, nI_clamp (by omega), if_neg c_20]), Or.inl ⟨rfl, rfl⟩⟩)
  · replace c_8 := ite_n0 c_8
    have hc8 := c_8
    obtain ⟨k1, hk, rfl⟩ := hcP_of c_8 (by decide)
    refine g_aload_n C 0 dX6_train_11 rfl rfl rfl (q := 12) ?_
    refine g_get C 0 1 dX6_train_12 (Cn := RX6) (T := TX6) (N := 6) (fun _ h => List.mem_cons_of_mem _ (List.mem_append_left _ (List.mem_append_left _ (List.mem_append_left _ (List.mem_append_right _ h))))) rfl rfl (by decide) (List.mem_cons_of_mem _ (List.mem_append_left _ (List.mem_append_left _ (List.mem_append_left _ (List.mem_append_left _ (List.mem_of_getElem? (i := 0) rfl)))))) rfl (q := 15) rfl ?_
    refine g_iload_n C 1 dX6_train_15 rfl rfl rfl (q := 16) ?_
    refine g_iload_n C 2 dX6_train_16 rfl rfl rfl (q := 17) ?_
    refine gcV_si C (n := 2) (As := [.int (nI k1), .int v]) (st := []) 2 (fun h => h) dX6_train_17 rfl rfl gX6_train_X4_mayBe (c_X4_mayBe l D cI cJ cZ a hA nA gr li st sp n m nu ev od fp ti wc wu sc pv su sd t k1 v (fun j => nI (trLo j)) (fun j => nI (trHi j)) rL rM hk) rfl rfl rfl (by decide +kernel) ⟨Nat.le_of_ble_eq_true rfl, Nat.le_of_ble_eq_true rfl⟩ rfl rfl (Nat.le_of_ble_eq_true rfl) FZr_b FZr_h ⟨Nat.le_of_ble_eq_true rfl, Nat.le_of_ble_eq_true rfl⟩ (q := 20) rfl (fun r_17 h_17 => ?_)
    subst h_17
    refine g_eqi C (y := if trP k1 v then nI 1 else nI 0) (ite_cg Iff.rfl) ?_
    refine g_if_ne C (t := 26) dX6_train_20 (by decide) (q := 23) rfl (fun c_20 => ?_) (fun c_20 => ?_)
    · replace c_20 := ite_n0 c_20
      refine g_aload_n C 0 dX6_train_26 rfl rfl rfl (q := 27) ?_
      refine g_get C 0 1 dX6_train_27 (Cn := RX6) (T := TX6) (N := 6) (fun _ h => List.mem_cons_of_mem _ (List.mem_append_left _ (List.mem_append_left _ (List.mem_append_left _ (List.mem_append_right _ h))))) rfl rfl (by decide) (List.mem_cons_of_mem _ (List.mem_append_left _ (List.mem_append_left _ (List.mem_append_left _ (List.mem_append_left _ (List.mem_of_getElem? (i := 0) rfl)))))) rfl (q := 30) rfl ?_
      refine g_iload_n C 1 dX6_train_30 rfl rfl rfl (q := 31) ?_
      refine gcV_si C (n := 1) (As := [.int (nI k1)]) (st := []) 2 (fun h => h) dX6_train_31 rfl rfl gX6_train_X4_number (c_X4_number l D cI cJ cZ a hA nA gr li st sp n m nu ev od fp ti wc wu sc pv su sd t k1 hk) rfl rfl rfl (by decide +kernel) ⟨Nat.le_of_ble_eq_true rfl, Nat.le_of_ble_eq_true rfl⟩ rfl rfl (Nat.le_of_ble_eq_true rfl) FT_b FT_h ⟨Nat.le_of_ble_eq_true rfl, Nat.le_of_ble_eq_true rfl⟩ (q := 34) rfl (fun r_31 h_31 => ?_)
      subst h_31
      refine g_istore_n C [(3, .int (nu k1)), (0, .ref (a 0)), (1, .int (nI k1)), (2, .int v)] dX6_train_34 rfl (by decide) rfl (q := 35) rfl ?_
      refine g_aload_n C 1 dX6_train_35 rfl rfl rfl (q := 36) ?_
      refine g_get C 0 1 dX6_train_36 (Cn := RX6) (T := TX6) (N := 6) (fun _ h => List.mem_cons_of_mem _ (List.mem_append_left _ (List.mem_append_left _ (List.mem_append_left _ (List.mem_append_right _ h))))) rfl rfl (by decide) (List.mem_cons_of_mem _ (List.mem_append_left _ (List.mem_append_left _ (List.mem_append_left _ (List.mem_append_left _ (List.mem_of_getElem? (i := 0) rfl)))))) rfl (q := 39) rfl ?_
      refine g_iload_n C 2 dX6_train_39 rfl rfl rfl (q := 40) ?_
      refine g_iload_n C 3 dX6_train_40 rfl rfl rfl (q := 41) ?_
      refine gcV_qv C (n := 2) (As := [.int (nI k1), .int v]) (st := []) 2 (fun h => h) (fun _ h => h) dX6_train_41 rfl rfl gX6_train_X4_put (c_X4_put l D cI cJ cZ a hA nA gr li st sp n m nu ev od fp ti wc wu sc pv su sd t k1 v hk) rfl rfl rfl (by decide +kernel) ⟨Nat.le_of_ble_eq_true rfl, Nat.le_of_ble_eq_true rfl⟩ rfl rfl (Nat.le_of_ble_eq_true rfl) FT_b FT_h ⟨Nat.le_of_ble_eq_true rfl, Nat.le_of_ble_eq_true rfl⟩ (q := 44) rfl (fun u_41 h_41 => ?_)
      refine g_aload_n C 1 dX6_train_44 rfl rfl rfl (q := 45) ?_
      refine gcV_qv C (n := 0) (As := []) (st := []) 0 (fun h => h) (fun _ h => h) dX6_train_45 rfl rfl gX6_train_X6_forgetChoices (c_X6_forgetChoices l D cI cJ cZ a hA nA gr li st sp n m (upd nu k1 v) ev od fp ti wc wu sc pv su sd t) rfl rfl rfl (by decide +kernel) ⟨Nat.le_of_ble_eq_true rfl, Nat.le_of_ble_eq_true rfl⟩ rfl rfl (Nat.le_of_ble_eq_true rfl) FT_b FT_h ⟨Nat.le_of_ble_eq_true rfl, Nat.le_of_ble_eq_true rfl⟩ (q := 48) rfl (fun u_45 h_45 => ?_)
      refine g_iload_n C 0 dX6_train_48 rfl rfl rfl (q := 49) ?_
      exact hret _ (upd nu k1 v, nI 0, nI 0) 49 _ dX6_train_49 rfl (⟨by rw [aTrain, if_pos hc8, nI_clamp (by omega), if_pos c_20], Or.inr rfl⟩)
    · replace c_20 := ite_e0 c_20
      refine g_bipush C (-2) dX6_train_23 (by decide) (q := 25) rfl ?_
      exact hret _ (nu, wu, su) 25 _ dX6_train_25 rfl (⟨by first | (rw [aTrain, if_neg c_8]) | (rw [aTrain, if_pos hc8, nI_clamp (by omega), if_neg c_20]), Or.inl ⟨rfl, rfl⟩⟩)
