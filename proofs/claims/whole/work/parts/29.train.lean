/-! the class: mayBe, train -/
set_option maxHeartbeats 4000000 in
set_option maxRecDepth 100000 in
theorem c_X4_mayBe (l : Launch) (D : va_G) (cI cJ cZ : ClassId) (a : Nat → Nat) (hA nA : Nat) (gr li st sp : Nat → Int32) (n m : Nat) (nu : Nat → Int32) (ev od : Nat → Int64) (fp ti : Nat → Int32) (wc : Nat → Int64) (wu : Int32) (sc pv : Nat → Int64) (su : Int32) (sd : Nat → Int32) (t k : Nat) (v : Int32) (gL gM : Nat → Int32) (rL rM : Nat) (hk : k < 5) : Met l yX4_mayBe wsX4_mayBe { frames := 0, cells := 0, slots := 0, locals := 0 } (gPc D (tyT cI cJ cZ) (wA a (a 11) (a 12)) (FZr (wA a (a 11) (a 12)) gL gM rL rM) (wC cI cJ cZ a hA nA gr li st sp (nI n) (nI m) nu ev od fp ti wc wu sc pv su sd (nI t)) [.ref (a 2), .int (nI k), .int v]) (vp_Si (fun r => r = if ¬ v < gL k ∧ ¬ gM k < v then nI 1 else nI 0)) 0 0 (fun _ => False) := by
  refine gs_si (cc := cX4_mayBe) (nL := 3) (ty := .boolean) (by decide) rfl (Nat.le_of_ble_eq_true rfl) (fun G C hret => ?_)
  show G 0 0 (wC cI cJ cZ a hA nA gr li st sp (nI n) (nI m) nu ev od fp ti wc wu sc pv su sd (nI t)) [(0, .ref (a 2)), (1, .int (nI k)), (2, .int v)] 0 []
  refine g_iload_n C 2 dX4_mayBe_0 rfl rfl rfl (q := 1) ?_
  refine g_gets C (fun s h => h.1) dX4_mayBe_1 (List.mem_cons_of_mem _ (List.mem_of_getElem? (i := 0) rfl)) (q := 4) rfl ?_
  refine g_iload_n C 1 dX4_mayBe_4 rfl rfl rfl (q := 5) ?_
  refine g_ti C (fun s h => h.2.2.1) dX4_mayBe_5 (vp_in_nI (by omega) (by decide)) (q := 6) rfl ?_
  refine g_eqi C (y := gL k) (by rw [nI_clamp (by omega)]) ?_
  refine g_icmp_lt C (t := 22) dX4_mayBe_6 (by decide) (q := 9) rfl (fun c_6 => ?_) (fun c_6 => ?_)
  · refine g_iconst C (nI 0) dX4_mayBe_22 (by decide) (q := 23) rfl ?_
    exact hret _ 23 _ _ dX4_mayBe_23 (by decide) ((if_neg (by first | assumption | (refine ⟨?_, ?_⟩ <;> assumption) | (refine ⟨?_, ?_, ?_⟩ <;> assumption) | omega | simp_all)).symm)
  · refine g_iload_n C 2 dX4_mayBe_9 rfl rfl rfl (q := 10) ?_
    refine g_gets C (fun s h => h.2.1) dX4_mayBe_10 (List.mem_cons_of_mem _ (List.mem_of_getElem? (i := 1) rfl)) (q := 13) rfl ?_
    refine g_iload_n C 1 dX4_mayBe_13 rfl rfl rfl (q := 14) ?_
    refine g_ti C (fun s h => h.2.2.2) dX4_mayBe_14 (vp_in_nI (by omega) (by decide)) (q := 15) rfl ?_
    refine g_eqi C (y := gM k) (by rw [nI_clamp (by omega)]) ?_
    refine g_icmp_gt C (t := 22) dX4_mayBe_15 (by decide) (q := 18) rfl (fun c_15 => ?_) (fun c_15 => ?_)
    · refine g_iconst C (nI 0) dX4_mayBe_22 (by decide) (q := 23) rfl ?_
      exact hret _ 23 _ _ dX4_mayBe_23 (by decide) ((if_neg (by first | assumption | (refine ⟨?_, ?_⟩ <;> assumption) | (refine ⟨?_, ?_, ?_⟩ <;> assumption) | omega | simp_all)).symm)
    · refine g_iconst C (nI 1) dX4_mayBe_18 (by decide) (q := 19) rfl ?_
      refine g_goto C (q := 23) dX4_mayBe_19 (by decide) ?_
      exact hret _ 23 _ _ dX4_mayBe_23 (by decide) ((if_pos (by first | assumption | (refine ⟨?_, ?_⟩ <;> assumption) | (refine ⟨?_, ?_, ?_⟩ <;> assumption) | omega | simp_all)).symm)
