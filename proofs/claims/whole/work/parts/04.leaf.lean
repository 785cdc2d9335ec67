set_option maxHeartbeats 4000000 in
set_option maxRecDepth 100000 in
theorem c_X0_cellCount (l : Launch) (D : va_G) (cI cJ cZ : ClassId) (a : Nat → Nat) (hA nA : Nat) (gr li st sp : Nat → Int32) (n m : Nat) (nu : Nat → Int32) (ev od : Nat → Int64) (fp ti : Nat → Int32) (wc : Nat → Int64) (wu : Int32) (sc pv : Nat → Int64) (su : Int32) (sd : Nat → Int32) (t : Nat) : Met l yX0_cellCount wsX0_cellCount { frames := 0, cells := 0, slots := 0, locals := 0 } (gPc D (tyT cI cJ cZ) (wA a (a 11) (a 12)) FT (wC cI cJ cZ a hA nA gr li st sp (nI n) (nI m) nu ev od fp ti wc wu sc pv su sd (nI t)) [.ref (a 1)]) (vp_Si (fun r => r = nI n)) 0 0 (fun _ => False) := by
  refine gs_si (cc := cX0_cellCount) (nL := 1) (ty := .int) (by decide) rfl (Nat.le_of_ble_eq_true rfl) (fun G C hret => ?_)
  show G 0 0 (wC cI cJ cZ a hA nA gr li st sp (nI n) (nI m) nu ev od fp ti wc wu sc pv su sd (nI t)) [(0, .ref (a 1))] 0 []
  refine g_aload_n C 0 dX0_cellCount_0 rfl rfl rfl (q := 1) ?_
  refine g_get C 1 4 dX0_cellCount_1 (Cn := RX0) (T := TX0) (N := 6) (fun _ h => List.mem_cons_of_mem _ (List.mem_append_right _ h)) rfl rfl (by decide) (List.mem_cons_of_mem _ (List.mem_append_left _ (List.mem_of_getElem? (i := 0) rfl))) rfl (q := 4) rfl ?_
  exact hret _ 4 _ _ dX0_cellCount_4 rfl (rfl)
set_option maxHeartbeats 4000000 in
set_option maxRecDepth 100000 in
theorem c_X0_legCount (l : Launch) (D : va_G) (cI cJ cZ : ClassId) (a : Nat → Nat) (hA nA : Nat) (gr li st sp : Nat → Int32) (n m : Nat) (nu : Nat → Int32) (ev od : Nat → Int64) (fp ti : Nat → Int32) (wc : Nat → Int64) (wu : Int32) (sc pv : Nat → Int64) (su : Int32) (sd : Nat → Int32) (t : Nat) : Met l yX0_legCount wsX0_legCount { frames := 0, cells := 0, slots := 0, locals := 0 } (gPc D (tyT cI cJ cZ) (wA a (a 11) (a 12)) FT (wC cI cJ cZ a hA nA gr li st sp (nI n) (nI m) nu ev od fp ti wc wu sc pv su sd (nI t)) [.ref (a 1)]) (vp_Si (fun r => r = nI m)) 0 0 (fun _ => False) := by
  refine gs_si (cc := cX0_legCount) (nL := 1) (ty := .int) (by decide) rfl (Nat.le_of_ble_eq_true rfl) (fun G C hret => ?_)
  show G 0 0 (wC cI cJ cZ a hA nA gr li st sp (nI n) (nI m) nu ev od fp ti wc wu sc pv su sd (nI t)) [(0, .ref (a 1))] 0 []
  refine g_aload_n C 0 dX0_legCount_0 rfl rfl rfl (q := 1) ?_
  refine g_get C 1 5 dX0_legCount_1 (Cn := RX0) (T := TX0) (N := 6) (fun _ h => List.mem_cons_of_mem _ (List.mem_append_right _ h)) rfl rfl (by decide) (List.mem_cons_of_mem _ (List.mem_append_left _ (List.mem_of_getElem? (i := 0) rfl))) rfl (q := 4) rfl ?_
  exact hret _ 4 _ _ dX0_legCount_4 rfl (rfl)
set_option maxHeartbeats 4000000 in
set_option maxRecDepth 100000 in
theorem c_X0_hasCell (l : Launch) (D : va_G) (cI cJ cZ : ClassId) (a : Nat → Nat) (hA nA : Nat) (gr li st sp : Nat → Int32) (n m : Nat) (nu : Nat → Int32) (ev od : Nat → Int64) (fp ti : Nat → Int32) (wc : Nat → Int64) (wu : Int32) (sc pv : Nat → Int64) (su : Int32) (sd : Nat → Int32) (t : Nat) (k : Int32) : Met l yX0_hasCell wsX0_hasCell { frames := 0, cells := 0, slots := 0, locals := 0 } (gPc D (tyT cI cJ cZ) (wA a (a 11) (a 12)) FT (wC cI cJ cZ a hA nA gr li st sp (nI n) (nI m) nu ev od fp ti wc wu sc pv su sd (nI t)) [.ref (a 1), .int k]) (vp_Si (fun r => r = if ¬ k < 0 ∧ ¬ nI n ≤ k then nI 1 else nI 0)) 0 0 (fun _ => False) := by
  refine gs_si (cc := cX0_hasCell) (nL := 2) (ty := .boolean) (by decide) rfl (Nat.le_of_ble_eq_true rfl) (fun G C hret => ?_)
  show G 0 0 (wC cI cJ cZ a hA nA gr li st sp (nI n) (nI m) nu ev od fp ti wc wu sc pv su sd (nI t)) [(0, .ref (a 1)), (1, .int k)] 0 []
  refine g_iload_n C 1 dX0_hasCell_0 rfl rfl rfl (q := 1) ?_
  refine g_if_lt C (t := 16) dX0_hasCell_1 (by decide) (q := 4) rfl (fun c_1 => ?_) (fun c_1 => ?_)
  · refine g_iconst C (nI 0) dX0_hasCell_16 (by decide) (q := 17) rfl ?_
    exact hret _ 17 _ _ dX0_hasCell_17 (by decide) ((if_neg (by first | assumption | (refine ⟨?_, ?_⟩ <;> assumption) | (refine ⟨?_, ?_, ?_⟩ <;> assumption) | omega | simp_all)).symm)
  · refine g_iload_n C 1 dX0_hasCell_4 rfl rfl rfl (q := 5) ?_
    refine g_aload_n C 0 dX0_hasCell_5 rfl rfl rfl (q := 6) ?_
    refine g_get C 1 4 dX0_hasCell_6 (Cn := RX0) (T := TX0) (N := 6) (fun _ h => List.mem_cons_of_mem _ (List.mem_append_right _ h)) rfl rfl (by decide) (List.mem_cons_of_mem _ (List.mem_append_left _ (List.mem_of_getElem? (i := 0) rfl))) rfl (q := 9) rfl ?_
    refine g_icmp_ge C (t := 16) dX0_hasCell_9 (by decide) (q := 12) rfl (fun c_9 => ?_) (fun c_9 => ?_)
    · refine g_iconst C (nI 0) dX0_hasCell_16 (by decide) (q := 17) rfl ?_
      exact hret _ 17 _ _ dX0_hasCell_17 (by decide) ((if_neg (by first | assumption | (refine ⟨?_, ?_⟩ <;> assumption) | (refine ⟨?_, ?_, ?_⟩ <;> assumption) | omega | simp_all)).symm)
    · refine g_iconst C (nI 1) dX0_hasCell_12 (by decide) (q := 13) rfl ?_
      refine g_goto C (q := 17) dX0_hasCell_13 (by decide) ?_
      exact hret _ 17 _ _ dX0_hasCell_17 (by decide) ((if_pos (by first | assumption | (refine ⟨?_, ?_⟩ <;> assumption) | (refine ⟨?_, ?_, ?_⟩ <;> assumption) | omega | simp_all)).symm)
set_option maxHeartbeats 4000000 in
set_option maxRecDepth 100000 in
theorem c_X0_hasPost (l : Launch) (D : va_G) (cI cJ cZ : ClassId) (a : Nat → Nat) (hA nA : Nat) (gr li st sp : Nat → Int32) (n m : Nat) (nu : Nat → Int32) (ev od : Nat → Int64) (fp ti : Nat → Int32) (wc : Nat → Int64) (wu : Int32) (sc pv : Nat → Int64) (su : Int32) (sd : Nat → Int32) (t : Nat) (k : Int32) : Met l yX0_hasPost wsX0_hasPost { frames := 0, cells := 0, slots := 0, locals := 0 } (gPc D (tyT cI cJ cZ) (wA a (a 11) (a 12)) FT (wC cI cJ cZ a hA nA gr li st sp (nI n) (nI m) nu ev od fp ti wc wu sc pv su sd (nI t)) [.ref (a 1), .int k]) (vp_Si (fun r => r = if ¬ k < 0 ∧ ¬ nI n < k then nI 1 else nI 0)) 0 0 (fun _ => False) := by
  refine gs_si (cc := cX0_hasPost) (nL := 2) (ty := .boolean) (by decide) rfl (Nat.le_of_ble_eq_true rfl) (fun G C hret => ?_)
  show G 0 0 (wC cI cJ cZ a hA nA gr li st sp (nI n) (nI m) nu ev od fp ti wc wu sc pv su sd (nI t)) [(0, .ref (a 1)), (1, .int k)] 0 []
  refine g_iload_n C 1 dX0_hasPost_0 rfl rfl rfl (q := 1) ?_
  refine g_if_lt C (t := 16) dX0_hasPost_1 (by decide) (q := 4) rfl (fun c_1 => ?_) (fun c_1 => ?_)
  · refine g_iconst C (nI 0) dX0_hasPost_16 (by decide) (q := 17) rfl ?_
    exact hret _ 17 _ _ dX0_hasPost_17 (by decide) ((if_neg (by first | assumption | (refine ⟨?_, ?_⟩ <;> assumption) | (refine ⟨?_, ?_, ?_⟩ <;> assumption) | omega | simp_all)).symm)
  · refine g_iload_n C 1 dX0_hasPost_4 rfl rfl rfl (q := 5) ?_
    refine g_aload_n C 0 dX0_hasPost_5 rfl rfl rfl (q := 6) ?_
    refine g_get C 1 4 dX0_hasPost_6 (Cn := RX0) (T := TX0) (N := 6) (fun _ h => List.mem_cons_of_mem _ (List.mem_append_right _ h)) rfl rfl (by decide) (List.mem_cons_of_mem _ (List.mem_append_left _ (List.mem_of_getElem? (i := 0) rfl))) rfl (q := 9) rfl ?_
    refine g_icmp_gt C (t := 16) dX0_hasPost_9 (by decide) (q := 12) rfl (fun c_9 => ?_) (fun c_9 => ?_)
    · refine g_iconst C (nI 0) dX0_hasPost_16 (by decide) (q := 17) rfl ?_
      exact hret _ 17 _ _ dX0_hasPost_17 (by decide) ((if_neg (by first | assumption | (refine ⟨?_, ?_⟩ <;> assumption) | (refine ⟨?_, ?_, ?_⟩ <;> assumption) | omega | simp_all)).symm)
    · refine g_iconst C (nI 1) dX0_hasPost_12 (by decide) (q := 13) rfl ?_
      refine g_goto C (q := 17) dX0_hasPost_13 (by decide) ?_
      exact hret _ 17 _ _ dX0_hasPost_17 (by decide) ((if_pos (by first | assumption | (refine ⟨?_, ?_⟩ <;> assumption) | (refine ⟨?_, ?_, ?_⟩ <;> assumption) | omega | simp_all)).symm)
set_option maxHeartbeats 4000000 in
set_option maxRecDepth 100000 in
theorem c_X0_hasLeg (l : Launch) (D : va_G) (cI cJ cZ : ClassId) (a : Nat → Nat) (hA nA : Nat) (gr li st sp : Nat → Int32) (n m : Nat) (nu : Nat → Int32) (ev od : Nat → Int64) (fp ti : Nat → Int32) (wc : Nat → Int64) (wu : Int32) (sc pv : Nat → Int64) (su : Int32) (sd : Nat → Int32) (t : Nat) (k : Int32) : Met l yX0_hasLeg wsX0_hasLeg { frames := 0, cells := 0, slots := 0, locals := 0 } (gPc D (tyT cI cJ cZ) (wA a (a 11) (a 12)) FT (wC cI cJ cZ a hA nA gr li st sp (nI n) (nI m) nu ev od fp ti wc wu sc pv su sd (nI t)) [.ref (a 1), .int k]) (vp_Si (fun r => r = if ¬ k < 0 ∧ ¬ nI m ≤ k then nI 1 else nI 0)) 0 0 (fun _ => False) := by
  refine gs_si (cc := cX0_hasLeg) (nL := 2) (ty := .boolean) (by decide) rfl (Nat.le_of_ble_eq_true rfl) (fun G C hret => ?_)
  show G 0 0 (wC cI cJ cZ a hA nA gr li st sp (nI n) (nI m) nu ev od fp ti wc wu sc pv su sd (nI t)) [(0, .ref (a 1)), (1, .int k)] 0 []
  refine g_iload_n C 1 dX0_hasLeg_0 rfl rfl rfl (q := 1) ?_
  refine g_if_lt C (t := 16) dX0_hasLeg_1 (by decide) (q := 4) rfl (fun c_1 => ?_) (fun c_1 => ?_)
  · refine g_iconst C (nI 0) dX0_hasLeg_16 (by decide) (q := 17) rfl ?_
    exact hret _ 17 _ _ dX0_hasLeg_17 (by decide) ((if_neg (by first | assumption | (refine ⟨?_, ?_⟩ <;> assumption) | (refine ⟨?_, ?_, ?_⟩ <;> assumption) | omega | simp_all)).symm)
  · refine g_iload_n C 1 dX0_hasLeg_4 rfl rfl rfl (q := 5) ?_
    refine g_aload_n C 0 dX0_hasLeg_5 rfl rfl rfl (q := 6) ?_
    refine g_get C 1 5 dX0_hasLeg_6 (Cn := RX0) (T := TX0) (N := 6) (fun _ h => List.mem_cons_of_mem _ (List.mem_append_right _ h)) rfl rfl (by decide) (List.mem_cons_of_mem _ (List.mem_append_left _ (List.mem_of_getElem? (i := 0) rfl))) rfl (q := 9) rfl ?_
    refine g_icmp_ge C (t := 16) dX0_hasLeg_9 (by decide) (q := 12) rfl (fun c_9 => ?_) (fun c_9 => ?_)
    · refine g_iconst C (nI 0) dX0_hasLeg_16 (by decide) (q := 17) rfl ?_
      exact hret _ 17 _ _ dX0_hasLeg_17 (by decide) ((if_neg (by first | assumption | (refine ⟨?_, ?_⟩ <;> assumption) | (refine ⟨?_, ?_, ?_⟩ <;> assumption) | omega | simp_all)).symm)
    · refine g_iconst C (nI 1) dX0_hasLeg_12 (by decide) (q := 13) rfl ?_
      refine g_goto C (q := 17) dX0_hasLeg_13 (by decide) ?_
      exact hret _ 17 _ _ dX0_hasLeg_17 (by decide) ((if_pos (by first | assumption | (refine ⟨?_, ?_⟩ <;> assumption) | (refine ⟨?_, ?_, ?_⟩ <;> assumption) | omega | simp_all)).symm)
set_option maxHeartbeats 4000000 in
set_option maxRecDepth 100000 in
theorem c_X0_isEnd (l : Launch) (D : va_G) (cI cJ cZ : ClassId) (a : Nat → Nat) (hA nA : Nat) (gr li st sp : Nat → Int32) (n m : Nat) (nu : Nat → Int32) (ev od : Nat → Int64) (fp ti : Nat → Int32) (wc : Nat → Int64) (wu : Int32) (sc pv : Nat → Int64) (su : Int32) (sd : Nat → Int32) (t k : Nat) (hk : k ≤ n) (hn : n ≤ 16) : Met l yX0_isEnd wsX0_isEnd { frames := 0, cells := 0, slots := 0, locals := 0 } (gPc D (tyT cI cJ cZ) (wA a (a 11) (a 12)) FT (wC cI cJ cZ a hA nA gr li st sp (nI n) (nI m) nu ev od fp ti wc wu sc pv su sd (nI t)) [.ref (a 1), .int (nI k)]) (vp_Si (fun r => r = if k = 0 ∨ k = n then nI 1 else nI 0)) 0 0 (fun _ => False) := by
  refine gs_si (cc := cX0_isEnd) (nL := 2) (ty := .boolean) (by decide) rfl (Nat.le_of_ble_eq_true rfl) (fun G C hret => ?_)
  show G 0 0 (wC cI cJ cZ a hA nA gr li st sp (nI n) (nI m) nu ev od fp ti wc wu sc pv su sd (nI t)) [(0, .ref (a 1)), (1, .int (nI k))] 0 []
  refine g_iload_n C 1 dX0_isEnd_0 rfl rfl rfl (q := 1) ?_
  refine g_if_eq C (t := 12) dX0_isEnd_1 (by decide) (q := 4) rfl (fun c_1 => ?_) (fun c_1 => ?_)
  · rw [← nI_0, nI_eq (by omega) (by omega)] at c_1
    refine g_iconst C (nI 1) dX0_isEnd_12 (by decide) (q := 13) rfl ?_
    refine g_goto C (q := 17) dX0_isEnd_13 (by decide) ?_
    exact hret _ 17 _ _ dX0_isEnd_17 (by decide) ((if_pos (by first | assumption | (refine ⟨?_, ?_⟩ <;> assumption) | (refine ⟨?_, ?_, ?_⟩ <;> assumption) | omega | simp_all)).symm)
  · rw [← nI_0, nI_eq (by omega) (by omega)] at c_1
    refine g_iload_n C 1 dX0_isEnd_4 rfl rfl rfl (q := 5) ?_
    refine g_aload_n C 0 dX0_isEnd_5 rfl rfl rfl (q := 6) ?_
    refine g_get C 1 4 dX0_isEnd_6 (Cn := RX0) (T := TX0) (N := 6) (fun _ h => List.mem_cons_of_mem _ (List.mem_append_right _ h)) rfl rfl (by decide) (List.mem_cons_of_mem _ (List.mem_append_left _ (List.mem_of_getElem? (i := 0) rfl))) rfl (q := 9) rfl ?_
    refine g_icmp_ne C (t := 16) dX0_isEnd_9 (by decide) (q := 12) rfl (fun c_9 => ?_) (fun c_9 => ?_)
    · rw [nI_eq (by omega) (by omega)] at c_9
      refine g_iconst C (nI 0) dX0_isEnd_16 (by decide) (q := 17) rfl ?_
      exact hret _ 17 _ _ dX0_isEnd_17 (by decide) ((if_neg (by first | assumption | (refine ⟨?_, ?_⟩ <;> assumption) | (refine ⟨?_, ?_, ?_⟩ <;> assumption) | omega | simp_all)).symm)
    · rw [nI_eq (by omega) (by omega)] at c_9
      refine g_iconst C (nI 1) dX0_isEnd_12 (by decide) (q := 13) rfl ?_
      refine g_goto C (q := 17) dX0_isEnd_13 (by decide) ?_
      exact hret _ 17 _ _ dX0_isEnd_17 (by decide) ((if_pos (by first | assumption | (refine ⟨?_, ?_⟩ <;> assumption) | (refine ⟨?_, ?_, ?_⟩ <;> assumption) | omega | simp_all)).symm)
set_option maxHeartbeats 4000000 in
set_option maxRecDepth 100000 in
theorem c_X0_isStop (l : Launch) (D : va_G) (cI cJ cZ : ClassId) (a : Nat → Nat) (hA nA : Nat) (gr li st sp : Nat → Int32) (n m : Nat) (nu : Nat → Int32) (ev od : Nat → Int64) (fp ti : Nat → Int32) (wc : Nat → Int64) (wu : Int32) (sc pv : Nat → Int64) (su : Int32) (sd : Nat → Int32) (t k : Nat) (hk : k ≤ 16) (hst : ∀ j, st j = nI 0 ∨ st j = nI 1) : Met l yX0_isStop wsX0_isStop { frames := 0, cells := 0, slots := 0, locals := 0 } (gPc D (tyT cI cJ cZ) (wA a (a 11) (a 12)) FT (wC cI cJ cZ a hA nA gr li st sp (nI n) (nI m) nu ev od fp ti wc wu sc pv su sd (nI t)) [.ref (a 1), .int (nI k)]) (vp_Si (fun r => r = st k)) 0 0 (fun _ => False) := by
  refine gs_si (cc := cX0_isStop) (nL := 2) (ty := .boolean) (by decide) rfl (Nat.le_of_ble_eq_true rfl) (fun G C hret => ?_)
  show G 0 0 (wC cI cJ cZ a hA nA gr li st sp (nI n) (nI m) nu ev od fp ti wc wu sc pv su sd (nI t)) [(0, .ref (a 1)), (1, .int (nI k))] 0 []
  refine g_aload_n C 0 dX0_isStop_0 rfl rfl rfl (q := 1) ?_
  refine g_get C 1 2 dX0_isStop_1 (Cn := RX0) (T := TX0) (N := 6) (fun _ h => List.mem_cons_of_mem _ (List.mem_append_right _ h)) rfl rfl (by decide) (List.mem_cons_of_mem _ (List.mem_append_left _ (List.mem_of_getElem? (i := 0) rfl))) rfl (q := 4) rfl ?_
  refine g_iload_n C 1 dX0_isStop_4 rfl rfl rfl (q := 5) ?_
  refine g_zald C 9 2 dX0_isStop_5 rfl rfl (vp_in_nI (by omega) (by decide)) (q := 6) rfl ?_
  refine g_eqi C (y := st k) (by rw [nI_clamp (by omega)]) ?_
  exact hret _ 6 _ _ dX0_isStop_6 (z01b (hst k)) rfl
set_option maxHeartbeats 4000000 in
set_option maxRecDepth 100000 in
theorem c_X0_gradeOf (l : Launch) (D : va_G) (cI cJ cZ : ClassId) (a : Nat → Nat) (hA nA : Nat) (gr li st sp : Nat → Int32) (n m : Nat) (nu : Nat → Int32) (ev od : Nat → Int64) (fp ti : Nat → Int32) (wc : Nat → Int64) (wu : Int32) (sc pv : Nat → Int64) (su : Int32) (sd : Nat → Int32) (t k : Nat) (hk : k < 16) : Met l yX0_gradeOf wsX0_gradeOf { frames := 0, cells := 0, slots := 0, locals := 0 } (gPc D (tyT cI cJ cZ) (wA a (a 11) (a 12)) FT (wC cI cJ cZ a hA nA gr li st sp (nI n) (nI m) nu ev od fp ti wc wu sc pv su sd (nI t)) [.ref (a 1), .int (nI k)]) (vp_Si (fun r => r = gr k)) 0 0 (fun _ => False) := by
  refine gs_si (cc := cX0_gradeOf) (nL := 2) (ty := .int) (by decide) rfl (Nat.le_of_ble_eq_true rfl) (fun G C hret => ?_)
  show G 0 0 (wC cI cJ cZ a hA nA gr li st sp (nI n) (nI m) nu ev od fp ti wc wu sc pv su sd (nI t)) [(0, .ref (a 1)), (1, .int (nI k))] 0 []
  refine g_aload_n C 0 dX0_gradeOf_0 rfl rfl rfl (q := 1) ?_
  refine g_get C 1 0 dX0_gradeOf_1 (Cn := RX0) (T := TX0) (N := 6) (fun _ h => List.mem_cons_of_mem _ (List.mem_append_right _ h)) rfl rfl (by decide) (List.mem_cons_of_mem _ (List.mem_append_left _ (List.mem_of_getElem? (i := 0) rfl))) rfl (q := 4) rfl ?_
  refine g_iload_n C 1 dX0_gradeOf_4 rfl rfl rfl (q := 5) ?_
  refine g_iald C 7 0 dX0_gradeOf_5 rfl rfl (vp_in_nI (by omega) (by decide)) (q := 6) rfl ?_
  refine g_eqi C (y := gr k) (by rw [nI_clamp (by omega)]) ?_
  exact hret _ 6 _ _ dX0_gradeOf_6 rfl (rfl)
set_option maxHeartbeats 4000000 in
set_option maxRecDepth 100000 in
theorem c_X0_limitOf (l : Launch) (D : va_G) (cI cJ cZ : ClassId) (a : Nat → Nat) (hA nA : Nat) (gr li st sp : Nat → Int32) (n m : Nat) (nu : Nat → Int32) (ev od : Nat → Int64) (fp ti : Nat → Int32) (wc : Nat → Int64) (wu : Int32) (sc pv : Nat → Int64) (su : Int32) (sd : Nat → Int32) (t k : Nat) (hk : k < 16) : Met l yX0_limitOf wsX0_limitOf { frames := 0, cells := 0, slots := 0, locals := 0 } (gPc D (tyT cI cJ cZ) (wA a (a 11) (a 12)) FT (wC cI cJ cZ a hA nA gr li st sp (nI n) (nI m) nu ev od fp ti wc wu sc pv su sd (nI t)) [.ref (a 1), .int (nI k)]) (vp_Si (fun r => r = li k)) 0 0 (fun _ => False) := by
  refine gs_si (cc := cX0_limitOf) (nL := 2) (ty := .int) (by decide) rfl (Nat.le_of_ble_eq_true rfl) (fun G C hret => ?_)
  show G 0 0 (wC cI cJ cZ a hA nA gr li st sp (nI n) (nI m) nu ev od fp ti wc wu sc pv su sd (nI t)) [(0, .ref (a 1)), (1, .int (nI k))] 0 []
  refine g_aload_n C 0 dX0_limitOf_0 rfl rfl rfl (q := 1) ?_
  refine g_get C 1 1 dX0_limitOf_1 (Cn := RX0) (T := TX0) (N := 6) (fun _ h => List.mem_cons_of_mem _ (List.mem_append_right _ h)) rfl rfl (by decide) (List.mem_cons_of_mem _ (List.mem_append_left _ (List.mem_of_getElem? (i := 0) rfl))) rfl (q := 4) rfl ?_
  refine g_iload_n C 1 dX0_limitOf_4 rfl rfl rfl (q := 5) ?_
  refine g_iald C 8 0 dX0_limitOf_5 rfl rfl (vp_in_nI (by omega) (by decide)) (q := 6) rfl ?_
  refine g_eqi C (y := li k) (by rw [nI_clamp (by omega)]) ?_
  exact hret _ 6 _ _ dX0_limitOf_6 rfl (rfl)
set_option maxHeartbeats 4000000 in
set_option maxRecDepth 100000 in
theorem c_X0_firstPost (l : Launch) (D : va_G) (cI cJ cZ : ClassId) (a : Nat → Nat) (hA nA : Nat) (gr li st sp : Nat → Int32) (n m : Nat) (nu : Nat → Int32) (ev od : Nat → Int64) (fp ti : Nat → Int32) (wc : Nat → Int64) (wu : Int32) (sc pv : Nat → Int64) (su : Int32) (sd : Nat → Int32) (t k : Nat) (hk : k < 16) : Met l yX0_firstPost wsX0_firstPost { frames := 0, cells := 0, slots := 0, locals := 0 } (gPc D (tyT cI cJ cZ) (wA a (a 11) (a 12)) FT (wC cI cJ cZ a hA nA gr li st sp (nI n) (nI m) nu ev od fp ti wc wu sc pv su sd (nI t)) [.ref (a 1), .int (nI k)]) (vp_Si (fun r => r = sp k)) 0 0 (fun _ => False) := by
  refine gs_si (cc := cX0_firstPost) (nL := 2) (ty := .int) (by decide) rfl (Nat.le_of_ble_eq_true rfl) (fun G C hret => ?_)
  show G 0 0 (wC cI cJ cZ a hA nA gr li st sp (nI n) (nI m) nu ev od fp ti wc wu sc pv su sd (nI t)) [(0, .ref (a 1)), (1, .int (nI k))] 0 []
  refine g_aload_n C 0 dX0_firstPost_0 rfl rfl rfl (q := 1) ?_
  refine g_get C 1 3 dX0_firstPost_1 (Cn := RX0) (T := TX0) (N := 6) (fun _ h => List.mem_cons_of_mem _ (List.mem_append_right _ h)) rfl rfl (by decide) (List.mem_cons_of_mem _ (List.mem_append_left _ (List.mem_of_getElem? (i := 0) rfl))) rfl (q := 4) rfl ?_
  refine g_iload_n C 1 dX0_firstPost_4 rfl rfl rfl (q := 5) ?_
  refine g_iald C 10 0 dX0_firstPost_5 rfl rfl (vp_in_nI (by omega) (by decide)) (q := 6) rfl ?_
  refine g_eqi C (y := sp k) (by rw [nI_clamp (by omega)]) ?_
  exact hret _ 6 _ _ dX0_firstPost_6 rfl (rfl)
set_option maxHeartbeats 4000000 in
set_option maxRecDepth 100000 in
theorem c_X0_lastPost (l : Launch) (D : va_G) (cI cJ cZ : ClassId) (a : Nat → Nat) (hA nA : Nat) (gr li st sp : Nat → Int32) (n m : Nat) (nu : Nat → Int32) (ev od : Nat → Int64) (fp ti : Nat → Int32) (wc : Nat → Int64) (wu : Int32) (sc pv : Nat → Int64) (su : Int32) (sd : Nat → Int32) (t k : Nat) (hk : k < 16) : Met l yX0_lastPost wsX0_lastPost { frames := 0, cells := 0, slots := 0, locals := 0 } (gPc D (tyT cI cJ cZ) (wA a (a 11) (a 12)) FT (wC cI cJ cZ a hA nA gr li st sp (nI n) (nI m) nu ev od fp ti wc wu sc pv su sd (nI t)) [.ref (a 1), .int (nI k)]) (vp_Si (fun r => r = sp (k + 1))) 0 0 (fun _ => False) := by
  refine gs_si (cc := cX0_lastPost) (nL := 2) (ty := .int) (by decide) rfl (Nat.le_of_ble_eq_true rfl) (fun G C hret => ?_)
  show G 0 0 (wC cI cJ cZ a hA nA gr li st sp (nI n) (nI m) nu ev od fp ti wc wu sc pv su sd (nI t)) [(0, .ref (a 1)), (1, .int (nI k))] 0 []
  refine g_aload_n C 0 dX0_lastPost_0 rfl rfl rfl (q := 1) ?_
  refine g_get C 1 3 dX0_lastPost_1 (Cn := RX0) (T := TX0) (N := 6) (fun _ h => List.mem_cons_of_mem _ (List.mem_append_right _ h)) rfl rfl (by decide) (List.mem_cons_of_mem _ (List.mem_append_left _ (List.mem_of_getElem? (i := 0) rfl))) rfl (q := 4) rfl ?_
  refine g_iload_n C 1 dX0_lastPost_4 rfl rfl rfl (q := 5) ?_
  refine g_iconst C (nI 1) dX0_lastPost_5 (by decide) (q := 6) rfl ?_
  refine g_iadd C dX0_lastPost_6 (q := 7) rfl ?_
  refine g_eqi C (y := nI (k + 1)) (nI_add k 1) ?_
  refine g_iald C 10 0 dX0_lastPost_7 rfl rfl (vp_in_nI (by omega) (by decide)) (q := 8) rfl ?_
  refine g_eqi C (y := sp (k + 1)) (by rw [nI_clamp (by omega)]) ?_
  exact hret _ 8 _ _ dX0_lastPost_8 rfl (rfl)
set_option maxHeartbeats 4000000 in
set_option maxRecDepth 100000 in
theorem c_X4_knows (l : Launch) (D : va_G) (cI cJ cZ : ClassId) (a : Nat → Nat) (hA nA : Nat) (gr li st sp : Nat → Int32) (n m : Nat) (nu : Nat → Int32) (ev od : Nat → Int64) (fp ti : Nat → Int32) (wc : Nat → Int64) (wu : Int32) (sc pv : Nat → Int64) (su : Int32) (sd : Nat → Int32) (t : Nat) (k : Int32) : Met l yX4_knows wsX4_knows { frames := 0, cells := 0, slots := 0, locals := 0 } (gPc D (tyT cI cJ cZ) (wA a (a 11) (a 12)) FT (wC cI cJ cZ a hA nA gr li st sp (nI n) (nI m) nu ev od fp ti wc wu sc pv su sd (nI t)) [.ref (a 2), .int k]) (vp_Si (fun r => r = if ¬ k < 0 ∧ ¬ nI 5 ≤ k then nI 1 else nI 0)) 0 0 (fun _ => False) := by
  refine gs_si (cc := cX4_knows) (nL := 2) (ty := .boolean) (by decide) rfl (Nat.le_of_ble_eq_true rfl) (fun G C hret => ?_)
  show G 0 0 (wC cI cJ cZ a hA nA gr li st sp (nI n) (nI m) nu ev od fp ti wc wu sc pv su sd (nI t)) [(0, .ref (a 2)), (1, .int k)] 0 []
  refine g_iload_n C 1 dX4_knows_0 rfl rfl rfl (q := 1) ?_
  refine g_if_lt C (t := 17) dX4_knows_1 (by decide) (q := 4) rfl (fun c_1 => ?_) (fun c_1 => ?_)
  · refine g_iconst C (nI 0) dX4_knows_17 (by decide) (q := 18) rfl ?_
    exact hret _ 18 _ _ dX4_knows_18 (by decide) ((if_neg (by first | assumption | (refine ⟨?_, ?_⟩ <;> assumption) | (refine ⟨?_, ?_, ?_⟩ <;> assumption) | omega | simp_all)).symm)
  · refine g_iload_n C 1 dX4_knows_4 rfl rfl rfl (q := 5) ?_
    refine g_aload_n C 0 dX4_knows_5 rfl rfl rfl (q := 6) ?_
    refine g_get C 2 0 dX4_knows_6 (Cn := RX4) (T := TX4) (N := 1) (fun _ h => List.mem_cons_of_mem _ (List.mem_append_right _ h)) rfl rfl (by decide) (List.mem_cons_of_mem _ (List.mem_append_left _ (List.mem_of_getElem? (i := 0) rfl))) rfl (q := 9) rfl ?_
    refine g_alen C 13 0 dX4_knows_9 rfl rfl (v := nI 5) rfl (q := 10) rfl ?_
    refine g_icmp_ge C (t := 17) dX4_knows_10 (by decide) (q := 13) rfl (fun c_10 => ?_) (fun c_10 => ?_)
    · refine g_iconst C (nI 0) dX4_knows_17 (by decide) (q := 18) rfl ?_
      exact hret _ 18 _ _ dX4_knows_18 (by decide) ((if_neg (by first | assumption | (refine ⟨?_, ?_⟩ <;> assumption) | (refine ⟨?_, ?_, ?_⟩ <;> assumption) | omega | simp_all)).symm)
    · refine g_iconst C (nI 1) dX4_knows_13 (by decide) (q := 14) rfl ?_
      refine g_goto C (q := 18) dX4_knows_14 (by decide) ?_
      exact hret _ 18 _ _ dX4_knows_18 (by decide) ((if_pos (by first | assumption | (refine ⟨?_, ?_⟩ <;> assumption) | (refine ⟨?_, ?_, ?_⟩ <;> assumption) | omega | simp_all)).symm)
set_option maxHeartbeats 4000000 in
set_option maxRecDepth 100000 in
theorem c_X4_number (l : Launch) (D : va_G) (cI cJ cZ : ClassId) (a : Nat → Nat) (hA nA : Nat) (gr li st sp : Nat → Int32) (n m : Nat) (nu : Nat → Int32) (ev od : Nat → Int64) (fp ti : Nat → Int32) (wc : Nat → Int64) (wu : Int32) (sc pv : Nat → Int64) (su : Int32) (sd : Nat → Int32) (t k : Nat) (hk : k < 5) : Met l yX4_number wsX4_number { frames := 0, cells := 0, slots := 0, locals := 0 } (gPc D (tyT cI cJ cZ) (wA a (a 11) (a 12)) FT (wC cI cJ cZ a hA nA gr li st sp (nI n) (nI m) nu ev od fp ti wc wu sc pv su sd (nI t)) [.ref (a 2), .int (nI k)]) (vp_Si (fun r => r = nu k)) 0 0 (fun _ => False) := by
  refine gs_si (cc := cX4_number) (nL := 2) (ty := .int) (by decide) rfl (Nat.le_of_ble_eq_true rfl) (fun G C hret => ?_)
  show G 0 0 (wC cI cJ cZ a hA nA gr li st sp (nI n) (nI m) nu ev od fp ti wc wu sc pv su sd (nI t)) [(0, .ref (a 2)), (1, .int (nI k))] 0 []
  refine g_aload_n C 0 dX4_number_0 rfl rfl rfl (q := 1) ?_
  refine g_get C 2 0 dX4_number_1 (Cn := RX4) (T := TX4) (N := 1) (fun _ h => List.mem_cons_of_mem _ (List.mem_append_right _ h)) rfl rfl (by decide) (List.mem_cons_of_mem _ (List.mem_append_left _ (List.mem_of_getElem? (i := 0) rfl))) rfl (q := 4) rfl ?_
  refine g_iload_n C 1 dX4_number_4 rfl rfl rfl (q := 5) ?_
  refine g_iald C 13 0 dX4_number_5 rfl rfl (vp_in_nI (by omega) (by decide)) (q := 6) rfl ?_
  refine g_eqi C (y := nu k) (by rw [nI_clamp (by omega)]) ?_
  exact hret _ 6 _ _ dX4_number_6 rfl (rfl)
set_option maxHeartbeats 4000000 in
set_option maxRecDepth 100000 in
theorem c_X4_put (l : Launch) (D : va_G) (cI cJ cZ : ClassId) (a : Nat → Nat) (hA nA : Nat) (gr li st sp : Nat → Int32) (n m : Nat) (nu : Nat → Int32) (ev od : Nat → Int64) (fp ti : Nat → Int32) (wc : Nat → Int64) (wu : Int32) (sc pv : Nat → Int64) (su : Int32) (sd : Nat → Int32) (t k : Nat) (v : Int32) (hk : k < 5) : Met l yX4_put wsX4_put { frames := 0, cells := 0, slots := 0, locals := 0 } (gPc D (tyT cI cJ cZ) (wA a (a 11) (a 12)) FT (wC cI cJ cZ a hA nA gr li st sp (nI n) (nI m) nu ev od fp ti wc wu sc pv su sd (nI t)) [.ref (a 2), .int (nI k), .int v]) (va_Qv (fun (u : Unit) => True) (fun u tS => va_P D vwCl ((fun (u : Unit) => wC cI cJ cZ a hA nA gr li st sp (nI n) (nI m) (upd nu k v) ev od fp ti wc wu sc pv su sd (nI t)) u) tS.heap ∧ va_D (wA a (a 11) (a 12)) ((fun (u : Unit) => wC cI cJ cZ a hA nA gr li st sp (nI n) (nI m) (upd nu k v) ev od fp ti wc wu sc pv su sd (nI t)) u)) (wA a (a 11) (a 12))) 0 0 (wA a (a 11) (a 12)) := by
  refine gs_qv (cc := cX4_put) (nL := 3) (W' := fun (u : Unit) => wC cI cJ cZ a hA nA gr li st sp (nI n) (nI m) (upd nu k v) ev od fp ti wc wu sc pv su sd (nI t)) (by decide) rfl (Nat.le_of_ble_eq_true rfl) (fun G C hret => ?_)
  show G 0 0 (wC cI cJ cZ a hA nA gr li st sp (nI n) (nI m) nu ev od fp ti wc wu sc pv su sd (nI t)) [(0, .ref (a 2)), (1, .int (nI k)), (2, .int v)] 0 []
  refine g_aload_n C 0 dX4_put_0 rfl rfl rfl (q := 1) ?_
  refine g_get C 2 0 dX4_put_1 (Cn := RX4) (T := TX4) (N := 1) (fun _ h => List.mem_cons_of_mem _ (List.mem_append_right _ h)) rfl rfl (by decide) (List.mem_cons_of_mem _ (List.mem_append_left _ (List.mem_of_getElem? (i := 0) rfl))) rfl (q := 4) rfl ?_
  refine g_iload_n C 1 dX4_put_4 rfl rfl rfl (q := 5) ?_
  refine g_iload_n C 2 dX4_put_5 rfl rfl rfl (q := 6) ?_
  refine g_iast C 13 0 (wC cI cJ cZ a hA nA gr li st sp (nI n) (nI m) (upd nu k v) ev od fp ti wc wu sc pv su sd (nI t)) dX4_put_6 rfl rfl (vp_in_nI (by omega) (by decide)) (by rw [nI_clamp (by omega)]; rfl) (q := 7) rfl ?_
  exact hret () 7 _ dX4_put_7 (trivial)
set_option maxHeartbeats 4000000 in
set_option maxRecDepth 100000 in
theorem c_X3_forceOf (l : Launch) (D : va_G) (cI cJ cZ : ClassId) (a : Nat → Nat) (hA nA : Nat) (gr li st sp : Nat → Int32) (n m : Nat) (nu : Nat → Int32) (ev od : Nat → Int64) (fp ti : Nat → Int32) (wc : Nat → Int64) (wu : Int32) (sc pv : Nat → Int64) (su : Int32) (sd : Nat → Int32) (t k u v : Nat) (hk : k < 16) : Met l yX3_forceOf wsX3_forceOf { frames := 1, cells := 0, slots := 0, locals := 21 } (gPc D (tyT cI cJ cZ) (wA a (a 11) (a 12)) FT (wC cI cJ cZ a hA nA gr li st sp (nI n) (nI m) nu ev od fp ti wc wu sc pv su sd (nI t)) [.ref (a 3), .int (nI k), .int (nI u), .int (nI v)]) (vp_Si (fun r => r = fcN gr nu k u v)) 0 0 (fun _ => False) := by
  refine gs_si (cc := cX3_forceOf) (nL := 5) (ty := .int) (by decide) rfl (Nat.le_of_ble_eq_true rfl) (fun G C hret => ?_)
  show G 0 0 (wC cI cJ cZ a hA nA gr li st sp (nI n) (nI m) nu ev od fp ti wc wu sc pv su sd (nI t)) [(0, .ref (a 3)), (1, .int (nI k)), (2, .int (nI u)), (3, .int (nI v))] 0 []
  refine g_aload_n C 0 dX3_forceOf_0 rfl rfl rfl (q := 1) ?_
  refine g_get C 3 1 dX3_forceOf_1 (Cn := RX3) (T := TX3) (N := 2) (fun _ h => List.mem_cons_of_mem _ (List.mem_append_left _ (List.mem_append_left _ (List.mem_append_right _ h)))) rfl rfl (by decide) (List.mem_cons_of_mem _ (List.mem_append_left _ (List.mem_append_left _ (List.mem_append_left _ (List.mem_of_getElem? (i := 0) rfl))))) rfl (q := 4) rfl ?_
  refine g_iconst C (nI 0) dX3_forceOf_4 (by decide) (q := 5) rfl ?_
  refine gcV_si C (n := 1) (As := [.int (nI 0)]) (st := []) 2 (fun h => h) dX3_forceOf_5 rfl rfl gX3_forceOf_X4_number (c_X4_number l D cI cJ cZ a hA nA gr li st sp n m nu ev od fp ti wc wu sc pv su sd t 0 (by first | assumption | omega)) rfl rfl rfl (by decide +kernel) ⟨Nat.le_of_ble_eq_true rfl, Nat.le_of_ble_eq_true rfl⟩ rfl rfl (Nat.le_of_ble_eq_true rfl) FT_b FT_h ⟨Nat.le_of_ble_eq_true rfl, Nat.le_of_ble_eq_true rfl⟩ (q := 8) rfl (fun r_5 h_5 => ?_)
  subst h_5
  refine g_istore C [(4, .int (nu 0)), (0, .ref (a 3)), (1, .int (nI k)), (2, .int (nI u)), (3, .int (nI v))] dX3_forceOf_8 (by decide) rfl (q := 10) rfl ?_
  refine g_iload C 0 dX3_forceOf_10 rfl rfl (q := 12) ?_
  refine g_iload_n C 4 dX3_forceOf_12 rfl rfl rfl (q := 13) ?_
  refine g_iload_n C 4 dX3_forceOf_13 rfl rfl rfl (q := 14) ?_
  refine g_imul C dX3_forceOf_14 (q := 15) rfl ?_
  refine g_eqi C (y := nI (v * v)) (pk_mul v v) ?_
  refine g_iload_n C 3 dX3_forceOf_15 rfl rfl rfl (q := 16) ?_
  refine g_iload_n C 3 dX3_forceOf_16 rfl rfl rfl (q := 17) ?_
  refine g_imul C dX3_forceOf_17 (q := 18) rfl ?_
  refine g_eqi C (y := nI (u * u)) (pk_mul u u) ?_
  refine g_isub C dX3_forceOf_18 (q := 19) rfl ?_
  refine g_imul C dX3_forceOf_19 (q := 20) rfl ?_
  refine g_iload C 0 dX3_forceOf_20 rfl rfl (q := 22) ?_
  refine g_aload_n C 1 dX3_forceOf_22 rfl rfl rfl (q := 23) ?_
  refine g_get C 3 0 dX3_forceOf_23 (Cn := RX3) (T := TX3) (N := 2) (fun _ h => List.mem_cons_of_mem _ (List.mem_append_left _ (List.mem_append_left _ (List.mem_append_right _ h)))) rfl rfl (by decide) (List.mem_cons_of_mem _ (List.mem_append_left _ (List.mem_append_left _ (List.mem_append_left _ (List.mem_of_getElem? (i := 1) rfl))))) rfl (q := 26) rfl ?_
  refine g_iload_n C 2 dX3_forceOf_26 rfl rfl rfl (q := 27) ?_
  refine gcV_si C (n := 1) (As := [.int (nI k)]) (st := [.int (nu 0), .int ((nu 0) * ((nI (v * v)) - (nI (u * u))))]) 1 (fun h => h) dX3_forceOf_27 rfl rfl gX3_forceOf_X0_gradeOf (c_X0_gradeOf l D cI cJ cZ a hA nA gr li st sp n m nu ev od fp ti wc wu sc pv su sd t k (by first | assumption | omega)) rfl rfl rfl (by decide +kernel) ⟨Nat.le_of_ble_eq_true rfl, Nat.le_of_ble_eq_true rfl⟩ rfl rfl (Nat.le_of_ble_eq_true rfl) FT_b FT_h ⟨Nat.le_of_ble_eq_true rfl, Nat.le_of_ble_eq_true rfl⟩ (q := 30) rfl (fun r_27 h_27 => ?_)
  subst h_27
  refine g_imul C dX3_forceOf_30 (q := 31) rfl ?_
  refine g_iadd C dX3_forceOf_31 (q := 32) rfl ?_
  refine g_aload_n C 1 dX3_forceOf_32 rfl rfl rfl (q := 33) ?_
  refine g_get C 3 1 dX3_forceOf_33 (Cn := RX3) (T := TX3) (N := 2) (fun _ h => List.mem_cons_of_mem _ (List.mem_append_left _ (List.mem_append_left _ (List.mem_append_right _ h)))) rfl rfl (by decide) (List.mem_cons_of_mem _ (List.mem_append_left _ (List.mem_append_left _ (List.mem_append_left _ (List.mem_of_getElem? (i := 0) rfl))))) rfl (q := 36) rfl ?_
  refine g_iconst C (nI 1) dX3_forceOf_36 (by decide) (q := 37) rfl ?_
  refine gcV_si C (n := 1) (As := [.int (nI 1)]) (st := [.int (((nu 0) * ((nI (v * v)) - (nI (u * u)))) + ((nu 0) * (gr k)))]) 2 (fun h => h) dX3_forceOf_37 rfl rfl gX3_forceOf_X4_number (c_X4_number l D cI cJ cZ a hA nA gr li st sp n m nu ev od fp ti wc wu sc pv su sd t 1 (by first | assumption | omega)) rfl rfl rfl (by decide +kernel) ⟨Nat.le_of_ble_eq_true rfl, Nat.le_of_ble_eq_true rfl⟩ rfl rfl (Nat.le_of_ble_eq_true rfl) FT_b FT_h ⟨Nat.le_of_ble_eq_true rfl, Nat.le_of_ble_eq_true rfl⟩ (q := 40) rfl (fun r_37 h_37 => ?_)
  subst h_37
  refine g_iload_n C 3 dX3_forceOf_40 rfl rfl rfl (q := 41) ?_
  refine g_iload_n C 4 dX3_forceOf_41 rfl rfl rfl (q := 42) ?_
  refine g_iadd C dX3_forceOf_42 (q := 43) rfl ?_
  refine g_eqi C (y := nI (u + v)) (nI_add u v) ?_
  refine g_imul C dX3_forceOf_43 (q := 44) rfl ?_
  refine g_iadd C dX3_forceOf_44 (q := 45) rfl ?_
  exact hret _ 45 _ _ dX3_forceOf_45 rfl (rfl)
set_option maxHeartbeats 4000000 in
set_option maxRecDepth 100000 in
theorem c_X1_size (l : Launch) (D : va_G) (cI cJ cZ : ClassId) (a : Nat → Nat) (hA nA : Nat) (gr li st sp : Nat → Int32) (n m : Nat) (nu : Nat → Int32) (ev od : Nat → Int64) (fp ti : Nat → Int32) (wc : Nat → Int64) (wu : Int32) (sc pv : Nat → Int64) (su : Int32) (sd : Nat → Int32) (t : Nat) : Met l yX1_size wsX1_size { frames := 0, cells := 0, slots := 0, locals := 0 } (gPc D (tyT cI cJ cZ) (wA a (a 11) (a 12)) FT (wC cI cJ cZ a hA nA gr li st sp (nI n) (nI m) nu ev od fp ti wc wu sc pv su sd (nI t)) [.ref (a 6)]) (vp_Si (fun r => r = nI t)) 0 0 (fun _ => False) := by
  refine gs_si (cc := cX1_size) (nL := 1) (ty := .int) (by decide) rfl (Nat.le_of_ble_eq_true rfl) (fun G C hret => ?_)
  show G 0 0 (wC cI cJ cZ a hA nA gr li st sp (nI n) (nI m) nu ev od fp ti wc wu sc pv su sd (nI t)) [(0, .ref (a 6))] 0 []
  refine g_aload_n C 0 dX1_size_0 rfl rfl rfl (q := 1) ?_
  refine g_get C 6 3 dX1_size_1 (Cn := RX1) (T := TX1) (N := 4) (fun _ h => List.mem_cons_of_mem _ (List.mem_append_right _ h)) rfl rfl (by decide) (List.mem_cons_of_mem _ (List.mem_append_left _ (List.mem_of_getElem? (i := 0) rfl))) rfl (q := 4) rfl ?_
  exact hret _ 4 _ _ dX1_size_4 rfl (rfl)
set_option maxHeartbeats 4000000 in
set_option maxRecDepth 100000 in
theorem c_X1_isFull (l : Launch) (D : va_G) (cI cJ cZ : ClassId) (a : Nat → Nat) (hA nA : Nat) (gr li st sp : Nat → Int32) (n m : Nat) (nu : Nat → Int32) (ev od : Nat → Int64) (fp ti : Nat → Int32) (wc : Nat → Int64) (wu : Int32) (sc pv : Nat → Int64) (su : Int32) (sd : Nat → Int32) (t : Nat) (hn : n ≤ 16) (ht : t ≤ 17) : Met l yX1_isFull wsX1_isFull { frames := 1, cells := 0, slots := 0, locals := 20 } (gPc D (tyT cI cJ cZ) (wA a (a 11) (a 12)) FT (wC cI cJ cZ a hA nA gr li st sp (nI n) (nI m) nu ev od fp ti wc wu sc pv su sd (nI t)) [.ref (a 6)]) (vp_Si (fun r => r = if n < t then nI 1 else nI 0)) 0 0 (fun _ => False) := by
  refine gs_si (cc := cX1_isFull) (nL := 1) (ty := .boolean) (by decide) rfl (Nat.le_of_ble_eq_true rfl) (fun G C hret => ?_)
  show G 0 0 (wC cI cJ cZ a hA nA gr li st sp (nI n) (nI m) nu ev od fp ti wc wu sc pv su sd (nI t)) [(0, .ref (a 6))] 0 []
  refine g_aload_n C 0 dX1_isFull_0 rfl rfl rfl (q := 1) ?_
  refine g_get C 6 3 dX1_isFull_1 (Cn := RX1) (T := TX1) (N := 4) (fun _ h => List.mem_cons_of_mem _ (List.mem_append_left _ (List.mem_append_right _ h))) rfl rfl (by decide) (List.mem_cons_of_mem _ (List.mem_append_left _ (List.mem_append_left _ (List.mem_of_getElem? (i := 0) rfl)))) rfl (q := 4) rfl ?_
  refine g_aload_n C 0 dX1_isFull_4 rfl rfl rfl (q := 5) ?_
  refine g_get C 6 0 dX1_isFull_5 (Cn := RX1) (T := TX1) (N := 4) (fun _ h => List.mem_cons_of_mem _ (List.mem_append_left _ (List.mem_append_right _ h))) rfl rfl (by decide) (List.mem_cons_of_mem _ (List.mem_append_left _ (List.mem_append_left _ (List.mem_of_getElem? (i := 1) rfl)))) rfl (q := 8) rfl ?_
  refine gcV_si C (n := 0) (As := []) (st := [.int (nI t)]) 1 (fun h => h) dX1_isFull_8 rfl rfl gX1_isFull_X0_cellCount (c_X0_cellCount l D cI cJ cZ a hA nA gr li st sp n m nu ev od fp ti wc wu sc pv su sd t) rfl rfl rfl (by decide +kernel) ⟨Nat.le_of_ble_eq_true rfl, Nat.le_of_ble_eq_true rfl⟩ rfl rfl (Nat.le_of_ble_eq_true rfl) FT_b FT_h ⟨Nat.le_of_ble_eq_true rfl, Nat.le_of_ble_eq_true rfl⟩ (q := 11) rfl (fun r_8 h_8 => ?_)
  subst h_8
  refine g_icmp_le C (t := 18) dX1_isFull_11 (by decide) (q := 14) rfl (fun c_11 => ?_) (fun c_11 => ?_)
  · rw [nI_leI (by omega) (by omega)] at c_11
    refine g_iconst C (nI 0) dX1_isFull_18 (by decide) (q := 19) rfl ?_
    exact hret _ 19 _ _ dX1_isFull_19 (by decide) ((if_neg (by first | assumption | (refine ⟨?_, ?_⟩ <;> assumption) | (refine ⟨?_, ?_, ?_⟩ <;> assumption) | omega | simp_all)).symm)
  · rw [nI_leI (by omega) (by omega)] at c_11
    refine g_iconst C (nI 1) dX1_isFull_14 (by decide) (q := 15) rfl ?_
    refine g_goto C (q := 19) dX1_isFull_15 (by decide) ?_
    exact hret _ 19 _ _ dX1_isFull_19 (by decide) ((if_pos (by first | assumption | (refine ⟨?_, ?_⟩ <;> assumption) | (refine ⟨?_, ?_, ?_⟩ <;> assumption) | omega | simp_all)).symm)
set_option maxHeartbeats 4000000 in
set_option maxRecDepth 100000 in
theorem c_X1_add (l : Launch) (D : va_G) (cI cJ cZ : ClassId) (a : Nat → Nat) (hA nA : Nat) (gr li st sp : Nat → Int32) (n m : Nat) (nu : Nat → Int32) (ev od : Nat → Int64) (fp ti : Nat → Int32) (wc : Nat → Int64) (wu : Int32) (sc pv : Nat → Int64) (su : Int32) (sd : Nat → Int32) (t : Nat) (v : Int32) (ht : t < 17) : Met l yX1_add wsX1_add { frames := 0, cells := 0, slots := 0, locals := 0 } (gPc D (tyT cI cJ cZ) (wA a (a 11) (a 12)) FT (wC cI cJ cZ a hA nA gr li st sp (nI n) (nI m) nu ev od fp ti wc wu sc pv su sd (nI t)) [.ref (a 6), .int v]) (va_Qv (fun (u : Unit) => True) (fun u tS => va_P D vwCl ((fun (u : Unit) => wC cI cJ cZ a hA nA gr li st sp (nI n) (nI m) nu ev od fp ti wc wu sc pv su (upd sd t v) (nI (t + 1))) u) tS.heap ∧ va_D (wA a (a 11) (a 12)) ((fun (u : Unit) => wC cI cJ cZ a hA nA gr li st sp (nI n) (nI m) nu ev od fp ti wc wu sc pv su (upd sd t v) (nI (t + 1))) u)) (wA a (a 11) (a 12))) 0 0 (wA a (a 11) (a 12)) := by
  refine gs_qv (cc := cX1_add) (nL := 2) (W' := fun (u : Unit) => wC cI cJ cZ a hA nA gr li st sp (nI n) (nI m) nu ev od fp ti wc wu sc pv su (upd sd t v) (nI (t + 1))) (by decide) rfl (Nat.le_of_ble_eq_true rfl) (fun G C hret => ?_)
  show G 0 0 (wC cI cJ cZ a hA nA gr li st sp (nI n) (nI m) nu ev od fp ti wc wu sc pv su sd (nI t)) [(0, .ref (a 6)), (1, .int v)] 0 []
  refine g_aload_n C 0 dX1_add_0 rfl rfl rfl (q := 1) ?_
  refine g_get C 6 2 dX1_add_1 (Cn := RX1) (T := TX1) (N := 4) (fun _ h => List.mem_cons_of_mem _ (List.mem_append_right _ h)) rfl rfl (by decide) (List.mem_cons_of_mem _ (List.mem_append_left _ (List.mem_of_getElem? (i := 0) rfl))) rfl (q := 4) rfl ?_
  refine g_aload_n C 0 dX1_add_4 rfl rfl rfl (q := 5) ?_
  refine g_get C 6 3 dX1_add_5 (Cn := RX1) (T := TX1) (N := 4) (fun _ h => List.mem_cons_of_mem _ (List.mem_append_right _ h)) rfl rfl (by decide) (List.mem_cons_of_mem _ (List.mem_append_left _ (List.mem_of_getElem? (i := 1) rfl))) rfl (q := 8) rfl ?_
  refine g_iload_n C 1 dX1_add_8 rfl rfl rfl (q := 9) ?_
  refine g_iast C 19 0 (wC cI cJ cZ a hA nA gr li st sp (nI n) (nI m) nu ev od fp ti wc wu sc pv su (upd sd t v) (nI t)) dX1_add_9 rfl rfl (vp_in_nI (by omega) (by decide)) (by rw [nI_clamp (by omega)]; rfl) (q := 10) rfl ?_
  refine g_aload_n C 0 dX1_add_10 rfl rfl rfl (q := 11) ?_
  refine g_dup C dX1_add_11 rfl (q := 12) rfl ?_
  refine g_get C 6 3 dX1_add_12 (Cn := RX1) (T := TX1) (N := 4) (fun _ h => List.mem_cons_of_mem _ (List.mem_append_right _ h)) rfl rfl (by decide) (List.mem_cons_of_mem _ (List.mem_append_left _ (List.mem_of_getElem? (i := 1) rfl))) rfl (q := 15) rfl ?_
  refine g_iconst C (nI 1) dX1_add_15 (by decide) (q := 16) rfl ?_
  refine g_iadd C dX1_add_16 (q := 17) rfl ?_
  refine g_eqi C (y := nI (t + 1)) (nI_add t 1) ?_
  refine g_put C 6 3 (wC cI cJ cZ a hA nA gr li st sp (nI n) (nI m) nu ev od fp ti wc wu sc pv su (upd sd t v) (nI (t + 1))) dX1_add_17 (Cn := RX1) (T := TX1) (N := 4) (fun _ h => List.mem_cons_of_mem _ (List.mem_append_right _ h)) tyX1_ok nmX1 rfl rfl (by decide) (List.mem_cons_of_mem _ (List.mem_append_left _ (List.mem_of_getElem? (i := 1) rfl))) rfl (ty := .int) (by decide +kernel) rfl rfl (Nat.le_of_ble_eq_true rfl) rfl (q := 20) rfl ?_
  exact hret () 20 _ dX1_add_20 (trivial)
set_option maxHeartbeats 4000000 in
set_option maxRecDepth 100000 in
theorem c_X1_wipe (l : Launch) (D : va_G) (cI cJ cZ : ClassId) (a : Nat → Nat) (hA nA : Nat) (gr li st sp : Nat → Int32) (n m : Nat) (nu : Nat → Int32) (ev od : Nat → Int64) (fp ti : Nat → Int32) (wc : Nat → Int64) (wu : Int32) (sc pv : Nat → Int64) (su : Int32) (sd : Nat → Int32) (t : Nat) : Met l yX1_wipe wsX1_wipe { frames := 0, cells := 0, slots := 0, locals := 0 } (gPc D (tyT cI cJ cZ) (wA a (a 11) (a 12)) FT (wC cI cJ cZ a hA nA gr li st sp (nI n) (nI m) nu ev od fp ti wc wu sc pv su sd (nI t)) [.ref (a 6)]) (va_Qv (fun (u : Unit) => True) (fun u tS => va_P D vwCl ((fun (u : Unit) => wC cI cJ cZ a hA nA gr li st sp (nI n) (nI m) nu ev od fp ti wc wu sc pv su sd (nI 0)) u) tS.heap ∧ va_D (wA a (a 11) (a 12)) ((fun (u : Unit) => wC cI cJ cZ a hA nA gr li st sp (nI n) (nI m) nu ev od fp ti wc wu sc pv su sd (nI 0)) u)) (wA a (a 11) (a 12))) 0 0 (wA a (a 11) (a 12)) := by
  refine gs_qv (cc := cX1_wipe) (nL := 1) (W' := fun (u : Unit) => wC cI cJ cZ a hA nA gr li st sp (nI n) (nI m) nu ev od fp ti wc wu sc pv su sd (nI 0)) (by decide) rfl (Nat.le_of_ble_eq_true rfl) (fun G C hret => ?_)
  show G 0 0 (wC cI cJ cZ a hA nA gr li st sp (nI n) (nI m) nu ev od fp ti wc wu sc pv su sd (nI t)) [(0, .ref (a 6))] 0 []
  refine g_aload_n C 0 dX1_wipe_0 rfl rfl rfl (q := 1) ?_
  refine g_iconst C (nI 0) dX1_wipe_1 (by decide) (q := 2) rfl ?_
  refine g_put C 6 3 (wC cI cJ cZ a hA nA gr li st sp (nI n) (nI m) nu ev od fp ti wc wu sc pv su sd (nI 0)) dX1_wipe_2 (Cn := RX1) (T := TX1) (N := 4) (fun _ h => List.mem_cons_of_mem _ (List.mem_append_right _ h)) tyX1_ok nmX1 rfl rfl (by decide) (List.mem_cons_of_mem _ (List.mem_append_left _ (List.mem_of_getElem? (i := 0) rfl))) rfl (ty := .int) (by decide +kernel) rfl rfl (Nat.le_of_ble_eq_true rfl) rfl (q := 5) rfl ?_
  exact hret () 5 _ dX1_wipe_5 (trivial)
set_option maxHeartbeats 4000000 in
set_option maxRecDepth 100000 in
theorem c_X5_forget (l : Launch) (D : va_G) (cI cJ cZ : ClassId) (a : Nat → Nat) (hA nA : Nat) (gr li st sp : Nat → Int32) (n m : Nat) (nu : Nat → Int32) (ev od : Nat → Int64) (fp ti : Nat → Int32) (wc : Nat → Int64) (wu : Int32) (sc pv : Nat → Int64) (su : Int32) (sd : Nat → Int32) (t : Nat) : Met l yX5_forget wsX5_forget { frames := 0, cells := 0, slots := 0, locals := 0 } (gPc D (tyT cI cJ cZ) (wA a (a 11) (a 12)) FT (wC cI cJ cZ a hA nA gr li st sp (nI n) (nI m) nu ev od fp ti wc wu sc pv su sd (nI t)) [.ref (a 4)]) (va_Qv (fun (u : Unit) => True) (fun u tS => va_P D vwCl ((fun (u : Unit) => wC cI cJ cZ a hA nA gr li st sp (nI n) (nI m) nu ev od fp ti wc (nI 0) sc pv su sd (nI t)) u) tS.heap ∧ va_D (wA a (a 11) (a 12)) ((fun (u : Unit) => wC cI cJ cZ a hA nA gr li st sp (nI n) (nI m) nu ev od fp ti wc (nI 0) sc pv su sd (nI t)) u)) (wA a (a 11) (a 12))) 0 0 (wA a (a 11) (a 12)) := by
  refine gs_qv (cc := cX5_forget) (nL := 1) (W' := fun (u : Unit) => wC cI cJ cZ a hA nA gr li st sp (nI n) (nI m) nu ev od fp ti wc (nI 0) sc pv su sd (nI t)) (by decide) rfl (Nat.le_of_ble_eq_true rfl) (fun G C hret => ?_)
  show G 0 0 (wC cI cJ cZ a hA nA gr li st sp (nI n) (nI m) nu ev od fp ti wc wu sc pv su sd (nI t)) [(0, .ref (a 4))] 0 []
  refine g_aload_n C 0 dX5_forget_0 rfl rfl rfl (q := 1) ?_
  refine g_iconst C (nI 0) dX5_forget_1 (by decide) (q := 2) rfl ?_
  refine g_put C 4 7 (wC cI cJ cZ a hA nA gr li st sp (nI n) (nI m) nu ev od fp ti wc (nI 0) sc pv su sd (nI t)) dX5_forget_2 (Cn := RX5) (T := TX5) (N := 8) (fun _ h => List.mem_cons_of_mem _ (List.mem_append_right _ h)) tyX5_ok nmX5 rfl rfl (by decide) (List.mem_cons_of_mem _ (List.mem_append_left _ (List.mem_of_getElem? (i := 0) rfl))) rfl (ty := .boolean) (by decide +kernel) (by decide) rfl (Nat.le_of_ble_eq_true rfl) rfl (q := 5) rfl ?_
  exact hret () 5 _ dX5_forget_5 (trivial)
set_option maxHeartbeats 4000000 in
set_option maxRecDepth 100000 in
theorem c_X2_forget (l : Launch) (D : va_G) (cI cJ cZ : ClassId) (a : Nat → Nat) (hA nA : Nat) (gr li st sp : Nat → Int32) (n m : Nat) (nu : Nat → Int32) (ev od : Nat → Int64) (fp ti : Nat → Int32) (wc : Nat → Int64) (wu : Int32) (sc pv : Nat → Int64) (su : Int32) (sd : Nat → Int32) (t : Nat) : Met l yX2_forget wsX2_forget { frames := 0, cells := 0, slots := 0, locals := 0 } (gPc D (tyT cI cJ cZ) (wA a (a 11) (a 12)) FT (wC cI cJ cZ a hA nA gr li st sp (nI n) (nI m) nu ev od fp ti wc wu sc pv su sd (nI t)) [.ref (a 5)]) (va_Qv (fun (u : Unit) => True) (fun u tS => va_P D vwCl ((fun (u : Unit) => wC cI cJ cZ a hA nA gr li st sp (nI n) (nI m) nu ev od fp ti wc wu sc pv (nI 0) sd (nI t)) u) tS.heap ∧ va_D (wA a (a 11) (a 12)) ((fun (u : Unit) => wC cI cJ cZ a hA nA gr li st sp (nI n) (nI m) nu ev od fp ti wc wu sc pv (nI 0) sd (nI t)) u)) (wA a (a 11) (a 12))) 0 0 (wA a (a 11) (a 12)) := by
  refine gs_qv (cc := cX2_forget) (nL := 1) (W' := fun (u : Unit) => wC cI cJ cZ a hA nA gr li st sp (nI n) (nI m) nu ev od fp ti wc wu sc pv (nI 0) sd (nI t)) (by decide) rfl (Nat.le_of_ble_eq_true rfl) (fun G C hret => ?_)
  show G 0 0 (wC cI cJ cZ a hA nA gr li st sp (nI n) (nI m) nu ev od fp ti wc wu sc pv su sd (nI t)) [(0, .ref (a 5))] 0 []
  refine g_aload_n C 0 dX2_forget_0 rfl rfl rfl (q := 1) ?_
  refine g_iconst C (nI 0) dX2_forget_1 (by decide) (q := 2) rfl ?_
  refine g_put C 5 4 (wC cI cJ cZ a hA nA gr li st sp (nI n) (nI m) nu ev od fp ti wc wu sc pv (nI 0) sd (nI t)) dX2_forget_2 (Cn := RX2) (T := TX2) (N := 5) (fun _ h => List.mem_cons_of_mem _ (List.mem_append_right _ h)) tyX2_ok nmX2 rfl rfl (by decide) (List.mem_cons_of_mem _ (List.mem_append_left _ (List.mem_of_getElem? (i := 0) rfl))) rfl (ty := .boolean) (by decide +kernel) (by decide) rfl (Nat.le_of_ble_eq_true rfl) rfl (q := 5) rfl ?_
  exact hret () 5 _ dX2_forget_5 (trivial)
