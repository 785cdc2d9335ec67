/-! the class: what it answers of ways and sharings -/
theorem headI_get {q : List Nat} (h : 0 < q.length) : headI q = nI (q.getD 0 0) := by
  cases q with
  | nil => simp at h
  | cons x q => rfl
theorem headI_e {q : List Nat} (h : q.length = 0) : headI q = -1000000 := by rw [List.eq_nil_of_length_eq_zero h]; rfl
theorem m1_sub {x : Nat} (h : 0 < x) : nI x + (-1) = nI (x - 1) := by
  obtain ⟨y, rfl⟩ : ∃ y, x = y + 1 := ⟨x - 1, by omega⟩
  rw [pk_m1]; rfl
set_option maxHeartbeats 4000000 in
set_option maxRecDepth 100000 in
theorem c_X6_fastest (l : Launch) (D : va_G) (cI cJ cZ : ClassId) (a : Nat → Nat) (hA nA : Nat) (gr li st sp : Nat → Int32) (n m : Nat) (nu : Nat → Int32) (ev od : Nat → Int64) (fp ti : Nat → Int32) (wc : Nat → Int64) (wu : Int32) (sc pv : Nat → Int64) (su : Int32) (sd : Nat → Int32) (t : Nat) (k : Int32) (hL : LInv st sp n m) (hT : TrOK nu) (hp : (hA = a 11 ∧ nA = a 12) ∨ (hA = a 12 ∧ nA = a 11)) (hW0 : wu = nI 0 ∨ (wu = nI 1 ∧ WOK gr li nu st n m fp ti wc)) : Met l yX6_fastest wsX6_fastest { frames := 6, cells := 0, slots := 0, locals := 150 } (gPc D (tyT cI cJ cZ) (wA a (a 11) (a 12)) FT (wC cI cJ cZ a hA nA gr li st sp (nI n) (nI m) nu ev od fp ti wc wu sc pv su sd (nI t)) [.ref (a 0), .int k]) (va_Qi (fun (r : Int32) (u : Nat × Nat × (Nat → Int64) × (Nat → Int64) × (Nat → Int32) × (Nat → Int32) × (Nat → Int64) × Int32) => r = aFast gr li nu st n m k ∧ ((u.1 = a 11 ∧ u.2.1 = a 12) ∨ (u.1 = a 12 ∧ u.2.1 = a 11)) ∧ (u.2.2.2.2.2.2.2 = nI 0 ∨ (u.2.2.2.2.2.2.2 = nI 1 ∧ WOK gr li nu st n m u.2.2.2.2.1 u.2.2.2.2.2.1 u.2.2.2.2.2.2.1))) (fun u tS => va_P D vwCl ((fun (u : Nat × Nat × (Nat → Int64) × (Nat → Int64) × (Nat → Int32) × (Nat → Int32) × (Nat → Int64) × Int32) => wC cI cJ cZ a u.1 u.2.1 gr li st sp (nI n) (nI m) nu u.2.2.1 u.2.2.2.1 u.2.2.2.2.1 u.2.2.2.2.2.1 u.2.2.2.2.2.2.1 u.2.2.2.2.2.2.2 sc pv su sd (nI t)) u) tS.heap ∧ va_D (wA a (a 11) (a 12)) ((fun (u : Nat × Nat × (Nat → Int64) × (Nat → Int64) × (Nat → Int32) × (Nat → Int32) × (Nat → Int64) × Int32) => wC cI cJ cZ a u.1 u.2.1 gr li st sp (nI n) (nI m) nu u.2.2.1 u.2.2.2.1 u.2.2.2.2.1 u.2.2.2.2.2.1 u.2.2.2.2.2.2.1 u.2.2.2.2.2.2.2 sc pv su sd (nI t)) u)) (wA a (a 11) (a 12))) 0 0 (wA a (a 11) (a 12)) := by
  refine gs_qi (cc := cX6_fastest) (nL := 2) (ty := .int) (W' := fun (u : Nat × Nat × (Nat → Int64) × (Nat → Int64) × (Nat → Int32) × (Nat → Int32) × (Nat → Int64) × Int32) => wC cI cJ cZ a u.1 u.2.1 gr li st sp (nI n) (nI m) nu u.2.2.1 u.2.2.2.1 u.2.2.2.2.1 u.2.2.2.2.2.1 u.2.2.2.2.2.2.1 u.2.2.2.2.2.2.2 sc pv su sd (nI t)) (by decide) rfl (Nat.le_of_ble_eq_true rfl) (fun G C hret => ?_)
  show G 0 0 (wC cI cJ cZ a hA nA gr li st sp (nI n) (nI m) nu ev od fp ti wc wu sc pv su sd (nI t)) [(0, .ref (a 0)), (1, .int k)] 0 []
  have hn := hL.2.1
  have hmn := hL.m_le
  refine g_aload_n C 0 dX6_fastest_0 rfl rfl rfl (q := 1) ?_
  refine g_get C 0 0 dX6_fastest_1 (Cn := RX6) (T := TX6) (N := 6) (fun _ h => List.mem_cons_of_mem _ (List.mem_append_left _ (List.mem_append_left _ (List.mem_append_left _ (List.mem_append_left _ (List.mem_append_right _ h)))))) rfl rfl (by decide) (List.mem_cons_of_mem _ (List.mem_append_left _ (List.mem_append_left _ (List.mem_append_left _ (List.mem_append_left _ (List.mem_append_left _ (List.mem_of_getElem? (i := 0) rfl))))))) rfl (q := 4) rfl ?_
  refine g_iload_n C 1 dX6_fastest_4 rfl rfl rfl (q := 5) ?_
  refine gcV_si C (n := 1) (As := [.int k]) (st := []) 1 (fun h => h) dX6_fastest_5 rfl rfl gX6_fastest_X0_hasLeg (c_X0_hasLeg l D cI cJ cZ a hA nA gr li st sp n m nu ev od fp ti wc wu sc pv su sd t k) rfl rfl rfl (by decide +kernel) ⟨Nat.le_of_ble_eq_true rfl, Nat.le_of_ble_eq_true rfl⟩ rfl rfl (Nat.le_of_ble_eq_true rfl) FT_b FT_h ⟨Nat.le_of_ble_eq_true rfl, Nat.le_of_ble_eq_true rfl⟩ (q := 8) rfl (fun r_5 h_5 => ?_)
  subst h_5
  refine g_if_ne C (t := 13) dX6_fastest_8 (by decide) (q := 11) rfl (fun c_8 => ?_) (fun c_8 => ?_)
  · replace c_8 := ite_n0 c_8
    have hc8 := c_8
    obtain ⟨k1, hk, rfl⟩ := hcP_of c_8 (by omega)
    obtain ⟨hn1, hn2, hn3, hn4⟩ := nL_rg hL hk
    have hcv := (cv_len (gr := gr) (li := li) hT hn2 hn1).2.1
    refine g_aload_n C 0 dX6_fastest_13 rfl rfl rfl (q := 14) ?_
    refine g_get C 0 3 dX6_fastest_14 (Cn := RX6) (T := TX6) (N := 6) (fun _ h => List.mem_cons_of_mem _ (List.mem_append_left _ (List.mem_append_left _ (List.mem_append_left _ (List.mem_append_left _ (List.mem_append_right _ h)))))) rfl rfl (by decide) (List.mem_cons_of_mem _ (List.mem_append_left _ (List.mem_append_left _ (List.mem_append_left _ (List.mem_append_left _ (List.mem_append_left _ (List.mem_of_getElem? (i := 1) rfl))))))) rfl (q := 17) rfl ?_
    refine gcV_qv C (n := 0) (As := []) (st := []) 4 (fun h => h) (fun _ h => h) dX6_fastest_17 rfl rfl gX6_fastest_X5_bringUpToDate (c_X5_bringUpToDate l D cI cJ cZ a hA nA gr li st sp n m nu ev od fp ti wc wu sc pv su sd t hL hT hp hW0) rfl rfl rfl (by decide +kernel) ⟨Nat.le_of_ble_eq_true rfl, Nat.le_of_ble_eq_true rfl⟩ rfl rfl (Nat.le_of_ble_eq_true rfl) FT_b FT_h ⟨Nat.le_of_ble_eq_true rfl, Nat.le_of_ble_eq_true rfl⟩ (q := 20) rfl (fun u_17 h_17 => ?_)
    have h_17 : ((u_17.1 = a 11 ∧ u_17.2.1 = a 12) ∨ (u_17.1 = a 12 ∧ u_17.2.1 = a 11)) ∧ WOK gr li nu st n m u_17.2.2.2.2.1 u_17.2.2.2.2.2.1 u_17.2.2.2.2.2.2 := h_17
    show G 0 0 (wC cI cJ cZ a u_17.1 u_17.2.1 gr li st sp (nI n) (nI m) nu u_17.2.2.1 u_17.2.2.2.1 u_17.2.2.2.2.1 u_17.2.2.2.2.2.1 u_17.2.2.2.2.2.2 (nI 1) sc pv su sd (nI t)) [(0, .ref (a 0)), (1, .int (nI k1))] 20 []
    refine g_aload_n C 0 dX6_fastest_20 rfl rfl rfl (q := 21) ?_
    refine g_get C 0 3 dX6_fastest_21 (Cn := RX6) (T := TX6) (N := 6) (fun _ h => List.mem_cons_of_mem _ (List.mem_append_left _ (List.mem_append_left _ (List.mem_append_left _ (List.mem_append_left _ (List.mem_append_right _ h)))))) rfl rfl (by decide) (List.mem_cons_of_mem _ (List.mem_append_left _ (List.mem_append_left _ (List.mem_append_left _ (List.mem_append_left _ (List.mem_append_left _ (List.mem_of_getElem? (i := 1) rfl))))))) rfl (q := 24) rfl ?_
    refine g_iload_n C 1 dX6_fastest_24 rfl rfl rfl (q := 25) ?_
    refine gcV_si C (n := 1) (As := [.int (nI k1)]) (st := []) 4 (fun h => h) dX6_fastest_25 rfl rfl gX6_fastest_X5_pairCount (c_X5_pairCount l D cI cJ cZ a u_17.1 u_17.2.1 gr li st sp n m nu u_17.2.2.1 u_17.2.2.2.1 u_17.2.2.2.2.1 u_17.2.2.2.2.2.1 u_17.2.2.2.2.2.2 (nI 1) sc pv su sd t k1 hL hT hk h_17.2) rfl rfl rfl (by decide +kernel) ⟨Nat.le_of_ble_eq_true rfl, Nat.le_of_ble_eq_true rfl⟩ rfl rfl (Nat.le_of_ble_eq_true rfl) FT_b FT_h ⟨Nat.le_of_ble_eq_true rfl, Nat.le_of_ble_eq_true rfl⟩ (q := 28) rfl (fun r_25 h_25 => ?_)
    subst h_25
    refine g_eqi C (y := nI ((prs (mL gr li nu st n k1) 1001).length)) (rfl) ?_
    refine g_if_ne C (t := 36) dX6_fastest_28 (by decide) (q := 31) rfl (fun c_28 => ?_) (fun c_28 => ?_)
    · rw [← nI_0, nI_eq (by omega) (by omega)] at c_28
      refine g_aload_n C 0 dX6_fastest_36 rfl rfl rfl (q := 37) ?_
      refine g_get C 0 3 dX6_fastest_37 (Cn := RX6) (T := TX6) (N := 6) (fun _ h => List.mem_cons_of_mem _ (List.mem_append_left _ (List.mem_append_left _ (List.mem_append_left _ (List.mem_append_left _ (List.mem_append_right _ h)))))) rfl rfl (by decide) (List.mem_cons_of_mem _ (List.mem_append_left _ (List.mem_append_left _ (List.mem_append_left _ (List.mem_append_left _ (List.mem_append_left _ (List.mem_of_getElem? (i := 1) rfl))))))) rfl (q := 40) rfl ?_
      refine g_iload_n C 1 dX6_fastest_40 rfl rfl rfl (q := 41) ?_
      refine g_iconst C (nI 0) dX6_fastest_41 (by decide) (q := 42) rfl ?_
      refine gcV_si C (n := 2) (As := [.int (nI k1), .int (nI 0)]) (st := []) 4 (fun h => h) dX6_fastest_42 rfl rfl gX6_fastest_X5_pairTime (c_X5_pairTime l D cI cJ cZ a u_17.1 u_17.2.1 gr li st sp n m nu u_17.2.2.1 u_17.2.2.2.1 u_17.2.2.2.2.1 u_17.2.2.2.2.2.1 u_17.2.2.2.2.2.2 (nI 1) sc pv su sd t k1 0 hL hT hk h_17.2 (show 0 < (prs (mL gr li nu st n k1) 1001).length by omega)) rfl rfl rfl (by decide +kernel) ⟨Nat.le_of_ble_eq_true rfl, Nat.le_of_ble_eq_true rfl⟩ rfl rfl (Nat.le_of_ble_eq_true rfl) FT_b FT_h ⟨Nat.le_of_ble_eq_true rfl, Nat.le_of_ble_eq_true rfl⟩ (q := 45) rfl (fun r_42 h_42 => ?_)
      subst h_42
      exact hret _ (u_17.1, u_17.2.1, u_17.2.2.1, u_17.2.2.2.1, u_17.2.2.2.2.1, u_17.2.2.2.2.2.1, u_17.2.2.2.2.2.2, nI 1) 45 _ dX6_fastest_45 rfl (⟨by rw [aFast, if_pos hc8, nI_clamp (by omega)]; first | exact (headI_e (by omega)).symm | exact (headI_get (by omega)).symm, h_17.1, Or.inr ⟨rfl, h_17.2⟩⟩)
    · rw [← nI_0, nI_eq (by omega) (by omega)] at c_28
      refine g_ldc C (v := (-1000000)) dX6_fastest_31 (List.mem_cons_of_mem _ (List.mem_append_left _ (List.mem_append_left _ (List.mem_append_left _ (List.mem_append_left _ (List.mem_append_left _ (List.mem_of_getElem? (i := 2) rfl))))))) (q := 33) rfl ?_
      refine g_goto C (q := 45) dX6_fastest_33 (by decide) ?_
      exact hret _ (u_17.1, u_17.2.1, u_17.2.2.1, u_17.2.2.2.1, u_17.2.2.2.2.1, u_17.2.2.2.2.2.1, u_17.2.2.2.2.2.2, nI 1) 45 _ dX6_fastest_45 rfl (⟨by rw [aFast, if_pos hc8, nI_clamp (by omega)]; first | exact (headI_e (by omega)).symm | exact (headI_get (by omega)).symm, h_17.1, Or.inr ⟨rfl, h_17.2⟩⟩)
  · replace c_8 := ite_e0 c_8
    refine g_iconst C (-1) dX6_fastest_11 (by decide) (q := 12) rfl ?_
    exact hret _ (hA, nA, ev, od, fp, ti, wc, wu) 12 _ dX6_fastest_12 rfl (⟨by rw [aFast, if_neg c_8], hp, hW0⟩)
set_option maxHeartbeats 4000000 in
set_option maxRecDepth 100000 in
theorem c_X6_best (l : Launch) (D : va_G) (cI cJ cZ : ClassId) (a : Nat → Nat) (hA nA : Nat) (gr li st sp : Nat → Int32) (n m : Nat) (nu : Nat → Int32) (ev od : Nat → Int64) (fp ti : Nat → Int32) (wc : Nat → Int64) (wu : Int32) (sc pv : Nat → Int64) (su : Int32) (sd : Nat → Int32) (t : Nat) (k z : Int32) (hL : LInv st sp n m) (hT : TrOK nu) (hp : (hA = a 11 ∧ nA = a 12) ∨ (hA = a 12 ∧ nA = a 11)) (hW0 : wu = nI 0 ∨ (wu = nI 1 ∧ WOK gr li nu st n m fp ti wc)) : Met l yX6_best wsX6_best { frames := 6, cells := 0, slots := 0, locals := 150 } (gPc D (tyT cI cJ cZ) (wA a (a 11) (a 12)) FT (wC cI cJ cZ a hA nA gr li st sp (nI n) (nI m) nu ev od fp ti wc wu sc pv su sd (nI t)) [.ref (a 0), .int k, .int z]) (va_Qi (fun (r : Int32) (u : Nat × Nat × (Nat → Int64) × (Nat → Int64) × (Nat → Int32) × (Nat → Int32) × (Nat → Int64) × Int32) => r = aBP gr li nu st n m k z ∧ ((u.1 = a 11 ∧ u.2.1 = a 12) ∨ (u.1 = a 12 ∧ u.2.1 = a 11)) ∧ (u.2.2.2.2.2.2.2 = nI 0 ∨ (u.2.2.2.2.2.2.2 = nI 1 ∧ WOK gr li nu st n m u.2.2.2.2.1 u.2.2.2.2.2.1 u.2.2.2.2.2.2.1))) (fun u tS => va_P D vwCl ((fun (u : Nat × Nat × (Nat → Int64) × (Nat → Int64) × (Nat → Int32) × (Nat → Int32) × (Nat → Int64) × Int32) => wC cI cJ cZ a u.1 u.2.1 gr li st sp (nI n) (nI m) nu u.2.2.1 u.2.2.2.1 u.2.2.2.2.1 u.2.2.2.2.2.1 u.2.2.2.2.2.2.1 u.2.2.2.2.2.2.2 sc pv su sd (nI t)) u) tS.heap ∧ va_D (wA a (a 11) (a 12)) ((fun (u : Nat × Nat × (Nat → Int64) × (Nat → Int64) × (Nat → Int32) × (Nat → Int32) × (Nat → Int64) × Int32) => wC cI cJ cZ a u.1 u.2.1 gr li st sp (nI n) (nI m) nu u.2.2.1 u.2.2.2.1 u.2.2.2.2.1 u.2.2.2.2.2.1 u.2.2.2.2.2.2.1 u.2.2.2.2.2.2.2 sc pv su sd (nI t)) u)) (wA a (a 11) (a 12))) 0 0 (wA a (a 11) (a 12)) := by
  refine gs_qi (cc := cX6_best) (nL := 5) (ty := .int) (W' := fun (u : Nat × Nat × (Nat → Int64) × (Nat → Int64) × (Nat → Int32) × (Nat → Int32) × (Nat → Int64) × Int32) => wC cI cJ cZ a u.1 u.2.1 gr li st sp (nI n) (nI m) nu u.2.2.1 u.2.2.2.1 u.2.2.2.2.1 u.2.2.2.2.2.1 u.2.2.2.2.2.2.1 u.2.2.2.2.2.2.2 sc pv su sd (nI t)) (by decide) rfl (Nat.le_of_ble_eq_true rfl) (fun G C hret => ?_)
  show G 0 0 (wC cI cJ cZ a hA nA gr li st sp (nI n) (nI m) nu ev od fp ti wc wu sc pv su sd (nI t)) [(0, .ref (a 0)), (1, .int k), (2, .int z)] 0 []
  have hn := hL.2.1
  have hmn := hL.m_le
  refine g_aload_n C 0 dX6_best_0 rfl rfl rfl (q := 1) ?_
  refine g_iload_n C 1 dX6_best_1 rfl rfl rfl (q := 2) ?_
  refine g_iload_n C 2 dX6_best_2 rfl rfl rfl (q := 3) ?_
  refine gcV_si C (n := 2) (As := [.int k, .int z]) (st := []) 0 (fun h => h) dX6_best_3 rfl rfl gX6_best_X6_driveRefusal (c_X6_driveRefusal l D cI cJ cZ a hA nA gr li st sp n m nu ev od fp ti wc wu sc pv su sd t k z) rfl rfl rfl (by decide +kernel) ⟨Nat.le_of_ble_eq_true rfl, Nat.le_of_ble_eq_true rfl⟩ rfl rfl (Nat.le_of_ble_eq_true rfl) FT_b FT_h ⟨Nat.le_of_ble_eq_true rfl, Nat.le_of_ble_eq_true rfl⟩ (q := 6) rfl (fun r_3 h_3 => ?_)
  subst h_3
  refine g_istore_n C [(3, .int (aDR m k z)), (0, .ref (a 0)), (1, .int k), (2, .int z)] dX6_best_6 rfl (by decide) rfl (q := 7) rfl ?_
  refine g_iload_n C 0 dX6_best_7 rfl rfl rfl (q := 8) ?_
  refine g_if_eq C (t := 13) dX6_best_8 (by decide) (q := 11) rfl (fun c_8 => ?_) (fun c_8 => ?_)
  · have hdr := c_8
    obtain ⟨k1, z1, hk, hz, rfl, rfl⟩ := aDR_0 c_8 (by omega)
    obtain ⟨hn1, hn2, hn3, hn4⟩ := nL_rg hL hk
    have hcv := (cv_len (gr := gr) (li := li) hT hn2 hn1).2.1
    have hB := prs_lastI (m := (mL gr li nu st n k1)) hz
    have hlz := prs_len (mL gr li nu st n k1) (z1 + 1)
    refine g_aload_n C 1 dX6_best_13 rfl rfl rfl (q := 14) ?_
    refine g_get C 0 3 dX6_best_14 (Cn := RX6) (T := TX6) (N := 6) (fun _ h => List.mem_cons_of_mem _ (List.mem_append_left _ (List.mem_append_left _ (List.mem_append_left _ (List.mem_append_left _ (List.mem_append_right _ h)))))) rfl rfl (by decide) (List.mem_cons_of_mem _ (List.mem_append_left _ (List.mem_append_left _ (List.mem_append_left _ (List.mem_append_left _ (List.mem_append_left _ (List.mem_of_getElem? (i := 0) rfl))))))) rfl (q := 17) rfl ?_
    refine gcV_qv C (n := 0) (As := []) (st := []) 4 (fun h => h) (fun _ h => h) dX6_best_17 rfl rfl gX6_best_X5_bringUpToDate (c_X5_bringUpToDate l D cI cJ cZ a hA nA gr li st sp n m nu ev od fp ti wc wu sc pv su sd t hL hT hp hW0) rfl rfl rfl (by decide +kernel) ⟨Nat.le_of_ble_eq_true rfl, Nat.le_of_ble_eq_true rfl⟩ rfl rfl (Nat.le_of_ble_eq_true rfl) FT_b FT_h ⟨Nat.le_of_ble_eq_true rfl, Nat.le_of_ble_eq_true rfl⟩ (q := 20) rfl (fun u_17 h_17 => ?_)
    have h_17 : ((u_17.1 = a 11 ∧ u_17.2.1 = a 12) ∨ (u_17.1 = a 12 ∧ u_17.2.1 = a 11)) ∧ WOK gr li nu st n m u_17.2.2.2.2.1 u_17.2.2.2.2.2.1 u_17.2.2.2.2.2.2 := h_17
    show G 0 0 (wC cI cJ cZ a u_17.1 u_17.2.1 gr li st sp (nI n) (nI m) nu u_17.2.2.1 u_17.2.2.2.1 u_17.2.2.2.2.1 u_17.2.2.2.2.2.1 u_17.2.2.2.2.2.2 (nI 1) sc pv su sd (nI t)) [(3, .int (aDR m (nI k1) (nI z1))), (0, .ref (a 0)), (1, .int (nI k1)), (2, .int (nI z1))] 20 []
    refine g_aload_n C 1 dX6_best_20 rfl rfl rfl (q := 21) ?_
    refine g_get C 0 3 dX6_best_21 (Cn := RX6) (T := TX6) (N := 6) (fun _ h => List.mem_cons_of_mem _ (List.mem_append_left _ (List.mem_append_left _ (List.mem_append_left _ (List.mem_append_left _ (List.mem_append_right _ h)))))) rfl rfl (by decide) (List.mem_cons_of_mem _ (List.mem_append_left _ (List.mem_append_left _ (List.mem_append_left _ (List.mem_append_left _ (List.mem_append_left _ (List.mem_of_getElem? (i := 0) rfl))))))) rfl (q := 24) rfl ?_
    refine g_iload_n C 2 dX6_best_24 rfl rfl rfl (q := 25) ?_
    refine g_iload_n C 3 dX6_best_25 rfl rfl rfl (q := 26) ?_
    refine gcV_si C (n := 2) (As := [.int (nI k1), .int (nI z1)]) (st := []) 4 (fun h => h) dX6_best_26 rfl rfl gX6_best_X5_pairWithin (c_X5_pairWithin l D cI cJ cZ a u_17.1 u_17.2.1 gr li st sp n m nu u_17.2.2.1 u_17.2.2.2.1 u_17.2.2.2.2.1 u_17.2.2.2.2.2.1 u_17.2.2.2.2.2.2 (nI 1) sc pv su sd t k1 z1 hL hT hk h_17.2 hz) rfl rfl rfl (by decide +kernel) ⟨Nat.le_of_ble_eq_true rfl, Nat.le_of_ble_eq_true rfl⟩ rfl rfl (Nat.le_of_ble_eq_true rfl) FT_b FT_h ⟨Nat.le_of_ble_eq_true rfl, Nat.le_of_ble_eq_true rfl⟩ (q := 29) rfl (fun r_26 h_26 => ?_)
    subst h_26
    refine g_istore C [(4, .int (nI (prs (mL gr li nu st n k1) (z1 + 1)).length + (-1))), (3, .int (aDR m (nI k1) (nI z1))), (0, .ref (a 0)), (1, .int (nI k1)), (2, .int (nI z1))] dX6_best_29 (by decide) rfl (q := 31) rfl ?_
    refine g_iload C 0 dX6_best_31 rfl rfl (q := 33) ?_
    refine g_if_ge C (t := 41) dX6_best_33 (by decide) (q := 36) rfl (fun c_33 => ?_) (fun c_33 => ?_)
    · replace hB := hB.resolve_left (fun q => absurd c_33 (Int32.not_le.mpr ((dn0_iff (by omega)).mpr q.1)))
      obtain ⟨hB1, hB2, hB3, hB4⟩ := hB
      refine g_lset C (z := 0) (y := nI ((prs (mL gr li nu st n k1) (z1 + 1)).length - 1)) [(4, .int (nI ((prs (mL gr li nu st n k1) (z1 + 1)).length - 1))), (3, .int (aDR m (nI k1) (nI z1))), (0, .ref (a 0)), (1, .int (nI k1)), (2, .int (nI z1))] rfl (m1_sub (by omega)) rfl ?_
      refine g_aload_n C 2 dX6_best_41 rfl rfl rfl (q := 42) ?_
      refine g_get C 0 3 dX6_best_42 (Cn := RX6) (T := TX6) (N := 6) (fun _ h => List.mem_cons_of_mem _ (List.mem_append_left _ (List.mem_append_left _ (List.mem_append_left _ (List.mem_append_left _ (List.mem_append_right _ h)))))) rfl rfl (by decide) (List.mem_cons_of_mem _ (List.mem_append_left _ (List.mem_append_left _ (List.mem_append_left _ (List.mem_append_left _ (List.mem_append_left _ (List.mem_of_getElem? (i := 0) rfl))))))) rfl (q := 45) rfl ?_
      refine g_iload_n C 3 dX6_best_45 rfl rfl rfl (q := 46) ?_
      refine g_iload C 0 dX6_best_46 rfl rfl (q := 48) ?_
      refine gcV_si C (n := 2) (As := [.int (nI k1), .int (nI ((prs (mL gr li nu st n k1) (z1 + 1)).length - 1))]) (st := []) 4 (fun h => h) dX6_best_48 rfl rfl gX6_best_X5_pairPower (c_X5_pairPower l D cI cJ cZ a u_17.1 u_17.2.1 gr li st sp n m nu u_17.2.2.1 u_17.2.2.2.1 u_17.2.2.2.2.1 u_17.2.2.2.2.2.1 u_17.2.2.2.2.2.2 (nI 1) sc pv su sd t k1 ((prs (mL gr li nu st n k1) (z1 + 1)).length - 1) hL hT hk h_17.2 (show (prs (mL gr li nu st n k1) (z1 + 1)).length - 1 < (prs (mL gr li nu st n k1) 1001).length by omega)) rfl rfl rfl (by decide +kernel) ⟨Nat.le_of_ble_eq_true rfl, Nat.le_of_ble_eq_true rfl⟩ rfl rfl (Nat.le_of_ble_eq_true rfl) FT_b FT_h ⟨Nat.le_of_ble_eq_true rfl, Nat.le_of_ble_eq_true rfl⟩ (q := 51) rfl (fun r_48 h_48 => ?_)
      subst h_48
      exact hret _ (u_17.1, u_17.2.1, u_17.2.2.1, u_17.2.2.2.1, u_17.2.2.2.2.1, u_17.2.2.2.2.2.1, u_17.2.2.2.2.2.2, nI 1) 51 _ dX6_best_51 rfl (⟨by rw [aBP, if_pos hdr, nI_clamp (show k1 < 2 ^ 31 by omega), nI_clamp (show z1 < 2 ^ 31 by omega)]; first | exact hB.2.2.symm | exact hB4.symm, h_17.1, Or.inr ⟨rfl, h_17.2⟩⟩)
    · replace hB := hB.resolve_right (fun q => absurd ((dn0_iff (by omega)).mp (Int32.not_le.mp c_33)) (by omega))
      refine g_ldc C (v := (-1000000)) dX6_best_36 (List.mem_cons_of_mem _ (List.mem_append_left _ (List.mem_append_left _ (List.mem_append_left _ (List.mem_append_left _ (List.mem_append_left _ (List.mem_of_getElem? (i := 1) rfl))))))) (q := 38) rfl ?_
      refine g_goto C (q := 51) dX6_best_38 (by decide) ?_
      exact hret _ (u_17.1, u_17.2.1, u_17.2.2.1, u_17.2.2.2.1, u_17.2.2.2.2.1, u_17.2.2.2.2.2.1, u_17.2.2.2.2.2.2, nI 1) 51 _ dX6_best_51 rfl (⟨by rw [aBP, if_pos hdr, nI_clamp (show k1 < 2 ^ 31 by omega), nI_clamp (show z1 < 2 ^ 31 by omega)]; first | exact hB.2.2.symm | exact hB4.symm, h_17.1, Or.inr ⟨rfl, h_17.2⟩⟩)
  · refine g_iload_n C 0 dX6_best_11 rfl rfl rfl (q := 12) ?_
    exact hret _ (hA, nA, ev, od, fp, ti, wc, wu) 12 _ dX6_best_12 rfl (⟨by rw [aBP, if_neg c_8], hp, hW0⟩)
set_option maxHeartbeats 4000000 in
set_option maxRecDepth 100000 in
theorem c_X6_bestTime (l : Launch) (D : va_G) (cI cJ cZ : ClassId) (a : Nat → Nat) (hA nA : Nat) (gr li st sp : Nat → Int32) (n m : Nat) (nu : Nat → Int32) (ev od : Nat → Int64) (fp ti : Nat → Int32) (wc : Nat → Int64) (wu : Int32) (sc pv : Nat → Int64) (su : Int32) (sd : Nat → Int32) (t : Nat) (k z : Int32) (hL : LInv st sp n m) (hT : TrOK nu) (hp : (hA = a 11 ∧ nA = a 12) ∨ (hA = a 12 ∧ nA = a 11)) (hW0 : wu = nI 0 ∨ (wu = nI 1 ∧ WOK gr li nu st n m fp ti wc)) : Met l yX6_bestTime wsX6_bestTime { frames := 6, cells := 0, slots := 0, locals := 150 } (gPc D (tyT cI cJ cZ) (wA a (a 11) (a 12)) FT (wC cI cJ cZ a hA nA gr li st sp (nI n) (nI m) nu ev od fp ti wc wu sc pv su sd (nI t)) [.ref (a 0), .int k, .int z]) (va_Qi (fun (r : Int32) (u : Nat × Nat × (Nat → Int64) × (Nat → Int64) × (Nat → Int32) × (Nat → Int32) × (Nat → Int64) × Int32) => r = aBT gr li nu st n m k z ∧ ((u.1 = a 11 ∧ u.2.1 = a 12) ∨ (u.1 = a 12 ∧ u.2.1 = a 11)) ∧ (u.2.2.2.2.2.2.2 = nI 0 ∨ (u.2.2.2.2.2.2.2 = nI 1 ∧ WOK gr li nu st n m u.2.2.2.2.1 u.2.2.2.2.2.1 u.2.2.2.2.2.2.1))) (fun u tS => va_P D vwCl ((fun (u : Nat × Nat × (Nat → Int64) × (Nat → Int64) × (Nat → Int32) × (Nat → Int32) × (Nat → Int64) × Int32) => wC cI cJ cZ a u.1 u.2.1 gr li st sp (nI n) (nI m) nu u.2.2.1 u.2.2.2.1 u.2.2.2.2.1 u.2.2.2.2.2.1 u.2.2.2.2.2.2.1 u.2.2.2.2.2.2.2 sc pv su sd (nI t)) u) tS.heap ∧ va_D (wA a (a 11) (a 12)) ((fun (u : Nat × Nat × (Nat → Int64) × (Nat → Int64) × (Nat → Int32) × (Nat → Int32) × (Nat → Int64) × Int32) => wC cI cJ cZ a u.1 u.2.1 gr li st sp (nI n) (nI m) nu u.2.2.1 u.2.2.2.1 u.2.2.2.2.1 u.2.2.2.2.2.1 u.2.2.2.2.2.2.1 u.2.2.2.2.2.2.2 sc pv su sd (nI t)) u)) (wA a (a 11) (a 12))) 0 0 (wA a (a 11) (a 12)) := by
  refine gs_qi (cc := cX6_bestTime) (nL := 5) (ty := .int) (W' := fun (u : Nat × Nat × (Nat → Int64) × (Nat → Int64) × (Nat → Int32) × (Nat → Int32) × (Nat → Int64) × Int32) => wC cI cJ cZ a u.1 u.2.1 gr li st sp (nI n) (nI m) nu u.2.2.1 u.2.2.2.1 u.2.2.2.2.1 u.2.2.2.2.2.1 u.2.2.2.2.2.2.1 u.2.2.2.2.2.2.2 sc pv su sd (nI t)) (by decide) rfl (Nat.le_of_ble_eq_true rfl) (fun G C hret => ?_)
  show G 0 0 (wC cI cJ cZ a hA nA gr li st sp (nI n) (nI m) nu ev od fp ti wc wu sc pv su sd (nI t)) [(0, .ref (a 0)), (1, .int k), (2, .int z)] 0 []
  have hn := hL.2.1
  have hmn := hL.m_le
  refine g_aload_n C 0 dX6_bestTime_0 rfl rfl rfl (q := 1) ?_
  refine g_iload_n C 1 dX6_bestTime_1 rfl rfl rfl (q := 2) ?_
  refine g_iload_n C 2 dX6_bestTime_2 rfl rfl rfl (q := 3) ?_
  refine gcV_si C (n := 2) (As := [.int k, .int z]) (st := []) 0 (fun h => h) dX6_bestTime_3 rfl rfl gX6_bestTime_X6_driveRefusal (c_X6_driveRefusal l D cI cJ cZ a hA nA gr li st sp n m nu ev od fp ti wc wu sc pv su sd t k z) rfl rfl rfl (by decide +kernel) ⟨Nat.le_of_ble_eq_true rfl, Nat.le_of_ble_eq_true rfl⟩ rfl rfl (Nat.le_of_ble_eq_true rfl) FT_b FT_h ⟨Nat.le_of_ble_eq_true rfl, Nat.le_of_ble_eq_true rfl⟩ (q := 6) rfl (fun r_3 h_3 => ?_)
  subst h_3
  refine g_istore_n C [(3, .int (aDR m k z)), (0, .ref (a 0)), (1, .int k), (2, .int z)] dX6_bestTime_6 rfl (by decide) rfl (q := 7) rfl ?_
  refine g_iload_n C 0 dX6_bestTime_7 rfl rfl rfl (q := 8) ?_
  refine g_if_eq C (t := 13) dX6_bestTime_8 (by decide) (q := 11) rfl (fun c_8 => ?_) (fun c_8 => ?_)
  · have hdr := c_8
    obtain ⟨k1, z1, hk, hz, rfl, rfl⟩ := aDR_0 c_8 (by omega)
    obtain ⟨hn1, hn2, hn3, hn4⟩ := nL_rg hL hk
    have hcv := (cv_len (gr := gr) (li := li) hT hn2 hn1).2.1
    have hB := prs_lastI (m := (mL gr li nu st n k1)) hz
    have hlz := prs_len (mL gr li nu st n k1) (z1 + 1)
    refine g_aload_n C 1 dX6_bestTime_13 rfl rfl rfl (q := 14) ?_
    refine g_get C 0 3 dX6_bestTime_14 (Cn := RX6) (T := TX6) (N := 6) (fun _ h => List.mem_cons_of_mem _ (List.mem_append_left _ (List.mem_append_left _ (List.mem_append_left _ (List.mem_append_left _ (List.mem_append_right _ h)))))) rfl rfl (by decide) (List.mem_cons_of_mem _ (List.mem_append_left _ (List.mem_append_left _ (List.mem_append_left _ (List.mem_append_left _ (List.mem_append_left _ (List.mem_of_getElem? (i := 0) rfl))))))) rfl (q := 17) rfl ?_
    refine gcV_qv C (n := 0) (As := []) (st := []) 4 (fun h => h) (fun _ h => h) dX6_bestTime_17 rfl rfl gX6_bestTime_X5_bringUpToDate (c_X5_bringUpToDate l D cI cJ cZ a hA nA gr li st sp n m nu ev od fp ti wc wu sc pv su sd t hL hT hp hW0) rfl rfl rfl (by decide +kernel) ⟨Nat.le_of_ble_eq_true rfl, Nat.le_of_ble_eq_true rfl⟩ rfl rfl (Nat.le_of_ble_eq_true rfl) FT_b FT_h ⟨Nat.le_of_ble_eq_true rfl, Nat.le_of_ble_eq_true rfl⟩ (q := 20) rfl (fun u_17 h_17 => ?_)
    have h_17 : ((u_17.1 = a 11 ∧ u_17.2.1 = a 12) ∨ (u_17.1 = a 12 ∧ u_17.2.1 = a 11)) ∧ WOK gr li nu st n m u_17.2.2.2.2.1 u_17.2.2.2.2.2.1 u_17.2.2.2.2.2.2 := h_17
    show G 0 0 (wC cI cJ cZ a u_17.1 u_17.2.1 gr li st sp (nI n) (nI m) nu u_17.2.2.1 u_17.2.2.2.1 u_17.2.2.2.2.1 u_17.2.2.2.2.2.1 u_17.2.2.2.2.2.2 (nI 1) sc pv su sd (nI t)) [(3, .int (aDR m (nI k1) (nI z1))), (0, .ref (a 0)), (1, .int (nI k1)), (2, .int (nI z1))] 20 []
    refine g_aload_n C 1 dX6_bestTime_20 rfl rfl rfl (q := 21) ?_
    refine g_get C 0 3 dX6_bestTime_21 (Cn := RX6) (T := TX6) (N := 6) (fun _ h => List.mem_cons_of_mem _ (List.mem_append_left _ (List.mem_append_left _ (List.mem_append_left _ (List.mem_append_left _ (List.mem_append_right _ h)))))) rfl rfl (by decide) (List.mem_cons_of_mem _ (List.mem_append_left _ (List.mem_append_left _ (List.mem_append_left _ (List.mem_append_left _ (List.mem_append_left _ (List.mem_of_getElem? (i := 0) rfl))))))) rfl (q := 24) rfl ?_
    refine g_iload_n C 2 dX6_bestTime_24 rfl rfl rfl (q := 25) ?_
    refine g_iload_n C 3 dX6_bestTime_25 rfl rfl rfl (q := 26) ?_
    refine gcV_si C (n := 2) (As := [.int (nI k1), .int (nI z1)]) (st := []) 4 (fun h => h) dX6_bestTime_26 rfl rfl gX6_bestTime_X5_pairWithin (c_X5_pairWithin l D cI cJ cZ a u_17.1 u_17.2.1 gr li st sp n m nu u_17.2.2.1 u_17.2.2.2.1 u_17.2.2.2.2.1 u_17.2.2.2.2.2.1 u_17.2.2.2.2.2.2 (nI 1) sc pv su sd t k1 z1 hL hT hk h_17.2 hz) rfl rfl rfl (by decide +kernel) ⟨Nat.le_of_ble_eq_true rfl, Nat.le_of_ble_eq_true rfl⟩ rfl rfl (Nat.le_of_ble_eq_true rfl) FT_b FT_h ⟨Nat.le_of_ble_eq_true rfl, Nat.le_of_ble_eq_true rfl⟩ (q := 29) rfl (fun r_26 h_26 => ?_)
    subst h_26
    refine g_istore C [(4, .int (nI (prs (mL gr li nu st n k1) (z1 + 1)).length + (-1))), (3, .int (aDR m (nI k1) (nI z1))), (0, .ref (a 0)), (1, .int (nI k1)), (2, .int (nI z1))] dX6_bestTime_29 (by decide) rfl (q := 31) rfl ?_
    refine g_iload C 0 dX6_bestTime_31 rfl rfl (q := 33) ?_
    refine g_if_ge C (t := 41) dX6_bestTime_33 (by decide) (q := 36) rfl (fun c_33 => ?_) (fun c_33 => ?_)
    · replace hB := hB.resolve_left (fun q => absurd c_33 (Int32.not_le.mpr ((dn0_iff (by omega)).mpr q.1)))
      obtain ⟨hB1, hB2, hB3, hB4⟩ := hB
      refine g_lset C (z := 0) (y := nI ((prs (mL gr li nu st n k1) (z1 + 1)).length - 1)) [(4, .int (nI ((prs (mL gr li nu st n k1) (z1 + 1)).length - 1))), (3, .int (aDR m (nI k1) (nI z1))), (0, .ref (a 0)), (1, .int (nI k1)), (2, .int (nI z1))] rfl (m1_sub (by omega)) rfl ?_
      refine g_aload_n C 2 dX6_bestTime_41 rfl rfl rfl (q := 42) ?_
      refine g_get C 0 3 dX6_bestTime_42 (Cn := RX6) (T := TX6) (N := 6) (fun _ h => List.mem_cons_of_mem _ (List.mem_append_left _ (List.mem_append_left _ (List.mem_append_left _ (List.mem_append_left _ (List.mem_append_right _ h)))))) rfl rfl (by decide) (List.mem_cons_of_mem _ (List.mem_append_left _ (List.mem_append_left _ (List.mem_append_left _ (List.mem_append_left _ (List.mem_append_left _ (List.mem_of_getElem? (i := 0) rfl))))))) rfl (q := 45) rfl ?_
      refine g_iload_n C 3 dX6_bestTime_45 rfl rfl rfl (q := 46) ?_
      refine g_iload C 0 dX6_bestTime_46 rfl rfl (q := 48) ?_
      refine gcV_si C (n := 2) (As := [.int (nI k1), .int (nI ((prs (mL gr li nu st n k1) (z1 + 1)).length - 1))]) (st := []) 4 (fun h => h) dX6_bestTime_48 rfl rfl gX6_bestTime_X5_pairTime (c_X5_pairTime l D cI cJ cZ a u_17.1 u_17.2.1 gr li st sp n m nu u_17.2.2.1 u_17.2.2.2.1 u_17.2.2.2.2.1 u_17.2.2.2.2.2.1 u_17.2.2.2.2.2.2 (nI 1) sc pv su sd t k1 ((prs (mL gr li nu st n k1) (z1 + 1)).length - 1) hL hT hk h_17.2 (show (prs (mL gr li nu st n k1) (z1 + 1)).length - 1 < (prs (mL gr li nu st n k1) 1001).length by omega)) rfl rfl rfl (by decide +kernel) ⟨Nat.le_of_ble_eq_true rfl, Nat.le_of_ble_eq_true rfl⟩ rfl rfl (Nat.le_of_ble_eq_true rfl) FT_b FT_h ⟨Nat.le_of_ble_eq_true rfl, Nat.le_of_ble_eq_true rfl⟩ (q := 51) rfl (fun r_48 h_48 => ?_)
      subst h_48
      exact hret _ (u_17.1, u_17.2.1, u_17.2.2.1, u_17.2.2.2.1, u_17.2.2.2.2.1, u_17.2.2.2.2.2.1, u_17.2.2.2.2.2.2, nI 1) 51 _ dX6_bestTime_51 rfl (⟨by rw [aBT, if_pos hdr, nI_clamp (show k1 < 2 ^ 31 by omega), nI_clamp (show z1 < 2 ^ 31 by omega)]; first | exact hB.2.1.symm | exact hB3.symm, h_17.1, Or.inr ⟨rfl, h_17.2⟩⟩)
    · replace hB := hB.resolve_right (fun q => absurd ((dn0_iff (by omega)).mp (Int32.not_le.mp c_33)) (by omega))
      refine g_ldc C (v := (-1000000)) dX6_bestTime_36 (List.mem_cons_of_mem _ (List.mem_append_left _ (List.mem_append_left _ (List.mem_append_left _ (List.mem_append_left _ (List.mem_append_left _ (List.mem_of_getElem? (i := 1) rfl))))))) (q := 38) rfl ?_
      refine g_goto C (q := 51) dX6_bestTime_38 (by decide) ?_
      exact hret _ (u_17.1, u_17.2.1, u_17.2.2.1, u_17.2.2.2.1, u_17.2.2.2.2.1, u_17.2.2.2.2.2.1, u_17.2.2.2.2.2.2, nI 1) 51 _ dX6_bestTime_51 rfl (⟨by rw [aBT, if_pos hdr, nI_clamp (show k1 < 2 ^ 31 by omega), nI_clamp (show z1 < 2 ^ 31 by omega)]; first | exact hB.2.1.symm | exact hB3.symm, h_17.1, Or.inr ⟨rfl, h_17.2⟩⟩)
  · refine g_iload_n C 0 dX6_bestTime_11 rfl rfl rfl (q := 12) ?_
    exact hret _ (hA, nA, ev, od, fp, ti, wc, wu) 12 _ dX6_bestTime_12 rfl (⟨by rw [aBT, if_neg c_8], hp, hW0⟩)
set_option maxHeartbeats 4000000 in
set_option maxRecDepth 100000 in
theorem c_X6_curve (l : Launch) (D : va_G) (cI cJ cZ : ClassId) (a : Nat → Nat) (hA nA : Nat) (gr li st sp : Nat → Int32) (n m : Nat) (nu : Nat → Int32) (ev od : Nat → Int64) (fp ti : Nat → Int32) (wc : Nat → Int64) (wu : Int32) (sc pv : Nat → Int64) (su : Int32) (sd : Nat → Int32) (t : Nat) (k : Int32) (hL : LInv st sp n m) (hT : TrOK nu) (hp : (hA = a 11 ∧ nA = a 12) ∨ (hA = a 12 ∧ nA = a 11)) (hW0 : wu = nI 0 ∨ (wu = nI 1 ∧ WOK gr li nu st n m fp ti wc)) : Met l yX6_curve wsX6_curve { frames := 6, cells := 0, slots := 0, locals := 150 } (gPc D (tyT cI cJ cZ) (wA a (a 11) (a 12)) FT (wC cI cJ cZ a hA nA gr li st sp (nI n) (nI m) nu ev od fp ti wc wu sc pv su sd (nI t)) [.ref (a 0), .int k]) (va_Qi (fun (r : Int32) (u : Nat × Nat × (Nat → Int64) × (Nat → Int64) × (Nat → Int32) × (Nat → Int32) × (Nat → Int64) × Int32) => r = aCurve gr li nu st n m k ∧ ((u.1 = a 11 ∧ u.2.1 = a 12) ∨ (u.1 = a 12 ∧ u.2.1 = a 11)) ∧ (u.2.2.2.2.2.2.2 = nI 0 ∨ (u.2.2.2.2.2.2.2 = nI 1 ∧ WOK gr li nu st n m u.2.2.2.2.1 u.2.2.2.2.2.1 u.2.2.2.2.2.2.1))) (fun u tS => va_P D vwCl ((fun (u : Nat × Nat × (Nat → Int64) × (Nat → Int64) × (Nat → Int32) × (Nat → Int32) × (Nat → Int64) × Int32) => wC cI cJ cZ a u.1 u.2.1 gr li st sp (nI n) (nI m) nu u.2.2.1 u.2.2.2.1 u.2.2.2.2.1 u.2.2.2.2.2.1 u.2.2.2.2.2.2.1 u.2.2.2.2.2.2.2 sc pv su sd (nI t)) u) tS.heap ∧ va_D (wA a (a 11) (a 12)) ((fun (u : Nat × Nat × (Nat → Int64) × (Nat → Int64) × (Nat → Int32) × (Nat → Int32) × (Nat → Int64) × Int32) => wC cI cJ cZ a u.1 u.2.1 gr li st sp (nI n) (nI m) nu u.2.2.1 u.2.2.2.1 u.2.2.2.2.1 u.2.2.2.2.2.1 u.2.2.2.2.2.2.1 u.2.2.2.2.2.2.2 sc pv su sd (nI t)) u)) (wA a (a 11) (a 12))) 0 0 (wA a (a 11) (a 12)) := by
  refine gs_qi (cc := cX6_curve) (nL := 2) (ty := .int) (W' := fun (u : Nat × Nat × (Nat → Int64) × (Nat → Int64) × (Nat → Int32) × (Nat → Int32) × (Nat → Int64) × Int32) => wC cI cJ cZ a u.1 u.2.1 gr li st sp (nI n) (nI m) nu u.2.2.1 u.2.2.2.1 u.2.2.2.2.1 u.2.2.2.2.2.1 u.2.2.2.2.2.2.1 u.2.2.2.2.2.2.2 sc pv su sd (nI t)) (by decide) rfl (Nat.le_of_ble_eq_true rfl) (fun G C hret => ?_)
  show G 0 0 (wC cI cJ cZ a hA nA gr li st sp (nI n) (nI m) nu ev od fp ti wc wu sc pv su sd (nI t)) [(0, .ref (a 0)), (1, .int k)] 0 []
  have hn := hL.2.1
  have hmn := hL.m_le
  refine g_aload_n C 0 dX6_curve_0 rfl rfl rfl (q := 1) ?_
  refine g_get C 0 0 dX6_curve_1 (Cn := RX6) (T := TX6) (N := 6) (fun _ h => List.mem_cons_of_mem _ (List.mem_append_left _ (List.mem_append_left _ (List.mem_append_left _ (List.mem_append_left _ (List.mem_append_right _ h)))))) rfl rfl (by decide) (List.mem_cons_of_mem _ (List.mem_append_left _ (List.mem_append_left _ (List.mem_append_left _ (List.mem_append_left _ (List.mem_append_left _ (List.mem_of_getElem? (i := 0) rfl))))))) rfl (q := 4) rfl ?_
  refine g_iload_n C 1 dX6_curve_4 rfl rfl rfl (q := 5) ?_
  refine gcV_si C (n := 1) (As := [.int k]) (st := []) 1 (fun h => h) dX6_curve_5 rfl rfl gX6_curve_X0_hasLeg (c_X0_hasLeg l D cI cJ cZ a hA nA gr li st sp n m nu ev od fp ti wc wu sc pv su sd t k) rfl rfl rfl (by decide +kernel) ⟨Nat.le_of_ble_eq_true rfl, Nat.le_of_ble_eq_true rfl⟩ rfl rfl (Nat.le_of_ble_eq_true rfl) FT_b FT_h ⟨Nat.le_of_ble_eq_true rfl, Nat.le_of_ble_eq_true rfl⟩ (q := 8) rfl (fun r_5 h_5 => ?_)
  subst h_5
  refine g_if_ne C (t := 13) dX6_curve_8 (by decide) (q := 11) rfl (fun c_8 => ?_) (fun c_8 => ?_)
  · replace c_8 := ite_n0 c_8
    have hc8 := c_8
    obtain ⟨k1, hk, rfl⟩ := hcP_of c_8 (by omega)
    refine g_aload_n C 0 dX6_curve_13 rfl rfl rfl (q := 14) ?_
    refine g_get C 0 3 dX6_curve_14 (Cn := RX6) (T := TX6) (N := 6) (fun _ h => List.mem_cons_of_mem _ (List.mem_append_left _ (List.mem_append_left _ (List.mem_append_left _ (List.mem_append_left _ (List.mem_append_right _ h)))))) rfl rfl (by decide) (List.mem_cons_of_mem _ (List.mem_append_left _ (List.mem_append_left _ (List.mem_append_left _ (List.mem_append_left _ (List.mem_append_left _ (List.mem_of_getElem? (i := 1) rfl))))))) rfl (q := 17) rfl ?_
    refine gcV_qv C (n := 0) (As := []) (st := []) 4 (fun h => h) (fun _ h => h) dX6_curve_17 rfl rfl gX6_curve_X5_bringUpToDate (c_X5_bringUpToDate l D cI cJ cZ a hA nA gr li st sp n m nu ev od fp ti wc wu sc pv su sd t hL hT hp hW0) rfl rfl rfl (by decide +kernel) ⟨Nat.le_of_ble_eq_true rfl, Nat.le_of_ble_eq_true rfl⟩ rfl rfl (Nat.le_of_ble_eq_true rfl) FT_b FT_h ⟨Nat.le_of_ble_eq_true rfl, Nat.le_of_ble_eq_true rfl⟩ (q := 20) rfl (fun u_17 h_17 => ?_)
    have h_17 : ((u_17.1 = a 11 ∧ u_17.2.1 = a 12) ∨ (u_17.1 = a 12 ∧ u_17.2.1 = a 11)) ∧ WOK gr li nu st n m u_17.2.2.2.2.1 u_17.2.2.2.2.2.1 u_17.2.2.2.2.2.2 := h_17
    show G 0 0 (wC cI cJ cZ a u_17.1 u_17.2.1 gr li st sp (nI n) (nI m) nu u_17.2.2.1 u_17.2.2.2.1 u_17.2.2.2.2.1 u_17.2.2.2.2.2.1 u_17.2.2.2.2.2.2 (nI 1) sc pv su sd (nI t)) [(0, .ref (a 0)), (1, .int (nI k1))] 20 []
    refine g_aload_n C 0 dX6_curve_20 rfl rfl rfl (q := 21) ?_
    refine g_get C 0 3 dX6_curve_21 (Cn := RX6) (T := TX6) (N := 6) (fun _ h => List.mem_cons_of_mem _ (List.mem_append_left _ (List.mem_append_left _ (List.mem_append_left _ (List.mem_append_left _ (List.mem_append_right _ h)))))) rfl rfl (by decide) (List.mem_cons_of_mem _ (List.mem_append_left _ (List.mem_append_left _ (List.mem_append_left _ (List.mem_append_left _ (List.mem_append_left _ (List.mem_of_getElem? (i := 1) rfl))))))) rfl (q := 24) rfl ?_
    refine g_iload_n C 1 dX6_curve_24 rfl rfl rfl (q := 25) ?_
    refine gcV_si C (n := 1) (As := [.int (nI k1)]) (st := []) 4 (fun h => h) dX6_curve_25 rfl rfl gX6_curve_X5_pairCount (c_X5_pairCount l D cI cJ cZ a u_17.1 u_17.2.1 gr li st sp n m nu u_17.2.2.1 u_17.2.2.2.1 u_17.2.2.2.2.1 u_17.2.2.2.2.2.1 u_17.2.2.2.2.2.2 (nI 1) sc pv su sd t k1 hL hT hk h_17.2) rfl rfl rfl (by decide +kernel) ⟨Nat.le_of_ble_eq_true rfl, Nat.le_of_ble_eq_true rfl⟩ rfl rfl (Nat.le_of_ble_eq_true rfl) FT_b FT_h ⟨Nat.le_of_ble_eq_true rfl, Nat.le_of_ble_eq_true rfl⟩ (q := 28) rfl (fun r_25 h_25 => ?_)
    subst h_25
    exact hret _ (u_17.1, u_17.2.1, u_17.2.2.1, u_17.2.2.2.1, u_17.2.2.2.2.1, u_17.2.2.2.2.2.1, u_17.2.2.2.2.2.2, nI 1) 28 _ dX6_curve_28 rfl (⟨by rw [aCurve, if_pos hc8, nI_clamp (by omega)], h_17.1, Or.inr ⟨rfl, h_17.2⟩⟩)
  · replace c_8 := ite_e0 c_8
    refine g_iconst C (-1) dX6_curve_11 (by decide) (q := 12) rfl ?_
    exact hret _ (hA, nA, ev, od, fp, ti, wc, wu) 12 _ dX6_curve_12 rfl (⟨by rw [aCurve, if_neg c_8], hp, hW0⟩)
set_option maxHeartbeats 4000000 in
set_option maxRecDepth 100000 in
theorem c_X6_point (l : Launch) (D : va_G) (cI cJ cZ : ClassId) (a : Nat → Nat) (hA nA : Nat) (gr li st sp : Nat → Int32) (n m : Nat) (nu : Nat → Int32) (ev od : Nat → Int64) (fp ti : Nat → Int32) (wc : Nat → Int64) (wu : Int32) (sc pv : Nat → Int64) (su : Int32) (sd : Nat → Int32) (t : Nat) (k i v : Int32) (hL : LInv st sp n m) (hT : TrOK nu) (hp : (hA = a 11 ∧ nA = a 12) ∨ (hA = a 12 ∧ nA = a 11)) (hW0 : wu = nI 0 ∨ (wu = nI 1 ∧ WOK gr li nu st n m fp ti wc)) : Met l yX6_point wsX6_point { frames := 6, cells := 0, slots := 0, locals := 150 } (gPc D (tyT cI cJ cZ) (wA a (a 11) (a 12)) FT (wC cI cJ cZ a hA nA gr li st sp (nI n) (nI m) nu ev od fp ti wc wu sc pv su sd (nI t)) [.ref (a 0), .int k, .int i, .int v]) (va_Qi (fun (r : Int32) (u : Nat × Nat × (Nat → Int64) × (Nat → Int64) × (Nat → Int32) × (Nat → Int32) × (Nat → Int64) × Int32) => r = aPoint gr li nu st n m k i v ∧ ((u.1 = a 11 ∧ u.2.1 = a 12) ∨ (u.1 = a 12 ∧ u.2.1 = a 11)) ∧ (u.2.2.2.2.2.2.2 = nI 0 ∨ (u.2.2.2.2.2.2.2 = nI 1 ∧ WOK gr li nu st n m u.2.2.2.2.1 u.2.2.2.2.2.1 u.2.2.2.2.2.2.1))) (fun u tS => va_P D vwCl ((fun (u : Nat × Nat × (Nat → Int64) × (Nat → Int64) × (Nat → Int32) × (Nat → Int32) × (Nat → Int64) × Int32) => wC cI cJ cZ a u.1 u.2.1 gr li st sp (nI n) (nI m) nu u.2.2.1 u.2.2.2.1 u.2.2.2.2.1 u.2.2.2.2.2.1 u.2.2.2.2.2.2.1 u.2.2.2.2.2.2.2 sc pv su sd (nI t)) u) tS.heap ∧ va_D (wA a (a 11) (a 12)) ((fun (u : Nat × Nat × (Nat → Int64) × (Nat → Int64) × (Nat → Int32) × (Nat → Int32) × (Nat → Int64) × Int32) => wC cI cJ cZ a u.1 u.2.1 gr li st sp (nI n) (nI m) nu u.2.2.1 u.2.2.2.1 u.2.2.2.2.1 u.2.2.2.2.2.1 u.2.2.2.2.2.2.1 u.2.2.2.2.2.2.2 sc pv su sd (nI t)) u)) (wA a (a 11) (a 12))) 0 0 (wA a (a 11) (a 12)) := by
  refine gs_qi (cc := cX6_point) (nL := 4) (ty := .int) (W' := fun (u : Nat × Nat × (Nat → Int64) × (Nat → Int64) × (Nat → Int32) × (Nat → Int32) × (Nat → Int64) × Int32) => wC cI cJ cZ a u.1 u.2.1 gr li st sp (nI n) (nI m) nu u.2.2.1 u.2.2.2.1 u.2.2.2.2.1 u.2.2.2.2.2.1 u.2.2.2.2.2.2.1 u.2.2.2.2.2.2.2 sc pv su sd (nI t)) (by decide) rfl (Nat.le_of_ble_eq_true rfl) (fun G C hret => ?_)
  show G 0 0 (wC cI cJ cZ a hA nA gr li st sp (nI n) (nI m) nu ev od fp ti wc wu sc pv su sd (nI t)) [(0, .ref (a 0)), (1, .int k), (2, .int i), (3, .int v)] 0 []
  have hn := hL.2.1
  have hmn := hL.m_le
  refine g_aload_n C 0 dX6_point_0 rfl rfl rfl (q := 1) ?_
  refine g_get C 0 0 dX6_point_1 (Cn := RX6) (T := TX6) (N := 6) (fun _ h => List.mem_cons_of_mem _ (List.mem_append_left _ (List.mem_append_left _ (List.mem_append_left _ (List.mem_append_left _ (List.mem_append_right _ h)))))) rfl rfl (by decide) (List.mem_cons_of_mem _ (List.mem_append_left _ (List.mem_append_left _ (List.mem_append_left _ (List.mem_append_left _ (List.mem_append_left _ (List.mem_of_getElem? (i := 0) rfl))))))) rfl (q := 4) rfl ?_
  refine g_iload_n C 1 dX6_point_4 rfl rfl rfl (q := 5) ?_
  refine gcV_si C (n := 1) (As := [.int k]) (st := []) 1 (fun h => h) dX6_point_5 rfl rfl gX6_point_X0_hasLeg (c_X0_hasLeg l D cI cJ cZ a hA nA gr li st sp n m nu ev od fp ti wc wu sc pv su sd t k) rfl rfl rfl (by decide +kernel) ⟨Nat.le_of_ble_eq_true rfl, Nat.le_of_ble_eq_true rfl⟩ rfl rfl (Nat.le_of_ble_eq_true rfl) FT_b FT_h ⟨Nat.le_of_ble_eq_true rfl, Nat.le_of_ble_eq_true rfl⟩ (q := 8) rfl (fun r_5 h_5 => ?_)
  subst h_5
  refine g_if_ne C (t := 13) dX6_point_8 (by decide) (q := 11) rfl (fun c_8 => ?_) (fun c_8 => ?_)
  · replace c_8 := ite_n0 c_8
    have hc8 := c_8
    obtain ⟨k1, hk, rfl⟩ := hcP_of c_8 (by omega)
    obtain ⟨hn1, hn2, hn3, hn4⟩ := nL_rg hL hk
    have hcv := (cv_len (gr := gr) (li := li) hT hn2 hn1).2.1
    refine g_aload_n C 0 dX6_point_13 rfl rfl rfl (q := 14) ?_
    refine g_get C 0 3 dX6_point_14 (Cn := RX6) (T := TX6) (N := 6) (fun _ h => List.mem_cons_of_mem _ (List.mem_append_left _ (List.mem_append_left _ (List.mem_append_left _ (List.mem_append_left _ (List.mem_append_right _ h)))))) rfl rfl (by decide) (List.mem_cons_of_mem _ (List.mem_append_left _ (List.mem_append_left _ (List.mem_append_left _ (List.mem_append_left _ (List.mem_append_left _ (List.mem_of_getElem? (i := 1) rfl))))))) rfl (q := 17) rfl ?_
    refine gcV_qv C (n := 0) (As := []) (st := []) 4 (fun h => h) (fun _ h => h) dX6_point_17 rfl rfl gX6_point_X5_bringUpToDate (c_X5_bringUpToDate l D cI cJ cZ a hA nA gr li st sp n m nu ev od fp ti wc wu sc pv su sd t hL hT hp hW0) rfl rfl rfl (by decide +kernel) ⟨Nat.le_of_ble_eq_true rfl, Nat.le_of_ble_eq_true rfl⟩ rfl rfl (Nat.le_of_ble_eq_true rfl) FT_b FT_h ⟨Nat.le_of_ble_eq_true rfl, Nat.le_of_ble_eq_true rfl⟩ (q := 20) rfl (fun u_17 h_17 => ?_)
    have h_17 : ((u_17.1 = a 11 ∧ u_17.2.1 = a 12) ∨ (u_17.1 = a 12 ∧ u_17.2.1 = a 11)) ∧ WOK gr li nu st n m u_17.2.2.2.2.1 u_17.2.2.2.2.2.1 u_17.2.2.2.2.2.2 := h_17
    show G 0 0 (wC cI cJ cZ a u_17.1 u_17.2.1 gr li st sp (nI n) (nI m) nu u_17.2.2.1 u_17.2.2.2.1 u_17.2.2.2.2.1 u_17.2.2.2.2.2.1 u_17.2.2.2.2.2.2 (nI 1) sc pv su sd (nI t)) [(0, .ref (a 0)), (1, .int (nI k1)), (2, .int i), (3, .int v)] 20 []
    refine g_iload_n C 2 dX6_point_20 rfl rfl rfl (q := 21) ?_
    refine g_if_lt C (t := 36) dX6_point_21 (by decide) (q := 24) rfl (fun c_21 => ?_) (fun c_21 => ?_)
    · have hno : ¬ hcP ((prs (mL gr li nu st n k1) 1001).length) i := fun h => h.1 c_21
      refine g_ldc C (v := (-1000000)) dX6_point_36 (List.mem_cons_of_mem _ (List.mem_append_left _ (List.mem_append_left _ (List.mem_append_left _ (List.mem_append_left _ (List.mem_append_left _ (List.mem_of_getElem? (i := 2) rfl))))))) (q := 38) rfl ?_
      exact hret _ (u_17.1, u_17.2.1, u_17.2.2.1, u_17.2.2.2.1, u_17.2.2.2.2.1, u_17.2.2.2.2.2.1, u_17.2.2.2.2.2.2, nI 1) 38 _ dX6_point_38 rfl (⟨by rw [aPoint, if_pos hc8, nI_clamp (by omega), if_neg hno], h_17.1, Or.inr ⟨rfl, h_17.2⟩⟩)
    · refine g_iload_n C 2 dX6_point_24 rfl rfl rfl (q := 25) ?_
      refine g_aload_n C 0 dX6_point_25 rfl rfl rfl (q := 26) ?_
      refine g_get C 0 3 dX6_point_26 (Cn := RX6) (T := TX6) (N := 6) (fun _ h => List.mem_cons_of_mem _ (List.mem_append_left _ (List.mem_append_left _ (List.mem_append_left _ (List.mem_append_left _ (List.mem_append_right _ h)))))) rfl rfl (by decide) (List.mem_cons_of_mem _ (List.mem_append_left _ (List.mem_append_left _ (List.mem_append_left _ (List.mem_append_left _ (List.mem_append_left _ (List.mem_of_getElem? (i := 1) rfl))))))) rfl (q := 29) rfl ?_
      refine g_iload_n C 1 dX6_point_29 rfl rfl rfl (q := 30) ?_
      refine gcV_si C (n := 1) (As := [.int (nI k1)]) (st := [.int i]) 4 (fun h => h) dX6_point_30 rfl rfl gX6_point_X5_pairCount (c_X5_pairCount l D cI cJ cZ a u_17.1 u_17.2.1 gr li st sp n m nu u_17.2.2.1 u_17.2.2.2.1 u_17.2.2.2.2.1 u_17.2.2.2.2.2.1 u_17.2.2.2.2.2.2 (nI 1) sc pv su sd t k1 hL hT hk h_17.2) rfl rfl rfl (by decide +kernel) ⟨Nat.le_of_ble_eq_true rfl, Nat.le_of_ble_eq_true rfl⟩ rfl rfl (Nat.le_of_ble_eq_true rfl) FT_b FT_h ⟨Nat.le_of_ble_eq_true rfl, Nat.le_of_ble_eq_true rfl⟩ (q := 33) rfl (fun r_30 h_30 => ?_)
      subst h_30
      refine g_eqi C (y := nI ((prs (mL gr li nu st n k1) 1001).length)) (rfl) ?_
      refine g_icmp_lt C (t := 39) dX6_point_33 (by decide) (q := 36) rfl (fun c_33 => ?_) (fun c_33 => ?_)
      · have hci : hcP ((prs (mL gr li nu st n k1) 1001).length) i := ⟨c_21, Int32.not_le.mpr c_33⟩
        have hci2 := hci
        obtain ⟨i1, hi, rfl⟩ := hcP_of hci2 (by omega)
        refine g_iload_n C 3 dX6_point_39 rfl rfl rfl (q := 40) ?_
        refine g_if_eq C (t := 55) dX6_point_40 (by decide) (q := 43) rfl (fun c_40 => ?_) (fun c_40 => ?_)
        · refine g_aload_n C 0 dX6_point_55 rfl rfl rfl (q := 56) ?_
          refine g_get C 0 3 dX6_point_56 (Cn := RX6) (T := TX6) (N := 6) (fun _ h => List.mem_cons_of_mem _ (List.mem_append_left _ (List.mem_append_left _ (List.mem_append_left _ (List.mem_append_left _ (List.mem_append_right _ h)))))) rfl rfl (by decide) (List.mem_cons_of_mem _ (List.mem_append_left _ (List.mem_append_left _ (List.mem_append_left _ (List.mem_append_left _ (List.mem_append_left _ (List.mem_of_getElem? (i := 1) rfl))))))) rfl (q := 59) rfl ?_
          refine g_iload_n C 1 dX6_point_59 rfl rfl rfl (q := 60) ?_
          refine g_iload_n C 2 dX6_point_60 rfl rfl rfl (q := 61) ?_
          refine gcV_si C (n := 2) (As := [.int (nI k1), .int (nI i1)]) (st := []) 4 (fun h => h) dX6_point_61 rfl rfl gX6_point_X5_pairTime (c_X5_pairTime l D cI cJ cZ a u_17.1 u_17.2.1 gr li st sp n m nu u_17.2.2.1 u_17.2.2.2.1 u_17.2.2.2.2.1 u_17.2.2.2.2.2.1 u_17.2.2.2.2.2.2 (nI 1) sc pv su sd t k1 i1 hL hT hk h_17.2 hi) rfl rfl rfl (by decide +kernel) ⟨Nat.le_of_ble_eq_true rfl, Nat.le_of_ble_eq_true rfl⟩ rfl rfl (Nat.le_of_ble_eq_true rfl) FT_b FT_h ⟨Nat.le_of_ble_eq_true rfl, Nat.le_of_ble_eq_true rfl⟩ (q := 64) rfl (fun r_61 h_61 => ?_)
          subst h_61
          exact hret _ (u_17.1, u_17.2.1, u_17.2.2.1, u_17.2.2.2.1, u_17.2.2.2.2.1, u_17.2.2.2.2.2.1, u_17.2.2.2.2.2.2, nI 1) 64 _ dX6_point_64 rfl (⟨by first | (rw [aPoint, if_pos hc8, nI_clamp (show k1 < 2 ^ 31 by omega), if_pos hci, nI_clamp (show i1 < 2 ^ 31 by omega), if_neg c_40]) | (rw [aPoint, if_pos hc8, nI_clamp (show k1 < 2 ^ 31 by omega), if_pos hci, nI_clamp (show i1 < 2 ^ 31 by omega), if_pos c_40]), h_17.1, Or.inr ⟨rfl, h_17.2⟩⟩)
        · refine g_aload_n C 0 dX6_point_43 rfl rfl rfl (q := 44) ?_
          refine g_get C 0 3 dX6_point_44 (Cn := RX6) (T := TX6) (N := 6) (fun _ h => List.mem_cons_of_mem _ (List.mem_append_left _ (List.mem_append_left _ (List.mem_append_left _ (List.mem_append_left _ (List.mem_append_right _ h)))))) rfl rfl (by decide) (List.mem_cons_of_mem _ (List.mem_append_left _ (List.mem_append_left _ (List.mem_append_left _ (List.mem_append_left _ (List.mem_append_left _ (List.mem_of_getElem? (i := 1) rfl))))))) rfl (q := 47) rfl ?_
          refine g_iload_n C 1 dX6_point_47 rfl rfl rfl (q := 48) ?_
          refine g_iload_n C 2 dX6_point_48 rfl rfl rfl (q := 49) ?_
          refine gcV_si C (n := 2) (As := [.int (nI k1), .int (nI i1)]) (st := []) 4 (fun h => h) dX6_point_49 rfl rfl gX6_point_X5_pairPower (c_X5_pairPower l D cI cJ cZ a u_17.1 u_17.2.1 gr li st sp n m nu u_17.2.2.1 u_17.2.2.2.1 u_17.2.2.2.2.1 u_17.2.2.2.2.2.1 u_17.2.2.2.2.2.2 (nI 1) sc pv su sd t k1 i1 hL hT hk h_17.2 hi) rfl rfl rfl (by decide +kernel) ⟨Nat.le_of_ble_eq_true rfl, Nat.le_of_ble_eq_true rfl⟩ rfl rfl (Nat.le_of_ble_eq_true rfl) FT_b FT_h ⟨Nat.le_of_ble_eq_true rfl, Nat.le_of_ble_eq_true rfl⟩ (q := 52) rfl (fun r_49 h_49 => ?_)
          subst h_49
          refine g_goto C (q := 64) dX6_point_52 (by decide) ?_
          exact hret _ (u_17.1, u_17.2.1, u_17.2.2.1, u_17.2.2.2.1, u_17.2.2.2.2.1, u_17.2.2.2.2.2.1, u_17.2.2.2.2.2.2, nI 1) 64 _ dX6_point_64 rfl (⟨by first | (rw [aPoint, if_pos hc8, nI_clamp (show k1 < 2 ^ 31 by omega), if_pos hci, nI_clamp (show i1 < 2 ^ 31 by omega), if_neg c_40]) | (rw [aPoint, if_pos hc8, nI_clamp (show k1 < 2 ^ 31 by omega), if_pos hci, nI_clamp (show i1 < 2 ^ 31 by omega), if_pos c_40]), h_17.1, Or.inr ⟨rfl, h_17.2⟩⟩)
      · have hno : ¬ hcP ((prs (mL gr li nu st n k1) 1001).length) i := fun h => h.2 (Int32.not_lt.mp c_33)
        refine g_ldc C (v := (-1000000)) dX6_point_36 (List.mem_cons_of_mem _ (List.mem_append_left _ (List.mem_append_left _ (List.mem_append_left _ (List.mem_append_left _ (List.mem_append_left _ (List.mem_of_getElem? (i := 2) rfl))))))) (q := 38) rfl ?_
        exact hret _ (u_17.1, u_17.2.1, u_17.2.2.1, u_17.2.2.2.1, u_17.2.2.2.2.1, u_17.2.2.2.2.2.1, u_17.2.2.2.2.2.2, nI 1) 38 _ dX6_point_38 rfl (⟨by rw [aPoint, if_pos hc8, nI_clamp (by omega), if_neg hno], h_17.1, Or.inr ⟨rfl, h_17.2⟩⟩)
  · replace c_8 := ite_e0 c_8
    refine g_iconst C (-1) dX6_point_11 (by decide) (q := 12) rfl ?_
    exact hret _ (hA, nA, ev, od, fp, ti, wc, wu) 12 _ dX6_point_12 rfl (⟨by rw [aPoint, if_neg c_8], hp, hW0⟩)
set_option maxHeartbeats 4000000 in
set_option maxRecDepth 100000 in
theorem c_X6_bestSpeed (l : Launch) (D : va_G) (cI cJ cZ : ClassId) (a : Nat → Nat) (hA nA : Nat) (gr li st sp : Nat → Int32) (n m : Nat) (nu : Nat → Int32) (ev od : Nat → Int64) (fp ti : Nat → Int32) (wc : Nat → Int64) (wu : Int32) (sc pv : Nat → Int64) (su : Int32) (sd : Nat → Int32) (t : Nat) (k z q : Int32) (hL : LInv st sp n m) (hT : TrOK nu) (hp : (hA = a 11 ∧ nA = a 12) ∨ (hA = a 12 ∧ nA = a 11)) (hW0 : wu = nI 0 ∨ (wu = nI 1 ∧ WOK gr li nu st n m fp ti wc)) : Met l yX6_bestSpeed wsX6_bestSpeed { frames := 6, cells := 0, slots := 0, locals := 150 } (gPc D (tyT cI cJ cZ) (wA a (a 11) (a 12)) FT (wC cI cJ cZ a hA nA gr li st sp (nI n) (nI m) nu ev od fp ti wc wu sc pv su sd (nI t)) [.ref (a 0), .int k, .int z, .int q]) (va_Qi (fun (r : Int32) (u : Nat × Nat × (Nat → Int64) × (Nat → Int64) × (Nat → Int32) × (Nat → Int32) × (Nat → Int64) × Int32) => aBS gr li nu st n m k z q r ∧ ((u.1 = a 11 ∧ u.2.1 = a 12) ∨ (u.1 = a 12 ∧ u.2.1 = a 11)) ∧ (u.2.2.2.2.2.2.2 = nI 0 ∨ (u.2.2.2.2.2.2.2 = nI 1 ∧ WOK gr li nu st n m u.2.2.2.2.1 u.2.2.2.2.2.1 u.2.2.2.2.2.2.1))) (fun u tS => va_P D vwCl ((fun (u : Nat × Nat × (Nat → Int64) × (Nat → Int64) × (Nat → Int32) × (Nat → Int32) × (Nat → Int64) × Int32) => wC cI cJ cZ a u.1 u.2.1 gr li st sp (nI n) (nI m) nu u.2.2.1 u.2.2.2.1 u.2.2.2.2.1 u.2.2.2.2.2.1 u.2.2.2.2.2.2.1 u.2.2.2.2.2.2.2 sc pv su sd (nI t)) u) tS.heap ∧ va_D (wA a (a 11) (a 12)) ((fun (u : Nat × Nat × (Nat → Int64) × (Nat → Int64) × (Nat → Int32) × (Nat → Int32) × (Nat → Int64) × Int32) => wC cI cJ cZ a u.1 u.2.1 gr li st sp (nI n) (nI m) nu u.2.2.1 u.2.2.2.1 u.2.2.2.2.1 u.2.2.2.2.2.1 u.2.2.2.2.2.2.1 u.2.2.2.2.2.2.2 sc pv su sd (nI t)) u)) (wA a (a 11) (a 12))) 0 0 (wA a (a 11) (a 12)) := by
  refine gs_qi (cc := cX6_bestSpeed) (nL := 5) (ty := .int) (W' := fun (u : Nat × Nat × (Nat → Int64) × (Nat → Int64) × (Nat → Int32) × (Nat → Int32) × (Nat → Int64) × Int32) => wC cI cJ cZ a u.1 u.2.1 gr li st sp (nI n) (nI m) nu u.2.2.1 u.2.2.2.1 u.2.2.2.2.1 u.2.2.2.2.2.1 u.2.2.2.2.2.2.1 u.2.2.2.2.2.2.2 sc pv su sd (nI t)) (by decide) rfl (Nat.le_of_ble_eq_true rfl) (fun G C hret => ?_)
  show G 0 0 (wC cI cJ cZ a hA nA gr li st sp (nI n) (nI m) nu ev od fp ti wc wu sc pv su sd (nI t)) [(0, .ref (a 0)), (1, .int k), (2, .int z), (3, .int q)] 0 []
  have hn := hL.2.1
  have hmn := hL.m_le
  refine g_aload_n C 0 dX6_bestSpeed_0 rfl rfl rfl (q := 1) ?_
  refine g_get C 0 0 dX6_bestSpeed_1 (Cn := RX6) (T := TX6) (N := 6) (fun _ h => List.mem_cons_of_mem _ (List.mem_append_left _ (List.mem_append_left _ (List.mem_append_left _ (List.mem_append_left _ (List.mem_append_right _ h)))))) rfl rfl (by decide) (List.mem_cons_of_mem _ (List.mem_append_left _ (List.mem_append_left _ (List.mem_append_left _ (List.mem_append_left _ (List.mem_append_left _ (List.mem_of_getElem? (i := 0) rfl))))))) rfl (q := 4) rfl ?_
  refine g_iload_n C 1 dX6_bestSpeed_4 rfl rfl rfl (q := 5) ?_
  refine gcV_si C (n := 1) (As := [.int k]) (st := []) 1 (fun h => h) dX6_bestSpeed_5 rfl rfl gX6_bestSpeed_X0_hasLeg (c_X0_hasLeg l D cI cJ cZ a hA nA gr li st sp n m nu ev od fp ti wc wu sc pv su sd t k) rfl rfl rfl (by decide +kernel) ⟨Nat.le_of_ble_eq_true rfl, Nat.le_of_ble_eq_true rfl⟩ rfl rfl (Nat.le_of_ble_eq_true rfl) FT_b FT_h ⟨Nat.le_of_ble_eq_true rfl, Nat.le_of_ble_eq_true rfl⟩ (q := 8) rfl (fun r_5 h_5 => ?_)
  subst h_5
  refine g_if_eq C (t := 22) dX6_bestSpeed_8 (by decide) (q := 11) rfl (fun c_8 => ?_) (fun c_8 => ?_)
  · replace c_8 := ite_e0 c_8
    refine g_iconst C (-1) dX6_bestSpeed_22 (by decide) (q := 23) rfl ?_
    exact hret _ (hA, nA, ev, od, fp, ti, wc, wu) 23 _ dX6_bestSpeed_23 rfl (⟨by first | (rw [aBS, if_neg (show ¬ (hcP m k ∧ hpP n q) from fun h => c_8 h.1)]) | (rw [aBS, if_neg (show ¬ (hcP m k ∧ hpP n q) from fun h => c_19 h.2)]), hp, hW0⟩)
  · replace c_8 := ite_n0 c_8
    refine g_aload_n C 0 dX6_bestSpeed_11 rfl rfl rfl (q := 12) ?_
    refine g_get C 0 0 dX6_bestSpeed_12 (Cn := RX6) (T := TX6) (N := 6) (fun _ h => List.mem_cons_of_mem _ (List.mem_append_left _ (List.mem_append_left _ (List.mem_append_left _ (List.mem_append_left _ (List.mem_append_right _ h)))))) rfl rfl (by decide) (List.mem_cons_of_mem _ (List.mem_append_left _ (List.mem_append_left _ (List.mem_append_left _ (List.mem_append_left _ (List.mem_append_left _ (List.mem_of_getElem? (i := 0) rfl))))))) rfl (q := 15) rfl ?_
    refine g_iload_n C 3 dX6_bestSpeed_15 rfl rfl rfl (q := 16) ?_
    refine gcV_si C (n := 1) (As := [.int q]) (st := []) 1 (fun h => h) dX6_bestSpeed_16 rfl rfl gX6_bestSpeed_X0_hasPost (c_X0_hasPost l D cI cJ cZ a hA nA gr li st sp n m nu ev od fp ti wc wu sc pv su sd t q) rfl rfl rfl (by decide +kernel) ⟨Nat.le_of_ble_eq_true rfl, Nat.le_of_ble_eq_true rfl⟩ rfl rfl (Nat.le_of_ble_eq_true rfl) FT_b FT_h ⟨Nat.le_of_ble_eq_true rfl, Nat.le_of_ble_eq_true rfl⟩ (q := 19) rfl (fun r_16 h_16 => ?_)
    subst h_16
    refine g_if_ne C (t := 24) dX6_bestSpeed_19 (by decide) (q := 22) rfl (fun c_19 => ?_) (fun c_19 => ?_)
    · replace c_19 := ite_n0 c_19
      refine g_iload_n C 2 dX6_bestSpeed_24 rfl rfl rfl (q := 25) ?_
      refine gcS_si C (n := 1) (As := [.int z]) (st := []) (fun h => h) dX6_bestSpeed_25 gX6_bestSpeed_X6_isTime (c_X6_isTime l D cI cJ cZ a hA nA gr li st sp n m nu ev od fp ti wc wu sc pv su sd t z) rfl rfl rfl (by decide +kernel) ⟨Nat.le_of_ble_eq_true rfl, Nat.le_of_ble_eq_true rfl⟩ rfl rfl (Nat.le_of_ble_eq_true rfl) FT_b FT_h ⟨Nat.le_of_ble_eq_true rfl, Nat.le_of_ble_eq_true rfl⟩ (q := 28) rfl (fun r_25 h_25 => ?_)
      subst h_25
      refine g_if_ne C (t := 34) dX6_bestSpeed_28 (by decide) (q := 31) rfl (fun c_28 => ?_) (fun c_28 => ?_)
      · replace c_28 := ite_n0 c_28
        have hcc : hcP m k ∧ hpP n q := ⟨c_8, c_19⟩
        have hct := c_28
        obtain ⟨k1, hk, rfl⟩ := hcP_of c_8 (by omega)
        obtain ⟨q1, hq, rfl⟩ := hpP_of c_19 (by omega)
        obtain ⟨z1, hz, rfl⟩ := tmP_of c_28
        obtain ⟨hn1, hn2, hn3, hn4⟩ := nL_rg hL hk
        have hcv := (cv_len (gr := gr) (li := li) hT hn2 hn1).2.1
        have hB := prs_lastI (m := (mL gr li nu st n k1)) hz
        have hlz := prs_len (mL gr li nu st n k1) (z1 + 1)
        refine g_iload_n C 3 dX6_bestSpeed_34 rfl rfl rfl (q := 35) ?_
        refine g_aload_n C 0 dX6_bestSpeed_35 rfl rfl rfl (q := 36) ?_
        refine g_get C 0 0 dX6_bestSpeed_36 (Cn := RX6) (T := TX6) (N := 6) (fun _ h => List.mem_cons_of_mem _ (List.mem_append_left _ (List.mem_append_left _ (List.mem_append_left _ (List.mem_append_left _ (List.mem_append_right _ h)))))) rfl rfl (by decide) (List.mem_cons_of_mem _ (List.mem_append_left _ (List.mem_append_left _ (List.mem_append_left _ (List.mem_append_left _ (List.mem_append_left _ (List.mem_of_getElem? (i := 0) rfl))))))) rfl (q := 39) rfl ?_
        refine g_iload_n C 1 dX6_bestSpeed_39 rfl rfl rfl (q := 40) ?_
        refine gcV_si C (n := 1) (As := [.int (nI k1)]) (st := [.int (nI q1)]) 1 (fun h => h) dX6_bestSpeed_40 rfl rfl gX6_bestSpeed_X0_firstPost (c_X0_firstPost l D cI cJ cZ a hA nA gr li st sp n m nu ev od fp ti wc wu sc pv su sd t k1 (by omega)) rfl rfl rfl (by decide +kernel) ⟨Nat.le_of_ble_eq_true rfl, Nat.le_of_ble_eq_true rfl⟩ rfl rfl (Nat.le_of_ble_eq_true rfl) FT_b FT_h ⟨Nat.le_of_ble_eq_true rfl, Nat.le_of_ble_eq_true rfl⟩ (q := 43) rfl (fun r_40 h_40 => ?_)
        subst h_40
        refine g_eqi C (y := nI (posOf st k1 n)) (hL.2.2.2.2.2.2 _ (by omega)) ?_
        refine g_icmp_lt C (t := 58) dX6_bestSpeed_43 (by decide) (q := 46) rfl (fun c_43 => ?_) (fun c_43 => ?_)
        · rw [nI_ltI (by omega) (by omega)] at c_43
          refine g_ldc C (v := (-1000000)) dX6_bestSpeed_58 (List.mem_cons_of_mem _ (List.mem_append_left _ (List.mem_append_left _ (List.mem_append_left _ (List.mem_append_left _ (List.mem_append_left _ (List.mem_of_getElem? (i := 1) rfl))))))) (q := 60) rfl ?_
          exact hret _ (hA, nA, ev, od, fp, ti, wc, wu) 60 _ dX6_bestSpeed_60 rfl (⟨by rw [aBS, if_pos hcc, if_pos hct]; simp only [nI_clamp (show k1 < 2 ^ 31 by omega), nI_clamp (show z1 < 2 ^ 31 by omega), nI_clamp (show q1 < 2 ^ 31 by omega)]; rw [if_neg (fun h => by omega)]; trivial, hp, hW0⟩)
        · rw [nI_ltI (by omega) (by omega)] at c_43
          refine g_iload_n C 3 dX6_bestSpeed_46 rfl rfl rfl (q := 47) ?_
          refine g_aload_n C 0 dX6_bestSpeed_47 rfl rfl rfl (q := 48) ?_
          refine g_get C 0 0 dX6_bestSpeed_48 (Cn := RX6) (T := TX6) (N := 6) (fun _ h => List.mem_cons_of_mem _ (List.mem_append_left _ (List.mem_append_left _ (List.mem_append_left _ (List.mem_append_left _ (List.mem_append_right _ h)))))) rfl rfl (by decide) (List.mem_cons_of_mem _ (List.mem_append_left _ (List.mem_append_left _ (List.mem_append_left _ (List.mem_append_left _ (List.mem_append_left _ (List.mem_of_getElem? (i := 0) rfl))))))) rfl (q := 51) rfl ?_
          refine g_iload_n C 1 dX6_bestSpeed_51 rfl rfl rfl (q := 52) ?_
          refine gcV_si C (n := 1) (As := [.int (nI k1)]) (st := [.int (nI q1)]) 1 (fun h => h) dX6_bestSpeed_52 rfl rfl gX6_bestSpeed_X0_lastPost (c_X0_lastPost l D cI cJ cZ a hA nA gr li st sp n m nu ev od fp ti wc wu sc pv su sd t k1 (by omega)) rfl rfl rfl (by decide +kernel) ⟨Nat.le_of_ble_eq_true rfl, Nat.le_of_ble_eq_true rfl⟩ rfl rfl (Nat.le_of_ble_eq_true rfl) FT_b FT_h ⟨Nat.le_of_ble_eq_true rfl, Nat.le_of_ble_eq_true rfl⟩ (q := 55) rfl (fun r_52 h_52 => ?_)
          subst h_52
          refine g_eqi C (y := nI (posOf st (k1 + 1) n)) (hL.2.2.2.2.2.2 _ (by omega)) ?_
          refine g_icmp_le C (t := 61) dX6_bestSpeed_55 (by decide) (q := 58) rfl (fun c_55 => ?_) (fun c_55 => ?_)
          · rw [nI_leI (by omega) (by omega)] at c_55
            refine g_aload_n C 0 dX6_bestSpeed_61 rfl rfl rfl (q := 62) ?_
            refine g_get C 0 3 dX6_bestSpeed_62 (Cn := RX6) (T := TX6) (N := 6) (fun _ h => List.mem_cons_of_mem _ (List.mem_append_left _ (List.mem_append_left _ (List.mem_append_left _ (List.mem_append_left _ (List.mem_append_right _ h)))))) rfl rfl (by decide) (List.mem_cons_of_mem _ (List.mem_append_left _ (List.mem_append_left _ (List.mem_append_left _ (List.mem_append_left _ (List.mem_append_left _ (List.mem_of_getElem? (i := 2) rfl))))))) rfl (q := 65) rfl ?_
            refine gcV_qv C (n := 0) (As := []) (st := []) 4 (fun h => h) (fun _ h => h) dX6_bestSpeed_65 rfl rfl gX6_bestSpeed_X5_bringUpToDate (c_X5_bringUpToDate l D cI cJ cZ a hA nA gr li st sp n m nu ev od fp ti wc wu sc pv su sd t hL hT hp hW0) rfl rfl rfl (by decide +kernel) ⟨Nat.le_of_ble_eq_true rfl, Nat.le_of_ble_eq_true rfl⟩ rfl rfl (Nat.le_of_ble_eq_true rfl) FT_b FT_h ⟨Nat.le_of_ble_eq_true rfl, Nat.le_of_ble_eq_true rfl⟩ (q := 68) rfl (fun u_65 h_65 => ?_)
            have h_65 : ((u_65.1 = a 11 ∧ u_65.2.1 = a 12) ∨ (u_65.1 = a 12 ∧ u_65.2.1 = a 11)) ∧ WOK gr li nu st n m u_65.2.2.2.2.1 u_65.2.2.2.2.2.1 u_65.2.2.2.2.2.2 := h_65
            show G 0 0 (wC cI cJ cZ a u_65.1 u_65.2.1 gr li st sp (nI n) (nI m) nu u_65.2.2.1 u_65.2.2.2.1 u_65.2.2.2.2.1 u_65.2.2.2.2.2.1 u_65.2.2.2.2.2.2 (nI 1) sc pv su sd (nI t)) [(0, .ref (a 0)), (1, .int (nI k1)), (2, .int (nI z1)), (3, .int (nI q1))] 68 []
            refine g_aload_n C 0 dX6_bestSpeed_68 rfl rfl rfl (q := 69) ?_
            refine g_get C 0 3 dX6_bestSpeed_69 (Cn := RX6) (T := TX6) (N := 6) (fun _ h => List.mem_cons_of_mem _ (List.mem_append_left _ (List.mem_append_left _ (List.mem_append_left _ (List.mem_append_left _ (List.mem_append_right _ h)))))) rfl rfl (by decide) (List.mem_cons_of_mem _ (List.mem_append_left _ (List.mem_append_left _ (List.mem_append_left _ (List.mem_append_left _ (List.mem_append_left _ (List.mem_of_getElem? (i := 2) rfl))))))) rfl (q := 72) rfl ?_
            refine g_iload_n C 1 dX6_bestSpeed_72 rfl rfl rfl (q := 73) ?_
            refine g_iload_n C 2 dX6_bestSpeed_73 rfl rfl rfl (q := 74) ?_
            refine gcV_si C (n := 2) (As := [.int (nI k1), .int (nI z1)]) (st := []) 4 (fun h => h) dX6_bestSpeed_74 rfl rfl gX6_bestSpeed_X5_pairWithin (c_X5_pairWithin l D cI cJ cZ a u_65.1 u_65.2.1 gr li st sp n m nu u_65.2.2.1 u_65.2.2.2.1 u_65.2.2.2.2.1 u_65.2.2.2.2.2.1 u_65.2.2.2.2.2.2 (nI 1) sc pv su sd t k1 z1 hL hT hk h_65.2 hz) rfl rfl rfl (by decide +kernel) ⟨Nat.le_of_ble_eq_true rfl, Nat.le_of_ble_eq_true rfl⟩ rfl rfl (Nat.le_of_ble_eq_true rfl) FT_b FT_h ⟨Nat.le_of_ble_eq_true rfl, Nat.le_of_ble_eq_true rfl⟩ (q := 77) rfl (fun r_74 h_74 => ?_)
            subst h_74
            refine g_istore C [(4, .int (nI (prs (mL gr li nu st n k1) (z1 + 1)).length + (-1))), (0, .ref (a 0)), (1, .int (nI k1)), (2, .int (nI z1)), (3, .int (nI q1))] dX6_bestSpeed_77 (by decide) rfl (q := 79) rfl ?_
            refine g_iload C 0 dX6_bestSpeed_79 rfl rfl (q := 81) ?_
            refine g_if_ge C (t := 89) dX6_bestSpeed_81 (by decide) (q := 84) rfl (fun c_81 => ?_) (fun c_81 => ?_)
            · replace hB := hB.resolve_left (fun q => absurd c_81 (Int32.not_le.mpr ((dn0_iff (by omega)).mpr q.1)))
              obtain ⟨hB1, hB2, hB3, hB4⟩ := hB
              refine g_lset C (z := 0) (y := nI ((prs (mL gr li nu st n k1) (z1 + 1)).length - 1)) [(4, .int (nI ((prs (mL gr li nu st n k1) (z1 + 1)).length - 1))), (0, .ref (a 0)), (1, .int (nI k1)), (2, .int (nI z1)), (3, .int (nI q1))] rfl (m1_sub (by omega)) rfl ?_
              refine g_aload_n C 1 dX6_bestSpeed_89 rfl rfl rfl (q := 90) ?_
              refine g_get C 0 3 dX6_bestSpeed_90 (Cn := RX6) (T := TX6) (N := 6) (fun _ h => List.mem_cons_of_mem _ (List.mem_append_left _ (List.mem_append_left _ (List.mem_append_left _ (List.mem_append_left _ (List.mem_append_right _ h)))))) rfl rfl (by decide) (List.mem_cons_of_mem _ (List.mem_append_left _ (List.mem_append_left _ (List.mem_append_left _ (List.mem_append_left _ (List.mem_append_left _ (List.mem_of_getElem? (i := 2) rfl))))))) rfl (q := 93) rfl ?_
              refine g_iload_n C 2 dX6_bestSpeed_93 rfl rfl rfl (q := 94) ?_
              refine g_iload C 0 dX6_bestSpeed_94 rfl rfl (q := 96) ?_
              refine g_iload_n C 4 dX6_bestSpeed_96 rfl rfl rfl (q := 97) ?_
              refine gcV_si C (n := 3) (As := [.int (nI k1), .int (nI ((prs (mL gr li nu st n k1) (z1 + 1)).length - 1)), .int (nI q1)]) (st := []) 4 (fun h => h) dX6_bestSpeed_97 rfl rfl gX6_bestSpeed_X5_pairSpeed (c_X5_pairSpeed l D cI cJ cZ a u_65.1 u_65.2.1 gr li st sp n m nu u_65.2.2.1 u_65.2.2.2.1 u_65.2.2.2.2.1 u_65.2.2.2.2.2.1 u_65.2.2.2.2.2.2 (nI 1) sc pv su sd t k1 ((prs (mL gr li nu st n k1) (z1 + 1)).length - 1) q1 hL hT hk h_65.2 (show (prs (mL gr li nu st n k1) (z1 + 1)).length - 1 < (prs (mL gr li nu st n k1) 1001).length by omega) (by omega) (by omega)) rfl rfl rfl (by decide +kernel) ⟨Nat.le_of_ble_eq_true rfl, Nat.le_of_ble_eq_true rfl⟩ rfl rfl (Nat.le_of_ble_eq_true rfl) FT_b FT_h ⟨Nat.le_of_ble_eq_true rfl, Nat.le_of_ble_eq_true rfl⟩ (q := 100) rfl (fun r_97 h_97 => ?_)
              have hm := (prs_mem (mL gr li nu st n k1) 1001 ((prs (mL gr li nu st n k1) (z1 + 1)).length - 1) (by omega)).1
              have hcnd : ¬ lastI (prs (mL gr li nu st n k1) (z1 + 1)) = -1000000 ∧ posOf st k1 n ≤ q1 ∧ q1 ≤ posOf st (k1 + 1) n := ⟨by rw [hB3]; exact nI_nn (by omega), by omega, by omega⟩
              have hcl : (lastI (prs (mL gr li nu st n k1) (z1 + 1))).toNatClampNeg = ((prs (mL gr li nu st n k1) 1001).getD ((prs (mL gr li nu st n k1) (z1 + 1)).length - 1) 0) := by rw [hB3, nI_clamp (by omega)]
              unfold nL at h_97
              have hpost : aBS gr li nu st n m (nI k1) (nI z1) (nI q1) r_97 := by rw [aBS, if_pos hcc, if_pos hct]; simp only [nI_clamp (show k1 < 2 ^ 31 by omega), nI_clamp (show z1 < 2 ^ 31 by omega), nI_clamp (show q1 < 2 ^ 31 by omega)]; rw [if_pos hcnd, hcl]; exact h_97
              exact hret _ (u_65.1, u_65.2.1, u_65.2.2.1, u_65.2.2.2.1, u_65.2.2.2.2.1, u_65.2.2.2.2.2.1, u_65.2.2.2.2.2.2, nI 1) 100 _ dX6_bestSpeed_100 rfl (⟨hpost, h_65.1, Or.inr ⟨rfl, h_65.2⟩⟩)
            · replace hB := hB.resolve_right (fun q => absurd ((dn0_iff (by omega)).mp (Int32.not_le.mp c_81)) (by omega))
              have hpost : aBS gr li nu st n m (nI k1) (nI z1) (nI q1) (-1000000) := by rw [aBS, if_pos hcc, if_pos hct]; simp only [nI_clamp (show k1 < 2 ^ 31 by omega), nI_clamp (show z1 < 2 ^ 31 by omega), nI_clamp (show q1 < 2 ^ 31 by omega)]; rw [if_neg (fun h => h.1 hB.2.1)]; trivial
              refine g_ldc C (v := (-1000000)) dX6_bestSpeed_84 (List.mem_cons_of_mem _ (List.mem_append_left _ (List.mem_append_left _ (List.mem_append_left _ (List.mem_append_left _ (List.mem_append_left _ (List.mem_of_getElem? (i := 1) rfl))))))) (q := 86) rfl ?_
              refine g_goto C (q := 100) dX6_bestSpeed_86 (by decide) ?_
              exact hret _ (u_65.1, u_65.2.1, u_65.2.2.1, u_65.2.2.2.1, u_65.2.2.2.2.1, u_65.2.2.2.2.2.1, u_65.2.2.2.2.2.2, nI 1) 100 _ dX6_bestSpeed_100 rfl (⟨hpost, h_65.1, Or.inr ⟨rfl, h_65.2⟩⟩)
          · rw [nI_leI (by omega) (by omega)] at c_55
            refine g_ldc C (v := (-1000000)) dX6_bestSpeed_58 (List.mem_cons_of_mem _ (List.mem_append_left _ (List.mem_append_left _ (List.mem_append_left _ (List.mem_append_left _ (List.mem_append_left _ (List.mem_of_getElem? (i := 1) rfl))))))) (q := 60) rfl ?_
            exact hret _ (hA, nA, ev, od, fp, ti, wc, wu) 60 _ dX6_bestSpeed_60 rfl (⟨by rw [aBS, if_pos hcc, if_pos hct]; simp only [nI_clamp (show k1 < 2 ^ 31 by omega), nI_clamp (show z1 < 2 ^ 31 by omega), nI_clamp (show q1 < 2 ^ 31 by omega)]; rw [if_neg (fun h => by omega)]; trivial, hp, hW0⟩)
      · replace c_28 := ite_e0 c_28
        refine g_bipush C (-2) dX6_bestSpeed_31 (by decide) (q := 33) rfl ?_
        exact hret _ (hA, nA, ev, od, fp, ti, wc, wu) 33 _ dX6_bestSpeed_33 rfl (⟨by rw [aBS, if_pos (show hcP m k ∧ hpP n q from ⟨c_8, c_19⟩), if_neg c_28], hp, hW0⟩)
    · replace c_19 := ite_e0 c_19
      refine g_iconst C (-1) dX6_bestSpeed_22 (by decide) (q := 23) rfl ?_
      exact hret _ (hA, nA, ev, od, fp, ti, wc, wu) 23 _ dX6_bestSpeed_23 rfl (⟨by first | (rw [aBS, if_neg (show ¬ (hcP m k ∧ hpP n q) from fun h => c_8 h.1)]) | (rw [aBS, if_neg (show ¬ (hcP m k ∧ hpP n q) from fun h => c_19 h.2)]), hp, hW0⟩)
