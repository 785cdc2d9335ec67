set_option maxHeartbeats 4000000 in
set_option maxRecDepth 100000 in
theorem c_X2_legTime (l : Launch) (D : va_G) (cI cJ cZ : ClassId) (a : Nat → Nat) (hA nA : Nat) (gr li st sp : Nat → Int32) (n m : Nat) (nu : Nat → Int32) (ev od : Nat → Int64) (fp ti : Nat → Int32) (wc : Nat → Int64) (wu : Int32) (sc pv : Nat → Int64) (su : Int32) (sd : Nat → Int32) (t z j : Nat) (hL : LInv st sp n m) (hT : TrOK nu) (hC : SCOK gr li nu st n m sc pv) (hj : j < m) (hW : WOK gr li nu st n m fp ti wc) (hz : z ≤ 1000) (hb : SV (mL gr li nu st n) m m z < BIG) : Met l yX2_legTime wsX2_legTime { frames := 1, cells := 0, slots := 0, locals := 22 } (gPc D (tyT cI cJ cZ) (wA a (a 11) (a 12)) FT (wC cI cJ cZ a hA nA gr li st sp (nI n) (nI m) nu ev od fp ti wc wu sc pv su sd (nI t)) [.ref (a 5), .int (nI z), .int (nI j)]) (vp_Si (fun r => r = nI (ST (mL gr li nu st n) m (m - 1 - j) (LF (mL gr li nu st n) m z j)).1)) 0 0 (fun _ => False) := by
  refine gs_si (cc := cX2_legTime) (nL := 8) (ty := .int) (by decide) rfl (Nat.le_of_ble_eq_true rfl) (fun G C hret => ?_)
  show G 0 0 (wC cI cJ cZ a hA nA gr li st sp (nI n) (nI m) nu ev od fp ti wc wu sc pv su sd (nI t)) [(0, .ref (a 5)), (1, .int (nI z)), (2, .int (nI j))] 0 []
  obtain ⟨hs1, hs2, hs3, hs4, hs5, hs6⟩ := (SHV_ok (gr := gr) (li := li) hT hL (Nat.le_refl m) z).resolve_left (fun q => by have := q.1; omega)
  have hPV := PV_48 (gr := gr) (li := li) hT hL (Nat.le_refl m)
  have hPJ := PV_48 (gr := gr) (li := li) hT hL (show m - 1 - j ≤ m by omega)
  obtain ⟨ix, hd1, hd2, hd3⟩ := NN_dig2 (gr := gr) (li := li) hT hL hb hj
  obtain ⟨hn1, hn2, hn3, hn4⟩ := nL_rg hL hj
  have hcv := cv_len (gr := gr) (li := li) hT hn2 hn1
  have hn := hL.2.1
  have hmn := hL.m_le
  refine g_aload_n C 0 dX2_legTime_0 rfl rfl rfl (q := 1) ?_
  refine g_get C 5 1 dX2_legTime_1 (Cn := RX2) (T := TX2) (N := 5) (fun _ h => List.mem_cons_of_mem _ (List.mem_append_left _ (List.mem_append_right _ h))) rfl rfl (by decide) (List.mem_cons_of_mem _ (List.mem_append_left _ (List.mem_append_left _ (List.mem_of_getElem? (i := 0) rfl)))) rfl (q := 4) rfl ?_
  refine g_iload_n C 2 dX2_legTime_4 rfl rfl rfl (q := 5) ?_
  refine gcV_si C (n := 1) (As := [.int (nI j)]) (st := []) 4 (fun h => h) dX2_legTime_5 rfl rfl gX2_legTime_X5_pairCount (c_X5_pairCount l D cI cJ cZ a hA nA gr li st sp n m nu ev od fp ti wc wu sc pv su sd t j (by first | assumption | omega) (by first | assumption | omega) (by first | assumption | omega) (by first | assumption | omega)) rfl rfl rfl (by decide +kernel) ⟨Nat.le_of_ble_eq_true rfl, Nat.le_of_ble_eq_true rfl⟩ rfl rfl (Nat.le_of_ble_eq_true rfl) FT_b FT_h ⟨Nat.le_of_ble_eq_true rfl, Nat.le_of_ble_eq_true rfl⟩ (q := 8) rfl (fun r_5 h_5 => ?_)
  subst h_5
  refine g_eqi C (y := nI ((prs (mL gr li nu st n j) 1001).length)) (rfl) ?_
  refine g_istore_n C [(3, .int (nI ((prs (mL gr li nu st n j) 1001).length))), (0, .ref (a 5)), (1, .int (nI z)), (2, .int (nI j))] dX2_legTime_8 rfl (by decide) rfl (q := 9) rfl ?_
  refine g_aload_n C 1 dX2_legTime_9 rfl rfl rfl (q := 10) ?_
  refine g_get C 5 3 dX2_legTime_10 (Cn := RX2) (T := TX2) (N := 5) (fun _ h => List.mem_cons_of_mem _ (List.mem_append_left _ (List.mem_append_right _ h))) rfl rfl (by decide) (List.mem_cons_of_mem _ (List.mem_append_left _ (List.mem_append_left _ (List.mem_of_getElem? (i := 1) rfl)))) rfl (q := 13) rfl ?_
  refine g_iload_n C 3 dX2_legTime_13 rfl rfl rfl (q := 14) ?_
  refine g_lald C 18 1 dX2_legTime_14 rfl rfl (vp_in_nI (by omega) (by decide)) (q := 15) rfl ?_
  refine g_eql C (y := pv j) (by rw [nI_clamp (by omega)]) ?_
  refine g_eql C (y := lN (PVf (mL gr li nu st n) m (m - 1 - j))) (hC.2 _ hj) ?_
  refine g_lstore C [(4, .long (lN (PVf (mL gr li nu st n) m (m - 1 - j)))), (3, .int (nI ((prs (mL gr li nu st n j) 1001).length))), (0, .ref (a 5)), (1, .int (nI z)), (2, .int (nI j))] dX2_legTime_15 (by decide) rfl (q := 17) rfl ?_
  refine g_iload_n C 1 dX2_legTime_17 rfl rfl rfl (q := 18) ?_
  refine g_if_le C (t := 28) dX2_legTime_18 (by decide) (q := 21) rfl (fun c_18 => absurd c_18 (by rw [← nI_0, nI_leI (by omega) (by omega)]; omega)) (fun c_18 => ?_)
  rw [← nI_0, nI_leI (by omega) (by omega)] at c_18
  refine g_lload C 0 dX2_legTime_21 rfl rfl (q := 23) ?_
  refine g_lconst C 0 dX2_legTime_23 (by decide) (q := 24) rfl ?_
  refine g_lcmp C dX2_legTime_24 (q := 25) rfl ?_
  refine g_if_gt C (t := 31) dX2_legTime_25 (by decide) (q := 28) rfl (fun c_25 => ?_) (fun c_25 => absurd (show (0 : Int64) < lN (PVf (mL gr li nu st n) m (m - 1 - j)) from (by rw [show (0 : Int64) = lN 0 from rfl, pk_lLT (by decide) (by omega)]; omega)) (kgt_f c_25))
  replace c_25 := kgt_t c_25
  refine g_aload_n C 2 dX2_legTime_31 rfl rfl rfl (q := 32) ?_
  refine g_get C 5 2 dX2_legTime_32 (Cn := RX2) (T := TX2) (N := 5) (fun _ h => List.mem_cons_of_mem _ (List.mem_append_left _ (List.mem_append_right _ h))) rfl rfl (by decide) (List.mem_cons_of_mem _ (List.mem_append_left _ (List.mem_append_left _ (List.mem_of_getElem? (i := 3) rfl)))) rfl (q := 35) rfl ?_
  refine g_iload_n C 3 dX2_legTime_35 rfl rfl rfl (q := 36) ?_
  refine g_lald C 17 1 dX2_legTime_36 rfl rfl (vp_in_nI (by omega) (by decide)) (q := 37) rfl ?_
  refine g_eql C (y := sc z) (by rw [nI_clamp (by omega)]) ?_
  refine g_eql C (y := lJ (SV (mL gr li nu st n) m m z * 281474976710656 + (NNf (mL gr li nu st n) m m z : Int))) ((hC.1 _ hz).trans hs5) ?_
  refine g_ldc2 C (v := (281474976710655)) dX2_legTime_37 (List.mem_cons_of_mem _ (List.mem_append_left _ (List.mem_append_left _ (List.mem_of_getElem? (i := 4) rfl)))) (q := 40) rfl ?_
  refine g_land C dX2_legTime_40 (q := 41) rfl ?_
  refine g_eql C (y := lN (NNf (mL gr li nu st n) m m z)) (lJ_mask.trans (congrArg lN (by omega))) ?_
  refine g_lstore C [(6, .long (lN (NNf (mL gr li nu st n) m m z))), (4, .long (lN (PVf (mL gr li nu st n) m (m - 1 - j)))), (3, .int (nI ((prs (mL gr li nu st n j) 1001).length))), (0, .ref (a 5)), (1, .int (nI z)), (2, .int (nI j))] dX2_legTime_41 (by decide) rfl (q := 43) rfl ?_
  refine g_aload_n C 3 dX2_legTime_43 rfl rfl rfl (q := 44) ?_
  refine g_get C 5 1 dX2_legTime_44 (Cn := RX2) (T := TX2) (N := 5) (fun _ h => List.mem_cons_of_mem _ (List.mem_append_left _ (List.mem_append_right _ h))) rfl rfl (by decide) (List.mem_cons_of_mem _ (List.mem_append_left _ (List.mem_append_left _ (List.mem_of_getElem? (i := 0) rfl)))) rfl (q := 47) rfl ?_
  refine g_iload_n C 5 dX2_legTime_47 rfl rfl rfl (q := 48) ?_
  refine g_lload C 0 dX2_legTime_48 rfl rfl (q := 50) ?_
  refine g_lload C 1 dX2_legTime_50 rfl rfl (q := 52) ?_
  refine g_ldiv C dX2_legTime_52 (by rw [show (0 : Int64) = lN 0 from rfl, pk_lEQ (by omega) (by decide)]; omega) (q := 53) rfl ?_
  refine g_eql C (y := lN ((NNf (mL gr li nu st n) m m z) / (PVf (mL gr li nu st n) m (m - 1 - j)))) (pk_lDiv (by omega) (by omega) (by omega)) ?_
  refine g_iload_n C 2 dX2_legTime_53 rfl rfl rfl (q := 54) ?_
  refine g_i2l C dX2_legTime_54 (q := 55) rfl ?_
  refine g_eql C (y := lN ((prs (mL gr li nu st n j) 1001).length)) (nI_l (by omega)) ?_
  refine g_lrem C dX2_legTime_55 (by rw [show (0 : Int64) = lN 0 from rfl, pk_lEQ (by omega) (by decide)]; omega) (q := 56) rfl ?_
  refine g_eql C (y := lN ix) ((pk_lRem (Nat.lt_of_le_of_lt (Nat.div_le_self _ _) (by omega)) (by omega) (by omega)).trans hd1) ?_
  refine g_l2i C dX2_legTime_56 (q := 57) rfl ?_
  refine g_eqi C (y := nI ix) (show (lJ (ix : Int)).toInt32 = jN (ix : Int) from l2i_jN (by omega)) ?_
  refine gcV_si C (n := 2) (As := [.int (nI j), .int (nI ix)]) (st := []) 4 (fun h => h) dX2_legTime_57 rfl rfl gX2_legTime_X5_pairTime (c_X5_pairTime l D cI cJ cZ a hA nA gr li st sp n m nu ev od fp ti wc wu sc pv su sd t j ix hL hT hj hW hd2) rfl rfl rfl (by decide +kernel) ⟨Nat.le_of_ble_eq_true rfl, Nat.le_of_ble_eq_true rfl⟩ rfl rfl (Nat.le_of_ble_eq_true rfl) FT_b FT_h ⟨Nat.le_of_ble_eq_true rfl, Nat.le_of_ble_eq_true rfl⟩ (q := 60) rfl (fun r_57 h_57 => ?_)
  subst h_57
  exact hret _ 60 _ _ dX2_legTime_60 rfl (hd3)
