/-! the class: shares -/
set_option maxHeartbeats 4000000 in
set_option maxRecDepth 100000 in
theorem c_X2_bestFrom (l : Launch) (D : va_G) (cI cJ cZ : ClassId) (a : Nat → Nat) (hA nA : Nat) (gr li st sp : Nat → Int32) (n m : Nat) (nu : Nat → Int32) (ev od : Nat → Int64) (fp ti : Nat → Int32) (wc : Nat → Int64) (wu : Int32) (sc pv : Nat → Int64) (su : Int32) (sd : Nat → Int32) (t j z rr : Nat) (hL : LInv st sp n m) (hT : TrOK nu) (hj : j < m) (hW : WOK gr li nu st n m fp ti wc) (hjr : m - 1 - rr = j) (hrm : rr < m) (hz : z ≤ 1000) (hS : ∀ s, s ≤ z → sc s = SHV (mL gr li nu st n) m rr s) (hp : pv j = lJ (PVf (mL gr li nu st n) m rr : Int)) : Met l yX2_bestFrom wsX2_bestFrom { frames := 1, cells := 0, slots := 0, locals := 29 } (gPc D (tyT cI cJ cZ) (wA a (a 11) (a 12)) FT (wC cI cJ cZ a hA nA gr li st sp (nI n) (nI m) nu ev od fp ti wc wu sc pv su sd (nI t)) [.ref (a 5), .int (nI j), .int (nI z)]) (vp_Sl (fun r => r = SHV (mL gr li nu st n) m (rr + 1) z)) 0 0 (fun _ => False) := by
  refine gs_sl (cc := cX2_bestFrom) (nL := 10) (by decide) rfl (Nat.le_of_ble_eq_true rfl) (fun G C hret => ?_)
  show G 0 0 (wC cI cJ cZ a hA nA gr li st sp (nI n) (nI m) nu ev od fp ti wc wu sc pv su sd (nI t)) [(0, .ref (a 5)), (1, .int (nI j)), (2, .int (nI z))] 0 []
  have hn := hL.2.1
  have hmn := hL.m_le
  have hB : BIG = 100000000 := rfl
  obtain ⟨hn1, hn2, hn3, hn4⟩ := nL_rg hL hj
  have hcv := cv_len (gr := gr) (li := li) hT hn2 hn1
  have hPV := PV_48 (gr := gr) (li := li) hT hL (show rr + 1 ≤ m by omega)
  have hPL : PVf (mL gr li nu st n) m (rr + 1) = PVf (mL gr li nu st n) m rr * max 1 (prs (mL gr li nu st n j) 1001).length := by rw [PVf, hjr]
  refine g_ldc2 C (v := (4611686018427387904)) dX2_bestFrom_0 (List.mem_cons_of_mem _ (List.mem_append_left _ (List.mem_append_left _ (List.mem_of_getElem? (i := 0) rfl)))) (q := 3) rfl ?_
  refine g_eql C (y := spE (NNf (mL gr li nu st n) m rr) (PVf (mL gr li nu st n) m rr) z (SHs (mL gr li nu st n j) (SV (mL gr li nu st n) m rr) (prs (mL gr li nu st n j) 1001) z 0)) ((if_pos rfl).symm) ?_
  refine g_lstore_n C [(3, .long (spE (NNf (mL gr li nu st n) m rr) (PVf (mL gr li nu st n) m rr) z (SHs (mL gr li nu st n j) (SV (mL gr li nu st n) m rr) (prs (mL gr li nu st n j) 1001) z 0))), (0, .ref (a 5)), (1, .int (nI j)), (2, .int (nI z))] dX2_bestFrom_3 rfl (by decide) rfl (q := 4) rfl ?_
  refine g_aload_n C 1 dX2_bestFrom_4 rfl rfl rfl (q := 5) ?_
  refine g_get C 5 1 dX2_bestFrom_5 (Cn := RX2) (T := TX2) (N := 5) (fun _ h => List.mem_cons_of_mem _ (List.mem_append_left _ (List.mem_append_right _ h))) rfl rfl (by decide) (List.mem_cons_of_mem _ (List.mem_append_left _ (List.mem_append_left _ (List.mem_of_getElem? (i := 1) rfl)))) rfl (q := 8) rfl ?_
  refine g_iload_n C 2 dX2_bestFrom_8 rfl rfl rfl (q := 9) ?_
  refine gcV_si C (n := 1) (As := [.int (nI j)]) (st := []) 4 (fun h => h) dX2_bestFrom_9 rfl rfl gX2_bestFrom_X5_pairCount (c_X5_pairCount l D cI cJ cZ a hA nA gr li st sp n m nu ev od fp ti wc wu sc pv su sd t j (by first | assumption | omega) (by first | assumption | omega) (by first | assumption | omega) (by first | assumption | omega)) rfl rfl rfl (by decide +kernel) ⟨Nat.le_of_ble_eq_true rfl, Nat.le_of_ble_eq_true rfl⟩ rfl rfl (Nat.le_of_ble_eq_true rfl) FT_b FT_h ⟨Nat.le_of_ble_eq_true rfl, Nat.le_of_ble_eq_true rfl⟩ (q := 12) rfl (fun r_9 h_9 => ?_)
  subst h_9
  refine g_eqi C (y := nI ((prs (mL gr li nu st n j) 1001).length)) (rfl) ?_
  refine g_istore C [(5, .int (nI ((prs (mL gr li nu st n j) 1001).length))), (3, .long (spE (NNf (mL gr li nu st n) m rr) (PVf (mL gr li nu st n) m rr) z (SHs (mL gr li nu st n j) (SV (mL gr li nu st n) m rr) (prs (mL gr li nu st n j) 1001) z 0))), (0, .ref (a 5)), (1, .int (nI j)), (2, .int (nI z))] dX2_bestFrom_12 (by decide) rfl (q := 14) rfl ?_
  refine g_iconst C (nI 0) dX2_bestFrom_14 (by decide) (q := 15) rfl ?_
  refine g_istore C [(6, .int (nI 0)), (5, .int (nI ((prs (mL gr li nu st n j) 1001).length))), (3, .long (spE (NNf (mL gr li nu st n) m rr) (PVf (mL gr li nu st n) m rr) z (SHs (mL gr li nu st n j) (SV (mL gr li nu st n) m rr) (prs (mL gr li nu st n j) 1001) z 0))), (0, .ref (a 5)), (1, .int (nI j)), (2, .int (nI z))] dX2_bestFrom_15 (by decide) rfl (q := 17) rfl ?_
  have lp_17 : ∀ (N : Nat) (i : Nat), (i ≤ (prs (mL gr li nu st n j) 1001).length) → (prs (mL gr li nu st n j) 1001).length - i < N → G 0 0 (wC cI cJ cZ a hA nA gr li st sp (nI n) (nI m) nu ev od fp ti wc wu sc pv su sd (nI t)) [(6, .int (nI i)), (5, .int (nI ((prs (mL gr li nu st n j) 1001).length))), (3, .long (spE (NNf (mL gr li nu st n) m rr) (PVf (mL gr li nu st n) m rr) z (SHs (mL gr li nu st n j) (SV (mL gr li nu st n) m rr) (prs (mL gr li nu st n j) 1001) z i))), (0, .ref (a 5)), (1, .int (nI j)), (2, .int (nI z))] 17 [] := by
    intro N
    induction N with
    | zero => intro i _ hmu; exact absurd hmu (Nat.not_lt_zero _)
    | succ N ih_17 =>
      intro i hi hmu
      refine g_iload C 0 dX2_bestFrom_17 rfl rfl (q := 19) ?_
      refine g_iload C 1 dX2_bestFrom_19 rfl rfl (q := 21) ?_
      refine g_icmp_ge C (t := 108) dX2_bestFrom_21 (by decide) (q := 24) rfl (fun c_21 => ?_) (fun c_21 => ?_)
      · rw [nI_leI (by omega) (by omega)] at c_21
        refine g_lload_n C 2 dX2_bestFrom_108 rfl rfl rfl (q := 109) ?_
        exact hret _ 109 _ _ dX2_bestFrom_109 (by rw [SHV_succ hjr, SHs_end hi (by first | exact Or.inl (by omega) | exact Or.inr hTz)])
      · rw [nI_leI (by omega) (by omega)] at c_21
        have hTm := prs_mem (mL gr li nu st n j) 1001 i (by omega)
        have hMr := (mL_rg (gr := gr) (li := li) (nu := nu) hT hn4 ((prs (mL gr li nu st n j) 1001).getD i 0) (j := j)).resolve_left (by omega)
        refine g_iload_n C 5 dX2_bestFrom_24 rfl rfl rfl (q := 25) ?_
        refine g_aload_n C 3 dX2_bestFrom_25 rfl rfl rfl (q := 26) ?_
        refine g_get C 5 1 dX2_bestFrom_26 (Cn := RX2) (T := TX2) (N := 5) (fun _ h => List.mem_cons_of_mem _ (List.mem_append_left _ (List.mem_append_right _ h))) rfl rfl (by decide) (List.mem_cons_of_mem _ (List.mem_append_left _ (List.mem_append_left _ (List.mem_of_getElem? (i := 1) rfl)))) rfl (q := 29) rfl ?_
        refine g_iload_n C 4 dX2_bestFrom_29 rfl rfl rfl (q := 30) ?_
        refine g_iload C 0 dX2_bestFrom_30 rfl rfl (q := 32) ?_
        refine gcV_si C (n := 2) (As := [.int (nI j), .int (nI i)]) (st := [.int (nI z)]) 4 (fun h => h) dX2_bestFrom_32 rfl rfl gX2_bestFrom_X5_pairTime (c_X5_pairTime l D cI cJ cZ a hA nA gr li st sp n m nu ev od fp ti wc wu sc pv su sd t j i hL hT hj hW (show i < (prs (mL gr li nu st n j) 1001).length by omega)) rfl rfl rfl (by decide +kernel) ⟨Nat.le_of_ble_eq_true rfl, Nat.le_of_ble_eq_true rfl⟩ rfl rfl (Nat.le_of_ble_eq_true rfl) FT_b FT_h ⟨Nat.le_of_ble_eq_true rfl, Nat.le_of_ble_eq_true rfl⟩ (q := 35) rfl (fun r_32 h_32 => ?_)
        subst h_32
        refine g_isub C dX2_bestFrom_35 (q := 36) rfl ?_
        refine g_istore C [(7, .int ((nI z) - (nI ((prs (mL gr li nu st n j) 1001).getD i 0)))), (6, .int (nI i)), (5, .int (nI ((prs (mL gr li nu st n j) 1001).length))), (3, .long (spE (NNf (mL gr li nu st n) m rr) (PVf (mL gr li nu st n) m rr) z (SHs (mL gr li nu st n j) (SV (mL gr li nu st n) m rr) (prs (mL gr li nu st n j) 1001) z i))), (0, .ref (a 5)), (1, .int (nI j)), (2, .int (nI z))] dX2_bestFrom_36 (by decide) rfl (q := 38) rfl ?_
        refine g_iload C 0 dX2_bestFrom_38 rfl rfl (q := 40) ?_
        refine g_if_ge C (t := 46) dX2_bestFrom_40 (by decide) (q := 43) rfl (fun c_40 => ?_) (fun c_40 => ?_)
        · have hTz : ((prs (mL gr li nu st n j) 1001).getD i 0) ≤ z := (sub_nn (by omega) (by omega)).mp c_40
          refine g_lset C (z := 0) (y := nI (z - ((prs (mL gr li nu st n j) 1001).getD i 0))) [(7, .int (nI (z - ((prs (mL gr li nu st n j) 1001).getD i 0)))), (6, .int (nI i)), (5, .int (nI ((prs (mL gr li nu st n j) 1001).length))), (3, .long (spE (NNf (mL gr li nu st n) m rr) (PVf (mL gr li nu st n) m rr) z (SHs (mL gr li nu st n j) (SV (mL gr li nu st n) m rr) (prs (mL gr li nu st n j) 1001) z i))), (0, .ref (a 5)), (1, .int (nI j)), (2, .int (nI z))] rfl (pk_sub hTz) rfl ?_
          refine g_aload_n C 4 dX2_bestFrom_46 rfl rfl rfl (q := 47) ?_
          refine g_get C 5 2 dX2_bestFrom_47 (Cn := RX2) (T := TX2) (N := 5) (fun _ h => List.mem_cons_of_mem _ (List.mem_append_left _ (List.mem_append_right _ h))) rfl rfl (by decide) (List.mem_cons_of_mem _ (List.mem_append_left _ (List.mem_append_left _ (List.mem_of_getElem? (i := 2) rfl)))) rfl (q := 50) rfl ?_
          refine g_iload C 0 dX2_bestFrom_50 rfl rfl (q := 52) ?_
          refine g_lald C 17 1 dX2_bestFrom_52 rfl rfl (vp_in_nI (by omega) (by decide)) (q := 53) rfl ?_
          refine g_eql C (y := sc (z - ((prs (mL gr li nu st n j) 1001).getD i 0))) (by rw [nI_clamp (by omega)]) ?_
          refine g_eql C (y := SHV (mL gr li nu st n) m rr (z - ((prs (mL gr li nu st n j) 1001).getD i 0))) (hS _ (by omega)) ?_
          refine g_ldc2 C (v := (4611686018427387904)) dX2_bestFrom_53 (List.mem_cons_of_mem _ (List.mem_append_left _ (List.mem_append_left _ (List.mem_of_getElem? (i := 0) rfl)))) (q := 56) rfl ?_
          refine g_lcmp C dX2_bestFrom_56 (q := 57) rfl ?_
          refine g_if_eq C (t := 102) dX2_bestFrom_57 (by decide) (q := 60) rfl (fun c_57 => ?_) (fun c_57 => ?_)
          · replace c_57 := keq_t c_57
            have hbig : SV (mL gr li nu st n) m rr (z - ((prs (mL gr li nu st n j) 1001).getD i 0)) = BIG := by rcases SHV_ok (gr := gr) (li := li) hT hL (show rr ≤ m by omega) (z - ((prs (mL gr li nu st n j) 1001).getD i 0)) with q | q; (exact q.1); (exact absurd c_57 q.2.2.2.2.2)
            rw [show (SHs (mL gr li nu st n j) (SV (mL gr li nu st n) m rr) (prs (mL gr li nu st n j) 1001) z i) = (SHs (mL gr li nu st n j) (SV (mL gr li nu st n) m rr) (prs (mL gr li nu st n j) 1001) z (i + 1)) by rw [SHs_no (m := (mL gr li nu st n j)) (rest := SV (mL gr li nu st n) m rr) (Ts := prs (mL gr li nu st n j) 1001) (t := z) (i := i) rfl (fun q => by have := q.2.1; omega)]]
            refine g_iinc C (z := 1) (nI (i + 1)) [(6, .int (nI (i + 1))), (7, .int (nI (z - ((prs (mL gr li nu st n j) 1001).getD i 0)))), (5, .int (nI ((prs (mL gr li nu st n j) 1001).length))), (3, .long (spE (NNf (mL gr li nu st n) m rr) (PVf (mL gr li nu st n) m rr) z (SHs (mL gr li nu st n j) (SV (mL gr li nu st n) m rr) (prs (mL gr li nu st n j) 1001) z (i + 1)))), (0, .ref (a 5)), (1, .int (nI j)), (2, .int (nI z))] dX2_bestFrom_102 rfl (nI_add i 1) (by decide) rfl (q := 105) rfl ?_
            refine g_goto C (q := 17) dX2_bestFrom_105 (by decide) ?_
            refine g_locs C [(6, .int (nI (i + 1))), (5, .int (nI ((prs (mL gr li nu st n j) 1001).length))), (3, .long (spE (NNf (mL gr li nu st n) m rr) (PVf (mL gr li nu st n) m rr) z (SHs (mL gr li nu st n j) (SV (mL gr li nu st n) m rr) (prs (mL gr li nu st n j) 1001) z (i + 1)))), (0, .ref (a 5)), (1, .int (nI j)), (2, .int (nI z))] [0, 2, 3, 4, 5, 6] rfl ?_
            exact ih_17 (i + 1) (by first | assumption | omega) (by omega)
          · replace c_57 := keq_f c_57
            obtain ⟨hs1, hs2, hs3, hs4, hs5, hs6⟩ := (SHV_ok (gr := gr) (li := li) hT hL (show rr ≤ m by omega) (z - ((prs (mL gr li nu st n j) 1001).getD i 0))).resolve_left (fun q => c_57 q.2)
            refine g_aload_n C 4 dX2_bestFrom_60 rfl rfl rfl (q := 61) ?_
            refine g_get C 5 1 dX2_bestFrom_61 (Cn := RX2) (T := TX2) (N := 5) (fun _ h => List.mem_cons_of_mem _ (List.mem_append_left _ (List.mem_append_right _ h))) rfl rfl (by decide) (List.mem_cons_of_mem _ (List.mem_append_left _ (List.mem_append_left _ (List.mem_of_getElem? (i := 1) rfl)))) rfl (q := 64) rfl ?_
            refine g_iload_n C 5 dX2_bestFrom_64 rfl rfl rfl (q := 65) ?_
            refine g_iload C 1 dX2_bestFrom_65 rfl rfl (q := 67) ?_
            refine gcV_si C (n := 2) (As := [.int (nI j), .int (nI i)]) (st := []) 4 (fun h => h) dX2_bestFrom_67 rfl rfl gX2_bestFrom_X5_pairPower (c_X5_pairPower l D cI cJ cZ a hA nA gr li st sp n m nu ev od fp ti wc wu sc pv su sd t j i hL hT hj hW (show i < (prs (mL gr li nu st n j) 1001).length by omega)) rfl rfl rfl (by decide +kernel) ⟨Nat.le_of_ble_eq_true rfl, Nat.le_of_ble_eq_true rfl⟩ rfl rfl (Nat.le_of_ble_eq_true rfl) FT_b FT_h ⟨Nat.le_of_ble_eq_true rfl, Nat.le_of_ble_eq_true rfl⟩ (q := 70) rfl (fun r_67 h_67 => ?_)
            subst h_67
            refine g_i2l C dX2_bestFrom_70 (q := 71) rfl ?_
            refine g_eql C (y := lJ ((mL gr li nu st n j) ((prs (mL gr li nu st n j) 1001).getD i 0))) (by rw [i2l_toInt, jN_toInt (by omega) (by omega)]) ?_
            refine g_bipush C (nI 48) dX2_bestFrom_71 (by decide) (q := 73) rfl ?_
            refine g_lshl C dX2_bestFrom_73 (q := 74) rfl ?_
            refine g_eql C (y := lJ ((mL gr li nu st n j) ((prs (mL gr li nu st n j) 1001).getD i 0) * 281474976710656)) (lJ_shl _ (by decide)) ?_
            refine g_iload C 1 dX2_bestFrom_74 rfl rfl (q := 76) ?_
            refine g_i2l C dX2_bestFrom_76 (q := 77) rfl ?_
            refine g_eql C (y := lJ (i : Int)) (nI_lJ (by omega)) ?_
            refine g_aload_n C 4 dX2_bestFrom_77 rfl rfl rfl (q := 78) ?_
            refine g_get C 5 3 dX2_bestFrom_78 (Cn := RX2) (T := TX2) (N := 5) (fun _ h => List.mem_cons_of_mem _ (List.mem_append_left _ (List.mem_append_right _ h))) rfl rfl (by decide) (List.mem_cons_of_mem _ (List.mem_append_left _ (List.mem_append_left _ (List.mem_of_getElem? (i := 3) rfl)))) rfl (q := 81) rfl ?_
            refine g_iload_n C 5 dX2_bestFrom_81 rfl rfl rfl (q := 82) ?_
            refine g_lald C 18 1 dX2_bestFrom_82 rfl rfl (vp_in_nI (by omega) (by decide)) (q := 83) rfl ?_
            refine g_eql C (y := pv j) (by rw [nI_clamp (by omega)]) ?_
            refine g_eql C (y := lJ (PVf (mL gr li nu st n) m rr : Int)) (hp) ?_
            refine g_lmul C dX2_bestFrom_83 (q := 84) rfl ?_
            refine g_eql C (y := lJ ((i * PVf (mL gr li nu st n) m rr : Nat) : Int)) (pv_mul) ?_
            refine g_ladd C dX2_bestFrom_84 (q := 85) rfl ?_
            refine g_eql C (y := lJ ((mL gr li nu st n j) ((prs (mL gr li nu st n j) 1001).getD i 0) * 281474976710656 + ((i * PVf (mL gr li nu st n) m rr : Nat) : Int))) (lJ_add _ _) ?_
            refine g_lstore C [(8, .long (lJ ((mL gr li nu st n j) ((prs (mL gr li nu st n j) 1001).getD i 0) * 281474976710656 + ((i * PVf (mL gr li nu st n) m rr : Nat) : Int)))), (7, .int (nI (z - ((prs (mL gr li nu st n j) 1001).getD i 0)))), (6, .int (nI i)), (5, .int (nI ((prs (mL gr li nu st n j) 1001).length))), (3, .long (spE (NNf (mL gr li nu st n) m rr) (PVf (mL gr li nu st n) m rr) z (SHs (mL gr li nu st n j) (SV (mL gr li nu st n) m rr) (prs (mL gr li nu st n j) 1001) z i))), (0, .ref (a 5)), (1, .int (nI j)), (2, .int (nI z))] dX2_bestFrom_85 (by decide) rfl (q := 87) rfl ?_
            refine g_lload_n C 4 dX2_bestFrom_87 rfl rfl rfl (q := 88) ?_
            refine g_aload_n C 5 dX2_bestFrom_88 rfl rfl rfl (q := 89) ?_
            refine g_get C 5 2 dX2_bestFrom_89 (Cn := RX2) (T := TX2) (N := 5) (fun _ h => List.mem_cons_of_mem _ (List.mem_append_left _ (List.mem_append_right _ h))) rfl rfl (by decide) (List.mem_cons_of_mem _ (List.mem_append_left _ (List.mem_append_left _ (List.mem_of_getElem? (i := 2) rfl)))) rfl (q := 92) rfl ?_
            refine g_iload C 1 dX2_bestFrom_92 rfl rfl (q := 94) ?_
            refine g_lald C 17 1 dX2_bestFrom_94 rfl rfl (vp_in_nI (by omega) (by decide)) (q := 95) rfl ?_
            refine g_eql C (y := sc (z - ((prs (mL gr li nu st n j) 1001).getD i 0))) (by rw [nI_clamp (by omega)]) ?_
            refine g_eql C (y := lJ (SV (mL gr li nu st n) m rr (z - ((prs (mL gr li nu st n j) 1001).getD i 0)) * 281474976710656 + (NNf (mL gr li nu st n) m rr (z - ((prs (mL gr li nu st n j) 1001).getD i 0)) : Int))) ((hS _ (by omega)).trans hs5) ?_
            refine g_lload C 0 dX2_bestFrom_95 rfl rfl (q := 97) ?_
            refine g_ladd C dX2_bestFrom_97 (q := 98) rfl ?_
            refine g_eql C (y := lJ (SV (mL gr li nu st n) m rr (z - ((prs (mL gr li nu st n j) 1001).getD i 0)) * 281474976710656 + (NNf (mL gr li nu st n) m rr (z - ((prs (mL gr li nu st n j) 1001).getD i 0)) : Int) + ((mL gr li nu st n j) ((prs (mL gr li nu st n j) 1001).getD i 0) * 281474976710656 + ((i * PVf (mL gr li nu st n) m rr : Nat) : Int)))) (lJ_add _ _) ?_
            refine g_mminl C dX2_bestFrom_98 (List.mem_cons_of_mem _ (List.mem_append_left _ (List.mem_append_left _ (List.mem_of_getElem? (i := 4) rfl)))) (List.mem_cons_of_mem _ (List.mem_append_left _ (List.mem_append_left _ (List.mem_of_getElem? (i := 5) rfl)))) (List.mem_cons_of_mem _ (List.mem_append_left _ (List.mem_append_left _ (List.mem_of_getElem? (i := 6) rfl)))) (List.mem_cons_of_mem _ (List.mem_append_left _ (List.mem_append_left _ (List.mem_of_getElem? (i := 7) rfl)))) (by decide) (Nat.le_of_ble_eq_true rfl) (Nat.le_of_ble_eq_true rfl) (Nat.le_of_ble_eq_true rfl) (q := 101) rfl ?_
            refine g_eql C (y := spE (NNf (mL gr li nu st n) m rr) (PVf (mL gr li nu st n) m rr) z (SHs (mL gr li nu st n j) (SV (mL gr li nu st n) m rr) (prs (mL gr li nu st n j) 1001) z (i + 1))) (spE_step (m := (mL gr li nu st n j)) (rest := SV (mL gr li nu st n) m rr) (Ts := prs (mL gr li nu st n j) 1001) (nn := NNf (mL gr li nu st n) m rr) (pv := PVf (mL gr li nu st n) m rr) (t := z) (i := i) rfl hTz hs1 hMr ⟨hs2, hs3⟩ (by have q := SHs_rg (m := (mL gr li nu st n j)) (rest := SV (mL gr li nu st n) m rr) (Ts := prs (mL gr li nu st n j) 1001) (t := z) (A := 6400) (B := 6400) (fun s => mL_rg hT hn4 s) (fun s => by rcases SHV_ok (gr := gr) (li := li) hT hL (show rr ≤ m by omega) s with q | q; (exact Or.inl q.1); (exact Or.inr ⟨q.2.1, q.2.2.1⟩)) i (fun k hk => (prs_mem (mL gr li nu st n j) 1001 k (by omega)).2); exact q) (fun s hs => NN_lt _ _ hs) (by have q := Nat.mul_le_mul_left (PVf (mL gr li nu st n) m rr) (show i + 1 ≤ max 1 (prs (mL gr li nu st n j) 1001).length by omega); rw [Nat.mul_comm]; omega)) ?_
            refine g_lstore_n C [(3, .long (spE (NNf (mL gr li nu st n) m rr) (PVf (mL gr li nu st n) m rr) z (SHs (mL gr li nu st n j) (SV (mL gr li nu st n) m rr) (prs (mL gr li nu st n j) 1001) z (i + 1)))), (8, .long (lJ ((mL gr li nu st n j) ((prs (mL gr li nu st n j) 1001).getD i 0) * 281474976710656 + ((i * PVf (mL gr li nu st n) m rr : Nat) : Int)))), (7, .int (nI (z - ((prs (mL gr li nu st n j) 1001).getD i 0)))), (6, .int (nI i)), (5, .int (nI ((prs (mL gr li nu st n j) 1001).length))), (0, .ref (a 5)), (1, .int (nI j)), (2, .int (nI z))] dX2_bestFrom_101 rfl (by decide) rfl (q := 102) rfl ?_
            refine g_iinc C (z := 3) (nI (i + 1)) [(6, .int (nI (i + 1))), (3, .long (spE (NNf (mL gr li nu st n) m rr) (PVf (mL gr li nu st n) m rr) z (SHs (mL gr li nu st n j) (SV (mL gr li nu st n) m rr) (prs (mL gr li nu st n j) 1001) z (i + 1)))), (8, .long (lJ ((mL gr li nu st n j) ((prs (mL gr li nu st n j) 1001).getD i 0) * 281474976710656 + ((i * PVf (mL gr li nu st n) m rr : Nat) : Int)))), (7, .int (nI (z - ((prs (mL gr li nu st n j) 1001).getD i 0)))), (5, .int (nI ((prs (mL gr li nu st n j) 1001).length))), (0, .ref (a 5)), (1, .int (nI j)), (2, .int (nI z))] dX2_bestFrom_102 rfl (nI_add i 1) (by decide) rfl (q := 105) rfl ?_
            refine g_goto C (q := 17) dX2_bestFrom_105 (by decide) ?_
            refine g_locs C [(6, .int (nI (i + 1))), (5, .int (nI ((prs (mL gr li nu st n j) 1001).length))), (3, .long (spE (NNf (mL gr li nu st n) m rr) (PVf (mL gr li nu st n) m rr) z (SHs (mL gr li nu st n j) (SV (mL gr li nu st n) m rr) (prs (mL gr li nu st n j) 1001) z (i + 1)))), (0, .ref (a 5)), (1, .int (nI j)), (2, .int (nI z))] [0, 4, 1, 5, 6, 7] rfl ?_
            exact ih_17 (i + 1) (by first | assumption | omega) (by omega)
        · have hTz : z < ((prs (mL gr li nu st n j) 1001).getD i 0) := by rcases Nat.lt_or_ge z ((prs (mL gr li nu st n j) 1001).getD i 0) with q | q; (exact q); (exact absurd ((sub_nn (by omega) (by omega)).mpr q) c_40)
          refine g_goto C (q := 108) dX2_bestFrom_43 (by decide) ?_
          refine g_lload_n C 3 dX2_bestFrom_108 rfl rfl rfl (q := 109) ?_
          exact hret _ 109 _ _ dX2_bestFrom_109 (by rw [SHV_succ hjr, SHs_end hi (by first | exact Or.inl (by omega) | exact Or.inr hTz)])
  exact lp_17 _ 0 (by first | assumption | omega) (Nat.lt_succ_self _)
set_option maxHeartbeats 4000000 in
set_option maxRecDepth 100000 in
theorem c_X2_isThere (l : Launch) (D : va_G) (cI cJ cZ : ClassId) (a : Nat → Nat) (hA nA : Nat) (gr li st sp : Nat → Int32) (n m : Nat) (nu : Nat → Int32) (ev od : Nat → Int64) (fp ti : Nat → Int32) (wc : Nat → Int64) (wu : Int32) (sc pv : Nat → Int64) (su : Int32) (sd : Nat → Int32) (t z : Nat) (hL : LInv st sp n m) (hT : TrOK nu) (hC : SCOK gr li nu st n m sc pv) (hz : z ≤ 1000) : Met l yX2_isThere wsX2_isThere { frames := 0, cells := 0, slots := 0, locals := 0 } (gPc D (tyT cI cJ cZ) (wA a (a 11) (a 12)) FT (wC cI cJ cZ a hA nA gr li st sp (nI n) (nI m) nu ev od fp ti wc wu sc pv su sd (nI t)) [.ref (a 5), .int (nI z)]) (vp_Si (fun r => r = if SV (mL gr li nu st n) m m z < BIG then nI 1 else nI 0)) 0 0 (fun _ => False) := by
  refine gs_si (cc := cX2_isThere) (nL := 2) (ty := .boolean) (by decide) rfl (Nat.le_of_ble_eq_true rfl) (fun G C hret => ?_)
  show G 0 0 (wC cI cJ cZ a hA nA gr li st sp (nI n) (nI m) nu ev od fp ti wc wu sc pv su sd (nI t)) [(0, .ref (a 5)), (1, .int (nI z))] 0 []
  refine g_aload_n C 0 dX2_isThere_0 rfl rfl rfl (q := 1) ?_
  refine g_get C 5 2 dX2_isThere_1 (Cn := RX2) (T := TX2) (N := 5) (fun _ h => List.mem_cons_of_mem _ (List.mem_append_right _ h)) rfl rfl (by decide) (List.mem_cons_of_mem _ (List.mem_append_left _ (List.mem_of_getElem? (i := 0) rfl))) rfl (q := 4) rfl ?_
  refine g_iload_n C 1 dX2_isThere_4 rfl rfl rfl (q := 5) ?_
  refine g_lald C 17 1 dX2_isThere_5 rfl rfl (vp_in_nI (by omega) (by decide)) (q := 6) rfl ?_
  refine g_eql C (y := sc z) (by rw [nI_clamp (by omega)]) ?_
  refine g_eql C (y := SHV (mL gr li nu st n) m m z) (hC.1 _ hz) ?_
  refine g_ldc2 C (v := (4611686018427387904)) dX2_isThere_6 (List.mem_cons_of_mem _ (List.mem_append_left _ (List.mem_of_getElem? (i := 1) rfl))) (q := 9) rfl ?_
  refine g_lcmp C dX2_isThere_9 (q := 10) rfl ?_
  refine g_if_eq C (t := 17) dX2_isThere_10 (by decide) (q := 13) rfl (fun c_10 => ?_) (fun c_10 => ?_)
  · replace c_10 := keq_t c_10
    have hb : ¬ SV (mL gr li nu st n) m m z < BIG := by rcases SHV_ok (gr := gr) (li := li) hT hL (Nat.le_refl m) z with q | q; (rw [q.1]; exact Int.lt_irrefl _); (exact absurd c_10 q.2.2.2.2.2)
    refine g_iconst C (nI 0) dX2_isThere_17 (by decide) (q := 18) rfl ?_
    exact hret _ 18 _ _ dX2_isThere_18 (by decide) ((if_neg (by first | assumption | (refine ⟨?_, ?_⟩ <;> assumption) | (refine ⟨?_, ?_, ?_⟩ <;> assumption) | omega | simp_all)).symm)
  · replace c_10 := keq_f c_10
    have hb : SV (mL gr li nu st n) m m z < BIG := by rcases SHV_ok (gr := gr) (li := li) hT hL (Nat.le_refl m) z with q | q; (exact absurd q.2 c_10); (exact q.1)
    refine g_iconst C (nI 1) dX2_isThere_13 (by decide) (q := 14) rfl ?_
    refine g_goto C (q := 18) dX2_isThere_14 (by decide) ?_
    exact hret _ 18 _ _ dX2_isThere_18 (by decide) ((if_pos (by first | assumption | (refine ⟨?_, ?_⟩ <;> assumption) | (refine ⟨?_, ?_, ?_⟩ <;> assumption) | omega | simp_all)).symm)
set_option maxHeartbeats 4000000 in
set_option maxRecDepth 100000 in
theorem c_X2_powerTogether (l : Launch) (D : va_G) (cI cJ cZ : ClassId) (a : Nat → Nat) (hA nA : Nat) (gr li st sp : Nat → Int32) (n m : Nat) (nu : Nat → Int32) (ev od : Nat → Int64) (fp ti : Nat → Int32) (wc : Nat → Int64) (wu : Int32) (sc pv : Nat → Int64) (su : Int32) (sd : Nat → Int32) (t z : Nat) (hL : LInv st sp n m) (hT : TrOK nu) (hC : SCOK gr li nu st n m sc pv) (hz : z ≤ 1000) (hb : SV (mL gr li nu st n) m m z < BIG) : Met l yX2_powerTogether wsX2_powerTogether { frames := 0, cells := 0, slots := 0, locals := 0 } (gPc D (tyT cI cJ cZ) (wA a (a 11) (a 12)) FT (wC cI cJ cZ a hA nA gr li st sp (nI n) (nI m) nu ev od fp ti wc wu sc pv su sd (nI t)) [.ref (a 5), .int (nI z)]) (vp_Si (fun r => r = jN (SV (mL gr li nu st n) m m z))) 0 0 (fun _ => False) := by
  refine gs_si (cc := cX2_powerTogether) (nL := 2) (ty := .int) (by decide) rfl (Nat.le_of_ble_eq_true rfl) (fun G C hret => ?_)
  show G 0 0 (wC cI cJ cZ a hA nA gr li st sp (nI n) (nI m) nu ev od fp ti wc wu sc pv su sd (nI t)) [(0, .ref (a 5)), (1, .int (nI z))] 0 []
  obtain ⟨hs1, hs2, hs3, hs4, hs5, hs6⟩ := (SHV_ok (gr := gr) (li := li) hT hL (Nat.le_refl m) z).resolve_left (fun q => by have := q.1; omega)
  have hPV := PV_48 (gr := gr) (li := li) hT hL (Nat.le_refl m)
  refine g_aload_n C 0 dX2_powerTogether_0 rfl rfl rfl (q := 1) ?_
  refine g_get C 5 2 dX2_powerTogether_1 (Cn := RX2) (T := TX2) (N := 5) (fun _ h => List.mem_cons_of_mem _ (List.mem_append_right _ h)) rfl rfl (by decide) (List.mem_cons_of_mem _ (List.mem_append_left _ (List.mem_of_getElem? (i := 0) rfl))) rfl (q := 4) rfl ?_
  refine g_iload_n C 1 dX2_powerTogether_4 rfl rfl rfl (q := 5) ?_
  refine g_lald C 17 1 dX2_powerTogether_5 rfl rfl (vp_in_nI (by omega) (by decide)) (q := 6) rfl ?_
  refine g_eql C (y := sc z) (by rw [nI_clamp (by omega)]) ?_
  refine g_eql C (y := lJ (SV (mL gr li nu st n) m m z * 281474976710656 + (NNf (mL gr li nu st n) m m z : Int))) ((hC.1 _ hz).trans hs5) ?_
  refine g_bipush C (nI 48) dX2_powerTogether_6 (by decide) (q := 8) rfl ?_
  refine g_lshr C dX2_powerTogether_8 (q := 9) rfl ?_
  refine g_eql C (y := lJ (SV (mL gr li nu st n) m m z)) ((lJ_shr (by omega) (by decide)).trans (congrArg lJ (by rw [show ((2 ^ 48 : Nat) : Int) = 281474976710656 by decide]; omega))) ?_
  refine g_l2i C dX2_powerTogether_9 (q := 10) rfl ?_
  refine g_eqi C (y := jN (SV (mL gr li nu st n) m m z)) (l2i_jN (by omega)) ?_
  exact hret _ 10 _ _ dX2_powerTogether_10 rfl (rfl)
set_option maxHeartbeats 4000000 in
set_option maxRecDepth 100000 in
theorem c_X2_bringUpToDate (l : Launch) (D : va_G) (cI cJ cZ : ClassId) (a : Nat → Nat) (hA nA : Nat) (gr li st sp : Nat → Int32) (n m : Nat) (nu : Nat → Int32) (ev od : Nat → Int64) (fp ti : Nat → Int32) (wc : Nat → Int64) (wu : Int32) (sc pv : Nat → Int64) (su : Int32) (sd : Nat → Int32) (t : Nat) (hL : LInv st sp n m) (hT : TrOK nu) (hW : WOK gr li nu st n m fp ti wc) (hS0 : su = nI 0 ∨ (su = nI 1 ∧ SCOK gr li nu st n m sc pv)) : Met l yX2_bringUpToDate wsX2_bringUpToDate { frames := 2, cells := 0, slots := 0, locals := 58 } (gPc D (tyT cI cJ cZ) (wA a (a 11) (a 12)) FT (wC cI cJ cZ a hA nA gr li st sp (nI n) (nI m) nu ev od fp ti wc wu sc pv su sd (nI t)) [.ref (a 5)]) (va_Qv (fun (u : (Nat → Int64) × (Nat → Int64)) => SCOK gr li nu st n m u.1 u.2) (fun u tS => va_P D vwCl ((fun (u : (Nat → Int64) × (Nat → Int64)) => wC cI cJ cZ a hA nA gr li st sp (nI n) (nI m) nu ev od fp ti wc wu u.1 u.2 (nI 1) sd (nI t)) u) tS.heap ∧ va_D (wA a (a 11) (a 12)) ((fun (u : (Nat → Int64) × (Nat → Int64)) => wC cI cJ cZ a hA nA gr li st sp (nI n) (nI m) nu ev od fp ti wc wu u.1 u.2 (nI 1) sd (nI t)) u)) (wA a (a 11) (a 12))) 0 0 (wA a (a 11) (a 12)) := by
  refine gs_qv (cc := cX2_bringUpToDate) (nL := 5) (W' := fun (u : (Nat → Int64) × (Nat → Int64)) => wC cI cJ cZ a hA nA gr li st sp (nI n) (nI m) nu ev od fp ti wc wu u.1 u.2 (nI 1) sd (nI t)) (by decide) rfl (Nat.le_of_ble_eq_true rfl) (fun G C hret => ?_)
  show G 0 0 (wC cI cJ cZ a hA nA gr li st sp (nI n) (nI m) nu ev od fp ti wc wu sc pv su sd (nI t)) [(0, .ref (a 5))] 0 []
  have hn := hL.2.1
  have hmn := hL.m_le
  have hm1 := hL.m_pos
  refine g_aload_n C 0 dX2_bringUpToDate_0 rfl rfl rfl (q := 1) ?_
  refine g_get C 5 4 dX2_bringUpToDate_1 (Cn := RX2) (T := TX2) (N := 5) (fun _ h => List.mem_cons_of_mem _ (List.mem_append_left _ (List.mem_append_left _ (List.mem_append_right _ h)))) rfl rfl (by decide) (List.mem_cons_of_mem _ (List.mem_append_left _ (List.mem_append_left _ (List.mem_append_left _ (List.mem_of_getElem? (i := 0) rfl))))) rfl (q := 4) rfl ?_
  refine g_if_eq C (t := 8) dX2_bringUpToDate_4 (by decide) (q := 7) rfl (fun c_4 => ?_) (fun c_4 => ?_)
  · refine g_aload_n C 0 dX2_bringUpToDate_8 rfl rfl rfl (q := 9) ?_
    refine g_get C 5 2 dX2_bringUpToDate_9 (Cn := RX2) (T := TX2) (N := 5) (fun _ h => List.mem_cons_of_mem _ (List.mem_append_left _ (List.mem_append_left _ (List.mem_append_right _ h)))) rfl rfl (by decide) (List.mem_cons_of_mem _ (List.mem_append_left _ (List.mem_append_left _ (List.mem_append_left _ (List.mem_of_getElem? (i := 1) rfl))))) rfl (q := 12) rfl ?_
    refine g_lconst C 0 dX2_bringUpToDate_12 (by decide) (q := 13) rfl ?_
    refine gcS_qvf C (n := 2) (As := [.ref (a 17), .long 0]) (st := []) (wc := [(a 17, .inl (cJ, 1001, .inr (.inl sc)))]) (wr := [(a 0, .inr (6, [.ref (a 1), .ref (a 2), .ref (a 3), .ref (a 4), .ref (a 5), .ref (a 6)])), (a 1, .inr (0, [.ref (a 7), .ref (a 8), .ref (a 9), .ref (a 10), .int (nI n), .int (nI m)])), (a 2, .inr (4, [.ref (a 13)])), (a 3, .inr (3, [.ref (a 1), .ref (a 2)])), (a 4, .inr (5, [.ref (a 1), .ref (a 3), .ref (a 11), .ref (a 12), .ref (a 14), .ref (a 15), .ref (a 16), .int wu])), (a 5, .inr (2, [.ref (a 1), .ref (a 4), .ref (a 17), .ref (a 18), .int su])), (a 6, .inr (1, [.ref (a 1), .ref (a 3), .ref (a 19), .int (nI t)])), (a 7, .inl (cI, 16, .inl gr)), (a 8, .inl (cI, 16, .inl li)), (a 9, .inl (cZ, 17, .inl st)), (a 10, .inl (cI, 17, .inl sp)), (hA, .inl (cJ, 3787, .inr (.inl ev))), (nA, .inl (cJ, 3787, .inr (.inl od))), (a 13, .inl (cI, 5, .inl nu)), (a 14, .inl (cI, 17, .inl fp)), (a 15, .inl (cI, 968, .inl ti)), (a 16, .inl (cJ, 968, .inr (.inl wc))), (a 18, .inl (cJ, 16, .inr (.inl pv))), (a 19, .inl (cI, 17, .inl sd))]) [17] [0, 1, 2, 3, 4, 5, 6, 7, 8, 9, 10, 11, 12, 13, 14, 15, 16, 18, 19] rfl (by decide) one_m (fun u => wC cI cJ cZ a hA nA gr li st sp (nI n) (nI m) nu ev od fp ti wc wu u pv su sd (nI t)) rfl (by decide) (by decide) one_A (fun q e => by rw [e]; simp [wA]) [0, 1, 2, 3, 4, 5, 6, 7, 8, 9, 10, 11, 12, 13, 14, 15, 16, 19, 17, 18] (by decide) (fun u => rfl) dX2_bringUpToDate_13 gX2_bringUpToDate_J7_fill_d0a16 (c_J7_fill_d0a16 l D cI cJ cZ a (a 17) sc 1001 0 (by decide)) rfl rfl rfl (by decide +kernel) ⟨Nat.le_of_ble_eq_true rfl, Nat.le_of_ble_eq_true rfl⟩ rfl rfl (Nat.le_of_ble_eq_true rfl) FT_b FT_h ⟨Nat.le_of_ble_eq_true rfl, Nat.le_of_ble_eq_true rfl⟩ (q := 16) rfl (fun u_13 h_13 => ?_)
    have h_13 : ∀ i, i < 1001 → u_13 i = 0 := h_13
    show G 0 0 (wC cI cJ cZ a hA nA gr li st sp (nI n) (nI m) nu ev od fp ti wc wu u_13 pv su sd (nI t)) [(0, .ref (a 5))] 16 []
    refine g_lconst C 1 dX2_bringUpToDate_16 (by decide) (q := 17) rfl ?_
    refine g_eql C (y := lJ (PVf (mL gr li nu st n) m (m - m) : Int)) (by rw [Nat.sub_self]; rfl) ?_
    refine g_lstore_n C [(1, .long (lJ (PVf (mL gr li nu st n) m (m - m) : Int))), (0, .ref (a 5))] dX2_bringUpToDate_17 rfl (by decide) rfl (q := 18) rfl ?_
    refine g_aload_n C 1 dX2_bringUpToDate_18 rfl rfl rfl (q := 19) ?_
    refine g_get C 5 0 dX2_bringUpToDate_19 (Cn := RX2) (T := TX2) (N := 5) (fun _ h => List.mem_cons_of_mem _ (List.mem_append_left _ (List.mem_append_left _ (List.mem_append_right _ h)))) rfl rfl (by decide) (List.mem_cons_of_mem _ (List.mem_append_left _ (List.mem_append_left _ (List.mem_append_left _ (List.mem_of_getElem? (i := 2) rfl))))) rfl (q := 22) rfl ?_
    refine gcV_si C (n := 0) (As := []) (st := []) 1 (fun h => h) dX2_bringUpToDate_22 rfl rfl gX2_bringUpToDate_X0_legCount (c_X0_legCount l D cI cJ cZ a hA nA gr li st sp n m nu ev od fp ti wc wu u_13 pv su sd t) rfl rfl rfl (by decide +kernel) ⟨Nat.le_of_ble_eq_true rfl, Nat.le_of_ble_eq_true rfl⟩ rfl rfl (Nat.le_of_ble_eq_true rfl) FT_b FT_h ⟨Nat.le_of_ble_eq_true rfl, Nat.le_of_ble_eq_true rfl⟩ (q := 25) rfl (fun r_22 h_22 => ?_)
    subst h_22
    refine g_iconst C (nI 1) dX2_bringUpToDate_25 (by decide) (q := 26) rfl ?_
    refine g_isub C dX2_bringUpToDate_26 (q := 27) rfl ?_
    refine g_eqi C (y := nI m + (-1)) (Int32.sub_eq_add_neg _ _) ?_
    refine g_istore_n C [(3, .int (nI m + (-1))), (1, .long (lJ (PVf (mL gr li nu st n) m (m - m) : Int))), (0, .ref (a 5))] dX2_bringUpToDate_27 rfl (by decide) rfl (q := 28) rfl ?_
    have lp_28 : ∀ (N : Nat) (x : Nat) (g p : Nat → Int64), (x ≤ m) → (∀ s, s ≤ 1000 → g s = SHV (mL gr li nu st n) m (m - x) s) → (∀ l, x ≤ l → l < m → p l = lJ (PVf (mL gr li nu st n) m (m - 1 - l) : Int)) → x < N → G 0 0 (wC cI cJ cZ a hA nA gr li st sp (nI n) (nI m) nu ev od fp ti wc wu g p su sd (nI t)) [(3, .int (nI x + (-1))), (1, .long (lJ (PVf (mL gr li nu st n) m (m - x) : Int))), (0, .ref (a 5))] 28 [] := by
      intro N
      induction N with
      | zero => intro x g p _ _ _ hmu; exact absurd hmu (Nat.not_lt_zero _)
      | succ N ih_28 =>
        intro x g p hx hG hP hmu
        refine g_iload_n C 0 dX2_bringUpToDate_28 rfl rfl rfl (q := 29) ?_
        refine g_if_lt C (t := 91) dX2_bringUpToDate_29 (by decide) (q := 32) rfl (fun c_29 => ?_) (fun c_29 => ?_)
        · refine g_aload_n C 2 dX2_bringUpToDate_91 rfl rfl rfl (q := 92) ?_
          refine g_iconst C (nI 1) dX2_bringUpToDate_92 (by decide) (q := 93) rfl ?_
          refine g_put C 5 4 (wC cI cJ cZ a hA nA gr li st sp (nI n) (nI m) nu ev od fp ti wc wu g p (nI 1) sd (nI t)) dX2_bringUpToDate_93 (Cn := RX2) (T := TX2) (N := 5) (fun _ h => List.mem_cons_of_mem _ (List.mem_append_left _ (List.mem_append_left _ (List.mem_append_right _ h)))) tyX2_ok nmX2 rfl rfl (by decide) (List.mem_cons_of_mem _ (List.mem_append_left _ (List.mem_append_left _ (List.mem_append_left _ (List.mem_of_getElem? (i := 0) rfl))))) rfl (ty := .boolean) (by decide +kernel) (by decide) rfl (Nat.le_of_ble_eq_true rfl) rfl (q := 96) rfl ?_
          exact hret (g, p) 96 _ dX2_bringUpToDate_96 (by obtain rfl : x = 0 := (dn0_iff (by omega)).mp c_29; exact ⟨hG, fun l hl => hP l (Nat.zero_le _) hl⟩)
        · obtain ⟨x1, rfl⟩ : ∃ x1, x = x1 + 1 := ⟨x - 1, by rw [dn0_iff (by omega)] at c_29; omega⟩
          refine g_lset C (z := 0) (y := nI x1) [(3, .int (nI x1)), (1, .long (lJ (PVf (mL gr li nu st n) m (m - (x1 + 1)) : Int))), (0, .ref (a 5))] rfl (pk_m1 x1) rfl ?_
          refine g_aload_n C 2 dX2_bringUpToDate_32 rfl rfl rfl (q := 33) ?_
          refine g_get C 5 3 dX2_bringUpToDate_33 (Cn := RX2) (T := TX2) (N := 5) (fun _ h => List.mem_cons_of_mem _ (List.mem_append_left _ (List.mem_append_left _ (List.mem_append_right _ h)))) rfl rfl (by decide) (List.mem_cons_of_mem _ (List.mem_append_left _ (List.mem_append_left _ (List.mem_append_left _ (List.mem_of_getElem? (i := 3) rfl))))) rfl (q := 36) rfl ?_
          refine g_iload_n C 0 dX2_bringUpToDate_36 rfl rfl rfl (q := 37) ?_
          refine g_lload_n C 1 dX2_bringUpToDate_37 rfl rfl rfl (q := 38) ?_
          refine g_last C 18 1 (wC cI cJ cZ a hA nA gr li st sp (nI n) (nI m) nu ev od fp ti wc wu g (vp_updL p x1 (lJ (PVf (mL gr li nu st n) m (m - (x1 + 1)) : Int))) su sd (nI t)) dX2_bringUpToDate_38 rfl rfl (vp_in_nI (by omega) (by decide)) (by rw [nI_clamp (by omega)]; rfl) (q := 39) rfl ?_
          have hP2 : ∀ l, x1 ≤ l → l < m → vp_updL p x1 (lJ (PVf (mL gr li nu st n) m (m - (x1 + 1)) : Int)) l = lJ (PVf (mL gr li nu st n) m (m - 1 - l) : Int) := fun l h1 h2 => by by_cases e : l = x1; (subst e; rw [pk_uLs, show m - 1 - l = m - (l + 1) by omega]); (rw [pk_uLn e]; exact hP l (by omega) h2)
          refine g_sipush C (nI 1000) dX2_bringUpToDate_39 (by decide) (q := 42) rfl ?_
          refine g_eqi C (y := nI 1001 + (-1)) (by decide) ?_
          refine g_istore C [(4, .int (nI 1001 + (-1))), (3, .int (nI x1)), (1, .long (lJ (PVf (mL gr li nu st n) m (m - (x1 + 1)) : Int))), (0, .ref (a 5))] dX2_bringUpToDate_42 (by decide) rfl (q := 44) rfl ?_
          have lp_44 : ∀ (N : Nat) (z : Nat) (g2 : Nat → Int64), (z ≤ 1001) → (∀ s, s < z → g2 s = SHV (mL gr li nu st n) m (m - (x1 + 1)) s) → (∀ s, z ≤ s → s ≤ 1000 → g2 s = SHV (mL gr li nu st n) m ((m - (x1 + 1)) + 1) s) → z < N → G 0 0 (wC cI cJ cZ a hA nA gr li st sp (nI n) (nI m) nu ev od fp ti wc wu g2 (vp_updL p x1 (lJ (PVf (mL gr li nu st n) m (m - (x1 + 1)) : Int))) su sd (nI t)) [(4, .int (nI z + (-1))), (3, .int (nI x1)), (1, .long (lJ (PVf (mL gr li nu st n) m (m - (x1 + 1)) : Int))), (0, .ref (a 5))] 44 [] := by
            intro N
            induction N with
            | zero => intro z g2 _ _ _ hmu; exact absurd hmu (Nat.not_lt_zero _)
            | succ N ih_44 =>
              intro z g2 hz hG1 hG2 hmu
              refine g_iload C 0 dX2_bringUpToDate_44 rfl rfl (q := 46) ?_
              refine g_if_lt C (t := 69) dX2_bringUpToDate_46 (by decide) (q := 49) rfl (fun c_46 => ?_) (fun c_46 => ?_)
              · refine g_lload_n C 2 dX2_bringUpToDate_69 rfl rfl rfl (q := 70) ?_
                refine g_iconst C (nI 1) dX2_bringUpToDate_70 (by decide) (q := 71) rfl ?_
                refine g_aload_n C 3 dX2_bringUpToDate_71 rfl rfl rfl (q := 72) ?_
                refine g_get C 5 1 dX2_bringUpToDate_72 (Cn := RX2) (T := TX2) (N := 5) (fun _ h => List.mem_cons_of_mem _ (List.mem_append_left _ (List.mem_append_left _ (List.mem_append_right _ h)))) rfl rfl (by decide) (List.mem_cons_of_mem _ (List.mem_append_left _ (List.mem_append_left _ (List.mem_append_left _ (List.mem_of_getElem? (i := 4) rfl))))) rfl (q := 75) rfl ?_
                refine g_iload_n C 1 dX2_bringUpToDate_75 rfl rfl rfl (q := 76) ?_
                refine gcV_si C (n := 1) (As := [.int (nI x1)]) (st := [.int (nI 1), .long (lJ (PVf (mL gr li nu st n) m (m - (x1 + 1)) : Int))]) 4 (fun h => h) dX2_bringUpToDate_76 rfl rfl gX2_bringUpToDate_X5_pairCount (c_X5_pairCount l D cI cJ cZ a hA nA gr li st sp n m nu ev od fp ti wc wu g2 (vp_updL p x1 (lJ (PVf (mL gr li nu st n) m (m - (x1 + 1)) : Int))) su sd t x1 hL hT (by omega) hW) rfl rfl rfl (by decide +kernel) ⟨Nat.le_of_ble_eq_true rfl, Nat.le_of_ble_eq_true rfl⟩ rfl rfl (Nat.le_of_ble_eq_true rfl) FT_b FT_h ⟨Nat.le_of_ble_eq_true rfl, Nat.le_of_ble_eq_true rfl⟩ (q := 79) rfl (fun r_76 h_76 => ?_)
                subst h_76
                refine g_eqi C (y := nI ((prs (mL gr li nu st n x1) 1001).length)) (rfl) ?_
                obtain ⟨hn1, hn2, hn3, hn4⟩ := nL_rg hL (show x1 < m by omega)
                have hcv := cv_len (gr := gr) (li := li) hT hn2 hn1
                refine g_mmax C dX2_bringUpToDate_79 (List.mem_cons_of_mem _ (List.mem_append_left _ (List.mem_append_left _ (List.mem_append_left _ (List.mem_of_getElem? (i := 5) rfl))))) (List.mem_cons_of_mem _ (List.mem_append_left _ (List.mem_append_left _ (List.mem_append_left _ (List.mem_of_getElem? (i := 6) rfl))))) (List.mem_cons_of_mem _ (List.mem_append_left _ (List.mem_append_left _ (List.mem_append_left _ (List.mem_of_getElem? (i := 7) rfl))))) (List.mem_cons_of_mem _ (List.mem_append_left _ (List.mem_append_left _ (List.mem_append_left _ (List.mem_of_getElem? (i := 8) rfl))))) (by decide) (Nat.le_of_ble_eq_true rfl) (Nat.le_of_ble_eq_true rfl) (Nat.le_of_ble_eq_true rfl) (q := 82) rfl ?_
                refine g_eqi C (y := nI (max 1 ((prs (mL gr li nu st n x1) 1001).length))) (mx1 (by omega)) ?_
                refine g_i2l C dX2_bringUpToDate_82 (q := 83) rfl ?_
                refine g_eql C (y := lJ (max 1 (prs (mL gr li nu st n x1) 1001).length : Nat)) (nI_lJ (by omega)) ?_
                refine g_lmul C dX2_bringUpToDate_83 (q := 84) rfl ?_
                refine g_eql C (y := lJ (PVf (mL gr li nu st n) m (m - x1) : Int)) (pv_mul.trans (by rw [show m - x1 = m - (x1 + 1) + 1 by omega, PVf, show m - 1 - (m - (x1 + 1)) = x1 by omega])) ?_
                refine g_lstore_n C [(1, .long (lJ (PVf (mL gr li nu st n) m (m - x1) : Int))), (4, .int (nI z + (-1))), (3, .int (nI x1)), (0, .ref (a 5))] dX2_bringUpToDate_84 rfl (by decide) rfl (q := 85) rfl ?_
                refine g_iinc C (z := 2) ((nI x1) + (-1)) [(3, .int ((nI x1) + (-1))), (1, .long (lJ (PVf (mL gr li nu st n) m (m - x1) : Int))), (4, .int (nI z + (-1))), (0, .ref (a 5))] dX2_bringUpToDate_85 rfl rfl (by decide) rfl (q := 88) rfl ?_
                refine g_goto C (q := 28) dX2_bringUpToDate_88 (by decide) ?_
                refine g_locs C [(3, .int ((nI x1) + (-1))), (1, .long (lJ (PVf (mL gr li nu st n) m (m - x1) : Int))), (0, .ref (a 5))] [0, 1, 3] rfl ?_
                exact ih_28 x1 g2 (vp_updL p x1 (lJ (PVf (mL gr li nu st n) m (m - (x1 + 1)) : Int))) (by first | assumption | omega) (fun s hs => by obtain rfl : z = 0 := (dn0_iff (by omega)).mp c_46; rw [show m - x1 = m - (x1 + 1) + 1 by omega]; exact hG2 s (Nat.zero_le _) hs) hP2 (by omega)
              · obtain ⟨z1, rfl⟩ : ∃ z1, z = z1 + 1 := ⟨z - 1, by rw [dn0_iff (by omega)] at c_46; omega⟩
                refine g_lset C (z := 0) (y := nI z1) [(4, .int (nI z1)), (3, .int (nI x1)), (1, .long (lJ (PVf (mL gr li nu st n) m (m - (x1 + 1)) : Int))), (0, .ref (a 5))] rfl (pk_m1 z1) rfl ?_
                refine g_aload_n C 3 dX2_bringUpToDate_49 rfl rfl rfl (q := 50) ?_
                refine g_get C 5 2 dX2_bringUpToDate_50 (Cn := RX2) (T := TX2) (N := 5) (fun _ h => List.mem_cons_of_mem _ (List.mem_append_left _ (List.mem_append_left _ (List.mem_append_right _ h)))) rfl rfl (by decide) (List.mem_cons_of_mem _ (List.mem_append_left _ (List.mem_append_left _ (List.mem_append_left _ (List.mem_of_getElem? (i := 1) rfl))))) rfl (q := 53) rfl ?_
                refine g_iload C 0 dX2_bringUpToDate_53 rfl rfl (q := 55) ?_
                refine g_aload_n C 3 dX2_bringUpToDate_55 rfl rfl rfl (q := 56) ?_
                refine g_iload_n C 1 dX2_bringUpToDate_56 rfl rfl rfl (q := 57) ?_
                refine g_iload C 0 dX2_bringUpToDate_57 rfl rfl (q := 59) ?_
                refine gcV_sl C (n := 2) (As := [.int (nI x1), .int (nI z1)]) (st := [.int (nI z1), .ref (a 17)]) 5 (fun h => h) dX2_bringUpToDate_59 rfl rfl gX2_bringUpToDate_X2_bestFrom (c_X2_bestFrom l D cI cJ cZ a hA nA gr li st sp n m nu ev od fp ti wc wu g2 (vp_updL p x1 (lJ (PVf (mL gr li nu st n) m (m - (x1 + 1)) : Int))) su sd t x1 z1 (m - (x1 + 1)) hL hT (by omega) hW (by omega) (by omega) (by omega) (fun s hs => hG1 s (by omega)) pk_uLs) rfl rfl rfl (by decide +kernel) ⟨Nat.le_of_ble_eq_true rfl, Nat.le_of_ble_eq_true rfl⟩ rfl rfl (Nat.le_of_ble_eq_true rfl) FT_b FT_h ⟨Nat.le_of_ble_eq_true rfl, Nat.le_of_ble_eq_true rfl⟩ (q := 62) rfl (fun r_59 h_59 => ?_)
                subst h_59
                refine g_last C 17 1 (wC cI cJ cZ a hA nA gr li st sp (nI n) (nI m) nu ev od fp ti wc wu (vp_updL g2 z1 (SHV (mL gr li nu st n) m ((m - (x1 + 1)) + 1) z1)) (vp_updL p x1 (lJ (PVf (mL gr li nu st n) m (m - (x1 + 1)) : Int))) su sd (nI t)) dX2_bringUpToDate_62 rfl rfl (vp_in_nI (by omega) (by decide)) (by rw [nI_clamp (by omega)]; rfl) (q := 63) rfl ?_
                refine g_iinc C (z := 0) ((nI z1) + (-1)) [(4, .int ((nI z1) + (-1))), (3, .int (nI x1)), (1, .long (lJ (PVf (mL gr li nu st n) m (m - (x1 + 1)) : Int))), (0, .ref (a 5))] dX2_bringUpToDate_63 rfl rfl (by decide) rfl (q := 66) rfl ?_
                refine g_goto C (q := 44) dX2_bringUpToDate_66 (by decide) ?_
                exact ih_44 z1 (vp_updL g2 z1 (SHV (mL gr li nu st n) m ((m - (x1 + 1)) + 1) z1)) (by first | assumption | omega) (fun s hs => (pk_uLn (by omega)).trans (hG1 s (by omega))) (fun s h1 h2 => by by_cases e : s = z1; (subst e; exact pk_uLs); (exact (pk_uLn e).trans (hG2 s (by omega) h2))) (by omega)
          exact lp_44 _ 1001 g (by first | assumption | omega) (fun s hs => hG s (by omega)) (fun s h1 h2 => absurd h1 (by omega)) (Nat.lt_succ_self _)
    exact lp_28 _ m u_13 pv (by first | assumption | omega) (fun s hs => by rw [Nat.sub_self, SHV_0]; exact h_13 s (by omega)) (fun l h1 h2 => absurd h1 (by omega)) (Nat.lt_succ_self _)
  · obtain ⟨hsu, hC⟩ := hS0.resolve_left (fun e => c_4 (by rw [e]; decide))
    subst hsu
    exact hret (sc, pv) 7 _ dX2_bringUpToDate_7 (hC)
