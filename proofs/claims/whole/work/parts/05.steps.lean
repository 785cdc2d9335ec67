set_option maxHeartbeats 4000000 in
set_option maxRecDepth 100000 in
theorem c_X3_timeOf (l : Launch) (D : va_G) (cI cJ cZ : ClassId) (a : Nat → Nat) (hA nA : Nat) (gr li st sp : Nat → Int32) (n m : Nat) (nu : Nat → Int32) (ev od : Nat → Int64) (fp ti : Nat → Int32) (wc : Nat → Int64) (wu : Int32) (sc pv : Nat → Int64) (su : Int32) (sd : Nat → Int32) (t u v : Nat) (hu : u ≤ 6) (hv : v ≤ 6) : Met l yX3_timeOf wsX3_timeOf { frames := 0, cells := 0, slots := 0, locals := 0 } (gPc D (tyT cI cJ cZ) (wA a (a 11) (a 12)) FT (wC cI cJ cZ a hA nA gr li st sp (nI n) (nI m) nu ev od fp ti wc wu sc pv su sd (nI t)) [.ref (a 3), .int (nI u), .int (nI v)]) (vp_Si (fun r => r = nI (tmN u v))) 0 0 (fun _ => False) := by
  refine gs_si (cc := cX3_timeOf) (nL := 4) (ty := .int) (by decide) rfl (Nat.le_of_ble_eq_true rfl) (fun G C hret => ?_)
  show G 0 0 (wC cI cJ cZ a hA nA gr li st sp (nI n) (nI m) nu ev od fp ti wc wu sc pv su sd (nI t)) [(0, .ref (a 3)), (1, .int (nI u)), (2, .int (nI v))] 0 []
  refine g_iload_n C 1 dX3_timeOf_0 rfl rfl rfl (q := 1) ?_
  refine g_iload_n C 2 dX3_timeOf_1 rfl rfl rfl (q := 2) ?_
  refine g_iadd C dX3_timeOf_2 (q := 3) rfl ?_
  refine g_eqi C (y := nI (u + v)) (nI_add u v) ?_
  refine g_istore_n C [(3, .int (nI (u + v))), (0, .ref (a 3)), (1, .int (nI u)), (2, .int (nI v))] dX3_timeOf_3 rfl (by decide) rfl (q := 4) rfl ?_
  refine g_iload_n C 0 dX3_timeOf_4 rfl rfl rfl (q := 5) ?_
  refine g_if_le C (t := 15) dX3_timeOf_5 (by decide) (q := 8) rfl (fun c_5 => ?_) (fun c_5 => ?_)
  · rw [← nI_0, nI_leI (by omega) (by omega)] at c_5
    refine g_iconst C (nI 0) dX3_timeOf_15 (by decide) (q := 16) rfl ?_
    exact hret _ 16 _ _ dX3_timeOf_16 rfl (by first | rfl | (rw [show u = 0 by omega, show v = 0 by omega]; rfl))
  · rw [← nI_0, nI_leI (by omega) (by omega)] at c_5
    refine g_bipush C (nI 60) dX3_timeOf_8 (by decide) (q := 10) rfl ?_
    refine g_iload_n C 0 dX3_timeOf_10 rfl rfl rfl (q := 11) ?_
    refine g_idiv C dX3_timeOf_11 (nI_ne0 (by omega) (by omega)) (q := 12) rfl ?_
    refine g_eqi C (y := nI (tmN u v)) (pk_div (by decide) (by omega) (by omega)) ?_
    refine g_goto C (q := 16) dX3_timeOf_12 (by decide) ?_
    exact hret _ 16 _ _ dX3_timeOf_16 rfl (by first | rfl | (rw [show u = 0 by omega, show v = 0 by omega]; rfl))
set_option maxHeartbeats 4000000 in
set_option maxRecDepth 100000 in
theorem c_X3_faultOf (l : Launch) (D : va_G) (cI cJ cZ : ClassId) (a : Nat → Nat) (hA nA : Nat) (gr li st sp : Nat → Int32) (n m : Nat) (nu : Nat → Int32) (ev od : Nat → Int64) (fp ti : Nat → Int32) (wc : Nat → Int64) (wu : Int32) (sc pv : Nat → Int64) (su : Int32) (sd : Nat → Int32) (t k u v : Nat) (hk : k < 16) (hu : u ≤ 6) (hv : v ≤ 6) : Met l yX3_faultOf wsX3_faultOf { frames := 2, cells := 0, slots := 0, locals := 45 } (gPc D (tyT cI cJ cZ) (wA a (a 11) (a 12)) FT (wC cI cJ cZ a hA nA gr li st sp (nI n) (nI m) nu ev od fp ti wc wu sc pv su sd (nI t)) [.ref (a 3), .int (nI k), .int (nI u), .int (nI v)]) (vp_Si (fun r => r = flN gr li nu k u v)) 0 0 (fun _ => False) := by
  refine gs_si (cc := cX3_faultOf) (nL := 5) (ty := .int) (by decide) rfl (Nat.le_of_ble_eq_true rfl) (fun G C hret => ?_)
  show G 0 0 (wC cI cJ cZ a hA nA gr li st sp (nI n) (nI m) nu ev od fp ti wc wu sc pv su sd (nI t)) [(0, .ref (a 3)), (1, .int (nI k)), (2, .int (nI u)), (3, .int (nI v))] 0 []
  refine g_iload_n C 2 dX3_faultOf_0 rfl rfl rfl (q := 1) ?_
  refine g_iload_n C 3 dX3_faultOf_1 rfl rfl rfl (q := 2) ?_
  refine g_mmax C dX3_faultOf_2 (List.mem_cons_of_mem _ (List.mem_append_left _ (List.mem_append_left _ (List.mem_append_left _ (List.mem_of_getElem? (i := 0) rfl))))) (List.mem_cons_of_mem _ (List.mem_append_left _ (List.mem_append_left _ (List.mem_append_left _ (List.mem_of_getElem? (i := 1) rfl))))) (List.mem_cons_of_mem _ (List.mem_append_left _ (List.mem_append_left _ (List.mem_append_left _ (List.mem_of_getElem? (i := 2) rfl))))) (List.mem_cons_of_mem _ (List.mem_append_left _ (List.mem_append_left _ (List.mem_append_left _ (List.mem_of_getElem? (i := 3) rfl))))) (by decide) (Nat.le_of_ble_eq_true rfl) (Nat.le_of_ble_eq_true rfl) (Nat.le_of_ble_eq_true rfl) (q := 5) rfl ?_
  refine g_aload_n C 0 dX3_faultOf_5 rfl rfl rfl (q := 6) ?_
  refine g_get C 3 0 dX3_faultOf_6 (Cn := RX3) (T := TX3) (N := 2) (fun _ h => List.mem_cons_of_mem _ (List.mem_append_left _ (List.mem_append_left _ (List.mem_append_right _ h)))) rfl rfl (by decide) (List.mem_cons_of_mem _ (List.mem_append_left _ (List.mem_append_left _ (List.mem_append_left _ (List.mem_of_getElem? (i := 4) rfl))))) rfl (q := 9) rfl ?_
  refine g_iload_n C 1 dX3_faultOf_9 rfl rfl rfl (q := 10) ?_
  refine gcV_si C (n := 1) (As := [.int (nI k)]) (st := [.int (if nI u < nI v then nI v else nI u)]) 1 (fun h => h) dX3_faultOf_10 rfl rfl gX3_faultOf_X0_limitOf (c_X0_limitOf l D cI cJ cZ a hA nA gr li st sp n m nu ev od fp ti wc wu sc pv su sd t k (by first | assumption | omega)) rfl rfl rfl (by decide +kernel) ⟨Nat.le_of_ble_eq_true rfl, Nat.le_of_ble_eq_true rfl⟩ rfl rfl (Nat.le_of_ble_eq_true rfl) FT_b FT_h ⟨Nat.le_of_ble_eq_true rfl, Nat.le_of_ble_eq_true rfl⟩ (q := 13) rfl (fun r_10 h_10 => ?_)
  subst h_10
  refine g_icmp_le C (t := 18) dX3_faultOf_13 (by decide) (q := 16) rfl (fun c_13 => ?_) (fun c_13 => ?_)
  · replace c_13 := mx_le c_13
    refine g_iload_n C 2 dX3_faultOf_18 rfl rfl rfl (q := 19) ?_
    refine g_if_ne C (t := 28) dX3_faultOf_19 (by decide) (q := 22) rfl (fun c_19 => ?_) (fun c_19 => ?_)
    · rw [← nI_0, nI_eq (by omega) (by omega)] at c_19
      refine g_iload_n C 2 dX3_faultOf_28 rfl rfl rfl (q := 29) ?_
      refine g_iload_n C 3 dX3_faultOf_29 rfl rfl rfl (q := 30) ?_
      refine g_isub C dX3_faultOf_30 (q := 31) rfl ?_
      refine g_mabs C dX3_faultOf_31 (List.mem_cons_of_mem _ (List.mem_append_left _ (List.mem_append_left _ (List.mem_append_left _ (List.mem_of_getElem? (i := 5) rfl))))) (List.mem_cons_of_mem _ (List.mem_append_left _ (List.mem_append_left _ (List.mem_append_left _ (List.mem_of_getElem? (i := 6) rfl))))) (List.mem_cons_of_mem _ (List.mem_append_left _ (List.mem_append_left _ (List.mem_append_left _ (List.mem_of_getElem? (i := 2) rfl))))) (List.mem_cons_of_mem _ (List.mem_append_left _ (List.mem_append_left _ (List.mem_append_left _ (List.mem_of_getElem? (i := 7) rfl))))) (by decide) (Nat.le_of_ble_eq_true rfl) (Nat.le_of_ble_eq_true rfl) (Nat.le_of_ble_eq_true rfl) (q := 34) rfl ?_
      refine g_iconst C (nI 2) dX3_faultOf_34 (by decide) (q := 35) rfl ?_
      refine g_icmp_le C (t := 40) dX3_faultOf_35 (by decide) (q := 38) rfl (fun c_35 => ?_) (fun c_35 => ?_)
      · replace c_35 := ab_le hu hv c_35
        refine g_aload_n C 0 dX3_faultOf_40 rfl rfl rfl (q := 41) ?_
        refine g_iload_n C 1 dX3_faultOf_41 rfl rfl rfl (q := 42) ?_
        refine g_iload_n C 2 dX3_faultOf_42 rfl rfl rfl (q := 43) ?_
        refine g_iload_n C 3 dX3_faultOf_43 rfl rfl rfl (q := 44) ?_
        refine gcV_si C (n := 3) (As := [.int (nI k), .int (nI u), .int (nI v)]) (st := []) 3 (fun h => h) dX3_faultOf_44 rfl rfl gX3_faultOf_X3_forceOf (c_X3_forceOf l D cI cJ cZ a hA nA gr li st sp n m nu ev od fp ti wc wu sc pv su sd t k u v (by first | assumption | omega)) rfl rfl rfl (by decide +kernel) ⟨Nat.le_of_ble_eq_true rfl, Nat.le_of_ble_eq_true rfl⟩ rfl rfl (Nat.le_of_ble_eq_true rfl) FT_b FT_h ⟨Nat.le_of_ble_eq_true rfl, Nat.le_of_ble_eq_true rfl⟩ (q := 47) rfl (fun r_44 h_44 => ?_)
        subst h_44
        refine g_istore C [(4, .int (fcN gr nu k u v)), (0, .ref (a 3)), (1, .int (nI k)), (2, .int (nI u)), (3, .int (nI v))] dX3_faultOf_47 (by decide) rfl (q := 49) rfl ?_
        refine g_iload C 0 dX3_faultOf_49 rfl rfl (q := 51) ?_
        refine g_aload_n C 1 dX3_faultOf_51 rfl rfl rfl (q := 52) ?_
        refine g_get C 3 1 dX3_faultOf_52 (Cn := RX3) (T := TX3) (N := 2) (fun _ h => List.mem_cons_of_mem _ (List.mem_append_left _ (List.mem_append_left _ (List.mem_append_right _ h)))) rfl rfl (by decide) (List.mem_cons_of_mem _ (List.mem_append_left _ (List.mem_append_left _ (List.mem_append_left _ (List.mem_of_getElem? (i := 8) rfl))))) rfl (q := 55) rfl ?_
        refine g_iconst C (nI 2) dX3_faultOf_55 (by decide) (q := 56) rfl ?_
        refine gcV_si C (n := 1) (As := [.int (nI 2)]) (st := [.int (fcN gr nu k u v)]) 2 (fun h => h) dX3_faultOf_56 rfl rfl gX3_faultOf_X4_number (c_X4_number l D cI cJ cZ a hA nA gr li st sp n m nu ev od fp ti wc wu sc pv su sd t 2 (by first | assumption | omega)) rfl rfl rfl (by decide +kernel) ⟨Nat.le_of_ble_eq_true rfl, Nat.le_of_ble_eq_true rfl⟩ rfl rfl (Nat.le_of_ble_eq_true rfl) FT_b FT_h ⟨Nat.le_of_ble_eq_true rfl, Nat.le_of_ble_eq_true rfl⟩ (q := 59) rfl (fun r_56 h_56 => ?_)
        subst h_56
        refine g_icmp_le C (t := 64) dX3_faultOf_59 (by decide) (q := 62) rfl (fun c_59 => ?_) (fun c_59 => ?_)
        · refine g_iload C 0 dX3_faultOf_64 rfl rfl (q := 66) ?_
          refine g_aload_n C 1 dX3_faultOf_66 rfl rfl rfl (q := 67) ?_
          refine g_get C 3 1 dX3_faultOf_67 (Cn := RX3) (T := TX3) (N := 2) (fun _ h => List.mem_cons_of_mem _ (List.mem_append_left _ (List.mem_append_left _ (List.mem_append_right _ h)))) rfl rfl (by decide) (List.mem_cons_of_mem _ (List.mem_append_left _ (List.mem_append_left _ (List.mem_append_left _ (List.mem_of_getElem? (i := 8) rfl))))) rfl (q := 70) rfl ?_
          refine g_iconst C (nI 3) dX3_faultOf_70 (by decide) (q := 71) rfl ?_
          refine gcV_si C (n := 1) (As := [.int (nI 3)]) (st := [.int (fcN gr nu k u v)]) 2 (fun h => h) dX3_faultOf_71 rfl rfl gX3_faultOf_X4_number (c_X4_number l D cI cJ cZ a hA nA gr li st sp n m nu ev od fp ti wc wu sc pv su sd t 3 (by first | assumption | omega)) rfl rfl rfl (by decide +kernel) ⟨Nat.le_of_ble_eq_true rfl, Nat.le_of_ble_eq_true rfl⟩ rfl rfl (Nat.le_of_ble_eq_true rfl) FT_b FT_h ⟨Nat.le_of_ble_eq_true rfl, Nat.le_of_ble_eq_true rfl⟩ (q := 74) rfl (fun r_71 h_71 => ?_)
          subst h_71
          refine g_ineg C dX3_faultOf_74 (q := 75) rfl ?_
          refine g_icmp_ge C (t := 82) dX3_faultOf_75 (by decide) (q := 78) rfl (fun c_75 => ?_) (fun c_75 => ?_)
          · refine g_iconst C (nI 0) dX3_faultOf_82 (by decide) (q := 83) rfl ?_
            exact hret _ 83 _ _ dX3_faultOf_83 rfl (by first | (rw [flN, fltE, if_neg c_13, if_neg (by omega), if_neg c_35, if_neg (not_not_intro c_59), if_pos c_75]) | (rw [flN, fltE, if_neg c_13, if_neg (by omega), if_neg c_35, if_neg (not_not_intro c_59), if_neg (not_not_intro c_75)]))
          · refine g_iconst C (nI 5) dX3_faultOf_78 (by decide) (q := 79) rfl ?_
            refine g_goto C (q := 83) dX3_faultOf_79 (by decide) ?_
            exact hret _ 83 _ _ dX3_faultOf_83 rfl (by first | (rw [flN, fltE, if_neg c_13, if_neg (by omega), if_neg c_35, if_neg (not_not_intro c_59), if_pos c_75]) | (rw [flN, fltE, if_neg c_13, if_neg (by omega), if_neg c_35, if_neg (not_not_intro c_59), if_neg (not_not_intro c_75)]))
        · refine g_iconst C (nI 4) dX3_faultOf_62 (by decide) (q := 63) rfl ?_
          exact hret _ 63 _ _ dX3_faultOf_63 rfl (by rw [flN, fltE, if_neg c_13, if_neg (by omega), if_neg c_35, if_pos c_59])
      · replace c_35 := ab_nle hu hv c_35
        refine g_iconst C (nI 3) dX3_faultOf_38 (by decide) (q := 39) rfl ?_
        exact hret _ 39 _ _ dX3_faultOf_39 rfl (by rw [flN, fltE, if_neg c_13, if_neg (by omega), if_pos c_35])
    · rw [← nI_0, nI_eq (by omega) (by omega)] at c_19
      refine g_iload_n C 3 dX3_faultOf_22 rfl rfl rfl (q := 23) ?_
      refine g_if_ne C (t := 28) dX3_faultOf_23 (by decide) (q := 26) rfl (fun c_23 => ?_) (fun c_23 => ?_)
      · rw [← nI_0, nI_eq (by omega) (by omega)] at c_23
        refine g_iload_n C 2 dX3_faultOf_28 rfl rfl rfl (q := 29) ?_
        refine g_iload_n C 3 dX3_faultOf_29 rfl rfl rfl (q := 30) ?_
        refine g_isub C dX3_faultOf_30 (q := 31) rfl ?_
        refine g_mabs C dX3_faultOf_31 (List.mem_cons_of_mem _ (List.mem_append_left _ (List.mem_append_left _ (List.mem_append_left _ (List.mem_of_getElem? (i := 5) rfl))))) (List.mem_cons_of_mem _ (List.mem_append_left _ (List.mem_append_left _ (List.mem_append_left _ (List.mem_of_getElem? (i := 6) rfl))))) (List.mem_cons_of_mem _ (List.mem_append_left _ (List.mem_append_left _ (List.mem_append_left _ (List.mem_of_getElem? (i := 2) rfl))))) (List.mem_cons_of_mem _ (List.mem_append_left _ (List.mem_append_left _ (List.mem_append_left _ (List.mem_of_getElem? (i := 7) rfl))))) (by decide) (Nat.le_of_ble_eq_true rfl) (Nat.le_of_ble_eq_true rfl) (Nat.le_of_ble_eq_true rfl) (q := 34) rfl ?_
        refine g_iconst C (nI 2) dX3_faultOf_34 (by decide) (q := 35) rfl ?_
        refine g_icmp_le C (t := 40) dX3_faultOf_35 (by decide) (q := 38) rfl (fun c_35 => ?_) (fun c_35 => ?_)
        · replace c_35 := ab_le hu hv c_35
          refine g_aload_n C 0 dX3_faultOf_40 rfl rfl rfl (q := 41) ?_
          refine g_iload_n C 1 dX3_faultOf_41 rfl rfl rfl (q := 42) ?_
          refine g_iload_n C 2 dX3_faultOf_42 rfl rfl rfl (q := 43) ?_
          refine g_iload_n C 3 dX3_faultOf_43 rfl rfl rfl (q := 44) ?_
          refine gcV_si C (n := 3) (As := [.int (nI k), .int (nI u), .int (nI v)]) (st := []) 3 (fun h => h) dX3_faultOf_44 rfl rfl gX3_faultOf_X3_forceOf (c_X3_forceOf l D cI cJ cZ a hA nA gr li st sp n m nu ev od fp ti wc wu sc pv su sd t k u v (by first | assumption | omega)) rfl rfl rfl (by decide +kernel) ⟨Nat.le_of_ble_eq_true rfl, Nat.le_of_ble_eq_true rfl⟩ rfl rfl (Nat.le_of_ble_eq_true rfl) FT_b FT_h ⟨Nat.le_of_ble_eq_true rfl, Nat.le_of_ble_eq_true rfl⟩ (q := 47) rfl (fun r_44 h_44 => ?_)
          subst h_44
          refine g_istore C [(4, .int (fcN gr nu k u v)), (0, .ref (a 3)), (1, .int (nI k)), (2, .int (nI u)), (3, .int (nI v))] dX3_faultOf_47 (by decide) rfl (q := 49) rfl ?_
          refine g_iload C 0 dX3_faultOf_49 rfl rfl (q := 51) ?_
          refine g_aload_n C 1 dX3_faultOf_51 rfl rfl rfl (q := 52) ?_
          refine g_get C 3 1 dX3_faultOf_52 (Cn := RX3) (T := TX3) (N := 2) (fun _ h => List.mem_cons_of_mem _ (List.mem_append_left _ (List.mem_append_left _ (List.mem_append_right _ h)))) rfl rfl (by decide) (List.mem_cons_of_mem _ (List.mem_append_left _ (List.mem_append_left _ (List.mem_append_left _ (List.mem_of_getElem? (i := 8) rfl))))) rfl (q := 55) rfl ?_
          refine g_iconst C (nI 2) dX3_faultOf_55 (by decide) (q := 56) rfl ?_
          refine gcV_si C (n := 1) (As := [.int (nI 2)]) (st := [.int (fcN gr nu k u v)]) 2 (fun h => h) dX3_faultOf_56 rfl rfl gX3_faultOf_X4_number (c_X4_number l D cI cJ cZ a hA nA gr li st sp n m nu ev od fp ti wc wu sc pv su sd t 2 (by first | assumption | omega)) rfl rfl rfl (by decide +kernel) ⟨Nat.le_of_ble_eq_true rfl, Nat.le_of_ble_eq_true rfl⟩ rfl rfl (Nat.le_of_ble_eq_true rfl) FT_b FT_h ⟨Nat.le_of_ble_eq_true rfl, Nat.le_of_ble_eq_true rfl⟩ (q := 59) rfl (fun r_56 h_56 => ?_)
          subst h_56
          refine g_icmp_le C (t := 64) dX3_faultOf_59 (by decide) (q := 62) rfl (fun c_59 => ?_) (fun c_59 => ?_)
          · refine g_iload C 0 dX3_faultOf_64 rfl rfl (q := 66) ?_
            refine g_aload_n C 1 dX3_faultOf_66 rfl rfl rfl (q := 67) ?_
            refine g_get C 3 1 dX3_faultOf_67 (Cn := RX3) (T := TX3) (N := 2) (fun _ h => List.mem_cons_of_mem _ (List.mem_append_left _ (List.mem_append_left _ (List.mem_append_right _ h)))) rfl rfl (by decide) (List.mem_cons_of_mem _ (List.mem_append_left _ (List.mem_append_left _ (List.mem_append_left _ (List.mem_of_getElem? (i := 8) rfl))))) rfl (q := 70) rfl ?_
            refine g_iconst C (nI 3) dX3_faultOf_70 (by decide) (q := 71) rfl ?_
            refine gcV_si C (n := 1) (As := [.int (nI 3)]) (st := [.int (fcN gr nu k u v)]) 2 (fun h => h) dX3_faultOf_71 rfl rfl gX3_faultOf_X4_number (c_X4_number l D cI cJ cZ a hA nA gr li st sp n m nu ev od fp ti wc wu sc pv su sd t 3 (by first | assumption | omega)) rfl rfl rfl (by decide +kernel) ⟨Nat.le_of_ble_eq_true rfl, Nat.le_of_ble_eq_true rfl⟩ rfl rfl (Nat.le_of_ble_eq_true rfl) FT_b FT_h ⟨Nat.le_of_ble_eq_true rfl, Nat.le_of_ble_eq_true rfl⟩ (q := 74) rfl (fun r_71 h_71 => ?_)
            subst h_71
            refine g_ineg C dX3_faultOf_74 (q := 75) rfl ?_
            refine g_icmp_ge C (t := 82) dX3_faultOf_75 (by decide) (q := 78) rfl (fun c_75 => ?_) (fun c_75 => ?_)
            · refine g_iconst C (nI 0) dX3_faultOf_82 (by decide) (q := 83) rfl ?_
              exact hret _ 83 _ _ dX3_faultOf_83 rfl (by first | (rw [flN, fltE, if_neg c_13, if_neg (by omega), if_neg c_35, if_neg (not_not_intro c_59), if_pos c_75]) | (rw [flN, fltE, if_neg c_13, if_neg (by omega), if_neg c_35, if_neg (not_not_intro c_59), if_neg (not_not_intro c_75)]))
            · refine g_iconst C (nI 5) dX3_faultOf_78 (by decide) (q := 79) rfl ?_
              refine g_goto C (q := 83) dX3_faultOf_79 (by decide) ?_
              exact hret _ 83 _ _ dX3_faultOf_83 rfl (by first | (rw [flN, fltE, if_neg c_13, if_neg (by omega), if_neg c_35, if_neg (not_not_intro c_59), if_pos c_75]) | (rw [flN, fltE, if_neg c_13, if_neg (by omega), if_neg c_35, if_neg (not_not_intro c_59), if_neg (not_not_intro c_75)]))
          · refine g_iconst C (nI 4) dX3_faultOf_62 (by decide) (q := 63) rfl ?_
            exact hret _ 63 _ _ dX3_faultOf_63 rfl (by rw [flN, fltE, if_neg c_13, if_neg (by omega), if_neg c_35, if_pos c_59])
        · replace c_35 := ab_nle hu hv c_35
          refine g_iconst C (nI 3) dX3_faultOf_38 (by decide) (q := 39) rfl ?_
          exact hret _ 39 _ _ dX3_faultOf_39 rfl (by rw [flN, fltE, if_neg c_13, if_neg (by omega), if_pos c_35])
      · rw [← nI_0, nI_eq (by omega) (by omega)] at c_23
        refine g_iconst C (nI 2) dX3_faultOf_26 (by decide) (q := 27) rfl ?_
        exact hret _ 27 _ _ dX3_faultOf_27 rfl (by rw [flN, fltE, if_neg c_13, if_pos ⟨c_19, c_23⟩])
  · replace c_13 := mx_nle c_13
    refine g_iconst C (nI 1) dX3_faultOf_16 (by decide) (q := 17) rfl ?_
    exact hret _ 17 _ _ dX3_faultOf_17 rfl (by rw [flN, fltE, if_pos c_13])
set_option maxHeartbeats 4000000 in
set_option maxRecDepth 100000 in
theorem c_X3_powerOf (l : Launch) (D : va_G) (cI cJ cZ : ClassId) (a : Nat → Nat) (hA nA : Nat) (gr li st sp : Nat → Int32) (n m : Nat) (nu : Nat → Int32) (ev od : Nat → Int64) (fp ti : Nat → Int32) (wc : Nat → Int64) (wu : Int32) (sc pv : Nat → Int64) (su : Int32) (sd : Nat → Int32) (t k u v : Nat) (hk : k < 16) : Met l yX3_powerOf wsX3_powerOf { frames := 2, cells := 0, slots := 0, locals := 45 } (gPc D (tyT cI cJ cZ) (wA a (a 11) (a 12)) FT (wC cI cJ cZ a hA nA gr li st sp (nI n) (nI m) nu ev od fp ti wc wu sc pv su sd (nI t)) [.ref (a 3), .int (nI k), .int (nI u), .int (nI v)]) (vp_Si (fun r => r = pwN gr nu k u v)) 0 0 (fun _ => False) := by
  refine gs_si (cc := cX3_powerOf) (nL := 5) (ty := .int) (by decide) rfl (Nat.le_of_ble_eq_true rfl) (fun G C hret => ?_)
  show G 0 0 (wC cI cJ cZ a hA nA gr li st sp (nI n) (nI m) nu ev od fp ti wc wu sc pv su sd (nI t)) [(0, .ref (a 3)), (1, .int (nI k)), (2, .int (nI u)), (3, .int (nI v))] 0 []
  refine g_aload_n C 0 dX3_powerOf_0 rfl rfl rfl (q := 1) ?_
  refine g_iload_n C 1 dX3_powerOf_1 rfl rfl rfl (q := 2) ?_
  refine g_iload_n C 2 dX3_powerOf_2 rfl rfl rfl (q := 3) ?_
  refine g_iload_n C 3 dX3_powerOf_3 rfl rfl rfl (q := 4) ?_
  refine gcV_si C (n := 3) (As := [.int (nI k), .int (nI u), .int (nI v)]) (st := []) 3 (fun h => h) dX3_powerOf_4 rfl rfl gX3_powerOf_X3_forceOf (c_X3_forceOf l D cI cJ cZ a hA nA gr li st sp n m nu ev od fp ti wc wu sc pv su sd t k u v (by first | assumption | omega)) rfl rfl rfl (by decide +kernel) ⟨Nat.le_of_ble_eq_true rfl, Nat.le_of_ble_eq_true rfl⟩ rfl rfl (Nat.le_of_ble_eq_true rfl) FT_b FT_h ⟨Nat.le_of_ble_eq_true rfl, Nat.le_of_ble_eq_true rfl⟩ (q := 7) rfl (fun r_4 h_4 => ?_)
  subst h_4
  refine g_istore C [(4, .int (fcN gr nu k u v)), (0, .ref (a 3)), (1, .int (nI k)), (2, .int (nI u)), (3, .int (nI v))] dX3_powerOf_7 (by decide) rfl (q := 9) rfl ?_
  refine g_iload C 0 dX3_powerOf_9 rfl rfl (q := 11) ?_
  refine g_if_le C (t := 19) dX3_powerOf_11 (by decide) (q := 14) rfl (fun c_11 => ?_) (fun c_11 => ?_)
  · refine g_aload_n C 1 dX3_powerOf_19 rfl rfl rfl (q := 20) ?_
    refine g_get C 3 1 dX3_powerOf_20 (Cn := RX3) (T := TX3) (N := 2) (fun _ h => List.mem_cons_of_mem _ (List.mem_append_left _ (List.mem_append_left _ (List.mem_append_right _ h)))) rfl rfl (by decide) (List.mem_cons_of_mem _ (List.mem_append_left _ (List.mem_append_left _ (List.mem_append_left _ (List.mem_of_getElem? (i := 0) rfl))))) rfl (q := 23) rfl ?_
    refine g_iconst C (nI 4) dX3_powerOf_23 (by decide) (q := 24) rfl ?_
    refine gcV_si C (n := 1) (As := [.int (nI 4)]) (st := []) 2 (fun h => h) dX3_powerOf_24 rfl rfl gX3_powerOf_X4_number (c_X4_number l D cI cJ cZ a hA nA gr li st sp n m nu ev od fp ti wc wu sc pv su sd t 4 (by first | assumption | omega)) rfl rfl rfl (by decide +kernel) ⟨Nat.le_of_ble_eq_true rfl, Nat.le_of_ble_eq_true rfl⟩ rfl rfl (Nat.le_of_ble_eq_true rfl) FT_b FT_h ⟨Nat.le_of_ble_eq_true rfl, Nat.le_of_ble_eq_true rfl⟩ (q := 27) rfl (fun r_24 h_24 => ?_)
    subst h_24
    refine g_iload C 0 dX3_powerOf_27 rfl rfl (q := 29) ?_
    refine g_ineg C dX3_powerOf_29 (q := 30) rfl ?_
    refine g_imul C dX3_powerOf_30 (q := 31) rfl ?_
    refine g_bipush C (nI 10) dX3_powerOf_31 (by decide) (q := 33) rfl ?_
    refine g_idiv C dX3_powerOf_33 (by decide) (q := 34) rfl ?_
    refine g_ineg C dX3_powerOf_34 (q := 35) rfl ?_
    exact hret _ 35 _ _ dX3_powerOf_35 rfl (by first | (rw [pwN, pwE, if_pos c_11]) | (rw [pwN, pwE, if_neg (not_not_intro c_11)]))
  · refine g_iload C 0 dX3_powerOf_14 rfl rfl (q := 16) ?_
    refine g_goto C (q := 35) dX3_powerOf_16 (by decide) ?_
    exact hret _ 35 _ _ dX3_powerOf_35 rfl (by first | (rw [pwN, pwE, if_pos c_11]) | (rw [pwN, pwE, if_neg (not_not_intro c_11)]))
set_option maxHeartbeats 4000000 in
set_option maxRecDepth 100000 in
theorem c_X1_isFaulty (l : Launch) (D : va_G) (cI cJ cZ : ClassId) (a : Nat → Nat) (hA nA : Nat) (gr li st sp : Nat → Int32) (n m : Nat) (nu : Nat → Int32) (ev od : Nat → Int64) (fp ti : Nat → Int32) (wc : Nat → Int64) (wu : Int32) (sc pv : Nat → Int64) (su : Int32) (sd : Nat → Int32) (t k : Nat) (s : Nat → Nat) (hk : k < 16) (hs : ∀ j, sd j = nI (s j) ∧ s j ≤ 6) : Met l yX1_isFaulty wsX1_isFaulty { frames := 3, cells := 0, slots := 0, locals := 69 } (gPc D (tyT cI cJ cZ) (wA a (a 11) (a 12)) FT (wC cI cJ cZ a hA nA gr li st sp (nI n) (nI m) nu ev od fp ti wc wu sc pv su sd (nI t)) [.ref (a 6), .int (nI k)]) (vp_Si (fun r => r = if ¬ flN gr li nu k (s k) (s (k + 1)) = 0 then nI 1 else nI 0)) 0 0 (fun _ => False) := by
  refine gs_si (cc := cX1_isFaulty) (nL := 2) (ty := .boolean) (by decide) rfl (Nat.le_of_ble_eq_true rfl) (fun G C hret => ?_)
  show G 0 0 (wC cI cJ cZ a hA nA gr li st sp (nI n) (nI m) nu ev od fp ti wc wu sc pv su sd (nI t)) [(0, .ref (a 6)), (1, .int (nI k))] 0 []
  have hu := (hs k).2
  have hv := (hs (k + 1)).2
  refine g_aload_n C 0 dX1_isFaulty_0 rfl rfl rfl (q := 1) ?_
  refine g_get C 6 1 dX1_isFaulty_1 (Cn := RX1) (T := TX1) (N := 4) (fun _ h => List.mem_cons_of_mem _ (List.mem_append_left _ (List.mem_append_left _ (List.mem_append_left _ (List.mem_append_right _ h))))) rfl rfl (by decide) (List.mem_cons_of_mem _ (List.mem_append_left _ (List.mem_append_left _ (List.mem_append_left _ (List.mem_append_left _ (List.mem_of_getElem? (i := 0) rfl)))))) rfl (q := 4) rfl ?_
  refine g_iload_n C 1 dX1_isFaulty_4 rfl rfl rfl (q := 5) ?_
  refine g_aload_n C 0 dX1_isFaulty_5 rfl rfl rfl (q := 6) ?_
  refine g_get C 6 2 dX1_isFaulty_6 (Cn := RX1) (T := TX1) (N := 4) (fun _ h => List.mem_cons_of_mem _ (List.mem_append_left _ (List.mem_append_left _ (List.mem_append_left _ (List.mem_append_right _ h))))) rfl rfl (by decide) (List.mem_cons_of_mem _ (List.mem_append_left _ (List.mem_append_left _ (List.mem_append_left _ (List.mem_append_left _ (List.mem_of_getElem? (i := 1) rfl)))))) rfl (q := 9) rfl ?_
  refine g_iload_n C 1 dX1_isFaulty_9 rfl rfl rfl (q := 10) ?_
  refine g_iald C 19 0 dX1_isFaulty_10 rfl rfl (vp_in_nI (by omega) (by decide)) (q := 11) rfl ?_
  refine g_eqi C (y := sd k) (by rw [nI_clamp (by omega)]) ?_
  refine g_eqi C (y := nI (s k)) ((hs k).1) ?_
  refine g_aload_n C 0 dX1_isFaulty_11 rfl rfl rfl (q := 12) ?_
  refine g_get C 6 2 dX1_isFaulty_12 (Cn := RX1) (T := TX1) (N := 4) (fun _ h => List.mem_cons_of_mem _ (List.mem_append_left _ (List.mem_append_left _ (List.mem_append_left _ (List.mem_append_right _ h))))) rfl rfl (by decide) (List.mem_cons_of_mem _ (List.mem_append_left _ (List.mem_append_left _ (List.mem_append_left _ (List.mem_append_left _ (List.mem_of_getElem? (i := 1) rfl)))))) rfl (q := 15) rfl ?_
  refine g_iload_n C 1 dX1_isFaulty_15 rfl rfl rfl (q := 16) ?_
  refine g_iconst C (nI 1) dX1_isFaulty_16 (by decide) (q := 17) rfl ?_
  refine g_iadd C dX1_isFaulty_17 (q := 18) rfl ?_
  refine g_eqi C (y := nI (k + 1)) (nI_add k 1) ?_
  refine g_iald C 19 0 dX1_isFaulty_18 rfl rfl (vp_in_nI (by omega) (by decide)) (q := 19) rfl ?_
  refine g_eqi C (y := sd (k + 1)) (by rw [nI_clamp (by omega)]) ?_
  refine g_eqi C (y := nI (s (k + 1))) ((hs (k + 1)).1) ?_
  refine gcV_si C (n := 3) (As := [.int (nI k), .int (nI (s k)), .int (nI (s (k + 1)))]) (st := []) 3 (fun h => h) dX1_isFaulty_19 rfl rfl gX1_isFaulty_X3_faultOf (c_X3_faultOf l D cI cJ cZ a hA nA gr li st sp n m nu ev od fp ti wc wu sc pv su sd t k (s k) (s (k + 1)) (by first | assumption | omega) (by first | assumption | omega) (by first | assumption | omega)) rfl rfl rfl (by decide +kernel) ⟨Nat.le_of_ble_eq_true rfl, Nat.le_of_ble_eq_true rfl⟩ rfl rfl (Nat.le_of_ble_eq_true rfl) FT_b FT_h ⟨Nat.le_of_ble_eq_true rfl, Nat.le_of_ble_eq_true rfl⟩ (q := 22) rfl (fun r_19 h_19 => ?_)
  subst h_19
  refine g_if_eq C (t := 29) dX1_isFaulty_22 (by decide) (q := 25) rfl (fun c_22 => ?_) (fun c_22 => ?_)
  · refine g_iconst C (nI 0) dX1_isFaulty_29 (by decide) (q := 30) rfl ?_
    exact hret _ 30 _ _ dX1_isFaulty_30 (by decide) ((if_neg (by first | assumption | (refine ⟨?_, ?_⟩ <;> assumption) | (refine ⟨?_, ?_, ?_⟩ <;> assumption) | omega | simp_all)).symm)
  · refine g_iconst C (nI 1) dX1_isFaulty_25 (by decide) (q := 26) rfl ?_
    refine g_goto C (q := 30) dX1_isFaulty_26 (by decide) ?_
    exact hret _ 30 _ _ dX1_isFaulty_30 (by decide) ((if_pos (by first | assumption | (refine ⟨?_, ?_⟩ <;> assumption) | (refine ⟨?_, ?_, ?_⟩ <;> assumption) | omega | simp_all)).symm)
set_option maxHeartbeats 4000000 in
set_option maxRecDepth 100000 in
theorem c_X1_timeTogether (l : Launch) (D : va_G) (cI cJ cZ : ClassId) (a : Nat → Nat) (hA nA : Nat) (gr li st sp : Nat → Int32) (n m : Nat) (nu : Nat → Int32) (ev od : Nat → Int64) (fp ti : Nat → Int32) (wc : Nat → Int64) (wu : Int32) (sc pv : Nat → Int64) (su : Int32) (sd : Nat → Int32) (t : Nat) (s : Nat → Nat) (ht : t ≤ 17) (hs : ∀ j, sd j = nI (s j) ∧ s j ≤ 6) : Met l yX1_timeTogether wsX1_timeTogether { frames := 4, cells := 0, slots := 0, locals := 90 } (gPc D (tyT cI cJ cZ) (wA a (a 11) (a 12)) FT (wC cI cJ cZ a hA nA gr li st sp (nI n) (nI m) nu ev od fp ti wc wu sc pv su sd (nI t)) [.ref (a 6)]) (vp_Si (fun r => r = sumI (lgT gr li nu s) (t - 1))) 0 0 (fun _ => False) := by
  refine gs_si (cc := cX1_timeTogether) (nL := 3) (ty := .int) (by decide) rfl (Nat.le_of_ble_eq_true rfl) (fun G C hret => ?_)
  show G 0 0 (wC cI cJ cZ a hA nA gr li st sp (nI n) (nI m) nu ev od fp ti wc wu sc pv su sd (nI t)) [(0, .ref (a 6))] 0 []
  refine g_iconst C (nI 0) dX1_timeTogether_0 (by decide) (q := 1) rfl ?_
  refine g_istore_n C [(1, .int (nI 0)), (0, .ref (a 6))] dX1_timeTogether_1 rfl (by decide) rfl (q := 2) rfl ?_
  refine g_iconst C (nI 0) dX1_timeTogether_2 (by decide) (q := 3) rfl ?_
  refine g_istore_n C [(2, .int (nI 0)), (1, .int (nI 0)), (0, .ref (a 6))] dX1_timeTogether_3 rfl (by decide) rfl (q := 4) rfl ?_
  have lp_4 : ∀ (N : Nat) (k : Nat), (k ≤ t - 1) → t - k < N → G 0 0 (wC cI cJ cZ a hA nA gr li st sp (nI n) (nI m) nu ev od fp ti wc wu sc pv su sd (nI t)) [(2, .int (nI k)), (1, .int (sumI (lgT gr li nu s) k)), (0, .ref (a 6))] 4 [] := by
    intro N
    induction N with
    | zero => intro k _ hmu; exact absurd hmu (Nat.not_lt_zero _)
    | succ N ih_4 =>
      intro k hk hmu
      have hu := (hs k).2
      have hv := (hs (k + 1)).2
      refine g_iload_n C 0 dX1_timeTogether_4 rfl rfl rfl (q := 5) ?_
      refine g_iconst C (nI 1) dX1_timeTogether_5 (by decide) (q := 6) rfl ?_
      refine g_iadd C dX1_timeTogether_6 (q := 7) rfl ?_
      refine g_eqi C (y := nI (k + 1)) (nI_add k 1) ?_
      refine g_aload_n C 2 dX1_timeTogether_7 rfl rfl rfl (q := 8) ?_
      refine g_get C 6 3 dX1_timeTogether_8 (Cn := RX1) (T := TX1) (N := 4) (fun _ h => List.mem_cons_of_mem _ (List.mem_append_left _ (List.mem_append_left _ (List.mem_append_left _ (List.mem_append_right _ h))))) rfl rfl (by decide) (List.mem_cons_of_mem _ (List.mem_append_left _ (List.mem_append_left _ (List.mem_append_left _ (List.mem_append_left _ (List.mem_of_getElem? (i := 0) rfl)))))) rfl (q := 11) rfl ?_
      refine g_icmp_ge C (t := 56) dX1_timeTogether_11 (by decide) (q := 14) rfl (fun c_11 => ?_) (fun c_11 => ?_)
      · rw [nI_leI (by omega) (by omega)] at c_11
        refine g_iload_n C 1 dX1_timeTogether_56 rfl rfl rfl (q := 57) ?_
        exact hret _ 57 _ _ dX1_timeTogether_57 rfl (by rw [show k = t - 1 by omega])
      · rw [nI_leI (by omega) (by omega)] at c_11
        refine g_iload_n C 1 dX1_timeTogether_14 rfl rfl rfl (q := 15) ?_
        refine g_aload_n C 2 dX1_timeTogether_15 rfl rfl rfl (q := 16) ?_
        refine g_iload_n C 0 dX1_timeTogether_16 rfl rfl rfl (q := 17) ?_
        refine gcV_si C (n := 1) (As := [.int (nI k)]) (st := [.int (sumI (lgT gr li nu s) k)]) 6 (fun h => h) dX1_timeTogether_17 rfl rfl gX1_timeTogether_X1_isFaulty (c_X1_isFaulty l D cI cJ cZ a hA nA gr li st sp n m nu ev od fp ti wc wu sc pv su sd t k s (by first | assumption | omega) (by first | assumption | omega)) rfl rfl rfl (by decide +kernel) ⟨Nat.le_of_ble_eq_true rfl, Nat.le_of_ble_eq_true rfl⟩ rfl rfl (Nat.le_of_ble_eq_true rfl) FT_b FT_h ⟨Nat.le_of_ble_eq_true rfl, Nat.le_of_ble_eq_true rfl⟩ (q := 20) rfl (fun r_17 h_17 => ?_)
        subst h_17
        refine g_if_eq C (t := 27) dX1_timeTogether_20 (by decide) (q := 23) rfl (fun c_20 => ?_) (fun c_20 => ?_)
        · replace c_20 := ite_e0 c_20
          refine g_aload_n C 2 dX1_timeTogether_27 rfl rfl rfl (q := 28) ?_
          refine g_get C 6 1 dX1_timeTogether_28 (Cn := RX1) (T := TX1) (N := 4) (fun _ h => List.mem_cons_of_mem _ (List.mem_append_left _ (List.mem_append_left _ (List.mem_append_left _ (List.mem_append_right _ h))))) rfl rfl (by decide) (List.mem_cons_of_mem _ (List.mem_append_left _ (List.mem_append_left _ (List.mem_append_left _ (List.mem_append_left _ (List.mem_of_getElem? (i := 1) rfl)))))) rfl (q := 31) rfl ?_
          refine g_aload_n C 2 dX1_timeTogether_31 rfl rfl rfl (q := 32) ?_
          refine g_get C 6 2 dX1_timeTogether_32 (Cn := RX1) (T := TX1) (N := 4) (fun _ h => List.mem_cons_of_mem _ (List.mem_append_left _ (List.mem_append_left _ (List.mem_append_left _ (List.mem_append_right _ h))))) rfl rfl (by decide) (List.mem_cons_of_mem _ (List.mem_append_left _ (List.mem_append_left _ (List.mem_append_left _ (List.mem_append_left _ (List.mem_of_getElem? (i := 2) rfl)))))) rfl (q := 35) rfl ?_
          refine g_iload_n C 0 dX1_timeTogether_35 rfl rfl rfl (q := 36) ?_
          refine g_iald C 19 0 dX1_timeTogether_36 rfl rfl (vp_in_nI (by omega) (by decide)) (q := 37) rfl ?_
          refine g_eqi C (y := sd k) (by rw [nI_clamp (by omega)]) ?_
          refine g_eqi C (y := nI (s k)) ((hs k).1) ?_
          refine g_aload_n C 2 dX1_timeTogether_37 rfl rfl rfl (q := 38) ?_
          refine g_get C 6 2 dX1_timeTogether_38 (Cn := RX1) (T := TX1) (N := 4) (fun _ h => List.mem_cons_of_mem _ (List.mem_append_left _ (List.mem_append_left _ (List.mem_append_left _ (List.mem_append_right _ h))))) rfl rfl (by decide) (List.mem_cons_of_mem _ (List.mem_append_left _ (List.mem_append_left _ (List.mem_append_left _ (List.mem_append_left _ (List.mem_of_getElem? (i := 2) rfl)))))) rfl (q := 41) rfl ?_
          refine g_iload_n C 0 dX1_timeTogether_41 rfl rfl rfl (q := 42) ?_
          refine g_iconst C (nI 1) dX1_timeTogether_42 (by decide) (q := 43) rfl ?_
          refine g_iadd C dX1_timeTogether_43 (q := 44) rfl ?_
          refine g_eqi C (y := nI (k + 1)) (nI_add k 1) ?_
          refine g_iald C 19 0 dX1_timeTogether_44 rfl rfl (vp_in_nI (by omega) (by decide)) (q := 45) rfl ?_
          refine g_eqi C (y := sd (k + 1)) (by rw [nI_clamp (by omega)]) ?_
          refine g_eqi C (y := nI (s (k + 1))) ((hs (k + 1)).1) ?_
          refine gcV_si C (n := 2) (As := [.int (nI (s k)), .int (nI (s (k + 1)))]) (st := [.int (sumI (lgT gr li nu s) k)]) 3 (fun h => h) dX1_timeTogether_45 rfl rfl gX1_timeTogether_X3_timeOf (c_X3_timeOf l D cI cJ cZ a hA nA gr li st sp n m nu ev od fp ti wc wu sc pv su sd t (s k) (s (k + 1)) (by first | assumption | omega) (by first | assumption | omega)) rfl rfl rfl (by decide +kernel) ⟨Nat.le_of_ble_eq_true rfl, Nat.le_of_ble_eq_true rfl⟩ rfl rfl (Nat.le_of_ble_eq_true rfl) FT_b FT_h ⟨Nat.le_of_ble_eq_true rfl, Nat.le_of_ble_eq_true rfl⟩ (q := 48) rfl (fun r_45 h_45 => ?_)
          subst h_45
          refine g_iadd C dX1_timeTogether_48 (q := 49) rfl ?_
          refine g_eqi C (y := sumI (lgT gr li nu s) (k + 1)) (sumI_s (by first | exact if_pos (Classical.not_not.mp c_20) | exact if_neg c_20)) ?_
          refine g_istore_n C [(1, .int (sumI (lgT gr li nu s) (k + 1))), (2, .int (nI k)), (0, .ref (a 6))] dX1_timeTogether_49 rfl (by decide) rfl (q := 50) rfl ?_
          refine g_iinc C (z := 1) (nI (k + 1)) [(2, .int (nI (k + 1))), (1, .int (sumI (lgT gr li nu s) (k + 1))), (0, .ref (a 6))] dX1_timeTogether_50 rfl (nI_add k 1) (by decide) rfl (q := 53) rfl ?_
          refine g_goto C (q := 4) dX1_timeTogether_53 (by decide) ?_
          exact ih_4 (k + 1) (by first | assumption | omega) (by omega)
        · replace c_20 := ite_n0 c_20
          refine g_iconst C (nI 0) dX1_timeTogether_23 (by decide) (q := 24) rfl ?_
          refine g_goto C (q := 48) dX1_timeTogether_24 (by decide) ?_
          refine g_iadd C dX1_timeTogether_48 (q := 49) rfl ?_
          refine g_eqi C (y := sumI (lgT gr li nu s) (k + 1)) (sumI_s (by first | exact if_pos (Classical.not_not.mp c_20) | exact if_neg c_20)) ?_
          refine g_istore_n C [(1, .int (sumI (lgT gr li nu s) (k + 1))), (2, .int (nI k)), (0, .ref (a 6))] dX1_timeTogether_49 rfl (by decide) rfl (q := 50) rfl ?_
          refine g_iinc C (z := 1) (nI (k + 1)) [(2, .int (nI (k + 1))), (1, .int (sumI (lgT gr li nu s) (k + 1))), (0, .ref (a 6))] dX1_timeTogether_50 rfl (nI_add k 1) (by decide) rfl (q := 53) rfl ?_
          refine g_goto C (q := 4) dX1_timeTogether_53 (by decide) ?_
          exact ih_4 (k + 1) (by first | assumption | omega) (by omega)
  exact lp_4 _ 0 (by first | assumption | omega) (Nat.lt_succ_self _)
set_option maxHeartbeats 4000000 in
set_option maxRecDepth 100000 in
theorem c_X1_powerTogether (l : Launch) (D : va_G) (cI cJ cZ : ClassId) (a : Nat → Nat) (hA nA : Nat) (gr li st sp : Nat → Int32) (n m : Nat) (nu : Nat → Int32) (ev od : Nat → Int64) (fp ti : Nat → Int32) (wc : Nat → Int64) (wu : Int32) (sc pv : Nat → Int64) (su : Int32) (sd : Nat → Int32) (t : Nat) (s : Nat → Nat) (ht : t ≤ 17) (hs : ∀ j, sd j = nI (s j) ∧ s j ≤ 6) : Met l yX1_powerTogether wsX1_powerTogether { frames := 4, cells := 0, slots := 0, locals := 90 } (gPc D (tyT cI cJ cZ) (wA a (a 11) (a 12)) FT (wC cI cJ cZ a hA nA gr li st sp (nI n) (nI m) nu ev od fp ti wc wu sc pv su sd (nI t)) [.ref (a 6)]) (vp_Si (fun r => r = sumI (lgP gr li nu s) (t - 1))) 0 0 (fun _ => False) := by
  refine gs_si (cc := cX1_powerTogether) (nL := 3) (ty := .int) (by decide) rfl (Nat.le_of_ble_eq_true rfl) (fun G C hret => ?_)
  show G 0 0 (wC cI cJ cZ a hA nA gr li st sp (nI n) (nI m) nu ev od fp ti wc wu sc pv su sd (nI t)) [(0, .ref (a 6))] 0 []
  refine g_iconst C (nI 0) dX1_powerTogether_0 (by decide) (q := 1) rfl ?_
  refine g_istore_n C [(1, .int (nI 0)), (0, .ref (a 6))] dX1_powerTogether_1 rfl (by decide) rfl (q := 2) rfl ?_
  refine g_iconst C (nI 0) dX1_powerTogether_2 (by decide) (q := 3) rfl ?_
  refine g_istore_n C [(2, .int (nI 0)), (1, .int (nI 0)), (0, .ref (a 6))] dX1_powerTogether_3 rfl (by decide) rfl (q := 4) rfl ?_
  have lp_4 : ∀ (N : Nat) (k : Nat), (k ≤ t - 1) → t - k < N → G 0 0 (wC cI cJ cZ a hA nA gr li st sp (nI n) (nI m) nu ev od fp ti wc wu sc pv su sd (nI t)) [(2, .int (nI k)), (1, .int (sumI (lgP gr li nu s) k)), (0, .ref (a 6))] 4 [] := by
    intro N
    induction N with
    | zero => intro k _ hmu; exact absurd hmu (Nat.not_lt_zero _)
    | succ N ih_4 =>
      intro k hk hmu
      have hu := (hs k).2
      have hv := (hs (k + 1)).2
      refine g_iload_n C 0 dX1_powerTogether_4 rfl rfl rfl (q := 5) ?_
      refine g_iconst C (nI 1) dX1_powerTogether_5 (by decide) (q := 6) rfl ?_
      refine g_iadd C dX1_powerTogether_6 (q := 7) rfl ?_
      refine g_eqi C (y := nI (k + 1)) (nI_add k 1) ?_
      refine g_aload_n C 2 dX1_powerTogether_7 rfl rfl rfl (q := 8) ?_
      refine g_get C 6 3 dX1_powerTogether_8 (Cn := RX1) (T := TX1) (N := 4) (fun _ h => List.mem_cons_of_mem _ (List.mem_append_left _ (List.mem_append_left _ (List.mem_append_left _ (List.mem_append_right _ h))))) rfl rfl (by decide) (List.mem_cons_of_mem _ (List.mem_append_left _ (List.mem_append_left _ (List.mem_append_left _ (List.mem_append_left _ (List.mem_of_getElem? (i := 0) rfl)))))) rfl (q := 11) rfl ?_
      refine g_icmp_ge C (t := 57) dX1_powerTogether_11 (by decide) (q := 14) rfl (fun c_11 => ?_) (fun c_11 => ?_)
      · rw [nI_leI (by omega) (by omega)] at c_11
        refine g_iload_n C 1 dX1_powerTogether_57 rfl rfl rfl (q := 58) ?_
        exact hret _ 58 _ _ dX1_powerTogether_58 rfl (by rw [show k = t - 1 by omega])
      · rw [nI_leI (by omega) (by omega)] at c_11
        refine g_iload_n C 1 dX1_powerTogether_14 rfl rfl rfl (q := 15) ?_
        refine g_aload_n C 2 dX1_powerTogether_15 rfl rfl rfl (q := 16) ?_
        refine g_iload_n C 0 dX1_powerTogether_16 rfl rfl rfl (q := 17) ?_
        refine gcV_si C (n := 1) (As := [.int (nI k)]) (st := [.int (sumI (lgP gr li nu s) k)]) 6 (fun h => h) dX1_powerTogether_17 rfl rfl gX1_powerTogether_X1_isFaulty (c_X1_isFaulty l D cI cJ cZ a hA nA gr li st sp n m nu ev od fp ti wc wu sc pv su sd t k s (by first | assumption | omega) (by first | assumption | omega)) rfl rfl rfl (by decide +kernel) ⟨Nat.le_of_ble_eq_true rfl, Nat.le_of_ble_eq_true rfl⟩ rfl rfl (Nat.le_of_ble_eq_true rfl) FT_b FT_h ⟨Nat.le_of_ble_eq_true rfl, Nat.le_of_ble_eq_true rfl⟩ (q := 20) rfl (fun r_17 h_17 => ?_)
        subst h_17
        refine g_if_eq C (t := 27) dX1_powerTogether_20 (by decide) (q := 23) rfl (fun c_20 => ?_) (fun c_20 => ?_)
        · replace c_20 := ite_e0 c_20
          refine g_aload_n C 2 dX1_powerTogether_27 rfl rfl rfl (q := 28) ?_
          refine g_get C 6 1 dX1_powerTogether_28 (Cn := RX1) (T := TX1) (N := 4) (fun _ h => List.mem_cons_of_mem _ (List.mem_append_left _ (List.mem_append_left _ (List.mem_append_left _ (List.mem_append_right _ h))))) rfl rfl (by decide) (List.mem_cons_of_mem _ (List.mem_append_left _ (List.mem_append_left _ (List.mem_append_left _ (List.mem_append_left _ (List.mem_of_getElem? (i := 1) rfl)))))) rfl (q := 31) rfl ?_
          refine g_iload_n C 0 dX1_powerTogether_31 rfl rfl rfl (q := 32) ?_
          refine g_aload_n C 2 dX1_powerTogether_32 rfl rfl rfl (q := 33) ?_
          refine g_get C 6 2 dX1_powerTogether_33 (Cn := RX1) (T := TX1) (N := 4) (fun _ h => List.mem_cons_of_mem _ (List.mem_append_left _ (List.mem_append_left _ (List.mem_append_left _ (List.mem_append_right _ h))))) rfl rfl (by decide) (List.mem_cons_of_mem _ (List.mem_append_left _ (List.mem_append_left _ (List.mem_append_left _ (List.mem_append_left _ (List.mem_of_getElem? (i := 2) rfl)))))) rfl (q := 36) rfl ?_
          refine g_iload_n C 0 dX1_powerTogether_36 rfl rfl rfl (q := 37) ?_
          refine g_iald C 19 0 dX1_powerTogether_37 rfl rfl (vp_in_nI (by omega) (by decide)) (q := 38) rfl ?_
          refine g_eqi C (y := sd k) (by rw [nI_clamp (by omega)]) ?_
          refine g_eqi C (y := nI (s k)) ((hs k).1) ?_
          refine g_aload_n C 2 dX1_powerTogether_38 rfl rfl rfl (q := 39) ?_
          refine g_get C 6 2 dX1_powerTogether_39 (Cn := RX1) (T := TX1) (N := 4) (fun _ h => List.mem_cons_of_mem _ (List.mem_append_left _ (List.mem_append_left _ (List.mem_append_left _ (List.mem_append_right _ h))))) rfl rfl (by decide) (List.mem_cons_of_mem _ (List.mem_append_left _ (List.mem_append_left _ (List.mem_append_left _ (List.mem_append_left _ (List.mem_of_getElem? (i := 2) rfl)))))) rfl (q := 42) rfl ?_
          refine g_iload_n C 0 dX1_powerTogether_42 rfl rfl rfl (q := 43) ?_
          refine g_iconst C (nI 1) dX1_powerTogether_43 (by decide) (q := 44) rfl ?_
          refine g_iadd C dX1_powerTogether_44 (q := 45) rfl ?_
          refine g_eqi C (y := nI (k + 1)) (nI_add k 1) ?_
          refine g_iald C 19 0 dX1_powerTogether_45 rfl rfl (vp_in_nI (by omega) (by decide)) (q := 46) rfl ?_
          refine g_eqi C (y := sd (k + 1)) (by rw [nI_clamp (by omega)]) ?_
          refine g_eqi C (y := nI (s (k + 1))) ((hs (k + 1)).1) ?_
          refine gcV_si C (n := 3) (As := [.int (nI k), .int (nI (s k)), .int (nI (s (k + 1)))]) (st := [.int (sumI (lgP gr li nu s) k)]) 3 (fun h => h) dX1_powerTogether_46 rfl rfl gX1_powerTogether_X3_powerOf (c_X3_powerOf l D cI cJ cZ a hA nA gr li st sp n m nu ev od fp ti wc wu sc pv su sd t k (s k) (s (k + 1)) (by first | assumption | omega)) rfl rfl rfl (by decide +kernel) ⟨Nat.le_of_ble_eq_true rfl, Nat.le_of_ble_eq_true rfl⟩ rfl rfl (Nat.le_of_ble_eq_true rfl) FT_b FT_h ⟨Nat.le_of_ble_eq_true rfl, Nat.le_of_ble_eq_true rfl⟩ (q := 49) rfl (fun r_46 h_46 => ?_)
          subst h_46
          refine g_iadd C dX1_powerTogether_49 (q := 50) rfl ?_
          refine g_eqi C (y := sumI (lgP gr li nu s) (k + 1)) (sumI_s (by first | exact if_pos (Classical.not_not.mp c_20) | exact if_neg c_20)) ?_
          refine g_istore_n C [(1, .int (sumI (lgP gr li nu s) (k + 1))), (2, .int (nI k)), (0, .ref (a 6))] dX1_powerTogether_50 rfl (by decide) rfl (q := 51) rfl ?_
          refine g_iinc C (z := 1) (nI (k + 1)) [(2, .int (nI (k + 1))), (1, .int (sumI (lgP gr li nu s) (k + 1))), (0, .ref (a 6))] dX1_powerTogether_51 rfl (nI_add k 1) (by decide) rfl (q := 54) rfl ?_
          refine g_goto C (q := 4) dX1_powerTogether_54 (by decide) ?_
          exact ih_4 (k + 1) (by first | assumption | omega) (by omega)
        · replace c_20 := ite_n0 c_20
          refine g_iconst C (nI 0) dX1_powerTogether_23 (by decide) (q := 24) rfl ?_
          refine g_goto C (q := 49) dX1_powerTogether_24 (by decide) ?_
          refine g_iadd C dX1_powerTogether_49 (q := 50) rfl ?_
          refine g_eqi C (y := sumI (lgP gr li nu s) (k + 1)) (sumI_s (by first | exact if_pos (Classical.not_not.mp c_20) | exact if_neg c_20)) ?_
          refine g_istore_n C [(1, .int (sumI (lgP gr li nu s) (k + 1))), (2, .int (nI k)), (0, .ref (a 6))] dX1_powerTogether_50 rfl (by decide) rfl (q := 51) rfl ?_
          refine g_iinc C (z := 1) (nI (k + 1)) [(2, .int (nI (k + 1))), (1, .int (sumI (lgP gr li nu s) (k + 1))), (0, .ref (a 6))] dX1_powerTogether_51 rfl (nI_add k 1) (by decide) rfl (q := 54) rfl ?_
          refine g_goto C (q := 4) dX1_powerTogether_54 (by decide) ?_
          exact ih_4 (k + 1) (by first | assumption | omega) (by omega)
  exact lp_4 _ 0 (by first | assumption | omega) (Nat.lt_succ_self _)
set_option maxHeartbeats 4000000 in
set_option maxRecDepth 100000 in
theorem c_X1_faultCount (l : Launch) (D : va_G) (cI cJ cZ : ClassId) (a : Nat → Nat) (hA nA : Nat) (gr li st sp : Nat → Int32) (n m : Nat) (nu : Nat → Int32) (ev od : Nat → Int64) (fp ti : Nat → Int32) (wc : Nat → Int64) (wu : Int32) (sc pv : Nat → Int64) (su : Int32) (sd : Nat → Int32) (t : Nat) (s : Nat → Nat) (ht : t ≤ 17) (hs : ∀ j, sd j = nI (s j) ∧ s j ≤ 6) : Met l yX1_faultCount wsX1_faultCount { frames := 4, cells := 0, slots := 0, locals := 90 } (gPc D (tyT cI cJ cZ) (wA a (a 11) (a 12)) FT (wC cI cJ cZ a hA nA gr li st sp (nI n) (nI m) nu ev od fp ti wc wu sc pv su sd (nI t)) [.ref (a 6)]) (vp_Si (fun r => r = sumI (lgF gr li nu s) (t - 1))) 0 0 (fun _ => False) := by
  refine gs_si (cc := cX1_faultCount) (nL := 3) (ty := .int) (by decide) rfl (Nat.le_of_ble_eq_true rfl) (fun G C hret => ?_)
  show G 0 0 (wC cI cJ cZ a hA nA gr li st sp (nI n) (nI m) nu ev od fp ti wc wu sc pv su sd (nI t)) [(0, .ref (a 6))] 0 []
  refine g_iconst C (nI 0) dX1_faultCount_0 (by decide) (q := 1) rfl ?_
  refine g_istore_n C [(1, .int (nI 0)), (0, .ref (a 6))] dX1_faultCount_1 rfl (by decide) rfl (q := 2) rfl ?_
  refine g_iconst C (nI 0) dX1_faultCount_2 (by decide) (q := 3) rfl ?_
  refine g_istore_n C [(2, .int (nI 0)), (1, .int (nI 0)), (0, .ref (a 6))] dX1_faultCount_3 rfl (by decide) rfl (q := 4) rfl ?_
  have lp_4 : ∀ (N : Nat) (k : Nat), (k ≤ t - 1) → t - k < N → G 0 0 (wC cI cJ cZ a hA nA gr li st sp (nI n) (nI m) nu ev od fp ti wc wu sc pv su sd (nI t)) [(2, .int (nI k)), (1, .int (sumI (lgF gr li nu s) k)), (0, .ref (a 6))] 4 [] := by
    intro N
    induction N with
    | zero => intro k _ hmu; exact absurd hmu (Nat.not_lt_zero _)
    | succ N ih_4 =>
      intro k hk hmu
      refine g_iload_n C 0 dX1_faultCount_4 rfl rfl rfl (q := 5) ?_
      refine g_iconst C (nI 1) dX1_faultCount_5 (by decide) (q := 6) rfl ?_
      refine g_iadd C dX1_faultCount_6 (q := 7) rfl ?_
      refine g_eqi C (y := nI (k + 1)) (nI_add k 1) ?_
      refine g_aload_n C 2 dX1_faultCount_7 rfl rfl rfl (q := 8) ?_
      refine g_get C 6 3 dX1_faultCount_8 (Cn := RX1) (T := TX1) (N := 4) (fun _ h => List.mem_cons_of_mem _ (List.mem_append_left _ (List.mem_append_left _ (List.mem_append_left _ (List.mem_append_right _ h))))) rfl rfl (by decide) (List.mem_cons_of_mem _ (List.mem_append_left _ (List.mem_append_left _ (List.mem_append_left _ (List.mem_append_left _ (List.mem_of_getElem? (i := 0) rfl)))))) rfl (q := 11) rfl ?_
      refine g_icmp_ge C (t := 36) dX1_faultCount_11 (by decide) (q := 14) rfl (fun c_11 => ?_) (fun c_11 => ?_)
      · rw [nI_leI (by omega) (by omega)] at c_11
        refine g_iload_n C 1 dX1_faultCount_36 rfl rfl rfl (q := 37) ?_
        exact hret _ 37 _ _ dX1_faultCount_37 rfl (by rw [show k = t - 1 by omega])
      · rw [nI_leI (by omega) (by omega)] at c_11
        refine g_iload_n C 1 dX1_faultCount_14 rfl rfl rfl (q := 15) ?_
        refine g_aload_n C 2 dX1_faultCount_15 rfl rfl rfl (q := 16) ?_
        refine g_iload_n C 0 dX1_faultCount_16 rfl rfl rfl (q := 17) ?_
        refine gcV_si C (n := 1) (As := [.int (nI k)]) (st := [.int (sumI (lgF gr li nu s) k)]) 6 (fun h => h) dX1_faultCount_17 rfl rfl gX1_faultCount_X1_isFaulty (c_X1_isFaulty l D cI cJ cZ a hA nA gr li st sp n m nu ev od fp ti wc wu sc pv su sd t k s (by first | assumption | omega) (by first | assumption | omega)) rfl rfl rfl (by decide +kernel) ⟨Nat.le_of_ble_eq_true rfl, Nat.le_of_ble_eq_true rfl⟩ rfl rfl (Nat.le_of_ble_eq_true rfl) FT_b FT_h ⟨Nat.le_of_ble_eq_true rfl, Nat.le_of_ble_eq_true rfl⟩ (q := 20) rfl (fun r_17 h_17 => ?_)
        subst h_17
        refine g_if_eq C (t := 27) dX1_faultCount_20 (by decide) (q := 23) rfl (fun c_20 => ?_) (fun c_20 => ?_)
        · replace c_20 := ite_e0 c_20
          refine g_iconst C (nI 0) dX1_faultCount_27 (by decide) (q := 28) rfl ?_
          refine g_iadd C dX1_faultCount_28 (q := 29) rfl ?_
          refine g_eqi C (y := sumI (lgF gr li nu s) (k + 1)) (sumI_s (by first | exact if_pos (Classical.not_not.mp c_20) | exact if_neg c_20)) ?_
          refine g_istore_n C [(1, .int (sumI (lgF gr li nu s) (k + 1))), (2, .int (nI k)), (0, .ref (a 6))] dX1_faultCount_29 rfl (by decide) rfl (q := 30) rfl ?_
          refine g_iinc C (z := 1) (nI (k + 1)) [(2, .int (nI (k + 1))), (1, .int (sumI (lgF gr li nu s) (k + 1))), (0, .ref (a 6))] dX1_faultCount_30 rfl (nI_add k 1) (by decide) rfl (q := 33) rfl ?_
          refine g_goto C (q := 4) dX1_faultCount_33 (by decide) ?_
          exact ih_4 (k + 1) (by first | assumption | omega) (by omega)
        · replace c_20 := ite_n0 c_20
          refine g_iconst C (nI 1) dX1_faultCount_23 (by decide) (q := 24) rfl ?_
          refine g_goto C (q := 28) dX1_faultCount_24 (by decide) ?_
          refine g_iadd C dX1_faultCount_28 (q := 29) rfl ?_
          refine g_eqi C (y := sumI (lgF gr li nu s) (k + 1)) (sumI_s (by first | exact if_pos (Classical.not_not.mp c_20) | exact if_neg c_20)) ?_
          refine g_istore_n C [(1, .int (sumI (lgF gr li nu s) (k + 1))), (2, .int (nI k)), (0, .ref (a 6))] dX1_faultCount_29 rfl (by decide) rfl (q := 30) rfl ?_
          refine g_iinc C (z := 1) (nI (k + 1)) [(2, .int (nI (k + 1))), (1, .int (sumI (lgF gr li nu s) (k + 1))), (0, .ref (a 6))] dX1_faultCount_30 rfl (nI_add k 1) (by decide) rfl (q := 33) rfl ?_
          refine g_goto C (q := 4) dX1_faultCount_33 (by decide) ?_
          exact ih_4 (k + 1) (by first | assumption | omega) (by omega)
  exact lp_4 _ 0 (by first | assumption | omega) (Nat.lt_succ_self _)
set_option maxHeartbeats 4000000 in
set_option maxRecDepth 100000 in
theorem c_X1_firstFaultCell (l : Launch) (D : va_G) (cI cJ cZ : ClassId) (a : Nat → Nat) (hA nA : Nat) (gr li st sp : Nat → Int32) (n m : Nat) (nu : Nat → Int32) (ev od : Nat → Int64) (fp ti : Nat → Int32) (wc : Nat → Int64) (wu : Int32) (sc pv : Nat → Int64) (su : Int32) (sd : Nat → Int32) (t : Nat) (s : Nat → Nat) (ht : t ≤ 17) (hs : ∀ j, sd j = nI (s j) ∧ s j ≤ 6) : Met l yX1_firstFaultCell wsX1_firstFaultCell { frames := 4, cells := 0, slots := 0, locals := 90 } (gPc D (tyT cI cJ cZ) (wA a (a 11) (a 12)) FT (wC cI cJ cZ a hA nA gr li st sp (nI n) (nI m) nu ev od fp ti wc wu sc pv su sd (nI t)) [.ref (a 6)]) (vp_Si (fun r => r = ffU (lgF gr li nu s) (t - 1))) 0 0 (fun _ => False) := by
  refine gs_si (cc := cX1_firstFaultCell) (nL := 2) (ty := .int) (by decide) rfl (Nat.le_of_ble_eq_true rfl) (fun G C hret => ?_)
  show G 0 0 (wC cI cJ cZ a hA nA gr li st sp (nI n) (nI m) nu ev od fp ti wc wu sc pv su sd (nI t)) [(0, .ref (a 6))] 0 []
  refine g_iconst C (nI 0) dX1_firstFaultCell_0 (by decide) (q := 1) rfl ?_
  refine g_istore_n C [(1, .int (nI 0)), (0, .ref (a 6))] dX1_firstFaultCell_1 rfl (by decide) rfl (q := 2) rfl ?_
  have lp_2 : ∀ (N : Nat) (k : Nat), (k ≤ t - 1) → (ffU (lgF gr li nu s) k = -1000000) → t - k < N → G 0 0 (wC cI cJ cZ a hA nA gr li st sp (nI n) (nI m) nu ev od fp ti wc wu sc pv su sd (nI t)) [(1, .int (nI k)), (0, .ref (a 6))] 2 [] := by
    intro N
    induction N with
    | zero => intro k _ _ hmu; exact absurd hmu (Nat.not_lt_zero _)
    | succ N ih_2 =>
      intro k hk hz hmu
      refine g_iload_n C 0 dX1_firstFaultCell_2 rfl rfl rfl (q := 3) ?_
      refine g_iconst C (nI 1) dX1_firstFaultCell_3 (by decide) (q := 4) rfl ?_
      refine g_iadd C dX1_firstFaultCell_4 (q := 5) rfl ?_
      refine g_eqi C (y := nI (k + 1)) (nI_add k 1) ?_
      refine g_aload_n C 1 dX1_firstFaultCell_5 rfl rfl rfl (q := 6) ?_
      refine g_get C 6 3 dX1_firstFaultCell_6 (Cn := RX1) (T := TX1) (N := 4) (fun _ h => List.mem_cons_of_mem _ (List.mem_append_left _ (List.mem_append_left _ (List.mem_append_left _ (List.mem_append_right _ h))))) rfl rfl (by decide) (List.mem_cons_of_mem _ (List.mem_append_left _ (List.mem_append_left _ (List.mem_append_left _ (List.mem_append_left _ (List.mem_of_getElem? (i := 0) rfl)))))) rfl (q := 9) rfl ?_
      refine g_icmp_ge C (t := 28) dX1_firstFaultCell_9 (by decide) (q := 12) rfl (fun c_9 => ?_) (fun c_9 => ?_)
      · rw [nI_leI (by omega) (by omega)] at c_9
        refine g_ldc C (v := (-1000000)) dX1_firstFaultCell_28 (List.mem_cons_of_mem _ (List.mem_append_left _ (List.mem_append_left _ (List.mem_append_left _ (List.mem_append_left _ (List.mem_of_getElem? (i := 1) rfl)))))) (q := 30) rfl ?_
        exact hret _ 30 _ _ dX1_firstFaultCell_30 rfl (by rw [← hz, show k = t - 1 by omega])
      · rw [nI_leI (by omega) (by omega)] at c_9
        refine g_aload_n C 1 dX1_firstFaultCell_12 rfl rfl rfl (q := 13) ?_
        refine g_iload_n C 0 dX1_firstFaultCell_13 rfl rfl rfl (q := 14) ?_
        refine gcV_si C (n := 1) (As := [.int (nI k)]) (st := []) 6 (fun h => h) dX1_firstFaultCell_14 rfl rfl gX1_firstFaultCell_X1_isFaulty (c_X1_isFaulty l D cI cJ cZ a hA nA gr li st sp n m nu ev od fp ti wc wu sc pv su sd t k s (by first | assumption | omega) (by first | assumption | omega)) rfl rfl rfl (by decide +kernel) ⟨Nat.le_of_ble_eq_true rfl, Nat.le_of_ble_eq_true rfl⟩ rfl rfl (Nat.le_of_ble_eq_true rfl) FT_b FT_h ⟨Nat.le_of_ble_eq_true rfl, Nat.le_of_ble_eq_true rfl⟩ (q := 17) rfl (fun r_14 h_14 => ?_)
        subst h_14
        refine g_if_eq C (t := 22) dX1_firstFaultCell_17 (by decide) (q := 20) rfl (fun c_17 => ?_) (fun c_17 => ?_)
        · replace c_17 := ite_e0 c_17
          refine g_iinc C (z := 0) (nI (k + 1)) [(1, .int (nI (k + 1))), (0, .ref (a 6))] dX1_firstFaultCell_22 rfl (nI_add k 1) (by decide) rfl (q := 25) rfl ?_
          refine g_goto C (q := 2) dX1_firstFaultCell_25 (by decide) ?_
          exact ih_2 (k + 1) (by first | assumption | omega) (by rw [ffU, if_pos hz]; exact if_pos (if_pos (Classical.not_not.mp c_17))) (by omega)
        · replace c_17 := ite_n0 c_17
          refine g_iload_n C 0 dX1_firstFaultCell_20 rfl rfl rfl (q := 21) ?_
          exact hret _ 21 _ _ dX1_firstFaultCell_21 rfl (by have e : ffU (lgF gr li nu s) (k + 1) = nI k := (by rw [ffU, if_pos hz]; exact if_neg (by unfold lgF; rw [if_neg c_17]; decide)); have e2 := ffU_stay (j := t - 1 - (k + 1)) (k := k + 1) (F := lgF gr li nu s) (by rw [e]; exact nI_nn (by omega)); rw [show k + 1 + (t - 1 - (k + 1)) = t - 1 by omega] at e2; rw [e2, e])
  exact lp_2 _ 0 (by first | assumption | omega) rfl (Nat.lt_succ_self _)
set_option maxHeartbeats 4000000 in
set_option maxRecDepth 100000 in
theorem c_X1_stopsPassed (l : Launch) (D : va_G) (cI cJ cZ : ClassId) (a : Nat → Nat) (hA nA : Nat) (gr li st sp : Nat → Int32) (n m : Nat) (nu : Nat → Int32) (ev od : Nat → Int64) (fp ti : Nat → Int32) (wc : Nat → Int64) (wu : Int32) (sc pv : Nat → Int64) (su : Int32) (sd : Nat → Int32) (t : Nat) (s : Nat → Nat) (ht : t ≤ 17) (hs : ∀ j, sd j = nI (s j) ∧ s j ≤ 6) (hst : ∀ j, st j = nI 0 ∨ st j = nI 1) : Met l yX1_stopsPassed wsX1_stopsPassed { frames := 1, cells := 0, slots := 0, locals := 21 } (gPc D (tyT cI cJ cZ) (wA a (a 11) (a 12)) FT (wC cI cJ cZ a hA nA gr li st sp (nI n) (nI m) nu ev od fp ti wc wu sc pv su sd (nI t)) [.ref (a 6)]) (vp_Si (fun r => r = sumI (lgS st s) t)) 0 0 (fun _ => False) := by
  refine gs_si (cc := cX1_stopsPassed) (nL := 3) (ty := .int) (by decide) rfl (Nat.le_of_ble_eq_true rfl) (fun G C hret => ?_)
  show G 0 0 (wC cI cJ cZ a hA nA gr li st sp (nI n) (nI m) nu ev od fp ti wc wu sc pv su sd (nI t)) [(0, .ref (a 6))] 0 []
  refine g_iconst C (nI 0) dX1_stopsPassed_0 (by decide) (q := 1) rfl ?_
  refine g_istore_n C [(1, .int (nI 0)), (0, .ref (a 6))] dX1_stopsPassed_1 rfl (by decide) rfl (q := 2) rfl ?_
  refine g_iconst C (nI 0) dX1_stopsPassed_2 (by decide) (q := 3) rfl ?_
  refine g_istore_n C [(2, .int (nI 0)), (1, .int (nI 0)), (0, .ref (a 6))] dX1_stopsPassed_3 rfl (by decide) rfl (q := 4) rfl ?_
  have lp_4 : ∀ (N : Nat) (k : Nat), (k ≤ t) → t - k < N → G 0 0 (wC cI cJ cZ a hA nA gr li st sp (nI n) (nI m) nu ev od fp ti wc wu sc pv su sd (nI t)) [(2, .int (nI k)), (1, .int (sumI (lgS st s) k)), (0, .ref (a 6))] 4 [] := by
    intro N
    induction N with
    | zero => intro k _ hmu; exact absurd hmu (Nat.not_lt_zero _)
    | succ N ih_4 =>
      intro k hk hmu
      have hv := (hs k).2
      refine g_iload_n C 0 dX1_stopsPassed_4 rfl rfl rfl (q := 5) ?_
      refine g_aload_n C 2 dX1_stopsPassed_5 rfl rfl rfl (q := 6) ?_
      refine g_get C 6 3 dX1_stopsPassed_6 (Cn := RX1) (T := TX1) (N := 4) (fun _ h => List.mem_cons_of_mem _ (List.mem_append_left _ (List.mem_append_right _ h))) rfl rfl (by decide) (List.mem_cons_of_mem _ (List.mem_append_left _ (List.mem_append_left _ (List.mem_of_getElem? (i := 0) rfl)))) rfl (q := 9) rfl ?_
      refine g_icmp_ge C (t := 46) dX1_stopsPassed_9 (by decide) (q := 12) rfl (fun c_9 => ?_) (fun c_9 => ?_)
      · rw [nI_leI (by omega) (by omega)] at c_9
        refine g_iload_n C 1 dX1_stopsPassed_46 rfl rfl rfl (q := 47) ?_
        exact hret _ 47 _ _ dX1_stopsPassed_47 rfl (by rw [show k = t by omega])
      · rw [nI_leI (by omega) (by omega)] at c_9
        refine g_iload_n C 1 dX1_stopsPassed_12 rfl rfl rfl (q := 13) ?_
        refine g_aload_n C 2 dX1_stopsPassed_13 rfl rfl rfl (q := 14) ?_
        refine g_get C 6 0 dX1_stopsPassed_14 (Cn := RX1) (T := TX1) (N := 4) (fun _ h => List.mem_cons_of_mem _ (List.mem_append_left _ (List.mem_append_right _ h))) rfl rfl (by decide) (List.mem_cons_of_mem _ (List.mem_append_left _ (List.mem_append_left _ (List.mem_of_getElem? (i := 1) rfl)))) rfl (q := 17) rfl ?_
        refine g_iload_n C 0 dX1_stopsPassed_17 rfl rfl rfl (q := 18) ?_
        refine gcV_si C (n := 1) (As := [.int (nI k)]) (st := [.int (sumI (lgS st s) k)]) 1 (fun h => h) dX1_stopsPassed_18 rfl rfl gX1_stopsPassed_X0_isStop (c_X0_isStop l D cI cJ cZ a hA nA gr li st sp n m nu ev od fp ti wc wu sc pv su sd t k (by first | assumption | omega) (by first | assumption | omega)) rfl rfl rfl (by decide +kernel) ⟨Nat.le_of_ble_eq_true rfl, Nat.le_of_ble_eq_true rfl⟩ rfl rfl (Nat.le_of_ble_eq_true rfl) FT_b FT_h ⟨Nat.le_of_ble_eq_true rfl, Nat.le_of_ble_eq_true rfl⟩ (q := 21) rfl (fun r_18 h_18 => ?_)
        subst h_18
        refine g_if_eq C (t := 37) dX1_stopsPassed_21 (by decide) (q := 24) rfl (fun c_21 => ?_) (fun c_21 => ?_)
        · refine g_iconst C (nI 0) dX1_stopsPassed_37 (by decide) (q := 38) rfl ?_
          refine g_iadd C dX1_stopsPassed_38 (q := 39) rfl ?_
          refine g_eqi C (y := sumI (lgS st s) (k + 1)) (sumI_s (by show (if ¬ st k = 0 ∧ ¬ s k = 0 then nI 1 else nI 0) = _; simp [*])) ?_
          refine g_istore_n C [(1, .int (sumI (lgS st s) (k + 1))), (2, .int (nI k)), (0, .ref (a 6))] dX1_stopsPassed_39 rfl (by decide) rfl (q := 40) rfl ?_
          refine g_iinc C (z := 1) (nI (k + 1)) [(2, .int (nI (k + 1))), (1, .int (sumI (lgS st s) (k + 1))), (0, .ref (a 6))] dX1_stopsPassed_40 rfl (nI_add k 1) (by decide) rfl (q := 43) rfl ?_
          refine g_goto C (q := 4) dX1_stopsPassed_43 (by decide) ?_
          exact ih_4 (k + 1) (by first | assumption | omega) (by omega)
        · refine g_aload_n C 2 dX1_stopsPassed_24 rfl rfl rfl (q := 25) ?_
          refine g_get C 6 2 dX1_stopsPassed_25 (Cn := RX1) (T := TX1) (N := 4) (fun _ h => List.mem_cons_of_mem _ (List.mem_append_left _ (List.mem_append_right _ h))) rfl rfl (by decide) (List.mem_cons_of_mem _ (List.mem_append_left _ (List.mem_append_left _ (List.mem_of_getElem? (i := 2) rfl)))) rfl (q := 28) rfl ?_
          refine g_iload_n C 0 dX1_stopsPassed_28 rfl rfl rfl (q := 29) ?_
          refine g_iald C 19 0 dX1_stopsPassed_29 rfl rfl (vp_in_nI (by omega) (by decide)) (q := 30) rfl ?_
          refine g_eqi C (y := sd k) (by rw [nI_clamp (by omega)]) ?_
          refine g_eqi C (y := nI (s k)) ((hs k).1) ?_
          refine g_if_eq C (t := 37) dX1_stopsPassed_30 (by decide) (q := 33) rfl (fun c_30 => ?_) (fun c_30 => ?_)
          · rw [← nI_0, nI_eq (by omega) (by omega)] at c_30
            refine g_iconst C (nI 0) dX1_stopsPassed_37 (by decide) (q := 38) rfl ?_
            refine g_iadd C dX1_stopsPassed_38 (q := 39) rfl ?_
            refine g_eqi C (y := sumI (lgS st s) (k + 1)) (sumI_s (by show (if ¬ st k = 0 ∧ ¬ s k = 0 then nI 1 else nI 0) = _; simp [*])) ?_
            refine g_istore_n C [(1, .int (sumI (lgS st s) (k + 1))), (2, .int (nI k)), (0, .ref (a 6))] dX1_stopsPassed_39 rfl (by decide) rfl (q := 40) rfl ?_
            refine g_iinc C (z := 1) (nI (k + 1)) [(2, .int (nI (k + 1))), (1, .int (sumI (lgS st s) (k + 1))), (0, .ref (a 6))] dX1_stopsPassed_40 rfl (nI_add k 1) (by decide) rfl (q := 43) rfl ?_
            refine g_goto C (q := 4) dX1_stopsPassed_43 (by decide) ?_
            exact ih_4 (k + 1) (by first | assumption | omega) (by omega)
          · rw [← nI_0, nI_eq (by omega) (by omega)] at c_30
            refine g_iconst C (nI 1) dX1_stopsPassed_33 (by decide) (q := 34) rfl ?_
            refine g_goto C (q := 38) dX1_stopsPassed_34 (by decide) ?_
            refine g_iadd C dX1_stopsPassed_38 (q := 39) rfl ?_
            refine g_eqi C (y := sumI (lgS st s) (k + 1)) (sumI_s (by show (if ¬ st k = 0 ∧ ¬ s k = 0 then nI 1 else nI 0) = _; simp [*])) ?_
            refine g_istore_n C [(1, .int (sumI (lgS st s) (k + 1))), (2, .int (nI k)), (0, .ref (a 6))] dX1_stopsPassed_39 rfl (by decide) rfl (q := 40) rfl ?_
            refine g_iinc C (z := 1) (nI (k + 1)) [(2, .int (nI (k + 1))), (1, .int (sumI (lgS st s) (k + 1))), (0, .ref (a 6))] dX1_stopsPassed_40 rfl (nI_add k 1) (by decide) rfl (q := 43) rfl ?_
            refine g_goto C (q := 4) dX1_stopsPassed_43 (by decide) ?_
            exact ih_4 (k + 1) (by first | assumption | omega) (by omega)
  exact lp_4 _ 0 (by first | assumption | omega) (Nat.lt_succ_self _)
