/-! Line over its own five cells -/
def wL (cI cZ : ClassId) (a : Nat → Nat) (gr li st sp : Nat → Int32) (ce le : Int32) : va_W :=
  [(a 1, .inr (0, [.ref (a 7), .ref (a 8), .ref (a 9), .ref (a 10), .int ce, .int le])),
   (a 7, .inl (cI, 16, .inl gr)), (a 8, .inl (cI, 16, .inl li)), (a 9, .inl (cZ, 17, .inl st)), (a 10, .inl (cI, 17, .inl sp))]
set_option maxHeartbeats 4000000 in
set_option maxRecDepth 100000 in
theorem cL_X0_findLegs (l : Launch) (D : va_G) (cI cJ cZ : ClassId) (a : Nat → Nat) (gr li st sp : Nat → Int32) (n : Nat) (le : Int32) (A : Nat → Prop) (hn : n ≤ 16) (h0 : ¬ st 0 = 0) : Met l yX0_findLegs wsX0_findLegs { frames := 0, cells := 0, slots := 0, locals := 0 } (gPc D (tyT cI cJ cZ) (A) FT (wL cI cZ a gr li st sp (nI n) le) [.ref (a 1)]) (va_Qv (fun (u : (Nat → Int32)) => ∀ p, p ≤ n → ¬ st p = 0 → u (cnt st p) = nI p) (fun u tS => va_P D vwCl ((fun (u : (Nat → Int32)) => wL cI cZ a gr li st u (nI n) (nI (cnt st (n + 1) - 1))) u) tS.heap ∧ va_D (A) ((fun (u : (Nat → Int32)) => wL cI cZ a gr li st u (nI n) (nI (cnt st (n + 1) - 1))) u)) (A)) 0 0 (A) := by
  refine gs_qv (cc := cX0_findLegs) (nL := 3) (W' := fun (u : (Nat → Int32)) => wL cI cZ a gr li st u (nI n) (nI (cnt st (n + 1) - 1))) (by decide) rfl (Nat.le_of_ble_eq_true rfl) (fun G C hret => ?_)
  show G 0 0 (wL cI cZ a gr li st sp (nI n) le) [(0, .ref (a 1))] 0 []
  refine g_iconst C (nI 0) dX0_findLegs_0 (by decide) (q := 1) rfl ?_
  refine g_istore_n C [(1, .int (nI 0)), (0, .ref (a 1))] dX0_findLegs_1 rfl (by decide) rfl (q := 2) rfl ?_
  refine g_iconst C (nI 0) dX0_findLegs_2 (by decide) (q := 3) rfl ?_
  refine g_istore_n C [(2, .int (nI 0)), (1, .int (nI 0)), (0, .ref (a 1))] dX0_findLegs_3 rfl (by decide) rfl (q := 4) rfl ?_
  have lp_4 : ∀ (N : Nat) (k : Nat) (f : Nat → Int32), (k ≤ n + 1) → (∀ p, p < k → ¬ st p = 0 → f (cnt st p) = nI p) → n + 1 - k < N → G 0 0 (wL cI cZ a gr li st f (nI n) le) [(2, .int (nI k)), (1, .int (nI (cnt st k))), (0, .ref (a 1))] 4 [] := by
    intro N
    induction N with
    | zero => intro k f _ _ hmu; exact absurd hmu (Nat.not_lt_zero _)
    | succ N ih_4 =>
      intro k f hk hf hmu
      have hcl := cnt_le st k
      refine g_iload_n C 0 dX0_findLegs_4 rfl rfl rfl (q := 5) ?_
      refine g_aload_n C 2 dX0_findLegs_5 rfl rfl rfl (q := 6) ?_
      refine g_get C 0 4 dX0_findLegs_6 (Cn := RX0) (T := TX0) (N := 6) (fun _ h => List.mem_cons_of_mem _ (List.mem_append_right _ h)) rfl rfl (by decide) (List.mem_cons_of_mem _ (List.mem_append_left _ (List.mem_of_getElem? (i := 0) rfl))) rfl (q := 9) rfl ?_
      refine g_icmp_gt C (t := 37) dX0_findLegs_9 (by decide) (q := 12) rfl (fun c_9 => ?_) (fun c_9 => ?_)
      · rw [nI_ltI (by omega) (by omega)] at c_9
        obtain rfl : k = n + 1 := by omega
        show G 0 0 (wL cI cZ a gr li st f (nI n) le) [(2, .int (nI (n + 1))), (1, .int (nI (cnt st (n + 1)))), (0, .ref (a 1))] 37 []
        refine g_aload_n C 2 dX0_findLegs_37 rfl rfl rfl (q := 38) ?_
        refine g_iload_n C 1 dX0_findLegs_38 rfl rfl rfl (q := 39) ?_
        refine g_iconst C (nI 1) dX0_findLegs_39 (by decide) (q := 40) rfl ?_
        refine g_isub C dX0_findLegs_40 (q := 41) rfl ?_
        refine g_eqi C (y := nI ((cnt st (n + 1)) - 1)) (pk_sub (by have := cnt_mono st (show 0 + 1 ≤ n + 1 by omega); have := cnt_st h0; omega)) ?_
        refine g_put C 0 5 (wL cI cZ a gr li st f (nI n) (nI ((cnt st (n + 1)) - 1))) dX0_findLegs_41 (Cn := RX0) (T := TX0) (N := 6) (fun _ h => List.mem_cons_of_mem _ (List.mem_append_right _ h)) tyX0_ok nmX0 rfl rfl (by decide) (List.mem_cons_of_mem _ (List.mem_append_left _ (List.mem_of_getElem? (i := 3) rfl))) rfl (ty := .int) (by decide +kernel) rfl rfl (Nat.le_of_ble_eq_true rfl) rfl (q := 44) rfl ?_
        exact hret f 44 _ dX0_findLegs_44 (fun p hp hs => hf p (by omega) hs)
      · rw [nI_ltI (by omega) (by omega)] at c_9
        refine g_aload_n C 2 dX0_findLegs_12 rfl rfl rfl (q := 13) ?_
        refine g_get C 0 2 dX0_findLegs_13 (Cn := RX0) (T := TX0) (N := 6) (fun _ h => List.mem_cons_of_mem _ (List.mem_append_right _ h)) rfl rfl (by decide) (List.mem_cons_of_mem _ (List.mem_append_left _ (List.mem_of_getElem? (i := 1) rfl))) rfl (q := 16) rfl ?_
        refine g_iload_n C 0 dX0_findLegs_16 rfl rfl rfl (q := 17) ?_
        refine g_zald C 3 2 dX0_findLegs_17 rfl rfl (vp_in_nI (by omega) (by decide)) (q := 18) rfl ?_
        refine g_eqi C (y := st k) (by rw [nI_clamp (by omega)]) ?_
        refine g_if_eq C (t := 31) dX0_findLegs_18 (by decide) (q := 21) rfl (fun c_18 => ?_) (fun c_18 => ?_)
        · have ec : nI (cnt st k) = nI (cnt st (k + 1)) := by rw [cnt_sz c_18]
          rw [ec]
          refine g_iinc C (z := 0) (nI (k + 1)) [(2, .int (nI (k + 1))), (1, .int (nI (cnt st (k + 1)))), (0, .ref (a 1))] dX0_findLegs_31 rfl (nI_add k 1) (by decide) rfl (q := 34) rfl ?_
          refine g_goto C (q := 4) dX0_findLegs_34 (by decide) ?_
          exact ih_4 (k + 1) f (by first | assumption | omega) (by intro p hp hs; by_cases e : p = k; (subst e; first | exact pk_us | exact absurd c_18 hs); (first | (rw [pk_un (fun q => e (cnt_inj hs c_18 q))]; exact hf p (by omega) hs) | exact hf p (by omega) hs)) (by omega)
        · refine g_aload_n C 2 dX0_findLegs_21 rfl rfl rfl (q := 22) ?_
          refine g_get C 0 3 dX0_findLegs_22 (Cn := RX0) (T := TX0) (N := 6) (fun _ h => List.mem_cons_of_mem _ (List.mem_append_right _ h)) rfl rfl (by decide) (List.mem_cons_of_mem _ (List.mem_append_left _ (List.mem_of_getElem? (i := 2) rfl))) rfl (q := 25) rfl ?_
          refine g_iload_n C 1 dX0_findLegs_25 rfl rfl rfl (q := 26) ?_
          refine g_iload_n C 0 dX0_findLegs_26 rfl rfl rfl (q := 27) ?_
          refine g_iast C 4 0 (wL cI cZ a gr li st (upd f (cnt st k) (nI k)) (nI n) le) dX0_findLegs_27 rfl rfl (vp_in_nI (by omega) (by decide)) (by rw [nI_clamp (by omega)]; rfl) (q := 28) rfl ?_
          refine g_iinc C (z := 1) (nI ((cnt st k) + 1)) [(1, .int (nI ((cnt st k) + 1))), (2, .int (nI k)), (0, .ref (a 1))] dX0_findLegs_28 rfl (nI_add (cnt st k) 1) (by decide) rfl (q := 31) rfl ?_
          have ec : nI ((cnt st k) + 1) = nI (cnt st (k + 1)) := by rw [cnt_st c_18]
          rw [ec]
          refine g_iinc C (z := 1) (nI (k + 1)) [(2, .int (nI (k + 1))), (1, .int (nI (cnt st (k + 1)))), (0, .ref (a 1))] dX0_findLegs_31 rfl (nI_add k 1) (by decide) rfl (q := 34) rfl ?_
          refine g_goto C (q := 4) dX0_findLegs_34 (by decide) ?_
          exact ih_4 (k + 1) (upd f (cnt st k) (nI k)) (by first | assumption | omega) (by intro p hp hs; by_cases e : p = k; (subst e; first | exact pk_us | exact absurd c_18 hs); (first | (rw [pk_un (fun q => e (cnt_inj hs c_18 q))]; exact hf p (by omega) hs) | exact hf p (by omega) hs)) (by omega)
  exact lp_4 _ 0 sp (by first | assumption | omega) (fun p h => absurd h (Nat.not_lt_zero _)) (Nat.lt_succ_self _)
set_option maxHeartbeats 4000000 in
set_option maxRecDepth 100000 in
theorem cL_X0_lay (l : Launch) (D : va_G) (cI cJ cZ : ClassId) (a : Nat → Nat) (gr li st sp : Nat → Int32) (ce le : Int32) (z : Nat) (A : Nat → Prop) (hz : 1 ≤ z) (hz2 : z ≤ 16) : Met l yX0_lay wsX0_lay { frames := 1, cells := 0, slots := 0, locals := 22 } (gPc D (tyT cI cJ cZ) (A) FT (wL cI cZ a gr li st sp ce le) [.ref (a 1), .int (nI z)]) (va_Qv (fun (u : (Nat → Int32)) => ∀ p, p ≤ z → ¬ stL z p = 0 → u (cnt (stL z) p) = nI p) (fun u tS => va_P D vwCl ((fun (u : (Nat → Int32)) => wL cI cZ a (fun _ => nI 0) (fun _ => nI 6) (stL z) u (nI z) (nI (cnt (stL z) (z + 1) - 1))) u) tS.heap ∧ va_D (A) ((fun (u : (Nat → Int32)) => wL cI cZ a (fun _ => nI 0) (fun _ => nI 6) (stL z) u (nI z) (nI (cnt (stL z) (z + 1) - 1))) u)) (A)) 0 0 (A) := by
  refine gs_qv (cc := cX0_lay) (nL := 3) (W' := fun (u : (Nat → Int32)) => wL cI cZ a (fun _ => nI 0) (fun _ => nI 6) (stL z) u (nI z) (nI (cnt (stL z) (z + 1) - 1))) (by decide) rfl (Nat.le_of_ble_eq_true rfl) (fun G C hret => ?_)
  show G 0 0 (wL cI cZ a gr li st sp ce le) [(0, .ref (a 1)), (1, .int (nI z))] 0 []
  refine g_aload_n C 0 dX0_lay_0 rfl rfl rfl (q := 1) ?_
  refine g_iload_n C 1 dX0_lay_1 rfl rfl rfl (q := 2) ?_
  refine g_put C 0 4 (wL cI cZ a gr li st sp (nI z) le) dX0_lay_2 (Cn := RX0) (T := TX0) (N := 6) (fun _ h => List.mem_cons_of_mem _ (List.mem_append_right _ h)) tyX0_ok nmX0 rfl rfl (by decide) (List.mem_cons_of_mem _ (List.mem_append_left _ (List.mem_of_getElem? (i := 0) rfl))) rfl (ty := .int) (by decide +kernel) rfl rfl (Nat.le_of_ble_eq_true rfl) rfl (q := 5) rfl ?_
  refine g_iconst C (nI 0) dX0_lay_5 (by decide) (q := 6) rfl ?_
  refine g_istore_n C [(2, .int (nI 0)), (0, .ref (a 1)), (1, .int (nI z))] dX0_lay_6 rfl (by decide) rfl (q := 7) rfl ?_
  have lp_7 : ∀ (N : Nat) (k : Nat) (f g : Nat → Int32), (k ≤ 16) → (∀ p, p < k → f p = nI 0) → (∀ p, p < k → g p = nI 6) → 16 - k < N → G 0 0 (wL cI cZ a f g st sp (nI z) le) [(2, .int (nI k)), (0, .ref (a 1)), (1, .int (nI z))] 7 [] := by
    intro N
    induction N with
    | zero => intro k f g _ _ _ hmu; exact absurd hmu (Nat.not_lt_zero _)
    | succ N ih_7 =>
      intro k f g hk hf hg hmu
      refine g_iload_n C 0 dX0_lay_7 rfl rfl rfl (q := 8) ?_
      refine g_bipush C (nI 16) dX0_lay_8 (by decide) (q := 10) rfl ?_
      refine g_icmp_ge C (t := 34) dX0_lay_10 (by decide) (q := 13) rfl (fun c_10 => ?_) (fun c_10 => ?_)
      · rw [nI_leI (by omega) (by omega)] at c_10
        refine g_arrI C (fun _ => nI 0) 1 (wL cI cZ a (fun _ => nI 0) g st sp (nI z) le) rfl (fun j hj => hf j (by omega)) rfl ?_
        refine g_arrI C (fun _ => nI 6) 2 (wL cI cZ a (fun _ => nI 0) (fun _ => nI 6) st sp (nI z) le) rfl (fun j hj => hg j (by omega)) rfl ?_
        refine g_iconst C (nI 0) dX0_lay_34 (by decide) (q := 35) rfl ?_
        refine g_istore_n C [(2, .int (nI 0)), (0, .ref (a 1)), (1, .int (nI z))] dX0_lay_35 rfl (by decide) rfl (q := 36) rfl ?_
        have lp_36 : ∀ (N : Nat) (k : Nat) (f2 : Nat → Int32), (k ≤ 17) → (∀ p, p < k → f2 p = stL z p) → 17 - k < N → G 0 0 (wL cI cZ a (fun _ => nI 0) (fun _ => nI 6) f2 sp (nI z) le) [(2, .int (nI k)), (0, .ref (a 1)), (1, .int (nI z))] 36 [] := by
          intro N
          induction N with
          | zero => intro k f2 _ _ hmu; exact absurd hmu (Nat.not_lt_zero _)
          | succ N ih_36 =>
            intro k f2 hk hf2 hmu
            refine g_iload_n C 0 dX0_lay_36 rfl rfl rfl (q := 37) ?_
            refine g_bipush C (nI 16) dX0_lay_37 (by decide) (q := 39) rfl ?_
            refine g_icmp_gt C (t := 68) dX0_lay_39 (by decide) (q := 42) rfl (fun c_39 => ?_) (fun c_39 => ?_)
            · rw [nI_ltI (by omega) (by omega)] at c_39
              refine g_arrI C (stL z) 3 (wL cI cZ a (fun _ => nI 0) (fun _ => nI 6) (stL z) sp (nI z) le) rfl (fun j hj => hf2 j (by omega)) rfl ?_
              refine g_aload_n C 1 dX0_lay_68 rfl rfl rfl (q := 69) ?_
              refine gcV_qv C (n := 0) (As := []) (st := []) 0 (fun h => h) (fun _ h => h) dX0_lay_69 rfl rfl gX0_lay_X0_findLegs (cL_X0_findLegs l D cI cJ cZ a (fun _ => nI 0) (fun _ => nI 6) (stL z) sp z le A hz2 (by rw [stL, if_pos (Or.inl rfl)]; decide)) rfl rfl rfl (by decide +kernel) ⟨Nat.le_of_ble_eq_true rfl, Nat.le_of_ble_eq_true rfl⟩ rfl rfl (Nat.le_of_ble_eq_true rfl) FT_b FT_h ⟨Nat.le_of_ble_eq_true rfl, Nat.le_of_ble_eq_true rfl⟩ (q := 72) rfl (fun u_69 h_69 => ?_)
              have h_69 : ∀ p, p ≤ z → ¬ (stL z) p = 0 → u_69 (cnt (stL z) p) = nI p := h_69
              show G 0 0 (wL cI cZ a (fun _ => nI 0) (fun _ => nI 6) (stL z) u_69 (nI z) (nI (cnt (stL z) (z + 1) - 1))) [(2, .int (nI k)), (0, .ref (a 1)), (1, .int (nI z))] 72 []
              exact hret u_69 72 _ dX0_lay_72 (h_69)
            · rw [nI_ltI (by omega) (by omega)] at c_39
              refine g_aload_n C 1 dX0_lay_42 rfl rfl rfl (q := 43) ?_
              refine g_get C 0 2 dX0_lay_43 (Cn := RX0) (T := TX0) (N := 6) (fun _ h => List.mem_cons_of_mem _ (List.mem_append_right _ h)) rfl rfl (by decide) (List.mem_cons_of_mem _ (List.mem_append_left _ (List.mem_of_getElem? (i := 3) rfl))) rfl (q := 46) rfl ?_
              refine g_iload_n C 0 dX0_lay_46 rfl rfl rfl (q := 47) ?_
              refine g_iload_n C 0 dX0_lay_47 rfl rfl rfl (q := 48) ?_
              refine g_if_eq C (t := 56) dX0_lay_48 (by decide) (q := 51) rfl (fun c_48 => ?_) (fun c_48 => ?_)
              · rw [← nI_0, nI_eq (by omega) (by omega)] at c_48
                refine g_iconst C (nI 1) dX0_lay_56 (by decide) (q := 57) rfl ?_
                refine g_goto C (q := 61) dX0_lay_57 (by decide) ?_
                refine g_zast C 3 2 (wL cI cZ a (fun _ => nI 0) (fun _ => nI 6) (upd f2 k (nI 1)) sp (nI z) le) dX0_lay_61 rfl rfl (vp_in_nI (by omega) (by decide)) (by rw [nI_clamp (by omega)]; rw [show vp_nar .boolean (nI 1) = (nI 1) from rfl]; rfl) (q := 62) rfl ?_
                refine g_iinc C (z := 0) (nI (k + 1)) [(2, .int (nI (k + 1))), (0, .ref (a 1)), (1, .int (nI z))] dX0_lay_62 rfl (nI_add k 1) (by decide) rfl (q := 65) rfl ?_
                refine g_goto C (q := 36) dX0_lay_65 (by decide) ?_
                exact ih_36 (k + 1) (upd f2 k (nI 1)) (by first | assumption | omega) (by intro p hp; by_cases e : p = k; (subst e; rw [pk_us, stL]; first | exact (if_pos (by omega)).symm | exact (if_neg (by omega)).symm); (rw [pk_un e]; exact hf2 p (by omega))) (by omega)
              · rw [← nI_0, nI_eq (by omega) (by omega)] at c_48
                refine g_iload_n C 0 dX0_lay_51 rfl rfl rfl (q := 52) ?_
                refine g_iload_n C 2 dX0_lay_52 rfl rfl rfl (q := 53) ?_
                refine g_icmp_ne C (t := 60) dX0_lay_53 (by decide) (q := 56) rfl (fun c_53 => ?_) (fun c_53 => ?_)
                · rw [nI_eq (by omega) (by omega)] at c_53
                  refine g_iconst C (nI 0) dX0_lay_60 (by decide) (q := 61) rfl ?_
                  refine g_zast C 3 2 (wL cI cZ a (fun _ => nI 0) (fun _ => nI 6) (upd f2 k (nI 0)) sp (nI z) le) dX0_lay_61 rfl rfl (vp_in_nI (by omega) (by decide)) (by rw [nI_clamp (by omega)]; rw [show vp_nar .boolean (nI 0) = (nI 0) from rfl]; rfl) (q := 62) rfl ?_
                  refine g_iinc C (z := 0) (nI (k + 1)) [(2, .int (nI (k + 1))), (0, .ref (a 1)), (1, .int (nI z))] dX0_lay_62 rfl (nI_add k 1) (by decide) rfl (q := 65) rfl ?_
                  refine g_goto C (q := 36) dX0_lay_65 (by decide) ?_
                  exact ih_36 (k + 1) (upd f2 k (nI 0)) (by first | assumption | omega) (by intro p hp; by_cases e : p = k; (subst e; rw [pk_us, stL]; first | exact (if_pos (by omega)).symm | exact (if_neg (by omega)).symm); (rw [pk_un e]; exact hf2 p (by omega))) (by omega)
                · rw [nI_eq (by omega) (by omega)] at c_53
                  refine g_iconst C (nI 1) dX0_lay_56 (by decide) (q := 57) rfl ?_
                  refine g_goto C (q := 61) dX0_lay_57 (by decide) ?_
                  refine g_zast C 3 2 (wL cI cZ a (fun _ => nI 0) (fun _ => nI 6) (upd f2 k (nI 1)) sp (nI z) le) dX0_lay_61 rfl rfl (vp_in_nI (by omega) (by decide)) (by rw [nI_clamp (by omega)]; rw [show vp_nar .boolean (nI 1) = (nI 1) from rfl]; rfl) (q := 62) rfl ?_
                  refine g_iinc C (z := 0) (nI (k + 1)) [(2, .int (nI (k + 1))), (0, .ref (a 1)), (1, .int (nI z))] dX0_lay_62 rfl (nI_add k 1) (by decide) rfl (q := 65) rfl ?_
                  refine g_goto C (q := 36) dX0_lay_65 (by decide) ?_
                  exact ih_36 (k + 1) (upd f2 k (nI 1)) (by first | assumption | omega) (by intro p hp; by_cases e : p = k; (subst e; rw [pk_us, stL]; first | exact (if_pos (by omega)).symm | exact (if_neg (by omega)).symm); (rw [pk_un e]; exact hf2 p (by omega))) (by omega)
        exact lp_36 _ 0 st (by first | assumption | omega) (fun p h => absurd h (Nat.not_lt_zero _)) (Nat.lt_succ_self _)
      · rw [nI_leI (by omega) (by omega)] at c_10
        refine g_aload_n C 1 dX0_lay_13 rfl rfl rfl (q := 14) ?_
        refine g_get C 0 0 dX0_lay_14 (Cn := RX0) (T := TX0) (N := 6) (fun _ h => List.mem_cons_of_mem _ (List.mem_append_right _ h)) rfl rfl (by decide) (List.mem_cons_of_mem _ (List.mem_append_left _ (List.mem_of_getElem? (i := 1) rfl))) rfl (q := 17) rfl ?_
        refine g_iload_n C 0 dX0_lay_17 rfl rfl rfl (q := 18) ?_
        refine g_iconst C (nI 0) dX0_lay_18 (by decide) (q := 19) rfl ?_
        refine g_iast C 1 0 (wL cI cZ a (upd f k (nI 0)) g st sp (nI z) le) dX0_lay_19 rfl rfl (vp_in_nI (by omega) (by decide)) (by rw [nI_clamp (by omega)]; rfl) (q := 20) rfl ?_
        refine g_aload_n C 1 dX0_lay_20 rfl rfl rfl (q := 21) ?_
        refine g_get C 0 1 dX0_lay_21 (Cn := RX0) (T := TX0) (N := 6) (fun _ h => List.mem_cons_of_mem _ (List.mem_append_right _ h)) rfl rfl (by decide) (List.mem_cons_of_mem _ (List.mem_append_left _ (List.mem_of_getElem? (i := 2) rfl))) rfl (q := 24) rfl ?_
        refine g_iload_n C 0 dX0_lay_24 rfl rfl rfl (q := 25) ?_
        refine g_bipush C (nI 6) dX0_lay_25 (by decide) (q := 27) rfl ?_
        refine g_iast C 2 0 (wL cI cZ a (upd f k (nI 0)) (upd g k (nI 6)) st sp (nI z) le) dX0_lay_27 rfl rfl (vp_in_nI (by omega) (by decide)) (by rw [nI_clamp (by omega)]; rfl) (q := 28) rfl ?_
        refine g_iinc C (z := 0) (nI (k + 1)) [(2, .int (nI (k + 1))), (0, .ref (a 1)), (1, .int (nI z))] dX0_lay_28 rfl (nI_add k 1) (by decide) rfl (q := 31) rfl ?_
        refine g_goto C (q := 7) dX0_lay_31 (by decide) ?_
        exact ih_7 (k + 1) (upd f k (nI 0)) (upd g k (nI 6)) (by first | assumption | omega) (by intro p hp; by_cases e : p = k; (subst e; exact pk_us); (rw [pk_un e]; exact hf p (by omega))) (by intro p hp; by_cases e : p = k; (subst e; exact pk_us); (rw [pk_un e]; exact hg p (by omega))) (by omega)
  exact lp_7 _ 0 gr li (by first | assumption | omega) (fun p h => absurd h (Nat.not_lt_zero _)) (fun p h => absurd h (Nat.not_lt_zero _)) (Nat.lt_succ_self _)
/-! constructors -/
def adL (x1 x7 x8 x9 x10 : Nat) : Nat → Nat | 1 => x1 | 7 => x7 | 8 => x8 | 9 => x9 | _ => x10
set_option maxHeartbeats 4000000 in
set_option maxRecDepth 100000 in
theorem c_X0_init (l : Launch) (D : va_G) (cI cJ cZ : ClassId) (A : Nat → Prop) (rT x : Nat) : Met l yX0_init wsX0_init { frames := 2, cells := 4, slots := 66, locals := 44 } (gPc D (tyT cI cJ cZ) A (FK cI rT A) ([(x, .inr (0, [.null, .null, .null, .null, .int (nI 0), .int (nI 0)]))]) [.ref x]) (va_Qv (fun (u : Nat × Nat × Nat × Nat × (Nat → Int32)) => LInv (stL 1) u.2.2.2.2 1 (cnt (stL 1) (1 + 1) - 1)) (fun u tS => va_P D vwCl ((fun (u : Nat × Nat × Nat × Nat × (Nat → Int32)) => [(x, .inr (0, [.ref u.1, .ref u.2.1, .ref u.2.2.1, .ref u.2.2.2.1, .int (nI 1), .int (nI (cnt (stL 1) (1 + 1) - 1))])), (u.1, .inl (cI, 16, .inl (fun _ => nI 0))), (u.2.1, .inl (cI, 16, .inl (fun _ => nI 6))), (u.2.2.1, .inl (cZ, 17, .inl (stL 1))), (u.2.2.2.1, .inl (cI, 17, .inl u.2.2.2.2))]) u) tS.heap ∧ va_D A ((fun (u : Nat × Nat × Nat × Nat × (Nat → Int32)) => [(x, .inr (0, [.ref u.1, .ref u.2.1, .ref u.2.2.1, .ref u.2.2.2.1, .int (nI 1), .int (nI (cnt (stL 1) (1 + 1) - 1))])), (u.1, .inl (cI, 16, .inl (fun _ => nI 0))), (u.2.1, .inl (cI, 16, .inl (fun _ => nI 6))), (u.2.2.1, .inl (cZ, 17, .inl (stL 1))), (u.2.2.2.1, .inl (cI, 17, .inl u.2.2.2.2))]) u)) A) 4 66 A := by
  refine gs_qvI (cc := cX0_init) (nL := 1) (W' := fun (u : Nat × Nat × Nat × Nat × (Nat → Int32)) => [(x, .inr (0, [.ref u.1, .ref u.2.1, .ref u.2.2.1, .ref u.2.2.2.1, .int (nI 1), .int (nI (cnt (stL 1) (1 + 1) - 1))])), (u.1, .inl (cI, 16, .inl (fun _ => nI 0))), (u.2.1, .inl (cI, 16, .inl (fun _ => nI 6))), (u.2.2.1, .inl (cZ, 17, .inl (stL 1))), (u.2.2.2.1, .inl (cI, 17, .inl u.2.2.2.2))]) (by decide) rfl (Nat.le_of_ble_eq_true rfl) rfl (fun G C hret => ?_)
  show G 0 0 ([(x, .inr (0, [.null, .null, .null, .null, .int (nI 0), .int (nI 0)]))]) [(0, .ref x)] 0 []
  refine g_aload_n C 0 dX0_init_0 rfl rfl rfl (q := 1) ?_
  refine g_objInit C dX0_init_1 (List.mem_cons_of_mem _ (List.mem_append_left _ (List.mem_of_getElem? (i := 0) rfl))) (List.mem_cons_of_mem _ (List.mem_append_left _ (List.mem_of_getElem? (i := 1) rfl))) (List.mem_cons_of_mem _ (List.mem_append_left _ (List.mem_of_getElem? (i := 2) rfl))) (Nat.le_of_ble_eq_true rfl) (Nat.le_of_ble_eq_true rfl) (q := 4) rfl ?_
  refine g_aload_n C 0 dX0_init_4 rfl rfl rfl (q := 5) ?_
  refine g_bipush C (nI 16) dX0_init_5 (by decide) (q := 7) rfl ?_
  refine g_newarr C (fun s h => h.1) (ty := .int) (cA := cI) (N' := 16) (16, .inl (fun _ => nI 0)) 0 dX0_init_7 (List.mem_cons_of_mem _ (List.mem_append_left _ (List.mem_of_getElem? (i := 3) rfl))) rfl rfl ra_int (fun _ => rfl) (nI_pos (by omega)) (nI_clamp (by omega)) (Nat.le_of_ble_eq_true rfl) (Nat.le_of_ble_eq_true rfl) (Nat.le_of_ble_eq_true rfl) (q := 9) rfl (fun q7 => ?_)
  show G 1 16 ([(x, .inr (0, [.null, .null, .null, .null, .int (nI 0), .int (nI 0)])), (q7, .inl (cI, 16, .inl (fun _ => nI 0)))]) [(0, .ref x)] 9 [.ref q7, .ref x]
  refine g_putF C 0 0 ([(x, .inr (0, [.ref q7, .null, .null, .null, .int (nI 0), .int (nI 0)])), (q7, .inl (cI, 16, .inl (fun _ => nI 0)))]) dX0_init_9 (Cn := RX0) (T := TX0) (N := 6) (fun _ h => List.mem_cons_of_mem _ (List.mem_append_right _ h)) tyX0_ok nmX0 rfl rfl (by decide) (List.mem_cons_of_mem _ (List.mem_append_left _ (List.mem_of_getElem? (i := 4) rfl))) rfl rfl (ty := (.array .int)) (by decide +kernel) rfl rfl (Nat.le_of_ble_eq_true rfl) rfl (q := 12) rfl ?_
  refine g_aload_n C 0 dX0_init_12 rfl rfl rfl (q := 13) ?_
  refine g_bipush C (nI 16) dX0_init_13 (by decide) (q := 15) rfl ?_
  refine g_newarr C (fun s h => h.1) (ty := .int) (cA := cI) (N' := 16) (16, .inl (fun _ => nI 0)) 0 dX0_init_15 (List.mem_cons_of_mem _ (List.mem_append_left _ (List.mem_of_getElem? (i := 3) rfl))) rfl rfl ra_int (fun _ => rfl) (nI_pos (by omega)) (nI_clamp (by omega)) (Nat.le_of_ble_eq_true rfl) (Nat.le_of_ble_eq_true rfl) (Nat.le_of_ble_eq_true rfl) (q := 17) rfl (fun q15 => ?_)
  show G 2 32 ([(x, .inr (0, [.ref q7, .null, .null, .null, .int (nI 0), .int (nI 0)])), (q7, .inl (cI, 16, .inl (fun _ => nI 0))), (q15, .inl (cI, 16, .inl (fun _ => nI 0)))]) [(0, .ref x)] 17 [.ref q15, .ref x]
  refine g_putF C 0 1 ([(x, .inr (0, [.ref q7, .ref q15, .null, .null, .int (nI 0), .int (nI 0)])), (q7, .inl (cI, 16, .inl (fun _ => nI 0))), (q15, .inl (cI, 16, .inl (fun _ => nI 0)))]) dX0_init_17 (Cn := RX0) (T := TX0) (N := 6) (fun _ h => List.mem_cons_of_mem _ (List.mem_append_right _ h)) tyX0_ok nmX0 rfl rfl (by decide) (List.mem_cons_of_mem _ (List.mem_append_left _ (List.mem_of_getElem? (i := 5) rfl))) rfl rfl (ty := (.array .int)) (by decide +kernel) rfl rfl (Nat.le_of_ble_eq_true rfl) rfl (q := 20) rfl ?_
  refine g_aload_n C 0 dX0_init_20 rfl rfl rfl (q := 21) ?_
  refine g_bipush C (nI 17) dX0_init_21 (by decide) (q := 23) rfl ?_
  refine g_newarr C (fun s h => h.1) (ty := .boolean) (cA := cZ) (N' := 17) (17, .inl (fun _ => nI 0)) 2 dX0_init_23 (List.mem_cons_of_mem _ (List.mem_append_left _ (List.mem_of_getElem? (i := 6) rfl))) rfl rfl ra_bool (fun _ => rfl) (nI_pos (by omega)) (nI_clamp (by omega)) (Nat.le_of_ble_eq_true rfl) (Nat.le_of_ble_eq_true rfl) (Nat.le_of_ble_eq_true rfl) (q := 25) rfl (fun q23 => ?_)
  show G 3 49 ([(x, .inr (0, [.ref q7, .ref q15, .null, .null, .int (nI 0), .int (nI 0)])), (q7, .inl (cI, 16, .inl (fun _ => nI 0))), (q15, .inl (cI, 16, .inl (fun _ => nI 0))), (q23, .inl (cZ, 17, .inl (fun _ => nI 0)))]) [(0, .ref x)] 25 [.ref q23, .ref x]
  refine g_putF C 0 2 ([(x, .inr (0, [.ref q7, .ref q15, .ref q23, .null, .int (nI 0), .int (nI 0)])), (q7, .inl (cI, 16, .inl (fun _ => nI 0))), (q15, .inl (cI, 16, .inl (fun _ => nI 0))), (q23, .inl (cZ, 17, .inl (fun _ => nI 0)))]) dX0_init_25 (Cn := RX0) (T := TX0) (N := 6) (fun _ h => List.mem_cons_of_mem _ (List.mem_append_right _ h)) tyX0_ok nmX0 rfl rfl (by decide) (List.mem_cons_of_mem _ (List.mem_append_left _ (List.mem_of_getElem? (i := 7) rfl))) rfl rfl (ty := (.array .boolean)) (by decide +kernel) rfl rfl (Nat.le_of_ble_eq_true rfl) rfl (q := 28) rfl ?_
  refine g_aload_n C 0 dX0_init_28 rfl rfl rfl (q := 29) ?_
  refine g_bipush C (nI 17) dX0_init_29 (by decide) (q := 31) rfl ?_
  refine g_newarr C (fun s h => h.1) (ty := .int) (cA := cI) (N' := 17) (17, .inl (fun _ => nI 0)) 0 dX0_init_31 (List.mem_cons_of_mem _ (List.mem_append_left _ (List.mem_of_getElem? (i := 3) rfl))) rfl rfl ra_int (fun _ => rfl) (nI_pos (by omega)) (nI_clamp (by omega)) (Nat.le_of_ble_eq_true rfl) (Nat.le_of_ble_eq_true rfl) (Nat.le_of_ble_eq_true rfl) (q := 33) rfl (fun q31 => ?_)
  show G 4 66 ([(x, .inr (0, [.ref q7, .ref q15, .ref q23, .null, .int (nI 0), .int (nI 0)])), (q7, .inl (cI, 16, .inl (fun _ => nI 0))), (q15, .inl (cI, 16, .inl (fun _ => nI 0))), (q23, .inl (cZ, 17, .inl (fun _ => nI 0))), (q31, .inl (cI, 17, .inl (fun _ => nI 0)))]) [(0, .ref x)] 33 [.ref q31, .ref x]
  refine g_putF C 0 3 ([(x, .inr (0, [.ref q7, .ref q15, .ref q23, .ref q31, .int (nI 0), .int (nI 0)])), (q7, .inl (cI, 16, .inl (fun _ => nI 0))), (q15, .inl (cI, 16, .inl (fun _ => nI 0))), (q23, .inl (cZ, 17, .inl (fun _ => nI 0))), (q31, .inl (cI, 17, .inl (fun _ => nI 0)))]) dX0_init_33 (Cn := RX0) (T := TX0) (N := 6) (fun _ h => List.mem_cons_of_mem _ (List.mem_append_right _ h)) tyX0_ok nmX0 rfl rfl (by decide) (List.mem_cons_of_mem _ (List.mem_append_left _ (List.mem_of_getElem? (i := 8) rfl))) rfl rfl (ty := (.array .int)) (by decide +kernel) rfl rfl (Nat.le_of_ble_eq_true rfl) rfl (q := 36) rfl ?_
  refine g_aload_n C 0 dX0_init_36 rfl rfl rfl (q := 37) ?_
  refine g_iconst C (nI 1) dX0_init_37 (by decide) (q := 38) rfl ?_
  show G 4 66 (wL cI cZ (adL x q7 q15 q23 q31) (fun _ => nI 0) (fun _ => nI 0) (fun _ => nI 0) (fun _ => nI 0) (nI 0) (nI 0)) [(0, .ref x)] 38 [.int (nI 1), .ref x]
  refine gcV_qv C (n := 1) (As := [.int (nI 1)]) (st := []) 0 (fun h => h) (fun _ h => h) dX0_init_38 rfl rfl gX0_init_X0_lay (cL_X0_lay l D cI cJ cZ (adL x q7 q15 q23 q31) (fun _ => nI 0) (fun _ => nI 0) (fun _ => nI 0) (fun _ => nI 0) (nI 0) (nI 0) 1 A (by omega) (by omega)) rfl rfl rfl (by decide +kernel) ⟨Nat.le_of_ble_eq_true rfl, Nat.le_of_ble_eq_true rfl⟩ rfl rfl (Nat.le_of_ble_eq_true rfl) FT_b FT_h ⟨Nat.le_of_ble_eq_true rfl, Nat.le_of_ble_eq_true rfl⟩ (q := 41) rfl (fun u_38 h_38 => ?_)
  exact hret (q7, q15, q23, q31, u_38) 41 _ dX0_init_41 (stL_LInv (by decide) (by decide) rfl h_38)
set_option maxHeartbeats 4000000 in
set_option maxRecDepth 100000 in
theorem c_X4_init (l : Launch) (D : va_G) (cI cJ cZ : ClassId) (A : Nat → Prop) (rT x : Nat) : Met l yX4_init wsX4_init { frames := 1, cells := 1, slots := 5, locals := 24 } (gPc D (tyT cI cJ cZ) A (FK cI rT A) ([(x, .inr (4, [.null]))]) [.ref x]) (va_Qv (fun (u : Nat) => True) (fun u tS => va_P D vwCl ((fun (u : Nat) => [(x, .inr (4, [.ref u])), (u, .inl (cI, 5, .inl tr0))]) u) tS.heap ∧ va_D A ((fun (u : Nat) => [(x, .inr (4, [.ref u])), (u, .inl (cI, 5, .inl tr0))]) u)) A) 1 5 A := by
  refine gs_qvI (cc := cX4_init) (nL := 1) (W' := fun (u : Nat) => [(x, .inr (4, [.ref u])), (u, .inl (cI, 5, .inl tr0))]) (by decide) rfl (Nat.le_of_ble_eq_true rfl) rfl (fun G C hret => ?_)
  show G 0 0 ([(x, .inr (4, [.null]))]) [(0, .ref x)] 0 []
  refine g_aload_n C 0 dX4_init_0 rfl rfl rfl (q := 1) ?_
  refine g_objInit C dX4_init_1 (List.mem_cons_of_mem _ (List.mem_append_left _ (List.mem_of_getElem? (i := 0) rfl))) (List.mem_cons_of_mem _ (List.mem_append_left _ (List.mem_of_getElem? (i := 1) rfl))) (List.mem_cons_of_mem _ (List.mem_append_left _ (List.mem_of_getElem? (i := 2) rfl))) (Nat.le_of_ble_eq_true rfl) (Nat.le_of_ble_eq_true rfl) (q := 4) rfl ?_
  refine g_aload_n C 0 dX4_init_4 rfl rfl rfl (q := 5) ?_
  refine g_gets C (fun s h => h.2.1) dX4_init_5 (List.mem_cons_of_mem _ (List.mem_append_left _ (List.mem_of_getElem? (i := 3) rfl))) (q := 8) rfl ?_
  refine g_cloneT C (fun s h => h.1) (N := 5) (f := tr0) 0 (fun s h => h.2.2.1) (fun s h => h.2.2.2.1) dX4_init_8 (List.mem_cons_of_mem _ (List.mem_append_left _ (List.mem_of_getElem? (i := 4) rfl))) (List.mem_cons_of_mem _ (List.mem_append_left _ (List.mem_of_getElem? (i := 5) rfl))) (List.mem_cons_of_mem _ (List.mem_append_left _ (List.mem_of_getElem? (i := 6) rfl))) (List.mem_cons_of_mem _ (List.mem_append_left _ (List.mem_of_getElem? (i := 7) rfl))) (List.mem_cons_of_mem _ (List.mem_append_left _ (List.mem_of_getElem? (i := 8) rfl))) rfl (Nat.le_of_ble_eq_true rfl) (Nat.le_of_ble_eq_true rfl) (Nat.le_of_ble_eq_true rfl) (Nat.le_of_ble_eq_true rfl) (q := 11) rfl (fun q8 => ?_)
  show G 1 5 ([(x, .inr (4, [.null])), (q8, .inl (cI, 5, .inl tr0))]) [(0, .ref x)] 11 [.ref q8, .ref x]
  refine g_castA C 1 rfl (fun s h => va_nm_int (h.2 0 _ rfl).2) dX4_init_11 (List.mem_cons_of_mem _ (List.mem_append_left _ (List.mem_of_getElem? (i := 9) rfl))) (q := 14) rfl ?_
  refine g_putF C 0 0 ([(x, .inr (4, [.ref q8])), (q8, .inl (cI, 5, .inl tr0))]) dX4_init_14 (Cn := RX4) (T := TX4) (N := 1) (fun _ h => List.mem_cons_of_mem _ (List.mem_append_right _ h)) tyX4_ok nmX4 rfl rfl (by decide) (List.mem_cons_of_mem _ (List.mem_append_left _ (List.mem_of_getElem? (i := 10) rfl))) rfl rfl (ty := (.array .int)) (by decide +kernel) rfl rfl (Nat.le_of_ble_eq_true rfl) rfl (q := 17) rfl ?_
  exact hret (q8) 17 _ dX4_init_17 (trivial)
set_option maxHeartbeats 4000000 in
set_option maxRecDepth 100000 in
theorem c_X3_init (l : Launch) (D : va_G) (cI cJ cZ : ClassId) (A : Nat → Prop) (rT x y1 y2 : Nat) : Met l yX3_init wsX3_init { frames := 1, cells := 0, slots := 0, locals := 12 } (gPc D (tyT cI cJ cZ) A (FK cI rT A) ([(x, .inr (3, [.null, .null]))]) [.ref x, .ref y1, .ref y2]) (va_Qv (fun (u : Unit) => True) (fun u tS => va_P D vwCl ((fun (u : Unit) => [(x, .inr (3, [.ref y1, .ref y2]))]) u) tS.heap ∧ va_D A ((fun (u : Unit) => [(x, .inr (3, [.ref y1, .ref y2]))]) u)) A) 0 0 A := by
  refine gs_qvI (cc := cX3_init) (nL := 3) (W' := fun (u : Unit) => [(x, .inr (3, [.ref y1, .ref y2]))]) (by decide) rfl (Nat.le_of_ble_eq_true rfl) rfl (fun G C hret => ?_)
  show G 0 0 ([(x, .inr (3, [.null, .null]))]) [(0, .ref x), (1, .ref y1), (2, .ref y2)] 0 []
  refine g_aload_n C 0 dX3_init_0 rfl rfl rfl (q := 1) ?_
  refine g_objInit C dX3_init_1 (List.mem_cons_of_mem _ (List.mem_append_left _ (List.mem_of_getElem? (i := 0) rfl))) (List.mem_cons_of_mem _ (List.mem_append_left _ (List.mem_of_getElem? (i := 1) rfl))) (List.mem_cons_of_mem _ (List.mem_append_left _ (List.mem_of_getElem? (i := 2) rfl))) (Nat.le_of_ble_eq_true rfl) (Nat.le_of_ble_eq_true rfl) (q := 4) rfl ?_
  refine g_aload_n C 0 dX3_init_4 rfl rfl rfl (q := 5) ?_
  refine g_aload_n C 1 dX3_init_5 rfl rfl rfl (q := 6) ?_
  refine g_putF C 0 0 ([(x, .inr (3, [.ref y1, .null]))]) dX3_init_6 (Cn := RX3) (T := TX3) (N := 2) (fun _ h => List.mem_cons_of_mem _ (List.mem_append_right _ h)) tyX3_ok nmX3 rfl rfl (by decide) (List.mem_cons_of_mem _ (List.mem_append_left _ (List.mem_of_getElem? (i := 3) rfl))) rfl rfl (ty := (.object "CoastPull$Line")) (by decide +kernel) rfl rfl (Nat.le_of_ble_eq_true rfl) rfl (q := 9) rfl ?_
  refine g_aload_n C 0 dX3_init_9 rfl rfl rfl (q := 10) ?_
  refine g_aload_n C 2 dX3_init_10 rfl rfl rfl (q := 11) ?_
  refine g_putF C 0 1 ([(x, .inr (3, [.ref y1, .ref y2]))]) dX3_init_11 (Cn := RX3) (T := TX3) (N := 2) (fun _ h => List.mem_cons_of_mem _ (List.mem_append_right _ h)) tyX3_ok nmX3 rfl rfl (by decide) (List.mem_cons_of_mem _ (List.mem_append_left _ (List.mem_of_getElem? (i := 4) rfl))) rfl rfl (ty := (.object "CoastPull$Train")) (by decide +kernel) rfl rfl (Nat.le_of_ble_eq_true rfl) rfl (q := 14) rfl ?_
  exact hret (()) 14 _ dX3_init_14 (trivial)
set_option maxHeartbeats 4000000 in
set_option maxRecDepth 100000 in
theorem c_X5_init (l : Launch) (D : va_G) (cI cJ cZ : ClassId) (A : Nat → Prop) (rT x y1 y2 : Nat) : Met l yX5_init wsX5_init { frames := 1, cells := 5, slots := 9527, locals := 12 } (gPc D (tyT cI cJ cZ) A (FK cI rT A) ([(x, .inr (5, [.null, .null, .null, .null, .null, .null, .null, .int (nI 0)]))]) [.ref x, .ref y1, .ref y2]) (va_Qv (fun (u : Nat × Nat × Nat × Nat × Nat) => True) (fun u tS => va_P D vwCl ((fun (u : Nat × Nat × Nat × Nat × Nat) => [(x, .inr (5, [.ref y1, .ref y2, .ref u.1, .ref u.2.1, .ref u.2.2.1, .ref u.2.2.2.1, .ref u.2.2.2.2, .int (nI 0)])), (u.1, .inl (cJ, 3787, .inr (.inl (fun _ => (0 : Int64))))), (u.2.1, .inl (cJ, 3787, .inr (.inl (fun _ => (0 : Int64))))), (u.2.2.1, .inl (cI, 17, .inl (fun _ => nI 0))), (u.2.2.2.1, .inl (cI, 968, .inl (fun _ => nI 0))), (u.2.2.2.2, .inl (cJ, 968, .inr (.inl (fun _ => (0 : Int64)))))]) u) tS.heap ∧ va_D A ((fun (u : Nat × Nat × Nat × Nat × Nat) => [(x, .inr (5, [.ref y1, .ref y2, .ref u.1, .ref u.2.1, .ref u.2.2.1, .ref u.2.2.2.1, .ref u.2.2.2.2, .int (nI 0)])), (u.1, .inl (cJ, 3787, .inr (.inl (fun _ => (0 : Int64))))), (u.2.1, .inl (cJ, 3787, .inr (.inl (fun _ => (0 : Int64))))), (u.2.2.1, .inl (cI, 17, .inl (fun _ => nI 0))), (u.2.2.2.1, .inl (cI, 968, .inl (fun _ => nI 0))), (u.2.2.2.2, .inl (cJ, 968, .inr (.inl (fun _ => (0 : Int64)))))]) u)) A) 5 9527 A := by
  refine gs_qvI (cc := cX5_init) (nL := 3) (W' := fun (u : Nat × Nat × Nat × Nat × Nat) => [(x, .inr (5, [.ref y1, .ref y2, .ref u.1, .ref u.2.1, .ref u.2.2.1, .ref u.2.2.2.1, .ref u.2.2.2.2, .int (nI 0)])), (u.1, .inl (cJ, 3787, .inr (.inl (fun _ => (0 : Int64))))), (u.2.1, .inl (cJ, 3787, .inr (.inl (fun _ => (0 : Int64))))), (u.2.2.1, .inl (cI, 17, .inl (fun _ => nI 0))), (u.2.2.2.1, .inl (cI, 968, .inl (fun _ => nI 0))), (u.2.2.2.2, .inl (cJ, 968, .inr (.inl (fun _ => (0 : Int64)))))]) (by decide) rfl (Nat.le_of_ble_eq_true rfl) rfl (fun G C hret => ?_)
  show G 0 0 ([(x, .inr (5, [.null, .null, .null, .null, .null, .null, .null, .int (nI 0)]))]) [(0, .ref x), (1, .ref y1), (2, .ref y2)] 0 []
  refine g_aload_n C 0 dX5_init_0 rfl rfl rfl (q := 1) ?_
  refine g_objInit C dX5_init_1 (List.mem_cons_of_mem _ (List.mem_append_left _ (List.mem_of_getElem? (i := 0) rfl))) (List.mem_cons_of_mem _ (List.mem_append_left _ (List.mem_of_getElem? (i := 1) rfl))) (List.mem_cons_of_mem _ (List.mem_append_left _ (List.mem_of_getElem? (i := 2) rfl))) (Nat.le_of_ble_eq_true rfl) (Nat.le_of_ble_eq_true rfl) (q := 4) rfl ?_
  refine g_aload_n C 0 dX5_init_4 rfl rfl rfl (q := 5) ?_
  refine g_sipush C (nI 3787) dX5_init_5 (by decide) (q := 8) rfl ?_
  refine g_newarr C (fun s h => h.1) (ty := .long) (cA := cJ) (N' := 3787) (3787, .inr (.inl (fun _ => (0 : Int64)))) 1 dX5_init_8 (List.mem_cons_of_mem _ (List.mem_append_left _ (List.mem_of_getElem? (i := 3) rfl))) rfl rfl ra_long (fun _ => rfl) (nI_pos (by omega)) (nI_clamp (by omega)) (Nat.le_of_ble_eq_true rfl) (Nat.le_of_ble_eq_true rfl) (Nat.le_of_ble_eq_true rfl) (q := 10) rfl (fun q8 => ?_)
  show G 1 3787 ([(x, .inr (5, [.null, .null, .null, .null, .null, .null, .null, .int (nI 0)])), (q8, .inl (cJ, 3787, .inr (.inl (fun _ => (0 : Int64)))))]) [(0, .ref x), (1, .ref y1), (2, .ref y2)] 10 [.ref q8, .ref x]
  refine g_putF C 0 2 ([(x, .inr (5, [.null, .null, .ref q8, .null, .null, .null, .null, .int (nI 0)])), (q8, .inl (cJ, 3787, .inr (.inl (fun _ => (0 : Int64)))))]) dX5_init_10 (Cn := RX5) (T := TX5) (N := 8) (fun _ h => List.mem_cons_of_mem _ (List.mem_append_right _ h)) tyX5_ok nmX5 rfl rfl (by decide) (List.mem_cons_of_mem _ (List.mem_append_left _ (List.mem_of_getElem? (i := 4) rfl))) rfl rfl (ty := (.array .long)) (by decide +kernel) rfl rfl (Nat.le_of_ble_eq_true rfl) rfl (q := 13) rfl ?_
  refine g_aload_n C 0 dX5_init_13 rfl rfl rfl (q := 14) ?_
  refine g_sipush C (nI 3787) dX5_init_14 (by decide) (q := 17) rfl ?_
  refine g_newarr C (fun s h => h.1) (ty := .long) (cA := cJ) (N' := 3787) (3787, .inr (.inl (fun _ => (0 : Int64)))) 1 dX5_init_17 (List.mem_cons_of_mem _ (List.mem_append_left _ (List.mem_of_getElem? (i := 3) rfl))) rfl rfl ra_long (fun _ => rfl) (nI_pos (by omega)) (nI_clamp (by omega)) (Nat.le_of_ble_eq_true rfl) (Nat.le_of_ble_eq_true rfl) (Nat.le_of_ble_eq_true rfl) (q := 19) rfl (fun q17 => ?_)
  show G 2 7574 ([(x, .inr (5, [.null, .null, .ref q8, .null, .null, .null, .null, .int (nI 0)])), (q8, .inl (cJ, 3787, .inr (.inl (fun _ => (0 : Int64))))), (q17, .inl (cJ, 3787, .inr (.inl (fun _ => (0 : Int64)))))]) [(0, .ref x), (1, .ref y1), (2, .ref y2)] 19 [.ref q17, .ref x]
  refine g_putF C 0 3 ([(x, .inr (5, [.null, .null, .ref q8, .ref q17, .null, .null, .null, .int (nI 0)])), (q8, .inl (cJ, 3787, .inr (.inl (fun _ => (0 : Int64))))), (q17, .inl (cJ, 3787, .inr (.inl (fun _ => (0 : Int64)))))]) dX5_init_19 (Cn := RX5) (T := TX5) (N := 8) (fun _ h => List.mem_cons_of_mem _ (List.mem_append_right _ h)) tyX5_ok nmX5 rfl rfl (by decide) (List.mem_cons_of_mem _ (List.mem_append_left _ (List.mem_of_getElem? (i := 5) rfl))) rfl rfl (ty := (.array .long)) (by decide +kernel) rfl rfl (Nat.le_of_ble_eq_true rfl) rfl (q := 22) rfl ?_
  refine g_aload_n C 0 dX5_init_22 rfl rfl rfl (q := 23) ?_
  refine g_bipush C (nI 17) dX5_init_23 (by decide) (q := 25) rfl ?_
  refine g_newarr C (fun s h => h.1) (ty := .int) (cA := cI) (N' := 17) (17, .inl (fun _ => nI 0)) 0 dX5_init_25 (List.mem_cons_of_mem _ (List.mem_append_left _ (List.mem_of_getElem? (i := 6) rfl))) rfl rfl ra_int (fun _ => rfl) (nI_pos (by omega)) (nI_clamp (by omega)) (Nat.le_of_ble_eq_true rfl) (Nat.le_of_ble_eq_true rfl) (Nat.le_of_ble_eq_true rfl) (q := 27) rfl (fun q25 => ?_)
  show G 3 7591 ([(x, .inr (5, [.null, .null, .ref q8, .ref q17, .null, .null, .null, .int (nI 0)])), (q8, .inl (cJ, 3787, .inr (.inl (fun _ => (0 : Int64))))), (q17, .inl (cJ, 3787, .inr (.inl (fun _ => (0 : Int64))))), (q25, .inl (cI, 17, .inl (fun _ => nI 0)))]) [(0, .ref x), (1, .ref y1), (2, .ref y2)] 27 [.ref q25, .ref x]
  refine g_putF C 0 4 ([(x, .inr (5, [.null, .null, .ref q8, .ref q17, .ref q25, .null, .null, .int (nI 0)])), (q8, .inl (cJ, 3787, .inr (.inl (fun _ => (0 : Int64))))), (q17, .inl (cJ, 3787, .inr (.inl (fun _ => (0 : Int64))))), (q25, .inl (cI, 17, .inl (fun _ => nI 0)))]) dX5_init_27 (Cn := RX5) (T := TX5) (N := 8) (fun _ h => List.mem_cons_of_mem _ (List.mem_append_right _ h)) tyX5_ok nmX5 rfl rfl (by decide) (List.mem_cons_of_mem _ (List.mem_append_left _ (List.mem_of_getElem? (i := 7) rfl))) rfl rfl (ty := (.array .int)) (by decide +kernel) rfl rfl (Nat.le_of_ble_eq_true rfl) rfl (q := 30) rfl ?_
  refine g_aload_n C 0 dX5_init_30 rfl rfl rfl (q := 31) ?_
  refine g_sipush C (nI 968) dX5_init_31 (by decide) (q := 34) rfl ?_
  refine g_newarr C (fun s h => h.1) (ty := .int) (cA := cI) (N' := 968) (968, .inl (fun _ => nI 0)) 0 dX5_init_34 (List.mem_cons_of_mem _ (List.mem_append_left _ (List.mem_of_getElem? (i := 6) rfl))) rfl rfl ra_int (fun _ => rfl) (nI_pos (by omega)) (nI_clamp (by omega)) (Nat.le_of_ble_eq_true rfl) (Nat.le_of_ble_eq_true rfl) (Nat.le_of_ble_eq_true rfl) (q := 36) rfl (fun q34 => ?_)
  show G 4 8559 ([(x, .inr (5, [.null, .null, .ref q8, .ref q17, .ref q25, .null, .null, .int (nI 0)])), (q8, .inl (cJ, 3787, .inr (.inl (fun _ => (0 : Int64))))), (q17, .inl (cJ, 3787, .inr (.inl (fun _ => (0 : Int64))))), (q25, .inl (cI, 17, .inl (fun _ => nI 0))), (q34, .inl (cI, 968, .inl (fun _ => nI 0)))]) [(0, .ref x), (1, .ref y1), (2, .ref y2)] 36 [.ref q34, .ref x]
  refine g_putF C 0 5 ([(x, .inr (5, [.null, .null, .ref q8, .ref q17, .ref q25, .ref q34, .null, .int (nI 0)])), (q8, .inl (cJ, 3787, .inr (.inl (fun _ => (0 : Int64))))), (q17, .inl (cJ, 3787, .inr (.inl (fun _ => (0 : Int64))))), (q25, .inl (cI, 17, .inl (fun _ => nI 0))), (q34, .inl (cI, 968, .inl (fun _ => nI 0)))]) dX5_init_36 (Cn := RX5) (T := TX5) (N := 8) (fun _ h => List.mem_cons_of_mem _ (List.mem_append_right _ h)) tyX5_ok nmX5 rfl rfl (by decide) (List.mem_cons_of_mem _ (List.mem_append_left _ (List.mem_of_getElem? (i := 8) rfl))) rfl rfl (ty := (.array .int)) (by decide +kernel) rfl rfl (Nat.le_of_ble_eq_true rfl) rfl (q := 39) rfl ?_
  refine g_aload_n C 0 dX5_init_39 rfl rfl rfl (q := 40) ?_
  refine g_sipush C (nI 968) dX5_init_40 (by decide) (q := 43) rfl ?_
  refine g_newarr C (fun s h => h.1) (ty := .long) (cA := cJ) (N' := 968) (968, .inr (.inl (fun _ => (0 : Int64)))) 1 dX5_init_43 (List.mem_cons_of_mem _ (List.mem_append_left _ (List.mem_of_getElem? (i := 3) rfl))) rfl rfl ra_long (fun _ => rfl) (nI_pos (by omega)) (nI_clamp (by omega)) (Nat.le_of_ble_eq_true rfl) (Nat.le_of_ble_eq_true rfl) (Nat.le_of_ble_eq_true rfl) (q := 45) rfl (fun q43 => ?_)
  show G 5 9527 ([(x, .inr (5, [.null, .null, .ref q8, .ref q17, .ref q25, .ref q34, .null, .int (nI 0)])), (q8, .inl (cJ, 3787, .inr (.inl (fun _ => (0 : Int64))))), (q17, .inl (cJ, 3787, .inr (.inl (fun _ => (0 : Int64))))), (q25, .inl (cI, 17, .inl (fun _ => nI 0))), (q34, .inl (cI, 968, .inl (fun _ => nI 0))), (q43, .inl (cJ, 968, .inr (.inl (fun _ => (0 : Int64)))))]) [(0, .ref x), (1, .ref y1), (2, .ref y2)] 45 [.ref q43, .ref x]
  refine g_putF C 0 6 ([(x, .inr (5, [.null, .null, .ref q8, .ref q17, .ref q25, .ref q34, .ref q43, .int (nI 0)])), (q8, .inl (cJ, 3787, .inr (.inl (fun _ => (0 : Int64))))), (q17, .inl (cJ, 3787, .inr (.inl (fun _ => (0 : Int64))))), (q25, .inl (cI, 17, .inl (fun _ => nI 0))), (q34, .inl (cI, 968, .inl (fun _ => nI 0))), (q43, .inl (cJ, 968, .inr (.inl (fun _ => (0 : Int64)))))]) dX5_init_45 (Cn := RX5) (T := TX5) (N := 8) (fun _ h => List.mem_cons_of_mem _ (List.mem_append_right _ h)) tyX5_ok nmX5 rfl rfl (by decide) (List.mem_cons_of_mem _ (List.mem_append_left _ (List.mem_of_getElem? (i := 9) rfl))) rfl rfl (ty := (.array .long)) (by decide +kernel) rfl rfl (Nat.le_of_ble_eq_true rfl) rfl (q := 48) rfl ?_
  refine g_aload_n C 0 dX5_init_48 rfl rfl rfl (q := 49) ?_
  refine g_iconst C (nI 0) dX5_init_49 (by decide) (q := 50) rfl ?_
  refine g_put C 0 7 ([(x, .inr (5, [.null, .null, .ref q8, .ref q17, .ref q25, .ref q34, .ref q43, .int (nI 0)])), (q8, .inl (cJ, 3787, .inr (.inl (fun _ => (0 : Int64))))), (q17, .inl (cJ, 3787, .inr (.inl (fun _ => (0 : Int64))))), (q25, .inl (cI, 17, .inl (fun _ => nI 0))), (q34, .inl (cI, 968, .inl (fun _ => nI 0))), (q43, .inl (cJ, 968, .inr (.inl (fun _ => (0 : Int64)))))]) dX5_init_50 (Cn := RX5) (T := TX5) (N := 8) (fun _ h => List.mem_cons_of_mem _ (List.mem_append_right _ h)) tyX5_ok nmX5 rfl rfl (by decide) (List.mem_cons_of_mem _ (List.mem_append_left _ (List.mem_of_getElem? (i := 10) rfl))) rfl (ty := .boolean) (by decide +kernel) (by decide) rfl (Nat.le_of_ble_eq_true rfl) rfl (q := 53) rfl ?_
  refine g_aload_n C 0 dX5_init_53 rfl rfl rfl (q := 54) ?_
  refine g_aload_n C 1 dX5_init_54 rfl rfl rfl (q := 55) ?_
  refine g_putF C 0 0 ([(x, .inr (5, [.ref y1, .null, .ref q8, .ref q17, .ref q25, .ref q34, .ref q43, .int (nI 0)])), (q8, .inl (cJ, 3787, .inr (.inl (fun _ => (0 : Int64))))), (q17, .inl (cJ, 3787, .inr (.inl (fun _ => (0 : Int64))))), (q25, .inl (cI, 17, .inl (fun _ => nI 0))), (q34, .inl (cI, 968, .inl (fun _ => nI 0))), (q43, .inl (cJ, 968, .inr (.inl (fun _ => (0 : Int64)))))]) dX5_init_55 (Cn := RX5) (T := TX5) (N := 8) (fun _ h => List.mem_cons_of_mem _ (List.mem_append_right _ h)) tyX5_ok nmX5 rfl rfl (by decide) (List.mem_cons_of_mem _ (List.mem_append_left _ (List.mem_of_getElem? (i := 11) rfl))) rfl rfl (ty := (.object "CoastPull$Line")) (by decide +kernel) rfl rfl (Nat.le_of_ble_eq_true rfl) rfl (q := 58) rfl ?_
  refine g_aload_n C 0 dX5_init_58 rfl rfl rfl (q := 59) ?_
  refine g_aload_n C 2 dX5_init_59 rfl rfl rfl (q := 60) ?_
  refine g_putF C 0 1 ([(x, .inr (5, [.ref y1, .ref y2, .ref q8, .ref q17, .ref q25, .ref q34, .ref q43, .int (nI 0)])), (q8, .inl (cJ, 3787, .inr (.inl (fun _ => (0 : Int64))))), (q17, .inl (cJ, 3787, .inr (.inl (fun _ => (0 : Int64))))), (q25, .inl (cI, 17, .inl (fun _ => nI 0))), (q34, .inl (cI, 968, .inl (fun _ => nI 0))), (q43, .inl (cJ, 968, .inr (.inl (fun _ => (0 : Int64)))))]) dX5_init_60 (Cn := RX5) (T := TX5) (N := 8) (fun _ h => List.mem_cons_of_mem _ (List.mem_append_right _ h)) tyX5_ok nmX5 rfl rfl (by decide) (List.mem_cons_of_mem _ (List.mem_append_left _ (List.mem_of_getElem? (i := 12) rfl))) rfl rfl (ty := (.object "CoastPull$Steps")) (by decide +kernel) rfl rfl (Nat.le_of_ble_eq_true rfl) rfl (q := 63) rfl ?_
  exact hret (q8, q17, q25, q34, q43) 63 _ dX5_init_63 (trivial)
set_option maxHeartbeats 4000000 in
set_option maxRecDepth 100000 in
theorem c_X2_init (l : Launch) (D : va_G) (cI cJ cZ : ClassId) (A : Nat → Prop) (rT x y1 y2 : Nat) : Met l yX2_init wsX2_init { frames := 1, cells := 2, slots := 1017, locals := 12 } (gPc D (tyT cI cJ cZ) A (FK cI rT A) ([(x, .inr (2, [.null, .null, .null, .null, .int (nI 0)]))]) [.ref x, .ref y1, .ref y2]) (va_Qv (fun (u : Nat × Nat) => True) (fun u tS => va_P D vwCl ((fun (u : Nat × Nat) => [(x, .inr (2, [.ref y1, .ref y2, .ref u.1, .ref u.2, .int (nI 0)])), (u.1, .inl (cJ, 1001, .inr (.inl (fun _ => (0 : Int64))))), (u.2, .inl (cJ, 16, .inr (.inl (fun _ => (0 : Int64)))))]) u) tS.heap ∧ va_D A ((fun (u : Nat × Nat) => [(x, .inr (2, [.ref y1, .ref y2, .ref u.1, .ref u.2, .int (nI 0)])), (u.1, .inl (cJ, 1001, .inr (.inl (fun _ => (0 : Int64))))), (u.2, .inl (cJ, 16, .inr (.inl (fun _ => (0 : Int64)))))]) u)) A) 2 1017 A := by
  refine gs_qvI (cc := cX2_init) (nL := 3) (W' := fun (u : Nat × Nat) => [(x, .inr (2, [.ref y1, .ref y2, .ref u.1, .ref u.2, .int (nI 0)])), (u.1, .inl (cJ, 1001, .inr (.inl (fun _ => (0 : Int64))))), (u.2, .inl (cJ, 16, .inr (.inl (fun _ => (0 : Int64)))))]) (by decide) rfl (Nat.le_of_ble_eq_true rfl) rfl (fun G C hret => ?_)
  show G 0 0 ([(x, .inr (2, [.null, .null, .null, .null, .int (nI 0)]))]) [(0, .ref x), (1, .ref y1), (2, .ref y2)] 0 []
  refine g_aload_n C 0 dX2_init_0 rfl rfl rfl (q := 1) ?_
  refine g_objInit C dX2_init_1 (List.mem_cons_of_mem _ (List.mem_append_left _ (List.mem_of_getElem? (i := 0) rfl))) (List.mem_cons_of_mem _ (List.mem_append_left _ (List.mem_of_getElem? (i := 1) rfl))) (List.mem_cons_of_mem _ (List.mem_append_left _ (List.mem_of_getElem? (i := 2) rfl))) (Nat.le_of_ble_eq_true rfl) (Nat.le_of_ble_eq_true rfl) (q := 4) rfl ?_
  refine g_aload_n C 0 dX2_init_4 rfl rfl rfl (q := 5) ?_
  refine g_sipush C (nI 1001) dX2_init_5 (by decide) (q := 8) rfl ?_
  refine g_newarr C (fun s h => h.1) (ty := .long) (cA := cJ) (N' := 1001) (1001, .inr (.inl (fun _ => (0 : Int64)))) 1 dX2_init_8 (List.mem_cons_of_mem _ (List.mem_append_left _ (List.mem_of_getElem? (i := 3) rfl))) rfl rfl ra_long (fun _ => rfl) (nI_pos (by omega)) (nI_clamp (by omega)) (Nat.le_of_ble_eq_true rfl) (Nat.le_of_ble_eq_true rfl) (Nat.le_of_ble_eq_true rfl) (q := 10) rfl (fun q8 => ?_)
  show G 1 1001 ([(x, .inr (2, [.null, .null, .null, .null, .int (nI 0)])), (q8, .inl (cJ, 1001, .inr (.inl (fun _ => (0 : Int64)))))]) [(0, .ref x), (1, .ref y1), (2, .ref y2)] 10 [.ref q8, .ref x]
  refine g_putF C 0 2 ([(x, .inr (2, [.null, .null, .ref q8, .null, .int (nI 0)])), (q8, .inl (cJ, 1001, .inr (.inl (fun _ => (0 : Int64)))))]) dX2_init_10 (Cn := RX2) (T := TX2) (N := 5) (fun _ h => List.mem_cons_of_mem _ (List.mem_append_right _ h)) tyX2_ok nmX2 rfl rfl (by decide) (List.mem_cons_of_mem _ (List.mem_append_left _ (List.mem_of_getElem? (i := 4) rfl))) rfl rfl (ty := (.array .long)) (by decide +kernel) rfl rfl (Nat.le_of_ble_eq_true rfl) rfl (q := 13) rfl ?_
  refine g_aload_n C 0 dX2_init_13 rfl rfl rfl (q := 14) ?_
  refine g_bipush C (nI 16) dX2_init_14 (by decide) (q := 16) rfl ?_
  refine g_newarr C (fun s h => h.1) (ty := .long) (cA := cJ) (N' := 16) (16, .inr (.inl (fun _ => (0 : Int64)))) 1 dX2_init_16 (List.mem_cons_of_mem _ (List.mem_append_left _ (List.mem_of_getElem? (i := 3) rfl))) rfl rfl ra_long (fun _ => rfl) (nI_pos (by omega)) (nI_clamp (by omega)) (Nat.le_of_ble_eq_true rfl) (Nat.le_of_ble_eq_true rfl) (Nat.le_of_ble_eq_true rfl) (q := 18) rfl (fun q16 => ?_)
  show G 2 1017 ([(x, .inr (2, [.null, .null, .ref q8, .null, .int (nI 0)])), (q8, .inl (cJ, 1001, .inr (.inl (fun _ => (0 : Int64))))), (q16, .inl (cJ, 16, .inr (.inl (fun _ => (0 : Int64)))))]) [(0, .ref x), (1, .ref y1), (2, .ref y2)] 18 [.ref q16, .ref x]
  refine g_putF C 0 3 ([(x, .inr (2, [.null, .null, .ref q8, .ref q16, .int (nI 0)])), (q8, .inl (cJ, 1001, .inr (.inl (fun _ => (0 : Int64))))), (q16, .inl (cJ, 16, .inr (.inl (fun _ => (0 : Int64)))))]) dX2_init_18 (Cn := RX2) (T := TX2) (N := 5) (fun _ h => List.mem_cons_of_mem _ (List.mem_append_right _ h)) tyX2_ok nmX2 rfl rfl (by decide) (List.mem_cons_of_mem _ (List.mem_append_left _ (List.mem_of_getElem? (i := 5) rfl))) rfl rfl (ty := (.array .long)) (by decide +kernel) rfl rfl (Nat.le_of_ble_eq_true rfl) rfl (q := 21) rfl ?_
  refine g_aload_n C 0 dX2_init_21 rfl rfl rfl (q := 22) ?_
  refine g_iconst C (nI 0) dX2_init_22 (by decide) (q := 23) rfl ?_
  refine g_put C 0 4 ([(x, .inr (2, [.null, .null, .ref q8, .ref q16, .int (nI 0)])), (q8, .inl (cJ, 1001, .inr (.inl (fun _ => (0 : Int64))))), (q16, .inl (cJ, 16, .inr (.inl (fun _ => (0 : Int64)))))]) dX2_init_23 (Cn := RX2) (T := TX2) (N := 5) (fun _ h => List.mem_cons_of_mem _ (List.mem_append_right _ h)) tyX2_ok nmX2 rfl rfl (by decide) (List.mem_cons_of_mem _ (List.mem_append_left _ (List.mem_of_getElem? (i := 6) rfl))) rfl (ty := .boolean) (by decide +kernel) (by decide) rfl (Nat.le_of_ble_eq_true rfl) rfl (q := 26) rfl ?_
  refine g_aload_n C 0 dX2_init_26 rfl rfl rfl (q := 27) ?_
  refine g_aload_n C 1 dX2_init_27 rfl rfl rfl (q := 28) ?_
  refine g_putF C 0 0 ([(x, .inr (2, [.ref y1, .null, .ref q8, .ref q16, .int (nI 0)])), (q8, .inl (cJ, 1001, .inr (.inl (fun _ => (0 : Int64))))), (q16, .inl (cJ, 16, .inr (.inl (fun _ => (0 : Int64)))))]) dX2_init_28 (Cn := RX2) (T := TX2) (N := 5) (fun _ h => List.mem_cons_of_mem _ (List.mem_append_right _ h)) tyX2_ok nmX2 rfl rfl (by decide) (List.mem_cons_of_mem _ (List.mem_append_left _ (List.mem_of_getElem? (i := 7) rfl))) rfl rfl (ty := (.object "CoastPull$Line")) (by decide +kernel) rfl rfl (Nat.le_of_ble_eq_true rfl) rfl (q := 31) rfl ?_
  refine g_aload_n C 0 dX2_init_31 rfl rfl rfl (q := 32) ?_
  refine g_aload_n C 2 dX2_init_32 rfl rfl rfl (q := 33) ?_
  refine g_putF C 0 1 ([(x, .inr (2, [.ref y1, .ref y2, .ref q8, .ref q16, .int (nI 0)])), (q8, .inl (cJ, 1001, .inr (.inl (fun _ => (0 : Int64))))), (q16, .inl (cJ, 16, .inr (.inl (fun _ => (0 : Int64)))))]) dX2_init_33 (Cn := RX2) (T := TX2) (N := 5) (fun _ h => List.mem_cons_of_mem _ (List.mem_append_right _ h)) tyX2_ok nmX2 rfl rfl (by decide) (List.mem_cons_of_mem _ (List.mem_append_left _ (List.mem_of_getElem? (i := 8) rfl))) rfl rfl (ty := (.object "CoastPull$Ways")) (by decide +kernel) rfl rfl (Nat.le_of_ble_eq_true rfl) rfl (q := 36) rfl ?_
  exact hret (q8, q16) 36 _ dX2_init_36 (trivial)
set_option maxHeartbeats 4000000 in
set_option maxRecDepth 100000 in
theorem c_X1_init (l : Launch) (D : va_G) (cI cJ cZ : ClassId) (A : Nat → Prop) (rT x y1 y2 : Nat) : Met l yX1_init wsX1_init { frames := 1, cells := 1, slots := 17, locals := 12 } (gPc D (tyT cI cJ cZ) A (FK cI rT A) ([(x, .inr (1, [.null, .null, .null, .int (nI 0)]))]) [.ref x, .ref y1, .ref y2]) (va_Qv (fun (u : Nat) => True) (fun u tS => va_P D vwCl ((fun (u : Nat) => [(x, .inr (1, [.ref y1, .ref y2, .ref u, .int (nI 0)])), (u, .inl (cI, 17, .inl (fun _ => nI 0)))]) u) tS.heap ∧ va_D A ((fun (u : Nat) => [(x, .inr (1, [.ref y1, .ref y2, .ref u, .int (nI 0)])), (u, .inl (cI, 17, .inl (fun _ => nI 0)))]) u)) A) 1 17 A := by
  refine gs_qvI (cc := cX1_init) (nL := 3) (W' := fun (u : Nat) => [(x, .inr (1, [.ref y1, .ref y2, .ref u, .int (nI 0)])), (u, .inl (cI, 17, .inl (fun _ => nI 0)))]) (by decide) rfl (Nat.le_of_ble_eq_true rfl) rfl (fun G C hret => ?_)
  show G 0 0 ([(x, .inr (1, [.null, .null, .null, .int (nI 0)]))]) [(0, .ref x), (1, .ref y1), (2, .ref y2)] 0 []
  refine g_aload_n C 0 dX1_init_0 rfl rfl rfl (q := 1) ?_
  refine g_objInit C dX1_init_1 (List.mem_cons_of_mem _ (List.mem_append_left _ (List.mem_of_getElem? (i := 0) rfl))) (List.mem_cons_of_mem _ (List.mem_append_left _ (List.mem_of_getElem? (i := 1) rfl))) (List.mem_cons_of_mem _ (List.mem_append_left _ (List.mem_of_getElem? (i := 2) rfl))) (Nat.le_of_ble_eq_true rfl) (Nat.le_of_ble_eq_true rfl) (q := 4) rfl ?_
  refine g_aload_n C 0 dX1_init_4 rfl rfl rfl (q := 5) ?_
  refine g_bipush C (nI 17) dX1_init_5 (by decide) (q := 7) rfl ?_
  refine g_newarr C (fun s h => h.1) (ty := .int) (cA := cI) (N' := 17) (17, .inl (fun _ => nI 0)) 0 dX1_init_7 (List.mem_cons_of_mem _ (List.mem_append_left _ (List.mem_of_getElem? (i := 3) rfl))) rfl rfl ra_int (fun _ => rfl) (nI_pos (by omega)) (nI_clamp (by omega)) (Nat.le_of_ble_eq_true rfl) (Nat.le_of_ble_eq_true rfl) (Nat.le_of_ble_eq_true rfl) (q := 9) rfl (fun q7 => ?_)
  show G 1 17 ([(x, .inr (1, [.null, .null, .null, .int (nI 0)])), (q7, .inl (cI, 17, .inl (fun _ => nI 0)))]) [(0, .ref x), (1, .ref y1), (2, .ref y2)] 9 [.ref q7, .ref x]
  refine g_putF C 0 2 ([(x, .inr (1, [.null, .null, .ref q7, .int (nI 0)])), (q7, .inl (cI, 17, .inl (fun _ => nI 0)))]) dX1_init_9 (Cn := RX1) (T := TX1) (N := 4) (fun _ h => List.mem_cons_of_mem _ (List.mem_append_right _ h)) tyX1_ok nmX1 rfl rfl (by decide) (List.mem_cons_of_mem _ (List.mem_append_left _ (List.mem_of_getElem? (i := 4) rfl))) rfl rfl (ty := (.array .int)) (by decide +kernel) rfl rfl (Nat.le_of_ble_eq_true rfl) rfl (q := 12) rfl ?_
  refine g_aload_n C 0 dX1_init_12 rfl rfl rfl (q := 13) ?_
  refine g_iconst C (nI 0) dX1_init_13 (by decide) (q := 14) rfl ?_
  refine g_put C 0 3 ([(x, .inr (1, [.null, .null, .ref q7, .int (nI 0)])), (q7, .inl (cI, 17, .inl (fun _ => nI 0)))]) dX1_init_14 (Cn := RX1) (T := TX1) (N := 4) (fun _ h => List.mem_cons_of_mem _ (List.mem_append_right _ h)) tyX1_ok nmX1 rfl rfl (by decide) (List.mem_cons_of_mem _ (List.mem_append_left _ (List.mem_of_getElem? (i := 5) rfl))) rfl (ty := .int) (by decide +kernel) rfl rfl (Nat.le_of_ble_eq_true rfl) rfl (q := 17) rfl ?_
  refine g_aload_n C 0 dX1_init_17 rfl rfl rfl (q := 18) ?_
  refine g_aload_n C 1 dX1_init_18 rfl rfl rfl (q := 19) ?_
  refine g_putF C 0 0 ([(x, .inr (1, [.ref y1, .null, .ref q7, .int (nI 0)])), (q7, .inl (cI, 17, .inl (fun _ => nI 0)))]) dX1_init_19 (Cn := RX1) (T := TX1) (N := 4) (fun _ h => List.mem_cons_of_mem _ (List.mem_append_right _ h)) tyX1_ok nmX1 rfl rfl (by decide) (List.mem_cons_of_mem _ (List.mem_append_left _ (List.mem_of_getElem? (i := 6) rfl))) rfl rfl (ty := (.object "CoastPull$Line")) (by decide +kernel) rfl rfl (Nat.le_of_ble_eq_true rfl) rfl (q := 22) rfl ?_
  refine g_aload_n C 0 dX1_init_22 rfl rfl rfl (q := 23) ?_
  refine g_aload_n C 2 dX1_init_23 rfl rfl rfl (q := 24) ?_
  refine g_putF C 0 1 ([(x, .inr (1, [.ref y1, .ref y2, .ref q7, .int (nI 0)])), (q7, .inl (cI, 17, .inl (fun _ => nI 0)))]) dX1_init_24 (Cn := RX1) (T := TX1) (N := 4) (fun _ h => List.mem_cons_of_mem _ (List.mem_append_right _ h)) tyX1_ok nmX1 rfl rfl (by decide) (List.mem_cons_of_mem _ (List.mem_append_left _ (List.mem_of_getElem? (i := 7) rfl))) rfl rfl (ty := (.object "CoastPull$Steps")) (by decide +kernel) rfl rfl (Nat.le_of_ble_eq_true rfl) rfl (q := 27) rfl ?_
  exact hret (q7) 27 _ dX1_init_27 (trivial)
