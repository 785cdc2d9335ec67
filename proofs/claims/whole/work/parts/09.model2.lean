/-! the reference: begin, line, judged -/
theorem lgT_e {gr li nu : Nat → Int32} {s : Nat → Nat} {k : Nat} (h : flN gr li nu k (s k) (s (k + 1)) = 0) : lgT gr li nu s k = nI (tmN (s k) (s (k + 1))) := if_pos h
theorem lgT_n {gr li nu : Nat → Int32} {s : Nat → Nat} {k : Nat} (h : ¬ flN gr li nu k (s k) (s (k + 1)) = 0) : lgT gr li nu s k = nI 0 := if_neg h
theorem lgP_e {gr li nu : Nat → Int32} {s : Nat → Nat} {k : Nat} (h : flN gr li nu k (s k) (s (k + 1)) = 0) : lgP gr li nu s k = pwN gr nu k (s k) (s (k + 1)) := if_pos h
theorem lgP_n {gr li nu : Nat → Int32} {s : Nat → Nat} {k : Nat} (h : ¬ flN gr li nu k (s k) (s (k + 1)) = 0) : lgP gr li nu s k = nI 0 := if_neg h
theorem lgF_e {gr li nu : Nat → Int32} {s : Nat → Nat} {k : Nat} (h : flN gr li nu k (s k) (s (k + 1)) = 0) : lgF gr li nu s k = nI 0 := if_pos h
theorem lgF_n {gr li nu : Nat → Int32} {s : Nat → Nat} {k : Nat} (h : ¬ flN gr li nu k (s k) (s (k + 1)) = 0) : lgF gr li nu s k = nI 1 := if_neg h
theorem i_add0 (x : Int32) : x + nI 0 = x := by rw [nI_0]; exact Int32.add_zero x
theorem ffU_e {gr li nu : Nat → Int32} {s : Nat → Nat} {k : Nat} (h : flN gr li nu k (s k) (s (k + 1)) = 0) : ffU (lgF gr li nu s) (k + 1) = ffU (lgF gr li nu s) k := by
  rw [ffU, lgF_e h, if_pos rfl]
  by_cases q : ffU (lgF gr li nu s) k = -1000000
  · rw [if_pos q, q]
  · rw [if_neg q]
theorem ffU_n {gr li nu : Nat → Int32} {s : Nat → Nat} {k : Nat} (h : ¬ flN gr li nu k (s k) (s (k + 1)) = 0) (q : ffU (lgF gr li nu s) k = -1000000) : ffU (lgF gr li nu s) (k + 1) = nI k := by
  rw [ffU, lgF_n h, if_pos q]; exact if_neg (by decide)
theorem ffU_k {gr li nu : Nat → Int32} {s : Nat → Nat} {k : Nat} (q : ¬ ffU (lgF gr li nu s) k = -1000000) : ffU (lgF gr li nu s) (k + 1) = ffU (lgF gr li nu s) k := by rw [ffU, if_neg q]
set_option maxHeartbeats 4000000 in
set_option maxRecDepth 100000 in
theorem c_X7_begin (l : Launch) (D : va_G) (cI cJ cZ : ClassId) (b : Nat → Nat) (ce : Int32) (gr li st tr : Nat → Int32) (tl : Int32) (sd lea : Nat → Int32) (pa : Int32) (pt pp : Nat → Int32) (su : Int32) (sh tt : Nat → Int32) (z : Nat) (hz : 1 ≤ z) (hz2 : z ≤ 16) : Met l yX7_begin wsX7_begin { frames := 0, cells := 0, slots := 0, locals := 0 } (gPc D (tyT cI cJ cZ) (wB b) FT (wM cI cJ cZ b ce gr li st tr tl sd lea pa pt pp su sh tt) [.ref (b 0), .int (nI z)]) (va_Qv (fun (u : Unit) => True) (fun u tS => va_P D vwCl ((fun (u : Unit) => wM cI cJ cZ b (nI z) (fun _ => nI 0) (fun _ => nI 6) (stL z) tr (nI 0) sd lea pa pt pp (nI 0) sh tt) u) tS.heap ∧ va_D (wB b) ((fun (u : Unit) => wM cI cJ cZ b (nI z) (fun _ => nI 0) (fun _ => nI 6) (stL z) tr (nI 0) sd lea pa pt pp (nI 0) sh tt) u)) (wB b)) 0 0 (wB b) := by
  refine gs_qv (cc := cX7_begin) (nL := 3) (W' := fun (u : Unit) => wM cI cJ cZ b (nI z) (fun _ => nI 0) (fun _ => nI 6) (stL z) tr (nI 0) sd lea pa pt pp (nI 0) sh tt) (by decide) rfl (Nat.le_of_ble_eq_true rfl) (fun G C hret => ?_)
  show G 0 0 (wM cI cJ cZ b ce gr li st tr tl sd lea pa pt pp su sh tt) [(0, .ref (b 0)), (1, .int (nI z))] 0 []
  refine g_aload_n C 0 dX7_begin_0 rfl rfl rfl (q := 1) ?_
  refine g_iload_n C 1 dX7_begin_1 rfl rfl rfl (q := 2) ?_
  refine g_put C 0 0 (wM cI cJ cZ b (nI z) gr li st tr tl sd lea pa pt pp su sh tt) dX7_begin_2 (Cn := RX7) (T := TX7) (N := 14) (fun _ h => List.mem_cons_of_mem _ (List.mem_append_right _ h)) tyX7_ok nmX7 rfl rfl (by decide) (List.mem_cons_of_mem _ (List.mem_append_left _ (List.mem_of_getElem? (i := 0) rfl))) rfl (ty := .int) (by decide +kernel) rfl rfl (Nat.le_of_ble_eq_true rfl) rfl (q := 5) rfl ?_
  refine g_iconst C (nI 0) dX7_begin_5 (by decide) (q := 6) rfl ?_
  refine g_istore_n C [(2, .int (nI 0)), (0, .ref (b 0)), (1, .int (nI z))] dX7_begin_6 rfl (by decide) rfl (q := 7) rfl ?_
  have lp_7 : ∀ (N : Nat) (k : Nat) (f g : Nat → Int32), (k ≤ 16) → (∀ p, p < k → f p = nI 0) → (∀ p, p < k → g p = nI 6) → 16 - k < N → G 0 0 (wM cI cJ cZ b (nI z) f g st tr tl sd lea pa pt pp su sh tt) [(2, .int (nI k)), (0, .ref (b 0)), (1, .int (nI z))] 7 [] := by
    intro N
    induction N with
    | zero => intro k f g _ _ _ hmu; exact absurd hmu (Nat.not_lt_zero _)
    | succ N ih_7 =>
      intro k f g hk hf hg hmu
      refine g_iload_n C 0 dX7_begin_7 rfl rfl rfl (q := 8) ?_
      refine g_bipush C (nI 16) dX7_begin_8 (by decide) (q := 10) rfl ?_
      refine g_icmp_ge C (t := 34) dX7_begin_10 (by decide) (q := 13) rfl (fun c_10 => ?_) (fun c_10 => ?_)
      · rw [nI_leI (by omega) (by omega)] at c_10
        refine g_arrI C (fun _ => nI 0) 1 (wM cI cJ cZ b (nI z) (fun _ => nI 0) g st tr tl sd lea pa pt pp su sh tt) rfl (fun j hj => hf j (by omega)) rfl ?_
        refine g_arrI C (fun _ => nI 6) 2 (wM cI cJ cZ b (nI z) (fun _ => nI 0) (fun _ => nI 6) st tr tl sd lea pa pt pp su sh tt) rfl (fun j hj => hg j (by omega)) rfl ?_
        refine g_iconst C (nI 0) dX7_begin_34 (by decide) (q := 35) rfl ?_
        refine g_istore_n C [(2, .int (nI 0)), (0, .ref (b 0)), (1, .int (nI z))] dX7_begin_35 rfl (by decide) rfl (q := 36) rfl ?_
        have lp_36 : ∀ (N : Nat) (k : Nat) (f2 : Nat → Int32), (k ≤ 17) → (∀ p, p < k → f2 p = stL z p) → 17 - k < N → G 0 0 (wM cI cJ cZ b (nI z) (fun _ => nI 0) (fun _ => nI 6) f2 tr tl sd lea pa pt pp su sh tt) [(2, .int (nI k)), (0, .ref (b 0)), (1, .int (nI z))] 36 [] := by
          intro N
          induction N with
          | zero => intro k f2 _ _ hmu; exact absurd hmu (Nat.not_lt_zero _)
          | succ N ih_36 =>
            intro k f2 hk hf2 hmu
            refine g_iload_n C 0 dX7_begin_36 rfl rfl rfl (q := 37) ?_
            refine g_bipush C (nI 17) dX7_begin_37 (by decide) (q := 39) rfl ?_
            refine g_icmp_ge C (t := 68) dX7_begin_39 (by decide) (q := 42) rfl (fun c_39 => ?_) (fun c_39 => ?_)
            · rw [nI_leI (by omega) (by omega)] at c_39
              refine g_arrI C (stL z) 3 (wM cI cJ cZ b (nI z) (fun _ => nI 0) (fun _ => nI 6) (stL z) tr tl sd lea pa pt pp su sh tt) rfl (fun j hj => hf2 j (by omega)) rfl ?_
              refine g_aload_n C 1 dX7_begin_68 rfl rfl rfl (q := 69) ?_
              refine g_iconst C (nI 0) dX7_begin_69 (by decide) (q := 70) rfl ?_
              refine g_put C 0 5 (wM cI cJ cZ b (nI z) (fun _ => nI 0) (fun _ => nI 6) (stL z) tr (nI 0) sd lea pa pt pp su sh tt) dX7_begin_70 (Cn := RX7) (T := TX7) (N := 14) (fun _ h => List.mem_cons_of_mem _ (List.mem_append_right _ h)) tyX7_ok nmX7 rfl rfl (by decide) (List.mem_cons_of_mem _ (List.mem_append_left _ (List.mem_of_getElem? (i := 4) rfl))) rfl (ty := .int) (by decide +kernel) rfl rfl (Nat.le_of_ble_eq_true rfl) rfl (q := 73) rfl ?_
              refine g_aload_n C 1 dX7_begin_73 rfl rfl rfl (q := 74) ?_
              refine g_iconst C (nI 0) dX7_begin_74 (by decide) (q := 75) rfl ?_
              refine g_put C 0 11 (wM cI cJ cZ b (nI z) (fun _ => nI 0) (fun _ => nI 6) (stL z) tr (nI 0) sd lea pa pt pp (nI 0) sh tt) dX7_begin_75 (Cn := RX7) (T := TX7) (N := 14) (fun _ h => List.mem_cons_of_mem _ (List.mem_append_right _ h)) tyX7_ok nmX7 rfl rfl (by decide) (List.mem_cons_of_mem _ (List.mem_append_left _ (List.mem_of_getElem? (i := 5) rfl))) rfl (ty := .boolean) (by decide +kernel) (by decide) rfl (Nat.le_of_ble_eq_true rfl) rfl (q := 78) rfl ?_
              exact hret () 78 _ dX7_begin_78 (trivial)
            · rw [nI_leI (by omega) (by omega)] at c_39
              refine g_aload_n C 1 dX7_begin_42 rfl rfl rfl (q := 43) ?_
              refine g_get C 0 3 dX7_begin_43 (Cn := RX7) (T := TX7) (N := 14) (fun _ h => List.mem_cons_of_mem _ (List.mem_append_right _ h)) rfl rfl (by decide) (List.mem_cons_of_mem _ (List.mem_append_left _ (List.mem_of_getElem? (i := 3) rfl))) rfl (q := 46) rfl ?_
              refine g_iload_n C 0 dX7_begin_46 rfl rfl rfl (q := 47) ?_
              refine g_iload_n C 0 dX7_begin_47 rfl rfl rfl (q := 48) ?_
              refine g_if_eq C (t := 56) dX7_begin_48 (by decide) (q := 51) rfl (fun c_48 => ?_) (fun c_48 => ?_)
              · rw [← nI_0, nI_eq (by omega) (by omega)] at c_48
                refine g_iconst C (nI 1) dX7_begin_56 (by decide) (q := 57) rfl ?_
                refine g_goto C (q := 61) dX7_begin_57 (by decide) ?_
                refine g_zast C 3 2 (wM cI cJ cZ b (nI z) (fun _ => nI 0) (fun _ => nI 6) (upd f2 k (nI 1)) tr tl sd lea pa pt pp su sh tt) dX7_begin_61 rfl rfl (vp_in_nI (by omega) (by decide)) (by rw [nI_clamp (by omega)]; rw [show vp_nar .boolean (nI 1) = (nI 1) from rfl]; rfl) (q := 62) rfl ?_
                refine g_iinc C (z := 0) (nI (k + 1)) [(2, .int (nI (k + 1))), (0, .ref (b 0)), (1, .int (nI z))] dX7_begin_62 rfl (nI_add k 1) (by decide) rfl (q := 65) rfl ?_
                refine g_goto C (q := 36) dX7_begin_65 (by decide) ?_
                exact ih_36 (k + 1) (upd f2 k (nI 1)) (by first | assumption | omega) (by intro p hp; by_cases e : p = k; (subst e; rw [pk_us, stL]; first | exact (if_pos (by omega)).symm | exact (if_neg (by omega)).symm); (rw [pk_un e]; exact hf2 p (by omega))) (by omega)
              · rw [← nI_0, nI_eq (by omega) (by omega)] at c_48
                refine g_iload_n C 0 dX7_begin_51 rfl rfl rfl (q := 52) ?_
                refine g_iload_n C 2 dX7_begin_52 rfl rfl rfl (q := 53) ?_
                refine g_icmp_ne C (t := 60) dX7_begin_53 (by decide) (q := 56) rfl (fun c_53 => ?_) (fun c_53 => ?_)
                · rw [nI_eq (by omega) (by omega)] at c_53
                  refine g_iconst C (nI 0) dX7_begin_60 (by decide) (q := 61) rfl ?_
                  refine g_zast C 3 2 (wM cI cJ cZ b (nI z) (fun _ => nI 0) (fun _ => nI 6) (upd f2 k (nI 0)) tr tl sd lea pa pt pp su sh tt) dX7_begin_61 rfl rfl (vp_in_nI (by omega) (by decide)) (by rw [nI_clamp (by omega)]; rw [show vp_nar .boolean (nI 0) = (nI 0) from rfl]; rfl) (q := 62) rfl ?_
                  refine g_iinc C (z := 0) (nI (k + 1)) [(2, .int (nI (k + 1))), (0, .ref (b 0)), (1, .int (nI z))] dX7_begin_62 rfl (nI_add k 1) (by decide) rfl (q := 65) rfl ?_
                  refine g_goto C (q := 36) dX7_begin_65 (by decide) ?_
                  exact ih_36 (k + 1) (upd f2 k (nI 0)) (by first | assumption | omega) (by intro p hp; by_cases e : p = k; (subst e; rw [pk_us, stL]; first | exact (if_pos (by omega)).symm | exact (if_neg (by omega)).symm); (rw [pk_un e]; exact hf2 p (by omega))) (by omega)
                · rw [nI_eq (by omega) (by omega)] at c_53
                  refine g_iconst C (nI 1) dX7_begin_56 (by decide) (q := 57) rfl ?_
                  refine g_goto C (q := 61) dX7_begin_57 (by decide) ?_
                  refine g_zast C 3 2 (wM cI cJ cZ b (nI z) (fun _ => nI 0) (fun _ => nI 6) (upd f2 k (nI 1)) tr tl sd lea pa pt pp su sh tt) dX7_begin_61 rfl rfl (vp_in_nI (by omega) (by decide)) (by rw [nI_clamp (by omega)]; rw [show vp_nar .boolean (nI 1) = (nI 1) from rfl]; rfl) (q := 62) rfl ?_
                  refine g_iinc C (z := 0) (nI (k + 1)) [(2, .int (nI (k + 1))), (0, .ref (b 0)), (1, .int (nI z))] dX7_begin_62 rfl (nI_add k 1) (by decide) rfl (q := 65) rfl ?_
                  refine g_goto C (q := 36) dX7_begin_65 (by decide) ?_
                  exact ih_36 (k + 1) (upd f2 k (nI 1)) (by first | assumption | omega) (by intro p hp; by_cases e : p = k; (subst e; rw [pk_us, stL]; first | exact (if_pos (by omega)).symm | exact (if_neg (by omega)).symm); (rw [pk_un e]; exact hf2 p (by omega))) (by omega)
        exact lp_36 _ 0 st (by first | assumption | omega) (fun p h => absurd h (Nat.not_lt_zero _)) (Nat.lt_succ_self _)
      · rw [nI_leI (by omega) (by omega)] at c_10
        refine g_aload_n C 1 dX7_begin_13 rfl rfl rfl (q := 14) ?_
        refine g_get C 0 1 dX7_begin_14 (Cn := RX7) (T := TX7) (N := 14) (fun _ h => List.mem_cons_of_mem _ (List.mem_append_right _ h)) rfl rfl (by decide) (List.mem_cons_of_mem _ (List.mem_append_left _ (List.mem_of_getElem? (i := 1) rfl))) rfl (q := 17) rfl ?_
        refine g_iload_n C 0 dX7_begin_17 rfl rfl rfl (q := 18) ?_
        refine g_iconst C (nI 0) dX7_begin_18 (by decide) (q := 19) rfl ?_
        refine g_iast C 1 0 (wM cI cJ cZ b (nI z) (upd f k (nI 0)) g st tr tl sd lea pa pt pp su sh tt) dX7_begin_19 rfl rfl (vp_in_nI (by omega) (by decide)) (by rw [nI_clamp (by omega)]; rfl) (q := 20) rfl ?_
        refine g_aload_n C 1 dX7_begin_20 rfl rfl rfl (q := 21) ?_
        refine g_get C 0 2 dX7_begin_21 (Cn := RX7) (T := TX7) (N := 14) (fun _ h => List.mem_cons_of_mem _ (List.mem_append_right _ h)) rfl rfl (by decide) (List.mem_cons_of_mem _ (List.mem_append_left _ (List.mem_of_getElem? (i := 2) rfl))) rfl (q := 24) rfl ?_
        refine g_iload_n C 0 dX7_begin_24 rfl rfl rfl (q := 25) ?_
        refine g_bipush C (nI 6) dX7_begin_25 (by decide) (q := 27) rfl ?_
        refine g_iast C 2 0 (wM cI cJ cZ b (nI z) (upd f k (nI 0)) (upd g k (nI 6)) st tr tl sd lea pa pt pp su sh tt) dX7_begin_27 rfl rfl (vp_in_nI (by omega) (by decide)) (by rw [nI_clamp (by omega)]; rfl) (q := 28) rfl ?_
        refine g_iinc C (z := 0) (nI (k + 1)) [(2, .int (nI (k + 1))), (0, .ref (b 0)), (1, .int (nI z))] dX7_begin_28 rfl (nI_add k 1) (by decide) rfl (q := 31) rfl ?_
        refine g_goto C (q := 7) dX7_begin_31 (by decide) ?_
        exact ih_7 (k + 1) (upd f k (nI 0)) (upd g k (nI 6)) (by first | assumption | omega) (by intro p hp; by_cases e : p = k; (subst e; exact pk_us); (rw [pk_un e]; exact hf p (by omega))) (by intro p hp; by_cases e : p = k; (subst e; exact pk_us); (rw [pk_un e]; exact hg p (by omega))) (by omega)
  exact lp_7 _ 0 gr li (by first | assumption | omega) (fun p h => absurd h (Nat.not_lt_zero _)) (fun p h => absurd h (Nat.not_lt_zero _)) (Nat.lt_succ_self _)
set_option maxHeartbeats 4000000 in
set_option maxRecDepth 100000 in
theorem c_X7_line (l : Launch) (D : va_G) (cI cJ cZ : ClassId) (b : Nat → Nat) (n : Nat) (gr li st tr : Nat → Int32) (t : Nat) (sd lea : Nat → Int32) (pa : Int32) (pt pp : Nat → Int32) (su : Int32) (sh tt : Nat → Int32) (k : Int32) : Met l yX7_line wsX7_line { frames := 1, cells := 0, slots := 0, locals := 22 } (gPc D (tyT cI cJ cZ) (wB b) FT (wM cI cJ cZ b (nI n) gr li st tr (nI t) sd lea pa pt pp su sh tt) [.ref (b 0), .int k]) (va_Qi (fun (r : Int32) (u : Nat × (Nat → Int32) × (Nat → Int32) × (Nat → Int32) × Nat × Int32) => (¬ lnP k → r = -2 ∧ u = (n, gr, li, st, t, su)) ∧ (lnP k → r = nI n ∧ ∃ z : Nat, k = nI z ∧ u = (z, fun _ => nI 0, fun _ => nI 6, stL z, 0, nI 0))) (fun u tS => va_P D vwCl ((fun (u : Nat × (Nat → Int32) × (Nat → Int32) × (Nat → Int32) × Nat × Int32) => wM cI cJ cZ b (nI u.1) u.2.1 u.2.2.1 u.2.2.2.1 tr (nI u.2.2.2.2.1) sd lea pa pt pp u.2.2.2.2.2 sh tt) u) tS.heap ∧ va_D (wB b) ((fun (u : Nat × (Nat → Int32) × (Nat → Int32) × (Nat → Int32) × Nat × Int32) => wM cI cJ cZ b (nI u.1) u.2.1 u.2.2.1 u.2.2.2.1 tr (nI u.2.2.2.2.1) sd lea pa pt pp u.2.2.2.2.2 sh tt) u)) (wB b)) 0 0 (wB b) := by
  refine gs_qi (cc := cX7_line) (nL := 3) (ty := .int) (W' := fun (u : Nat × (Nat → Int32) × (Nat → Int32) × (Nat → Int32) × Nat × Int32) => wM cI cJ cZ b (nI u.1) u.2.1 u.2.2.1 u.2.2.2.1 tr (nI u.2.2.2.2.1) sd lea pa pt pp u.2.2.2.2.2 sh tt) (by decide) rfl (Nat.le_of_ble_eq_true rfl) (fun G C hret => ?_)
  show G 0 0 (wM cI cJ cZ b (nI n) gr li st tr (nI t) sd lea pa pt pp su sh tt) [(0, .ref (b 0)), (1, .int k)] 0 []
  refine g_iload_n C 1 dX7_line_0 rfl rfl rfl (q := 1) ?_
  refine g_iconst C (nI 1) dX7_line_1 (by decide) (q := 2) rfl ?_
  refine g_bipush C (nI 16) dX7_line_2 (by decide) (q := 4) rfl ?_
  refine gcS_si C (n := 3) (As := [.int k, .int (nI 1), .int (nI 16)]) (st := []) (fun h => h) dX7_line_4 gX7_line_X7_in (c_X7_in l D cI cJ cZ b n gr li st tr t sd lea pa pt pp su sh tt k (nI 1) (nI 16)) rfl rfl rfl (by decide +kernel) ⟨Nat.le_of_ble_eq_true rfl, Nat.le_of_ble_eq_true rfl⟩ rfl rfl (Nat.le_of_ble_eq_true rfl) FT_b FT_h ⟨Nat.le_of_ble_eq_true rfl, Nat.le_of_ble_eq_true rfl⟩ (q := 7) rfl (fun r_4 h_4 => ?_)
  subst h_4
  refine g_if_ne C (t := 13) dX7_line_7 (by decide) (q := 10) rfl (fun c_7 => ?_) (fun c_7 => ?_)
  · replace c_7 := ite_n0 c_7
    have hln : lnP k := c_7
    obtain ⟨z, hz1, hz2, rfl⟩ := lnP_of hln
    refine g_aload_n C 0 dX7_line_13 rfl rfl rfl (q := 14) ?_
    refine g_get C 0 0 dX7_line_14 (Cn := RX7) (T := TX7) (N := 14) (fun _ h => List.mem_cons_of_mem _ (List.mem_append_right _ h)) rfl rfl (by decide) (List.mem_cons_of_mem _ (List.mem_append_left _ (List.mem_of_getElem? (i := 0) rfl))) rfl (q := 17) rfl ?_
    refine g_istore_n C [(2, .int (nI n)), (0, .ref (b 0)), (1, .int (nI z))] dX7_line_17 rfl (by decide) rfl (q := 18) rfl ?_
    refine g_aload_n C 1 dX7_line_18 rfl rfl rfl (q := 19) ?_
    refine g_iload_n C 2 dX7_line_19 rfl rfl rfl (q := 20) ?_
    refine gcV_qv C (n := 1) (As := [.int (nI z)]) (st := []) 0 (fun h => h) (fun _ h => h) dX7_line_20 rfl rfl gX7_line_X7_begin (c_X7_begin l D cI cJ cZ b (nI n) gr li st tr (nI t) sd lea pa pt pp su sh tt z (by first | assumption | omega) (by first | assumption | omega)) rfl rfl rfl (by decide +kernel) ⟨Nat.le_of_ble_eq_true rfl, Nat.le_of_ble_eq_true rfl⟩ rfl rfl (Nat.le_of_ble_eq_true rfl) FT_b FT_h ⟨Nat.le_of_ble_eq_true rfl, Nat.le_of_ble_eq_true rfl⟩ (q := 23) rfl (fun u_20 h_20 => ?_)
    refine g_iload_n C 0 dX7_line_23 rfl rfl rfl (q := 24) ?_
    exact hret _ (z, fun _ => nI 0, fun _ => nI 6, stL z, 0, nI 0) 24 _ dX7_line_24 rfl (⟨fun h => absurd hln h, fun _ => ⟨rfl, z, rfl, rfl⟩⟩)
  · replace c_7 := ite_e0 c_7
    refine g_bipush C (-2) dX7_line_10 (by decide) (q := 12) rfl ?_
    exact hret _ (n, gr, li, st, t, su) 12 _ dX7_line_12 rfl (⟨fun _ => ⟨rfl, rfl⟩, fun h => absurd h c_7⟩)
set_option maxHeartbeats 4000000 in
set_option maxRecDepth 100000 in
theorem c_X7_judged (l : Launch) (D : va_G) (cI cJ cZ : ClassId) (b : Nat → Nat) (n : Nat) (gr li st tr : Nat → Int32) (t : Nat) (sd lea : Nat → Int32) (pa : Int32) (pt pp : Nat → Int32) (su : Int32) (sh tt : Nat → Int32) (w : Int32) (s : Nat → Nat) (ht : t ≤ 17) (hs : ∀ j, sd j = nI (s j) ∧ s j ≤ 6) (hst : ∀ j, st j = nI 0 ∨ st j = nI 1) : Met l yX7_judged wsX7_judged { frames := 2, cells := 0, slots := 0, locals := 47 } (gPc D (tyT cI cJ cZ) (wB b) FT (wM cI cJ cZ b (nI n) gr li st tr (nI t) sd lea pa pt pp su sh tt) [.ref (b 0), .int w]) (vp_Si (fun r => r = aJudged gr li tr st s t w)) 0 0 (fun _ => False) := by
  refine gs_si (cc := cX7_judged) (nL := 10) (ty := .int) (by decide) rfl (Nat.le_of_ble_eq_true rfl) (fun G C hret => ?_)
  show G 0 0 (wM cI cJ cZ b (nI n) gr li st tr (nI t) sd lea pa pt pp su sh tt) [(0, .ref (b 0)), (1, .int w)] 0 []
  refine g_iconst C (nI 0) dX7_judged_0 (by decide) (q := 1) rfl ?_
  refine g_istore_n C [(2, .int (nI 0)), (0, .ref (b 0)), (1, .int w)] dX7_judged_1 rfl (by decide) rfl (q := 2) rfl ?_
  refine g_iconst C (nI 0) dX7_judged_2 (by decide) (q := 3) rfl ?_
  refine g_istore_n C [(3, .int (nI 0)), (2, .int (nI 0)), (0, .ref (b 0)), (1, .int w)] dX7_judged_3 rfl (by decide) rfl (q := 4) rfl ?_
  refine g_iconst C (nI 0) dX7_judged_4 (by decide) (q := 5) rfl ?_
  refine g_istore C [(4, .int (nI 0)), (3, .int (nI 0)), (2, .int (nI 0)), (0, .ref (b 0)), (1, .int w)] dX7_judged_5 (by decide) rfl (q := 7) rfl ?_
  refine g_ldc C (v := (-1000000)) dX7_judged_7 (List.mem_cons_of_mem _ (List.mem_append_left _ (List.mem_of_getElem? (i := 0) rfl))) (q := 9) rfl ?_
  refine g_istore C [(5, .int (-1000000)), (4, .int (nI 0)), (3, .int (nI 0)), (2, .int (nI 0)), (0, .ref (b 0)), (1, .int w)] dX7_judged_9 (by decide) rfl (q := 11) rfl ?_
  refine g_iconst C (nI 0) dX7_judged_11 (by decide) (q := 12) rfl ?_
  refine g_istore C [(6, .int (nI 0)), (5, .int (-1000000)), (4, .int (nI 0)), (3, .int (nI 0)), (2, .int (nI 0)), (0, .ref (b 0)), (1, .int w)] dX7_judged_12 (by decide) rfl (q := 14) rfl ?_
  refine g_iconst C (nI 0) dX7_judged_14 (by decide) (q := 15) rfl ?_
  refine g_istore C [(7, .int (nI 0)), (6, .int (nI 0)), (5, .int (-1000000)), (4, .int (nI 0)), (3, .int (nI 0)), (2, .int (nI 0)), (0, .ref (b 0)), (1, .int w)] dX7_judged_15 (by decide) rfl (q := 17) rfl ?_
  have lp_17 : ∀ (N : Nat) (k : Nat), (k ≤ t - 1) → t - k < N → G 0 0 (wM cI cJ cZ b (nI n) gr li st tr (nI t) sd lea pa pt pp su sh tt) [(7, .int (nI k)), (2, .int (sumI (lgT gr li tr s) k)), (3, .int (sumI (lgP gr li tr s) k)), (4, .int (sumI (lgF gr li tr s) k)), (5, .int (ffU (lgF gr li tr s) k)), (6, .int (nI 0)), (0, .ref (b 0)), (1, .int w)] 17 [] := by
    intro N
    induction N with
    | zero => intro k _ hmu; exact absurd hmu (Nat.not_lt_zero _)
    | succ N ih_17 =>
      intro k hk hmu
      have hu := (hs k).2
      have hv := (hs (k + 1)).2
      refine g_iload C 0 dX7_judged_17 rfl rfl (q := 19) ?_
      refine g_iconst C (nI 1) dX7_judged_19 (by decide) (q := 20) rfl ?_
      refine g_iadd C dX7_judged_20 (q := 21) rfl ?_
      refine g_eqi C (y := nI (k + 1)) (nI_add k 1) ?_
      refine g_aload_n C 6 dX7_judged_21 rfl rfl rfl (q := 22) ?_
      refine g_get C 0 5 dX7_judged_22 (Cn := RX7) (T := TX7) (N := 14) (fun _ h => List.mem_cons_of_mem _ (List.mem_append_right _ h)) rfl rfl (by decide) (List.mem_cons_of_mem _ (List.mem_append_left _ (List.mem_of_getElem? (i := 1) rfl))) rfl (q := 25) rfl ?_
      refine g_icmp_ge C (t := 111) dX7_judged_25 (by decide) (q := 28) rfl (fun c_25 => ?_) (fun c_25 => ?_)
      · rw [nI_leI (by omega) (by omega)] at c_25
        obtain rfl : k = t - 1 := by omega
        show G 0 0 (wM cI cJ cZ b (nI n) gr li st tr (nI t) sd lea pa pt pp su sh tt) [(7, .int (nI (t - 1))), (2, .int (sumI (lgT gr li tr s) (t - 1))), (3, .int (sumI (lgP gr li tr s) (t - 1))), (4, .int (sumI (lgF gr li tr s) (t - 1))), (5, .int (ffU (lgF gr li tr s) (t - 1))), (6, .int (nI 0)), (0, .ref (b 0)), (1, .int w)] 111 []
        refine g_iconst C (nI 0) dX7_judged_111 (by decide) (q := 112) rfl ?_
        refine g_istore C [(7, .int (nI 0)), (2, .int (sumI (lgT gr li tr s) (t - 1))), (3, .int (sumI (lgP gr li tr s) (t - 1))), (4, .int (sumI (lgF gr li tr s) (t - 1))), (5, .int (ffU (lgF gr li tr s) (t - 1))), (6, .int (nI 0)), (0, .ref (b 0)), (1, .int w)] dX7_judged_112 (by decide) rfl (q := 114) rfl ?_
        have lp_114 : ∀ (N : Nat) (q : Nat), (q ≤ t) → t - q < N → G 0 0 (wM cI cJ cZ b (nI n) gr li st tr (nI t) sd lea pa pt pp su sh tt) [(7, .int (nI q)), (6, .int (sumI (lgS st s) q)), (2, .int (sumI (lgT gr li tr s) (t - 1))), (3, .int (sumI (lgP gr li tr s) (t - 1))), (4, .int (sumI (lgF gr li tr s) (t - 1))), (5, .int (ffU (lgF gr li tr s) (t - 1))), (0, .ref (b 0)), (1, .int w)] 114 [] := by
          intro N
          induction N with
          | zero => intro q _ hmu; exact absurd hmu (Nat.not_lt_zero _)
          | succ N ih_114 =>
            intro q hq hmu
            have hv := (hs q).2
            refine g_iload C 0 dX7_judged_114 rfl rfl (q := 116) ?_
            refine g_aload_n C 6 dX7_judged_116 rfl rfl rfl (q := 117) ?_
            refine g_get C 0 5 dX7_judged_117 (Cn := RX7) (T := TX7) (N := 14) (fun _ h => List.mem_cons_of_mem _ (List.mem_append_right _ h)) rfl rfl (by decide) (List.mem_cons_of_mem _ (List.mem_append_left _ (List.mem_of_getElem? (i := 1) rfl))) rfl (q := 120) rfl ?_
            refine g_icmp_ge C (t := 159) dX7_judged_120 (by decide) (q := 123) rfl (fun c_120 => ?_) (fun c_120 => ?_)
            · rw [nI_leI (by omega) (by omega)] at c_120
              obtain rfl : q = t := by omega
              refine g_iload_n C 7 dX7_judged_159 rfl rfl rfl (q := 160) ?_
              by_cases w0 : w = nI 0
              · subst w0
                refine g_tableIn C (q := 196) (off := 36) dX7_judged_160 (by decide) (by decide) (by decide +kernel) (by decide) ?_
                refine g_iload_n C 2 dX7_judged_196 rfl rfl rfl (q := 197) ?_
                exact hret _ 197 _ _ dX7_judged_197 rfl (rfl)
              by_cases w1 : w = nI 1
              · subst w1
                refine g_tableIn C (q := 198) (off := 38) dX7_judged_160 (by decide) (by decide) (by decide +kernel) (by decide) ?_
                refine g_iload_n C 3 dX7_judged_198 rfl rfl rfl (q := 199) ?_
                exact hret _ 199 _ _ dX7_judged_199 rfl (rfl)
              by_cases w2 : w = nI 2
              · subst w2
                refine g_tableIn C (q := 200) (off := 40) dX7_judged_160 (by decide) (by decide) (by decide +kernel) (by decide) ?_
                refine g_iload C 4 dX7_judged_200 rfl rfl (q := 202) ?_
                exact hret _ 202 _ _ dX7_judged_202 rfl (rfl)
              by_cases w3 : w = nI 3
              · subst w3
                refine g_tableIn C (q := 203) (off := 43) dX7_judged_160 (by decide) (by decide) (by decide +kernel) (by decide) ?_
                refine g_iload C 5 dX7_judged_203 rfl rfl (q := 205) ?_
                exact hret _ 205 _ _ dX7_judged_205 rfl (rfl)
              by_cases w4 : w = nI 4
              · subst w4
                refine g_tableIn C (q := 206) (off := 46) dX7_judged_160 (by decide) (by decide) (by decide +kernel) (by decide) ?_
                refine g_iload C 1 dX7_judged_206 rfl rfl (q := 208) ?_
                exact hret _ 208 _ _ dX7_judged_208 rfl (rfl)
              refine g_tableOut C (q := 209) dX7_judged_160 (tb_out (n := 5) (fun i hi => by rcases (show i = 0 ∨ i = 1 ∨ i = 2 ∨ i = 3 ∨ i = 4 by omega) with rfl | rfl | rfl | rfl | rfl <;> assumption) (by decide)) (by decide) ?_
              refine g_bipush C (-2) dX7_judged_209 (by decide) (q := 211) rfl ?_
              exact hret _ 211 _ _ dX7_judged_211 rfl (by rw [aJudged, if_neg w0, if_neg w1, if_neg w2, if_neg w3, if_neg w4])
            · rw [nI_leI (by omega) (by omega)] at c_120
              refine g_iload C 1 dX7_judged_123 rfl rfl (q := 125) ?_
              refine g_aload_n C 6 dX7_judged_125 rfl rfl rfl (q := 126) ?_
              refine g_get C 0 3 dX7_judged_126 (Cn := RX7) (T := TX7) (N := 14) (fun _ h => List.mem_cons_of_mem _ (List.mem_append_right _ h)) rfl rfl (by decide) (List.mem_cons_of_mem _ (List.mem_append_left _ (List.mem_of_getElem? (i := 3) rfl))) rfl (q := 129) rfl ?_
              refine g_iload C 0 dX7_judged_129 rfl rfl (q := 131) ?_
              refine g_zald C 3 2 dX7_judged_131 rfl rfl (vp_in_nI (by omega) (by decide)) (q := 132) rfl ?_
              refine g_eqi C (y := st q) (by rw [nI_clamp (by omega)]) ?_
              refine g_if_eq C (t := 149) dX7_judged_132 (by decide) (q := 135) rfl (fun c_132 => ?_) (fun c_132 => ?_)
              · refine g_iconst C (nI 0) dX7_judged_149 (by decide) (q := 150) rfl ?_
                refine g_iadd C dX7_judged_150 (q := 151) rfl ?_
                refine g_eqi C (y := sumI (lgS st s) (q + 1)) (sumI_s (by show (if ¬ st q = 0 ∧ ¬ s q = 0 then nI 1 else nI 0) = _; first | (rw [if_pos (show ¬ st q = 0 ∧ ¬ s q = 0 from ⟨c_132, by omega⟩)]) | (rw [if_neg (show ¬ (¬ st q = 0 ∧ ¬ s q = 0) from fun h => h.1 c_132)]) | (rw [if_neg (show ¬ (¬ st q = 0 ∧ ¬ s q = 0) from fun h => h.2 (by omega))]))) ?_
                refine g_istore C [(6, .int (sumI (lgS st s) (q + 1))), (7, .int (nI q)), (2, .int (sumI (lgT gr li tr s) (t - 1))), (3, .int (sumI (lgP gr li tr s) (t - 1))), (4, .int (sumI (lgF gr li tr s) (t - 1))), (5, .int (ffU (lgF gr li tr s) (t - 1))), (0, .ref (b 0)), (1, .int w)] dX7_judged_151 (by decide) rfl (q := 153) rfl ?_
                refine g_iinc C (z := 1) (nI (q + 1)) [(7, .int (nI (q + 1))), (6, .int (sumI (lgS st s) (q + 1))), (2, .int (sumI (lgT gr li tr s) (t - 1))), (3, .int (sumI (lgP gr li tr s) (t - 1))), (4, .int (sumI (lgF gr li tr s) (t - 1))), (5, .int (ffU (lgF gr li tr s) (t - 1))), (0, .ref (b 0)), (1, .int w)] dX7_judged_153 rfl (nI_add q 1) (by decide) rfl (q := 156) rfl ?_
                refine g_goto C (q := 114) dX7_judged_156 (by decide) ?_
                exact ih_114 (q + 1) (by first | assumption | omega) (by omega)
              · refine g_aload_n C 6 dX7_judged_135 rfl rfl rfl (q := 136) ?_
                refine g_get C 0 6 dX7_judged_136 (Cn := RX7) (T := TX7) (N := 14) (fun _ h => List.mem_cons_of_mem _ (List.mem_append_right _ h)) rfl rfl (by decide) (List.mem_cons_of_mem _ (List.mem_append_left _ (List.mem_of_getElem? (i := 2) rfl))) rfl (q := 139) rfl ?_
                refine g_iload C 0 dX7_judged_139 rfl rfl (q := 141) ?_
                refine g_iald C 5 0 dX7_judged_141 rfl rfl (vp_in_nI (by omega) (by decide)) (q := 142) rfl ?_
                refine g_eqi C (y := sd q) (by rw [nI_clamp (by omega)]) ?_
                refine g_eqi C (y := nI (s q)) ((hs q).1) ?_
                refine g_if_le C (t := 149) dX7_judged_142 (by decide) (q := 145) rfl (fun c_142 => ?_) (fun c_142 => ?_)
                · rw [← nI_0, nI_leI (by omega) (by omega)] at c_142
                  refine g_iconst C (nI 0) dX7_judged_149 (by decide) (q := 150) rfl ?_
                  refine g_iadd C dX7_judged_150 (q := 151) rfl ?_
                  refine g_eqi C (y := sumI (lgS st s) (q + 1)) (sumI_s (by show (if ¬ st q = 0 ∧ ¬ s q = 0 then nI 1 else nI 0) = _; first | (rw [if_pos (show ¬ st q = 0 ∧ ¬ s q = 0 from ⟨c_132, by omega⟩)]) | (rw [if_neg (show ¬ (¬ st q = 0 ∧ ¬ s q = 0) from fun h => h.1 c_132)]) | (rw [if_neg (show ¬ (¬ st q = 0 ∧ ¬ s q = 0) from fun h => h.2 (by omega))]))) ?_
                  refine g_istore C [(6, .int (sumI (lgS st s) (q + 1))), (7, .int (nI q)), (2, .int (sumI (lgT gr li tr s) (t - 1))), (3, .int (sumI (lgP gr li tr s) (t - 1))), (4, .int (sumI (lgF gr li tr s) (t - 1))), (5, .int (ffU (lgF gr li tr s) (t - 1))), (0, .ref (b 0)), (1, .int w)] dX7_judged_151 (by decide) rfl (q := 153) rfl ?_
                  refine g_iinc C (z := 1) (nI (q + 1)) [(7, .int (nI (q + 1))), (6, .int (sumI (lgS st s) (q + 1))), (2, .int (sumI (lgT gr li tr s) (t - 1))), (3, .int (sumI (lgP gr li tr s) (t - 1))), (4, .int (sumI (lgF gr li tr s) (t - 1))), (5, .int (ffU (lgF gr li tr s) (t - 1))), (0, .ref (b 0)), (1, .int w)] dX7_judged_153 rfl (nI_add q 1) (by decide) rfl (q := 156) rfl ?_
                  refine g_goto C (q := 114) dX7_judged_156 (by decide) ?_
                  exact ih_114 (q + 1) (by first | assumption | omega) (by omega)
                · rw [← nI_0, nI_leI (by omega) (by omega)] at c_142
                  refine g_iconst C (nI 1) dX7_judged_145 (by decide) (q := 146) rfl ?_
                  refine g_goto C (q := 150) dX7_judged_146 (by decide) ?_
                  refine g_iadd C dX7_judged_150 (q := 151) rfl ?_
                  refine g_eqi C (y := sumI (lgS st s) (q + 1)) (sumI_s (by show (if ¬ st q = 0 ∧ ¬ s q = 0 then nI 1 else nI 0) = _; first | (rw [if_pos (show ¬ st q = 0 ∧ ¬ s q = 0 from ⟨c_132, by omega⟩)]) | (rw [if_neg (show ¬ (¬ st q = 0 ∧ ¬ s q = 0) from fun h => h.1 c_132)]) | (rw [if_neg (show ¬ (¬ st q = 0 ∧ ¬ s q = 0) from fun h => h.2 (by omega))]))) ?_
                  refine g_istore C [(6, .int (sumI (lgS st s) (q + 1))), (7, .int (nI q)), (2, .int (sumI (lgT gr li tr s) (t - 1))), (3, .int (sumI (lgP gr li tr s) (t - 1))), (4, .int (sumI (lgF gr li tr s) (t - 1))), (5, .int (ffU (lgF gr li tr s) (t - 1))), (0, .ref (b 0)), (1, .int w)] dX7_judged_151 (by decide) rfl (q := 153) rfl ?_
                  refine g_iinc C (z := 1) (nI (q + 1)) [(7, .int (nI (q + 1))), (6, .int (sumI (lgS st s) (q + 1))), (2, .int (sumI (lgT gr li tr s) (t - 1))), (3, .int (sumI (lgP gr li tr s) (t - 1))), (4, .int (sumI (lgF gr li tr s) (t - 1))), (5, .int (ffU (lgF gr li tr s) (t - 1))), (0, .ref (b 0)), (1, .int w)] dX7_judged_153 rfl (nI_add q 1) (by decide) rfl (q := 156) rfl ?_
                  refine g_goto C (q := 114) dX7_judged_156 (by decide) ?_
                  exact ih_114 (q + 1) (by first | assumption | omega) (by omega)
        refine g_locs C [(7, .int (nI 0)), (6, .int (nI 0)), (2, .int (sumI (lgT gr li tr s) (t - 1))), (3, .int (sumI (lgP gr li tr s) (t - 1))), (4, .int (sumI (lgF gr li tr s) (t - 1))), (5, .int (ffU (lgF gr li tr s) (t - 1))), (0, .ref (b 0)), (1, .int w)] [0, 5, 1, 2, 3, 4, 6, 7] rfl ?_
        exact lp_114 _ 0 (by first | assumption | omega) (Nat.lt_succ_self _)
      · rw [nI_leI (by omega) (by omega)] at c_25
        refine g_aload_n C 6 dX7_judged_28 rfl rfl rfl (q := 29) ?_
        refine g_get C 0 6 dX7_judged_29 (Cn := RX7) (T := TX7) (N := 14) (fun _ h => List.mem_cons_of_mem _ (List.mem_append_right _ h)) rfl rfl (by decide) (List.mem_cons_of_mem _ (List.mem_append_left _ (List.mem_of_getElem? (i := 2) rfl))) rfl (q := 32) rfl ?_
        refine g_iload C 0 dX7_judged_32 rfl rfl (q := 34) ?_
        refine g_iald C 5 0 dX7_judged_34 rfl rfl (vp_in_nI (by omega) (by decide)) (q := 35) rfl ?_
        refine g_eqi C (y := sd k) (by rw [nI_clamp (by omega)]) ?_
        refine g_eqi C (y := nI (s k)) ((hs k).1) ?_
        refine g_istore C [(8, .int (nI (s k))), (7, .int (nI k)), (2, .int (sumI (lgT gr li tr s) k)), (3, .int (sumI (lgP gr li tr s) k)), (4, .int (sumI (lgF gr li tr s) k)), (5, .int (ffU (lgF gr li tr s) k)), (6, .int (nI 0)), (0, .ref (b 0)), (1, .int w)] dX7_judged_35 (by decide) rfl (q := 37) rfl ?_
        refine g_aload_n C 7 dX7_judged_37 rfl rfl rfl (q := 38) ?_
        refine g_get C 0 6 dX7_judged_38 (Cn := RX7) (T := TX7) (N := 14) (fun _ h => List.mem_cons_of_mem _ (List.mem_append_right _ h)) rfl rfl (by decide) (List.mem_cons_of_mem _ (List.mem_append_left _ (List.mem_of_getElem? (i := 2) rfl))) rfl (q := 41) rfl ?_
        refine g_iload C 1 dX7_judged_41 rfl rfl (q := 43) ?_
        refine g_iconst C (nI 1) dX7_judged_43 (by decide) (q := 44) rfl ?_
        refine g_iadd C dX7_judged_44 (q := 45) rfl ?_
        refine g_eqi C (y := nI (k + 1)) (nI_add k 1) ?_
        refine g_iald C 5 0 dX7_judged_45 rfl rfl (vp_in_nI (by omega) (by decide)) (q := 46) rfl ?_
        refine g_eqi C (y := sd (k + 1)) (by rw [nI_clamp (by omega)]) ?_
        refine g_eqi C (y := nI (s (k + 1))) ((hs (k + 1)).1) ?_
        refine g_istore C [(9, .int (nI (s (k + 1)))), (8, .int (nI (s k))), (7, .int (nI k)), (2, .int (sumI (lgT gr li tr s) k)), (3, .int (sumI (lgP gr li tr s) k)), (4, .int (sumI (lgF gr li tr s) k)), (5, .int (ffU (lgF gr li tr s) k)), (6, .int (nI 0)), (0, .ref (b 0)), (1, .int w)] dX7_judged_46 (by decide) rfl (q := 48) rfl ?_
        refine g_aload_n C 8 dX7_judged_48 rfl rfl rfl (q := 49) ?_
        refine g_iload C 2 dX7_judged_49 rfl rfl (q := 51) ?_
        refine g_iload C 1 dX7_judged_51 rfl rfl (q := 53) ?_
        refine g_iload C 0 dX7_judged_53 rfl rfl (q := 55) ?_
        refine gcV_si C (n := 3) (As := [.int (nI k), .int (nI (s k)), .int (nI (s (k + 1)))]) (st := []) 0 (fun h => h) dX7_judged_55 rfl rfl gX7_judged_X7_faultOf (c_X7_faultOf l D cI cJ cZ b n gr li st tr t sd lea pa pt pp su sh tt k (s k) (s (k + 1)) (by first | assumption | omega) (by first | assumption | omega) (by first | assumption | omega)) rfl rfl rfl (by decide +kernel) ⟨Nat.le_of_ble_eq_true rfl, Nat.le_of_ble_eq_true rfl⟩ rfl rfl (Nat.le_of_ble_eq_true rfl) FT_b FT_h ⟨Nat.le_of_ble_eq_true rfl, Nat.le_of_ble_eq_true rfl⟩ (q := 58) rfl (fun r_55 h_55 => ?_)
        subst h_55
        refine g_if_ne C (t := 88) dX7_judged_58 (by decide) (q := 61) rfl (fun c_58 => ?_) (fun c_58 => ?_)
        · refine g_iload C 5 dX7_judged_88 rfl rfl (q := 90) ?_
          refine g_if_ne C (t := 98) dX7_judged_90 (by decide) (q := 93) rfl (fun c_90 => ?_) (fun c_90 => ?_)
          · refine g_iload C 6 dX7_judged_98 rfl rfl (q := 100) ?_
            refine g_istore C [(5, .int (ffU (lgF gr li tr s) k)), (9, .int (nI (s (k + 1)))), (8, .int (nI (s k))), (7, .int (nI k)), (2, .int (sumI (lgT gr li tr s) k)), (3, .int (sumI (lgP gr li tr s) k)), (4, .int (sumI (lgF gr li tr s) k)), (6, .int (nI 0)), (0, .ref (b 0)), (1, .int w)] dX7_judged_100 (by decide) rfl (q := 102) rfl ?_
            refine g_iinc C (z := 6) ((sumI (lgF gr li tr s) k) + nI 1) [(4, .int ((sumI (lgF gr li tr s) k) + nI 1)), (5, .int (ffU (lgF gr li tr s) k)), (9, .int (nI (s (k + 1)))), (8, .int (nI (s k))), (7, .int (nI k)), (2, .int (sumI (lgT gr li tr s) k)), (3, .int (sumI (lgP gr li tr s) k)), (6, .int (nI 0)), (0, .ref (b 0)), (1, .int w)] dX7_judged_102 rfl rfl (by decide) rfl (q := 105) rfl ?_
            refine g_lset C (z := 0) (y := sumI (lgF gr li tr s) (k + 1)) [(4, .int (sumI (lgF gr li tr s) (k + 1))), (5, .int (ffU (lgF gr li tr s) k)), (9, .int (nI (s (k + 1)))), (8, .int (nI (s k))), (7, .int (nI k)), (2, .int (sumI (lgT gr li tr s) k)), (3, .int (sumI (lgP gr li tr s) k)), (6, .int (nI 0)), (0, .ref (b 0)), (1, .int w)] rfl (sumI_s (lgF_n c_58)) rfl ?_
            refine g_lset C (z := 1) (y := ffU (lgF gr li tr s) (k + 1)) [(4, .int (sumI (lgF gr li tr s) (k + 1))), (5, .int (ffU (lgF gr li tr s) (k + 1))), (9, .int (nI (s (k + 1)))), (8, .int (nI (s k))), (7, .int (nI k)), (2, .int (sumI (lgT gr li tr s) k)), (3, .int (sumI (lgP gr li tr s) k)), (6, .int (nI 0)), (0, .ref (b 0)), (1, .int w)] rfl (by first | exact (ffU_n c_58 (ff_z (by omega) c_90)).symm | exact (ffU_k (ff_nz (by omega) c_90)).symm) rfl ?_
            refine g_lset C (z := 5) (y := sumI (lgT gr li tr s) (k + 1)) [(4, .int (sumI (lgF gr li tr s) (k + 1))), (5, .int (ffU (lgF gr li tr s) (k + 1))), (9, .int (nI (s (k + 1)))), (8, .int (nI (s k))), (7, .int (nI k)), (2, .int (sumI (lgT gr li tr s) (k + 1))), (3, .int (sumI (lgP gr li tr s) k)), (6, .int (nI 0)), (0, .ref (b 0)), (1, .int w)] rfl (by rw [← i_add0 (sumI (lgT gr li tr s) k)]; exact sumI_s (lgT_n c_58)) rfl ?_
            refine g_lset C (z := 6) (y := sumI (lgP gr li tr s) (k + 1)) [(4, .int (sumI (lgF gr li tr s) (k + 1))), (5, .int (ffU (lgF gr li tr s) (k + 1))), (9, .int (nI (s (k + 1)))), (8, .int (nI (s k))), (7, .int (nI k)), (2, .int (sumI (lgT gr li tr s) (k + 1))), (3, .int (sumI (lgP gr li tr s) (k + 1))), (6, .int (nI 0)), (0, .ref (b 0)), (1, .int w)] rfl (by rw [← i_add0 (sumI (lgP gr li tr s) k)]; exact sumI_s (lgP_n c_58)) rfl ?_
            refine g_iinc C (z := 4) (nI (k + 1)) [(7, .int (nI (k + 1))), (4, .int (sumI (lgF gr li tr s) (k + 1))), (5, .int (ffU (lgF gr li tr s) (k + 1))), (9, .int (nI (s (k + 1)))), (8, .int (nI (s k))), (2, .int (sumI (lgT gr li tr s) (k + 1))), (3, .int (sumI (lgP gr li tr s) (k + 1))), (6, .int (nI 0)), (0, .ref (b 0)), (1, .int w)] dX7_judged_105 rfl (nI_add k 1) (by decide) rfl (q := 108) rfl ?_
            refine g_goto C (q := 17) dX7_judged_108 (by decide) ?_
            refine g_locs C [(7, .int (nI (k + 1))), (2, .int (sumI (lgT gr li tr s) (k + 1))), (3, .int (sumI (lgP gr li tr s) (k + 1))), (4, .int (sumI (lgF gr li tr s) (k + 1))), (5, .int (ffU (lgF gr li tr s) (k + 1))), (6, .int (nI 0)), (0, .ref (b 0)), (1, .int w)] [0, 5, 6, 1, 2, 7, 8, 9] rfl ?_
            exact ih_17 (k + 1) (by first | assumption | omega) (by omega)
          · refine g_iload C 2 dX7_judged_93 rfl rfl (q := 95) ?_
            refine g_goto C (q := 100) dX7_judged_95 (by decide) ?_
            refine g_istore C [(5, .int (nI k)), (9, .int (nI (s (k + 1)))), (8, .int (nI (s k))), (7, .int (nI k)), (2, .int (sumI (lgT gr li tr s) k)), (3, .int (sumI (lgP gr li tr s) k)), (4, .int (sumI (lgF gr li tr s) k)), (6, .int (nI 0)), (0, .ref (b 0)), (1, .int w)] dX7_judged_100 (by decide) rfl (q := 102) rfl ?_
            refine g_iinc C (z := 6) ((sumI (lgF gr li tr s) k) + nI 1) [(4, .int ((sumI (lgF gr li tr s) k) + nI 1)), (5, .int (nI k)), (9, .int (nI (s (k + 1)))), (8, .int (nI (s k))), (7, .int (nI k)), (2, .int (sumI (lgT gr li tr s) k)), (3, .int (sumI (lgP gr li tr s) k)), (6, .int (nI 0)), (0, .ref (b 0)), (1, .int w)] dX7_judged_102 rfl rfl (by decide) rfl (q := 105) rfl ?_
            refine g_lset C (z := 0) (y := sumI (lgF gr li tr s) (k + 1)) [(4, .int (sumI (lgF gr li tr s) (k + 1))), (5, .int (nI k)), (9, .int (nI (s (k + 1)))), (8, .int (nI (s k))), (7, .int (nI k)), (2, .int (sumI (lgT gr li tr s) k)), (3, .int (sumI (lgP gr li tr s) k)), (6, .int (nI 0)), (0, .ref (b 0)), (1, .int w)] rfl (sumI_s (lgF_n c_58)) rfl ?_
            refine g_lset C (z := 1) (y := ffU (lgF gr li tr s) (k + 1)) [(4, .int (sumI (lgF gr li tr s) (k + 1))), (5, .int (ffU (lgF gr li tr s) (k + 1))), (9, .int (nI (s (k + 1)))), (8, .int (nI (s k))), (7, .int (nI k)), (2, .int (sumI (lgT gr li tr s) k)), (3, .int (sumI (lgP gr li tr s) k)), (6, .int (nI 0)), (0, .ref (b 0)), (1, .int w)] rfl (by first | exact (ffU_n c_58 (ff_z (by omega) c_90)).symm | exact (ffU_k (ff_nz (by omega) c_90)).symm) rfl ?_
            refine g_lset C (z := 5) (y := sumI (lgT gr li tr s) (k + 1)) [(4, .int (sumI (lgF gr li tr s) (k + 1))), (5, .int (ffU (lgF gr li tr s) (k + 1))), (9, .int (nI (s (k + 1)))), (8, .int (nI (s k))), (7, .int (nI k)), (2, .int (sumI (lgT gr li tr s) (k + 1))), (3, .int (sumI (lgP gr li tr s) k)), (6, .int (nI 0)), (0, .ref (b 0)), (1, .int w)] rfl (by rw [← i_add0 (sumI (lgT gr li tr s) k)]; exact sumI_s (lgT_n c_58)) rfl ?_
            refine g_lset C (z := 6) (y := sumI (lgP gr li tr s) (k + 1)) [(4, .int (sumI (lgF gr li tr s) (k + 1))), (5, .int (ffU (lgF gr li tr s) (k + 1))), (9, .int (nI (s (k + 1)))), (8, .int (nI (s k))), (7, .int (nI k)), (2, .int (sumI (lgT gr li tr s) (k + 1))), (3, .int (sumI (lgP gr li tr s) (k + 1))), (6, .int (nI 0)), (0, .ref (b 0)), (1, .int w)] rfl (by rw [← i_add0 (sumI (lgP gr li tr s) k)]; exact sumI_s (lgP_n c_58)) rfl ?_
            refine g_iinc C (z := 4) (nI (k + 1)) [(7, .int (nI (k + 1))), (4, .int (sumI (lgF gr li tr s) (k + 1))), (5, .int (ffU (lgF gr li tr s) (k + 1))), (9, .int (nI (s (k + 1)))), (8, .int (nI (s k))), (2, .int (sumI (lgT gr li tr s) (k + 1))), (3, .int (sumI (lgP gr li tr s) (k + 1))), (6, .int (nI 0)), (0, .ref (b 0)), (1, .int w)] dX7_judged_105 rfl (nI_add k 1) (by decide) rfl (q := 108) rfl ?_
            refine g_goto C (q := 17) dX7_judged_108 (by decide) ?_
            refine g_locs C [(7, .int (nI (k + 1))), (2, .int (sumI (lgT gr li tr s) (k + 1))), (3, .int (sumI (lgP gr li tr s) (k + 1))), (4, .int (sumI (lgF gr li tr s) (k + 1))), (5, .int (ffU (lgF gr li tr s) (k + 1))), (6, .int (nI 0)), (0, .ref (b 0)), (1, .int w)] [0, 5, 6, 1, 2, 7, 8, 9] rfl ?_
            exact ih_17 (k + 1) (by first | assumption | omega) (by omega)
        · have huv := fl_nz c_58
          refine g_iload_n C 3 dX7_judged_61 rfl rfl rfl (q := 62) ?_
          refine g_bipush C (nI 60) dX7_judged_62 (by decide) (q := 64) rfl ?_
          refine g_iload C 1 dX7_judged_64 rfl rfl (q := 66) ?_
          refine g_iload C 0 dX7_judged_66 rfl rfl (q := 68) ?_
          refine g_iadd C dX7_judged_68 (q := 69) rfl ?_
          refine g_eqi C (y := nI ((s k) + (s (k + 1)))) (nI_add (s k) (s (k + 1))) ?_
          refine g_idiv C dX7_judged_69 (nI_ne0 (by omega) (by omega)) (q := 70) rfl ?_
          refine g_eqi C (y := nI (tmN (s k) (s (k + 1)))) (pk_div (by decide) (by omega) (by omega)) ?_
          refine g_iadd C dX7_judged_70 (q := 71) rfl ?_
          refine g_eqi C (y := sumI (lgT gr li tr s) (k + 1)) (sumI_s (lgT_e c_58)) ?_
          refine g_istore_n C [(2, .int (sumI (lgT gr li tr s) (k + 1))), (9, .int (nI (s (k + 1)))), (8, .int (nI (s k))), (7, .int (nI k)), (3, .int (sumI (lgP gr li tr s) k)), (4, .int (sumI (lgF gr li tr s) k)), (5, .int (ffU (lgF gr li tr s) k)), (6, .int (nI 0)), (0, .ref (b 0)), (1, .int w)] dX7_judged_71 rfl (by decide) rfl (q := 72) rfl ?_
          refine g_iload_n C 4 dX7_judged_72 rfl rfl rfl (q := 73) ?_
          refine g_aload_n C 8 dX7_judged_73 rfl rfl rfl (q := 74) ?_
          refine g_iload C 3 dX7_judged_74 rfl rfl (q := 76) ?_
          refine g_iload C 2 dX7_judged_76 rfl rfl (q := 78) ?_
          refine g_iload C 1 dX7_judged_78 rfl rfl (q := 80) ?_
          refine gcV_si C (n := 3) (As := [.int (nI k), .int (nI (s k)), .int (nI (s (k + 1)))]) (st := [.int (sumI (lgP gr li tr s) k)]) 0 (fun h => h) dX7_judged_80 rfl rfl gX7_judged_X7_powerOf (c_X7_powerOf l D cI cJ cZ b n gr li st tr t sd lea pa pt pp su sh tt k (s k) (s (k + 1)) (by first | assumption | omega)) rfl rfl rfl (by decide +kernel) ⟨Nat.le_of_ble_eq_true rfl, Nat.le_of_ble_eq_true rfl⟩ rfl rfl (Nat.le_of_ble_eq_true rfl) FT_b FT_h ⟨Nat.le_of_ble_eq_true rfl, Nat.le_of_ble_eq_true rfl⟩ (q := 83) rfl (fun r_80 h_80 => ?_)
          subst h_80
          refine g_iadd C dX7_judged_83 (q := 84) rfl ?_
          refine g_eqi C (y := sumI (lgP gr li tr s) (k + 1)) (sumI_s (lgP_e c_58)) ?_
          refine g_istore_n C [(3, .int (sumI (lgP gr li tr s) (k + 1))), (2, .int (sumI (lgT gr li tr s) (k + 1))), (9, .int (nI (s (k + 1)))), (8, .int (nI (s k))), (7, .int (nI k)), (4, .int (sumI (lgF gr li tr s) k)), (5, .int (ffU (lgF gr li tr s) k)), (6, .int (nI 0)), (0, .ref (b 0)), (1, .int w)] dX7_judged_84 rfl (by decide) rfl (q := 85) rfl ?_
          refine g_goto C (q := 105) dX7_judged_85 (by decide) ?_
          refine g_lset C (z := 5) (y := sumI (lgF gr li tr s) (k + 1)) [(3, .int (sumI (lgP gr li tr s) (k + 1))), (2, .int (sumI (lgT gr li tr s) (k + 1))), (9, .int (nI (s (k + 1)))), (8, .int (nI (s k))), (7, .int (nI k)), (4, .int (sumI (lgF gr li tr s) (k + 1))), (5, .int (ffU (lgF gr li tr s) k)), (6, .int (nI 0)), (0, .ref (b 0)), (1, .int w)] rfl (by rw [← i_add0 (sumI (lgF gr li tr s) k)]; exact sumI_s (lgF_e c_58)) rfl ?_
          refine g_lset C (z := 6) (y := ffU (lgF gr li tr s) (k + 1)) [(3, .int (sumI (lgP gr li tr s) (k + 1))), (2, .int (sumI (lgT gr li tr s) (k + 1))), (9, .int (nI (s (k + 1)))), (8, .int (nI (s k))), (7, .int (nI k)), (4, .int (sumI (lgF gr li tr s) (k + 1))), (5, .int (ffU (lgF gr li tr s) (k + 1))), (6, .int (nI 0)), (0, .ref (b 0)), (1, .int w)] rfl ((ffU_e c_58).symm) rfl ?_
          refine g_iinc C (z := 4) (nI (k + 1)) [(7, .int (nI (k + 1))), (3, .int (sumI (lgP gr li tr s) (k + 1))), (2, .int (sumI (lgT gr li tr s) (k + 1))), (9, .int (nI (s (k + 1)))), (8, .int (nI (s k))), (4, .int (sumI (lgF gr li tr s) (k + 1))), (5, .int (ffU (lgF gr li tr s) (k + 1))), (6, .int (nI 0)), (0, .ref (b 0)), (1, .int w)] dX7_judged_105 rfl (nI_add k 1) (by decide) rfl (q := 108) rfl ?_
          refine g_goto C (q := 17) dX7_judged_108 (by decide) ?_
          refine g_locs C [(7, .int (nI (k + 1))), (2, .int (sumI (lgT gr li tr s) (k + 1))), (3, .int (sumI (lgP gr li tr s) (k + 1))), (4, .int (sumI (lgF gr li tr s) (k + 1))), (5, .int (ffU (lgF gr li tr s) (k + 1))), (6, .int (nI 0)), (0, .ref (b 0)), (1, .int w)] [0, 2, 1, 5, 6, 7, 8, 9] rfl ?_
          exact ih_17 (k + 1) (by first | assumption | omega) (by omega)
  refine g_locs C [(7, .int (nI 0)), (2, .int (nI 0)), (3, .int (nI 0)), (4, .int (nI 0)), (5, .int (-1000000)), (6, .int (nI 0)), (0, .ref (b 0)), (1, .int w)] [0, 5, 4, 3, 2, 1, 6, 7] rfl ?_
  exact lp_17 _ 0 (by first | assumption | omega) (Nat.lt_succ_self _)
