/-! the class: the rest of ways -/
set_option maxHeartbeats 4000000 in
set_option maxRecDepth 100000 in
theorem c_X5_driveOver (l : Launch) (D : va_G) (cI cJ cZ : ClassId) (a : Nat → Nat) (hA nA : Nat) (gr li st sp : Nat → Int32) (n m : Nat) (nu : Nat → Int32) (ev od : Nat → Int64) (fp ti : Nat → Int32) (wc : Nat → Int64) (wu : Int32) (sc pv : Nat → Int64) (su : Int32) (sd : Nat → Int32) (t j : Nat) (hL : LInv st sp n m) (hT : TrOK nu) (hj : j < m) (hp : (hA = a 11 ∧ nA = a 12) ∨ (hA = a 12 ∧ nA = a 11)) : Met l yX5_driveOver wsX5_driveOver { frames := 4, cells := 0, slots := 0, locals := 101 } (gPc D (tyT cI cJ cZ) (wA a (a 11) (a 12)) FT (wC cI cJ cZ a hA nA gr li st sp (nI n) (nI m) nu ev od fp ti wc wu sc pv su sd (nI t)) [.ref (a 4), .int (nI j)]) (va_Qr (fun (u : Nat × Nat × (Nat → Int64) × (Nat → Int64)) => ((u.1 = a 11 ∧ u.2.1 = a 12) ∨ (u.1 = a 12 ∧ u.2.1 = a 11)) ∧ ∀ t, t ≤ 540 → FE (okM gr li nu) (pwM gr nu) (nL st n j) (posOf st j n) t (u.2.2.1 t)) (fun u ra tS => (fun u ra => ra = u.1) u ra ∧ va_P D vwCl ((fun (u : Nat × Nat × (Nat → Int64) × (Nat → Int64)) => wC cI cJ cZ a u.1 u.2.1 gr li st sp (nI n) (nI m) nu u.2.2.1 u.2.2.2 fp ti wc wu sc pv su sd (nI t)) u) tS.heap ∧ va_D (wA a (a 11) (a 12)) ((fun (u : Nat × Nat × (Nat → Int64) × (Nat → Int64)) => wC cI cJ cZ a u.1 u.2.1 gr li st sp (nI n) (nI m) nu u.2.2.1 u.2.2.2 fp ti wc wu sc pv su sd (nI t)) u)) (wA a (a 11) (a 12))) 0 0 (wA a (a 11) (a 12)) := by
  refine gs_qr (cc := cX5_driveOver) (nL := 8) (rt := (.array .long)) (W' := fun (u : Nat × Nat × (Nat → Int64) × (Nat → Int64)) => wC cI cJ cZ a u.1 u.2.1 gr li st sp (nI n) (nI m) nu u.2.2.1 u.2.2.2 fp ti wc wu sc pv su sd (nI t)) (Or.inr ⟨_, rfl⟩) (by decide) rfl (Nat.le_of_ble_eq_true rfl) (fun G C hret => ?_)
  show G 0 0 (wC cI cJ cZ a hA nA gr li st sp (nI n) (nI m) nu ev od fp ti wc wu sc pv su sd (nI t)) [(0, .ref (a 4)), (1, .int (nI j))] 0 []
  suffices main : ∀ (ev od : Nat → Int64), G 0 0 (wC cI cJ cZ a (a 11) (a 12) gr li st sp (nI n) (nI m) nu ev od fp ti wc wu sc pv su sd (nI t)) [(0, .ref (a 4)), (1, .int (nI j))] 0 [] by
    rcases hp with ⟨h1, h2⟩ | ⟨h1, h2⟩ <;> subst h1 <;> subst h2
    · exact main ev od
    · refine g_perm C (wC cI cJ cZ a (a 11) (a 12) gr li st sp (nI n) (nI m) nu od ev fp ti wc wu sc pv su sd (nI t)) [0, 1, 2, 3, 4, 5, 6, 7, 8, 9, 10, 12, 11, 13, 14, 15, 16, 17, 18, 19] rfl (by decide) ?_
      exact main od ev
  clear hp
  intro ev od
  have hn := hL.2.1
  have hmn := hL.m_le
  obtain ⟨hn1, hn2, hn3, hn4⟩ := nL_rg hL hj
  refine g_aload_n C 0 dX5_driveOver_0 rfl rfl rfl (q := 1) ?_
  refine g_get C 4 0 dX5_driveOver_1 (Cn := RX5) (T := TX5) (N := 8) (fun _ h => List.mem_cons_of_mem _ (List.mem_append_left _ (List.mem_append_left _ (List.mem_append_left _ (List.mem_append_right _ h))))) rfl rfl (by decide) (List.mem_cons_of_mem _ (List.mem_append_left _ (List.mem_append_left _ (List.mem_append_left _ (List.mem_append_left _ (List.mem_of_getElem? (i := 0) rfl)))))) rfl (q := 4) rfl ?_
  refine g_iload_n C 1 dX5_driveOver_4 rfl rfl rfl (q := 5) ?_
  refine gcV_si C (n := 1) (As := [.int (nI j)]) (st := []) 1 (fun h => h) dX5_driveOver_5 rfl rfl gX5_driveOver_X0_firstPost (c_X0_firstPost l D cI cJ cZ a (a 11) (a 12) gr li st sp n m nu ev od fp ti wc wu sc pv su sd t j (by first | assumption | omega)) rfl rfl rfl (by decide +kernel) ⟨Nat.le_of_ble_eq_true rfl, Nat.le_of_ble_eq_true rfl⟩ rfl rfl (Nat.le_of_ble_eq_true rfl) FT_b FT_h ⟨Nat.le_of_ble_eq_true rfl, Nat.le_of_ble_eq_true rfl⟩ (q := 8) rfl (fun r_5 h_5 => ?_)
  subst h_5
  refine g_eqi C (y := nI (posOf st j n)) (hL.2.2.2.2.2.2 _ (by omega)) ?_
  refine g_istore_n C [(2, .int (nI (posOf st j n))), (0, .ref (a 4)), (1, .int (nI j))] dX5_driveOver_8 rfl (by decide) rfl (q := 9) rfl ?_
  refine g_aload_n C 1 dX5_driveOver_9 rfl rfl rfl (q := 10) ?_
  refine g_get C 4 0 dX5_driveOver_10 (Cn := RX5) (T := TX5) (N := 8) (fun _ h => List.mem_cons_of_mem _ (List.mem_append_left _ (List.mem_append_left _ (List.mem_append_left _ (List.mem_append_right _ h))))) rfl rfl (by decide) (List.mem_cons_of_mem _ (List.mem_append_left _ (List.mem_append_left _ (List.mem_append_left _ (List.mem_append_left _ (List.mem_of_getElem? (i := 0) rfl)))))) rfl (q := 13) rfl ?_
  refine g_iload_n C 2 dX5_driveOver_13 rfl rfl rfl (q := 14) ?_
  refine gcV_si C (n := 1) (As := [.int (nI j)]) (st := []) 1 (fun h => h) dX5_driveOver_14 rfl rfl gX5_driveOver_X0_lastPost (c_X0_lastPost l D cI cJ cZ a (a 11) (a 12) gr li st sp n m nu ev od fp ti wc wu sc pv su sd t j (by first | assumption | omega)) rfl rfl rfl (by decide +kernel) ⟨Nat.le_of_ble_eq_true rfl, Nat.le_of_ble_eq_true rfl⟩ rfl rfl (Nat.le_of_ble_eq_true rfl) FT_b FT_h ⟨Nat.le_of_ble_eq_true rfl, Nat.le_of_ble_eq_true rfl⟩ (q := 17) rfl (fun r_14 h_14 => ?_)
  subst h_14
  refine g_eqi C (y := nI (posOf st (j + 1) n)) (hL.2.2.2.2.2.2 _ (by omega)) ?_
  refine g_istore_n C [(3, .int (nI (posOf st (j + 1) n))), (2, .int (nI (posOf st j n))), (0, .ref (a 4)), (1, .int (nI j))] dX5_driveOver_17 rfl (by decide) rfl (q := 18) rfl ?_
  refine g_aload_n C 2 dX5_driveOver_18 rfl rfl rfl (q := 19) ?_
  refine g_get C 4 2 dX5_driveOver_19 (Cn := RX5) (T := TX5) (N := 8) (fun _ h => List.mem_cons_of_mem _ (List.mem_append_left _ (List.mem_append_left _ (List.mem_append_left _ (List.mem_append_right _ h))))) rfl rfl (by decide) (List.mem_cons_of_mem _ (List.mem_append_left _ (List.mem_append_left _ (List.mem_append_left _ (List.mem_append_left _ (List.mem_of_getElem? (i := 1) rfl)))))) rfl (q := 22) rfl ?_
  refine g_astore C [(4, .ref (a 11)), (3, .int (nI (posOf st (j + 1) n))), (2, .int (nI (posOf st j n))), (0, .ref (a 4)), (1, .int (nI j))] dX5_driveOver_22 (by decide) rfl (q := 24) rfl ?_
  refine g_aload_n C 3 dX5_driveOver_24 rfl rfl rfl (q := 25) ?_
  refine g_get C 4 3 dX5_driveOver_25 (Cn := RX5) (T := TX5) (N := 8) (fun _ h => List.mem_cons_of_mem _ (List.mem_append_left _ (List.mem_append_left _ (List.mem_append_left _ (List.mem_append_right _ h))))) rfl rfl (by decide) (List.mem_cons_of_mem _ (List.mem_append_left _ (List.mem_append_left _ (List.mem_append_left _ (List.mem_append_left _ (List.mem_of_getElem? (i := 2) rfl)))))) rfl (q := 28) rfl ?_
  refine g_astore C [(5, .ref (a 12)), (4, .ref (a 11)), (3, .int (nI (posOf st (j + 1) n))), (2, .int (nI (posOf st j n))), (0, .ref (a 4)), (1, .int (nI j))] dX5_driveOver_28 (by decide) rfl (q := 30) rfl ?_
  refine g_aload C 1 dX5_driveOver_30 rfl rfl (q := 32) ?_
  refine g_ldc2 C (v := (4611686018427387904)) dX5_driveOver_32 (List.mem_cons_of_mem _ (List.mem_append_left _ (List.mem_append_left _ (List.mem_append_left _ (List.mem_append_left _ (List.mem_of_getElem? (i := 3) rfl)))))) (q := 35) rfl ?_
  refine gcS_qvf C (n := 2) (As := [.ref (a 11), .long (4611686018427387904)]) (st := []) (wc := [((a 11), .inl (cJ, 3787, .inr (.inl ev)))]) (wr := [(a 0, .inr (6, [.ref (a 1), .ref (a 2), .ref (a 3), .ref (a 4), .ref (a 5), .ref (a 6)])), (a 1, .inr (0, [.ref (a 7), .ref (a 8), .ref (a 9), .ref (a 10), .int (nI n), .int (nI m)])), (a 2, .inr (4, [.ref (a 13)])), (a 3, .inr (3, [.ref (a 1), .ref (a 2)])), (a 4, .inr (5, [.ref (a 1), .ref (a 3), .ref (a 11), .ref (a 12), .ref (a 14), .ref (a 15), .ref (a 16), .int wu])), (a 5, .inr (2, [.ref (a 1), .ref (a 4), .ref (a 17), .ref (a 18), .int su])), (a 6, .inr (1, [.ref (a 1), .ref (a 3), .ref (a 19), .int (nI t)])), (a 7, .inl (cI, 16, .inl gr)), (a 8, .inl (cI, 16, .inl li)), (a 9, .inl (cZ, 17, .inl st)), (a 10, .inl (cI, 17, .inl sp)), ((a 12), .inl (cJ, 3787, .inr (.inl od))), (a 13, .inl (cI, 5, .inl nu)), (a 14, .inl (cI, 17, .inl fp)), (a 15, .inl (cI, 968, .inl ti)), (a 16, .inl (cJ, 968, .inr (.inl wc))), (a 17, .inl (cJ, 1001, .inr (.inl sc))), (a 18, .inl (cJ, 16, .inr (.inl pv))), (a 19, .inl (cI, 17, .inl sd))]) [11] [0, 1, 2, 3, 4, 5, 6, 7, 8, 9, 10, 12, 13, 14, 15, 16, 17, 18, 19] rfl (by decide) one_m (fun u => wC cI cJ cZ a (a 11) (a 12) gr li st sp (nI n) (nI m) nu u od fp ti wc wu sc pv su sd (nI t)) rfl (by decide) (by decide) one_A (wAh (Or.inl ⟨rfl, rfl⟩)).1 [0, 1, 2, 3, 4, 5, 6, 7, 8, 9, 10, 19, 11, 12, 13, 14, 15, 16, 17, 18] (by decide) (fun u => rfl) dX5_driveOver_35 gX5_driveOver_J7_fill_d0a16 (c_J7_fill_d0a16 l D cI cJ cZ a (a 11) ev 3787 (4611686018427387904) (by decide)) rfl rfl rfl (by decide +kernel) ⟨Nat.le_of_ble_eq_true rfl, Nat.le_of_ble_eq_true rfl⟩ rfl rfl (Nat.le_of_ble_eq_true rfl) FT_b FT_h ⟨Nat.le_of_ble_eq_true rfl, Nat.le_of_ble_eq_true rfl⟩ (q := 38) rfl (fun u_35 h_35 => ?_)
  have h_35 : ∀ i, i < 3787 → u_35 i = (4611686018427387904) := h_35
  show G 0 0 (wC cI cJ cZ a (a 11) (a 12) gr li st sp (nI n) (nI m) nu u_35 od fp ti wc wu sc pv su sd (nI t)) [(5, .ref (a 12)), (4, .ref (a 11)), (3, .int (nI (posOf st (j + 1) n))), (2, .int (nI (posOf st j n))), (0, .ref (a 4)), (1, .int (nI j))] 38 []
  refine g_aload C 1 dX5_driveOver_38 rfl rfl (q := 40) ?_
  refine g_iconst C (nI 0) dX5_driveOver_40 (by decide) (q := 41) rfl ?_
  refine g_lconst C 0 dX5_driveOver_41 (by decide) (q := 42) rfl ?_
  refine g_last C 11 1 (wC cI cJ cZ a (a 11) (a 12) gr li st sp (nI n) (nI m) nu (vp_updL u_35 0 0) od fp ti wc wu sc pv su sd (nI t)) dX5_driveOver_42 rfl rfl (vp_in_nI (by omega) (by decide)) (by rw [nI_clamp (by omega)]; rfl) (q := 43) rfl ?_
  refine g_iload_n C 3 dX5_driveOver_43 rfl rfl rfl (q := 44) ?_
  refine g_istore C [(6, .int (nI (posOf st j n))), (5, .ref (a 12)), (4, .ref (a 11)), (3, .int (nI (posOf st (j + 1) n))), (2, .int (nI (posOf st j n))), (0, .ref (a 4)), (1, .int (nI j))] dX5_driveOver_44 (by decide) rfl (q := 46) rfl ?_
  have lp_46 : ∀ (N : Nat) (hx nx : Nat) (f g : Nat → Int64) (k : Nat), ((hx = a 11 ∧ nx = a 12) ∨ (hx = a 12 ∧ nx = a 11)) → (posOf st j n ≤ k) → (k ≤ posOf st (j + 1) n) → (k < posOf st (j + 1) n → FRow (okM gr li nu) (pwM gr nu) (posOf st j n) (k - posOf st j n) f) → (k = posOf st (j + 1) n → ∀ t, t ≤ 540 → FvL (WY (okM gr li nu) (posOf st (j + 1) n - posOf st j n) (posOf st j n) 0 t) (CO (pwM gr nu) (posOf st j n)) (f t)) → posOf st (j + 1) n - k < N → G 0 0 (wC cI cJ cZ a hx nx gr li st sp (nI n) (nI m) nu f g fp ti wc wu sc pv su sd (nI t)) [(6, .int (nI k)), (5, .ref nx), (4, .ref hx), (3, .int (nI (posOf st (j + 1) n))), (2, .int (nI (posOf st j n))), (1, .int (nI j)), (0, .ref (a 4))] 46 [] := by
    intro N
    induction N with
    | zero => intro hx nx f g k _ _ _ _ _ hmu; exact absurd hmu (Nat.not_lt_zero _)
    | succ N ih_46 =>
      intro hx nx f g k hp2 hPk hkQ hFr hEnd hmu
      refine g_iload C 0 dX5_driveOver_46 rfl rfl (q := 48) ?_
      refine g_iload_n C 3 dX5_driveOver_48 rfl rfl rfl (q := 49) ?_
      refine g_icmp_ge C (t := 105) dX5_driveOver_49 (by decide) (q := 52) rfl (fun c_49 => ?_) (fun c_49 => ?_)
      · rw [nI_leI (by omega) (by omega)] at c_49
        refine g_aload C 2 dX5_driveOver_105 rfl rfl (q := 107) ?_
        exact hret _ (hx, nx, f, g) 107 _ dX5_driveOver_107 (⟨hp2, by obtain rfl : k = posOf st (j + 1) n := (by omega); exact fun t ht => FE_of (SB_M hT) hn2 (hEnd rfl t ht)⟩) (rfl)
      · rw [nI_leI (by omega) (by omega)] at c_49
        refine g_aload C 1 dX5_driveOver_52 rfl rfl (q := 54) ?_
        refine g_ldc2 C (v := (4611686018427387904)) dX5_driveOver_54 (List.mem_cons_of_mem _ (List.mem_append_left _ (List.mem_append_left _ (List.mem_append_left _ (List.mem_append_left _ (List.mem_of_getElem? (i := 3) rfl)))))) (q := 57) rfl ?_
        refine gcS_qvf C (n := 2) (As := [.ref nx, .long (4611686018427387904)]) (st := []) (wc := [(nx, .inl (cJ, 3787, .inr (.inl g)))]) (wr := [(a 0, .inr (6, [.ref (a 1), .ref (a 2), .ref (a 3), .ref (a 4), .ref (a 5), .ref (a 6)])), (a 1, .inr (0, [.ref (a 7), .ref (a 8), .ref (a 9), .ref (a 10), .int (nI n), .int (nI m)])), (a 2, .inr (4, [.ref (a 13)])), (a 3, .inr (3, [.ref (a 1), .ref (a 2)])), (a 4, .inr (5, [.ref (a 1), .ref (a 3), .ref (a 11), .ref (a 12), .ref (a 14), .ref (a 15), .ref (a 16), .int wu])), (a 5, .inr (2, [.ref (a 1), .ref (a 4), .ref (a 17), .ref (a 18), .int su])), (a 6, .inr (1, [.ref (a 1), .ref (a 3), .ref (a 19), .int (nI t)])), (a 7, .inl (cI, 16, .inl gr)), (a 8, .inl (cI, 16, .inl li)), (a 9, .inl (cZ, 17, .inl st)), (a 10, .inl (cI, 17, .inl sp)), (hx, .inl (cJ, 3787, .inr (.inl f))), (a 13, .inl (cI, 5, .inl nu)), (a 14, .inl (cI, 17, .inl fp)), (a 15, .inl (cI, 968, .inl ti)), (a 16, .inl (cJ, 968, .inr (.inl wc))), (a 17, .inl (cJ, 1001, .inr (.inl sc))), (a 18, .inl (cJ, 16, .inr (.inl pv))), (a 19, .inl (cI, 17, .inl sd))]) [12] [0, 1, 2, 3, 4, 5, 6, 7, 8, 9, 10, 11, 13, 14, 15, 16, 17, 18, 19] rfl (by decide) one_m (fun u => wC cI cJ cZ a hx nx gr li st sp (nI n) (nI m) nu f u fp ti wc wu sc pv su sd (nI t)) rfl (by decide) (by decide) one_A (wAh hp2).2 [0, 1, 2, 3, 4, 5, 6, 7, 8, 9, 10, 11, 19, 12, 13, 14, 15, 16, 17, 18] (by decide) (fun u => rfl) dX5_driveOver_57 gX5_driveOver_J7_fill_d0a16 (c_J7_fill_d0a16 l D cI cJ cZ a nx g 3787 (4611686018427387904) (by decide)) rfl rfl rfl (by decide +kernel) ⟨Nat.le_of_ble_eq_true rfl, Nat.le_of_ble_eq_true rfl⟩ rfl rfl (Nat.le_of_ble_eq_true rfl) FT_b FT_h ⟨Nat.le_of_ble_eq_true rfl, Nat.le_of_ble_eq_true rfl⟩ (q := 60) rfl (fun u_57 h_57 => ?_)
        have h_57 : ∀ i, i < 3787 → u_57 i = (4611686018427387904) := h_57
        show G 0 0 (wC cI cJ cZ a hx nx gr li st sp (nI n) (nI m) nu f u_57 fp ti wc wu sc pv su sd (nI t)) [(6, .int (nI k)), (5, .ref nx), (4, .ref hx), (3, .int (nI (posOf st (j + 1) n))), (2, .int (nI (posOf st j n))), (1, .int (nI j)), (0, .ref (a 4))] 60 []
        refine g_aload_n C 6 dX5_driveOver_60 rfl rfl rfl (q := 61) ?_
        refine g_iload C 0 dX5_driveOver_61 rfl rfl (q := 63) ?_
        refine g_iload C 0 dX5_driveOver_63 rfl rfl (q := 65) ?_
        refine g_iload_n C 4 dX5_driveOver_65 rfl rfl rfl (q := 66) ?_
        refine g_isub C dX5_driveOver_66 (q := 67) rfl ?_
        refine g_eqi C (y := nI (k - (posOf st j n))) (pk_sub hPk) ?_
        refine g_iload C 0 dX5_driveOver_67 rfl rfl (q := 69) ?_
        refine g_iconst C (nI 1) dX5_driveOver_69 (by decide) (q := 70) rfl ?_
        refine g_iadd C dX5_driveOver_70 (q := 71) rfl ?_
        refine g_eqi C (y := nI (k + 1)) (nI_add k 1) ?_
        refine g_iload_n C 3 dX5_driveOver_71 rfl rfl rfl (q := 72) ?_
        refine g_icmp_ne C (t := 79) dX5_driveOver_72 (by decide) (q := 75) rfl (fun c_72 => ?_) (fun c_72 => ?_)
        · rw [nI_eq (by omega) (by omega)] at c_72
          refine g_iconst C (nI 0) dX5_driveOver_79 (by decide) (q := 80) rfl ?_
          refine g_aload C 2 dX5_driveOver_80 rfl rfl (q := 82) ?_
          refine g_aload C 1 dX5_driveOver_82 rfl rfl (q := 84) ?_
          refine gcV_qv C (n := 5) (As := [.int (nI k), .int (nI (k - (posOf st j n))), .int (nI 0), .ref hx, .ref nx]) (st := []) 4 (fun h => h) (fun _ h => h) dX5_driveOver_84 rfl rfl gX5_driveOver_X5_driveThrough (c_X5_driveThrough l D cI cJ cZ a hx nx gr li st sp n m nu f u_57 fp ti wc wu sc pv su sd t k (k - (posOf st j n)) (nI 0) (posOf st j n) hT (by omega) (by omega) (by omega) (hFr (by omega)) h_57) rfl rfl rfl (by decide +kernel) ⟨Nat.le_of_ble_eq_true rfl, Nat.le_of_ble_eq_true rfl⟩ rfl rfl (Nat.le_of_ble_eq_true rfl) FT_b FT_h ⟨Nat.le_of_ble_eq_true rfl, Nat.le_of_ble_eq_true rfl⟩ (q := 87) rfl (fun u_84 h_84 => ?_)
          have h_84 : ((nI 0) = 0 → FRow (okM gr li nu) (pwM gr nu) (posOf st j n) ((k - (posOf st j n)) + 1) u_84) ∧ (¬ (nI 0) = 0 → ∀ t, t ≤ 540 → FvL (WY (okM gr li nu) ((k - (posOf st j n)) + 1) (posOf st j n) 0 t) (CO (pwM gr nu) (posOf st j n)) (u_84 t)) := h_84
          show G 0 0 (wC cI cJ cZ a hx nx gr li st sp (nI n) (nI m) nu f u_84 fp ti wc wu sc pv su sd (nI t)) [(6, .int (nI k)), (5, .ref nx), (4, .ref hx), (3, .int (nI (posOf st (j + 1) n))), (2, .int (nI (posOf st j n))), (1, .int (nI j)), (0, .ref (a 4))] 87 []
          refine g_aload C 2 dX5_driveOver_87 rfl rfl (q := 89) ?_
          refine g_astore C [(7, .ref hx), (6, .int (nI k)), (5, .ref nx), (4, .ref hx), (3, .int (nI (posOf st (j + 1) n))), (2, .int (nI (posOf st j n))), (1, .int (nI j)), (0, .ref (a 4))] dX5_driveOver_89 (by decide) rfl (q := 91) rfl ?_
          refine g_aload C 2 dX5_driveOver_91 rfl rfl (q := 93) ?_
          refine g_astore C [(4, .ref nx), (7, .ref hx), (6, .int (nI k)), (5, .ref nx), (3, .int (nI (posOf st (j + 1) n))), (2, .int (nI (posOf st j n))), (1, .int (nI j)), (0, .ref (a 4))] dX5_driveOver_93 (by decide) rfl (q := 95) rfl ?_
          refine g_aload C 1 dX5_driveOver_95 rfl rfl (q := 97) ?_
          refine g_astore C [(5, .ref hx), (4, .ref nx), (7, .ref hx), (6, .int (nI k)), (3, .int (nI (posOf st (j + 1) n))), (2, .int (nI (posOf st j n))), (1, .int (nI j)), (0, .ref (a 4))] dX5_driveOver_97 (by decide) rfl (q := 99) rfl ?_
          refine g_perm C (wC cI cJ cZ a nx hx gr li st sp (nI n) (nI m) nu u_84 f fp ti wc wu sc pv su sd (nI t)) [0, 1, 2, 3, 4, 5, 6, 7, 8, 9, 10, 12, 11, 13, 14, 15, 16, 17, 18, 19] rfl (by decide) ?_
          refine g_iinc C (z := 3) (nI (k + 1)) [(6, .int (nI (k + 1))), (5, .ref hx), (4, .ref nx), (7, .ref hx), (3, .int (nI (posOf st (j + 1) n))), (2, .int (nI (posOf st j n))), (1, .int (nI j)), (0, .ref (a 4))] dX5_driveOver_99 rfl (nI_add k 1) (by decide) rfl (q := 102) rfl ?_
          refine g_goto C (q := 46) dX5_driveOver_102 (by decide) ?_
          refine g_locs C [(6, .int (nI (k + 1))), (5, .ref hx), (4, .ref nx), (3, .int (nI (posOf st (j + 1) n))), (2, .int (nI (posOf st j n))), (1, .int (nI j)), (0, .ref (a 4))] [0, 1, 2, 4, 5, 6, 7] rfl ?_
          exact ih_46 nx hx u_84 f (k + 1) (hp2.elim (fun h => Or.inr ⟨h.2, h.1⟩) (fun h => Or.inl ⟨h.2, h.1⟩)) (by first | assumption | omega) (by first | assumption | omega) (fun hlt => by rw [show k + 1 - posOf st j n = k - posOf st j n + 1 by omega]; first | exact h_84.1 rfl | omega) (fun e => by first | omega | (rw [show posOf st (j + 1) n - posOf st j n = k - posOf st j n + 1 by omega]; exact h_84.2 (by decide))) (by omega)
        · rw [nI_eq (by omega) (by omega)] at c_72
          refine g_iconst C (nI 1) dX5_driveOver_75 (by decide) (q := 76) rfl ?_
          refine g_goto C (q := 80) dX5_driveOver_76 (by decide) ?_
          refine g_aload C 2 dX5_driveOver_80 rfl rfl (q := 82) ?_
          refine g_aload C 1 dX5_driveOver_82 rfl rfl (q := 84) ?_
          refine gcV_qv C (n := 5) (As := [.int (nI k), .int (nI (k - (posOf st j n))), .int (nI 1), .ref hx, .ref nx]) (st := []) 4 (fun h => h) (fun _ h => h) dX5_driveOver_84 rfl rfl gX5_driveOver_X5_driveThrough (c_X5_driveThrough l D cI cJ cZ a hx nx gr li st sp n m nu f u_57 fp ti wc wu sc pv su sd t k (k - (posOf st j n)) (nI 1) (posOf st j n) hT (by omega) (by omega) (by omega) (hFr (by omega)) h_57) rfl rfl rfl (by decide +kernel) ⟨Nat.le_of_ble_eq_true rfl, Nat.le_of_ble_eq_true rfl⟩ rfl rfl (Nat.le_of_ble_eq_true rfl) FT_b FT_h ⟨Nat.le_of_ble_eq_true rfl, Nat.le_of_ble_eq_true rfl⟩ (q := 87) rfl (fun u_84 h_84 => ?_)
          have h_84 : ((nI 1) = 0 → FRow (okM gr li nu) (pwM gr nu) (posOf st j n) ((k - (posOf st j n)) + 1) u_84) ∧ (¬ (nI 1) = 0 → ∀ t, t ≤ 540 → FvL (WY (okM gr li nu) ((k - (posOf st j n)) + 1) (posOf st j n) 0 t) (CO (pwM gr nu) (posOf st j n)) (u_84 t)) := h_84
          show G 0 0 (wC cI cJ cZ a hx nx gr li st sp (nI n) (nI m) nu f u_84 fp ti wc wu sc pv su sd (nI t)) [(6, .int (nI k)), (5, .ref nx), (4, .ref hx), (3, .int (nI (posOf st (j + 1) n))), (2, .int (nI (posOf st j n))), (1, .int (nI j)), (0, .ref (a 4))] 87 []
          refine g_aload C 2 dX5_driveOver_87 rfl rfl (q := 89) ?_
          refine g_astore C [(7, .ref hx), (6, .int (nI k)), (5, .ref nx), (4, .ref hx), (3, .int (nI (posOf st (j + 1) n))), (2, .int (nI (posOf st j n))), (1, .int (nI j)), (0, .ref (a 4))] dX5_driveOver_89 (by decide) rfl (q := 91) rfl ?_
          refine g_aload C 2 dX5_driveOver_91 rfl rfl (q := 93) ?_
          refine g_astore C [(4, .ref nx), (7, .ref hx), (6, .int (nI k)), (5, .ref nx), (3, .int (nI (posOf st (j + 1) n))), (2, .int (nI (posOf st j n))), (1, .int (nI j)), (0, .ref (a 4))] dX5_driveOver_93 (by decide) rfl (q := 95) rfl ?_
          refine g_aload C 1 dX5_driveOver_95 rfl rfl (q := 97) ?_
          refine g_astore C [(5, .ref hx), (4, .ref nx), (7, .ref hx), (6, .int (nI k)), (3, .int (nI (posOf st (j + 1) n))), (2, .int (nI (posOf st j n))), (1, .int (nI j)), (0, .ref (a 4))] dX5_driveOver_97 (by decide) rfl (q := 99) rfl ?_
          refine g_perm C (wC cI cJ cZ a nx hx gr li st sp (nI n) (nI m) nu u_84 f fp ti wc wu sc pv su sd (nI t)) [0, 1, 2, 3, 4, 5, 6, 7, 8, 9, 10, 12, 11, 13, 14, 15, 16, 17, 18, 19] rfl (by decide) ?_
          refine g_iinc C (z := 3) (nI (k + 1)) [(6, .int (nI (k + 1))), (5, .ref hx), (4, .ref nx), (7, .ref hx), (3, .int (nI (posOf st (j + 1) n))), (2, .int (nI (posOf st j n))), (1, .int (nI j)), (0, .ref (a 4))] dX5_driveOver_99 rfl (nI_add k 1) (by decide) rfl (q := 102) rfl ?_
          refine g_goto C (q := 46) dX5_driveOver_102 (by decide) ?_
          refine g_locs C [(6, .int (nI (k + 1))), (5, .ref hx), (4, .ref nx), (3, .int (nI (posOf st (j + 1) n))), (2, .int (nI (posOf st j n))), (1, .int (nI j)), (0, .ref (a 4))] [0, 1, 2, 4, 5, 6, 7] rfl ?_
          exact ih_46 nx hx u_84 f (k + 1) (hp2.elim (fun h => Or.inr ⟨h.2, h.1⟩) (fun h => Or.inl ⟨h.2, h.1⟩)) (by first | assumption | omega) (by first | assumption | omega) (fun hlt => by rw [show k + 1 - posOf st j n = k - posOf st j n + 1 by omega]; first | exact h_84.1 rfl | omega) (fun e => by first | omega | (rw [show posOf st (j + 1) n - posOf st j n = k - posOf st j n + 1 by omega]; exact h_84.2 (by decide))) (by omega)
  refine g_locs C [(6, .int (nI (posOf st j n))), (5, .ref (a 12)), (4, .ref (a 11)), (3, .int (nI (posOf st (j + 1) n))), (2, .int (nI (posOf st j n))), (1, .int (nI j)), (0, .ref (a 4))] [0, 1, 2, 3, 4, 6, 5] rfl ?_
  exact lp_46 _ (a 11) (a 12) (vp_updL u_35 0 0) od (posOf st j n) (Or.inl ⟨rfl, rfl⟩) (by first | assumption | omega) (by first | assumption | omega) (fun _ => by rw [Nat.sub_self]; exact FRow_0 pk_uLs (fun i h1 h2 => (pk_uLn (by omega)).trans (h_35 i h2))) (fun e => absurd e (by omega)) (Nat.lt_succ_self _)
theorem gp_add {gr li nu st : Nat → Int32} {n j o q : Nat} {t1 : Nat → Int32} {w1 : Nat → Int64} {x : Int64} (hlt : mL gr li nu st n j q < bst (mL gr li nu st n j) q) (hE : FE (okM gr li nu) (pwM gr nu) (nL st n j) (posOf st j n) q x)
    (hd : ∀ k, k < (prs (mL gr li nu st n j) q).length → t1 (o + k) = nI ((prs (mL gr li nu st n j) q).getD k 0) ∧ ∃ l, LX (okM gr li nu) (pwM gr nu) (nL st n j) (posOf st j n) 0 ((prs (mL gr li nu st n j) q).getD k 0) 0 l ∧ w1 (o + k) = lJ (CO (pwM gr nu) (posOf st j n) l)) :
    ∀ k, k < (prs (mL gr li nu st n j) (q + 1)).length → upd t1 (o + (prs (mL gr li nu st n j) q).length) (nI q) (o + k) = nI ((prs (mL gr li nu st n j) (q + 1)).getD k 0) ∧ ∃ l, LX (okM gr li nu) (pwM gr nu) (nL st n j) (posOf st j n) 0 ((prs (mL gr li nu st n j) (q + 1)).getD k 0) 0 l ∧ vp_updL w1 (o + (prs (mL gr li nu st n j) q).length) x (o + k) = lJ (CO (pwM gr nu) (posOf st j n) l) := fun k hk => by
  rw [(prs_add hlt).1] at hk ⊢
  by_cases e : k = (prs (mL gr li nu st n j) q).length
  · subst e
    have e2 : (prs (mL gr li nu st n j) q ++ [q]).getD (prs (mL gr li nu st n j) q).length 0 = q := by simp [List.getD]
    rw [e2, pk_us, pk_uLs]
    refine ⟨rfl, ?_⟩
    rcases hE with ⟨_, h⟩ | ⟨_, l, h1, h2⟩
    · exact absurd (show mL gr li nu st n j q = BIG from h) (by have := bst_le (mL gr li nu st n j) q; omega)
    · exact ⟨l, h1, h2⟩
  · have hk2 : k < (prs (mL gr li nu st n j) q).length := by simp at hk; omega
    have e2 : (prs (mL gr li nu st n j) q ++ [q]).getD k 0 = (prs (mL gr li nu st n j) q).getD k 0 := by simp [List.getD, List.getElem?_append_left hk2]
    rw [e2, pk_un (by omega), pk_uLn (by omega)]
    exact hd k hk2
theorem gp_all {m : Nat → Int} {q o : Nat} (h : q ≤ 541) (he : prs m 1001 = prs m 541) (h2 : q = 541 ∨ (prs m 1001).length ≤ (prs m q).length) : prs m 1001 = prs m q := by
  rcases h2 with e | h2
  · rw [e]; exact he
  · obtain ⟨l, e⟩ := prs_pre m q (1001 - q)
    rw [show q + (1001 - q) = 1001 by omega] at e
    have : l = [] := by
      have := congrArg List.length e
      rw [List.length_append] at this
      exact List.eq_nil_of_length_eq_zero (by omega)
    rw [e, this, List.append_nil]
set_option maxHeartbeats 4000000 in
set_option maxRecDepth 100000 in
theorem c_X5_gatherPairs (l : Launch) (D : va_G) (cI cJ cZ : ClassId) (a : Nat → Nat) (hA nA : Nat) (gr li st sp : Nat → Int32) (n m : Nat) (nu : Nat → Int32) (ev od : Nat → Int64) (fp ti : Nat → Int32) (wc : Nat → Int64) (wu : Int32) (sc pv : Nat → Int64) (su : Int32) (sd : Nat → Int32) (t o j : Nat) (hL : LInv st sp n m) (hT : TrOK nu) (hj : j < m) (hE : ∀ t, t ≤ 540 → FE (okM gr li nu) (pwM gr nu) (nL st n j) (posOf st j n) t (ev t)) (ho : o + cvl gr li nu st n j ≤ 968) : Met l yX5_gatherPairs wsX5_gatherPairs { frames := 0, cells := 0, slots := 0, locals := 0 } (gPc D (tyT cI cJ cZ) (wA a (a 11) (a 12)) FT (wC cI cJ cZ a hA nA gr li st sp (nI n) (nI m) nu ev od fp ti wc wu sc pv su sd (nI t)) [.ref (a 4), .ref hA, .int (nI o)]) (va_Qi (fun (r : Int32) (u : (Nat → Int32) × (Nat → Int64)) => r = nI (o + cvl gr li nu st n j) ∧ (∀ i, i < o → u.1 i = ti i ∧ u.2 i = wc i) ∧ ∀ k, k < cvl gr li nu st n j → u.1 (o + k) = nI ((prs (mL gr li nu st n j) 1001).getD k 0) ∧ ∃ l, LX (okM gr li nu) (pwM gr nu) (nL st n j) (posOf st j n) 0 ((prs (mL gr li nu st n j) 1001).getD k 0) 0 l ∧ u.2 (o + k) = lJ (CO (pwM gr nu) (posOf st j n) l)) (fun u tS => va_P D vwCl ((fun (u : (Nat → Int32) × (Nat → Int64)) => wC cI cJ cZ a hA nA gr li st sp (nI n) (nI m) nu ev od fp u.1 u.2 wu sc pv su sd (nI t)) u) tS.heap ∧ va_D (wA a (a 11) (a 12)) ((fun (u : (Nat → Int32) × (Nat → Int64)) => wC cI cJ cZ a hA nA gr li st sp (nI n) (nI m) nu ev od fp u.1 u.2 wu sc pv su sd (nI t)) u)) (wA a (a 11) (a 12))) 0 0 (wA a (a 11) (a 12)) := by
  refine gs_qi (cc := cX5_gatherPairs) (nL := 9) (ty := .int) (W' := fun (u : (Nat → Int32) × (Nat → Int64)) => wC cI cJ cZ a hA nA gr li st sp (nI n) (nI m) nu ev od fp u.1 u.2 wu sc pv su sd (nI t)) (by decide) rfl (Nat.le_of_ble_eq_true rfl) (fun G C hret => ?_)
  show G 0 0 (wC cI cJ cZ a hA nA gr li st sp (nI n) (nI m) nu ev od fp ti wc wu sc pv su sd (nI t)) [(0, .ref (a 4)), (1, .ref hA), (2, .int (nI o))] 0 []
  obtain ⟨hn1, hn2, hn3, hn4⟩ := nL_rg hL hj
  have hr := fun t => mL_rg (gr := gr) (li := li) (nu := nu) hT hn4 t (j := j)
  have hb := bst_rg hr
  refine g_iload_n C 2 dX5_gatherPairs_0 rfl rfl rfl (q := 1) ?_
  refine g_eqi C (y := nI (o + (prs (mL gr li nu st n j) 0).length)) (rfl) ?_
  refine g_istore_n C [(3, .int (nI (o + (prs (mL gr li nu st n j) 0).length))), (0, .ref (a 4)), (1, .ref hA), (2, .int (nI o))] dX5_gatherPairs_1 rfl (by decide) rfl (q := 2) rfl ?_
  refine g_ldc2 C (v := (16384)) dX5_gatherPairs_2 (List.mem_cons_of_mem _ (List.mem_append_left _ (List.mem_of_getElem? (i := 0) rfl))) (q := 5) rfl ?_
  refine g_eql C (y := lb (bst (mL gr li nu st n j) 0)) ((by show (16384 : Int64) = lb BIG; rw [lb, if_pos rfl])) ?_
  refine g_lstore C [(4, .long (lb (bst (mL gr li nu st n j) 0))), (3, .int (nI (o + (prs (mL gr li nu st n j) 0).length))), (0, .ref (a 4)), (1, .ref hA), (2, .int (nI o))] dX5_gatherPairs_5 (by decide) rfl (q := 7) rfl ?_
  refine g_iconst C (nI 0) dX5_gatherPairs_7 (by decide) (q := 8) rfl ?_
  refine g_istore C [(6, .int (nI 0)), (4, .long (lb (bst (mL gr li nu st n j) 0))), (3, .int (nI (o + (prs (mL gr li nu st n j) 0).length))), (0, .ref (a 4)), (1, .ref hA), (2, .int (nI o))] dX5_gatherPairs_8 (by decide) rfl (q := 10) rfl ?_
  have lp_10 : ∀ (N : Nat) (q : Nat) (t1 : Nat → Int32) (w1 : Nat → Int64), (q ≤ 541) → (∀ i, i < o → t1 i = ti i ∧ w1 i = wc i) → ((∀ k, k < (prs (mL gr li nu st n j) q).length → t1 (o + k) = nI ((prs (mL gr li nu st n j) q).getD k 0) ∧ ∃ l, LX (okM gr li nu) (pwM gr nu) (nL st n j) (posOf st j n) 0 ((prs (mL gr li nu st n j) q).getD k 0) 0 l ∧ w1 (o + k) = lJ (CO (pwM gr nu) (posOf st j n) l))) → 541 - q < N → G 0 0 (wC cI cJ cZ a hA nA gr li st sp (nI n) (nI m) nu ev od fp t1 w1 wu sc pv su sd (nI t)) [(6, .int (nI q)), (4, .long (lb (bst (mL gr li nu st n j) q))), (3, .int (nI (o + (prs (mL gr li nu st n j) q).length))), (0, .ref (a 4)), (1, .ref hA), (2, .int (nI o))] 10 [] := by
    intro N
    induction N with
    | zero => intro q t1 w1 _ _ _ hmu; exact absurd hmu (Nat.not_lt_zero _)
    | succ N ih_10 =>
      intro q t1 w1 hq hk hd hmu
      have hln := prs_len (mL gr li nu st n j) q
      refine g_iload C 0 dX5_gatherPairs_10 rfl rfl (q := 12) ?_
      refine g_sipush C (nI 541) dX5_gatherPairs_12 (by decide) (q := 15) rfl ?_
      refine g_icmp_ge C (t := 73) dX5_gatherPairs_15 (by decide) (q := 18) rfl (fun c_15 => ?_) (fun c_15 => ?_)
      · rw [nI_leI (by omega) (by omega)] at c_15
        refine g_iload_n C 2 dX5_gatherPairs_73 rfl rfl rfl (q := 74) ?_
        exact hret _ (t1, w1) 74 _ dX5_gatherPairs_74 rfl (by have hq : prs (mL gr li nu st n j) 1001 = prs (mL gr li nu st n j) q := gp_all (o := o) (by omega) (cv_541 hT hn2 hn1) (by first | exact Or.inl (by omega) | exact Or.inr (by have e0 : cvl gr li nu st n j = (prs (mL gr li nu st n j) 1001).length := rfl; omega)); exact ⟨by show nI (o + (prs (mL gr li nu st n j) q).length) = nI (o + (prs (mL gr li nu st n j) 1001).length); rw [hq], hk, by show ∀ k, k < (prs (mL gr li nu st n j) 1001).length → t1 (o + k) = nI ((prs (mL gr li nu st n j) 1001).getD k 0) ∧ ∃ l, LX (okM gr li nu) (pwM gr nu) (nL st n j) (posOf st j n) 0 ((prs (mL gr li nu st n j) 1001).getD k 0) 0 l ∧ w1 (o + k) = lJ (CO (pwM gr nu) (posOf st j n) l); rw [hq]; exact hd⟩)
      · rw [nI_leI (by omega) (by omega)] at c_15
        refine g_iload_n C 2 dX5_gatherPairs_18 rfl rfl rfl (q := 19) ?_
        refine g_sipush C (nI 968) dX5_gatherPairs_19 (by decide) (q := 22) rfl ?_
        refine g_icmp_ge C (t := 73) dX5_gatherPairs_22 (by decide) (q := 25) rfl (fun c_22 => ?_) (fun c_22 => ?_)
        · rw [nI_leI (by omega) (by omega)] at c_22
          refine g_iload_n C 2 dX5_gatherPairs_73 rfl rfl rfl (q := 74) ?_
          exact hret _ (t1, w1) 74 _ dX5_gatherPairs_74 rfl (by have hq : prs (mL gr li nu st n j) 1001 = prs (mL gr li nu st n j) q := gp_all (o := o) (by omega) (cv_541 hT hn2 hn1) (by first | exact Or.inl (by omega) | exact Or.inr (by have e0 : cvl gr li nu st n j = (prs (mL gr li nu st n j) 1001).length := rfl; omega)); exact ⟨by show nI (o + (prs (mL gr li nu st n j) q).length) = nI (o + (prs (mL gr li nu st n j) 1001).length); rw [hq], hk, by show ∀ k, k < (prs (mL gr li nu st n j) 1001).length → t1 (o + k) = nI ((prs (mL gr li nu st n j) 1001).getD k 0) ∧ ∃ l, LX (okM gr li nu) (pwM gr nu) (nL st n j) (posOf st j n) 0 ((prs (mL gr li nu st n j) 1001).getD k 0) 0 l ∧ w1 (o + k) = lJ (CO (pwM gr nu) (posOf st j n) l); rw [hq]; exact hd⟩)
        · rw [nI_leI (by omega) (by omega)] at c_22
          refine g_aload_n C 4 dX5_gatherPairs_25 rfl rfl rfl (q := 26) ?_
          refine g_iload C 0 dX5_gatherPairs_26 rfl rfl (q := 28) ?_
          refine g_lald C 11 1 dX5_gatherPairs_28 rfl rfl (vp_in_nI (by omega) (by decide)) (q := 29) rfl ?_
          refine g_eql C (y := ev q) (by rw [nI_clamp (by omega)]) ?_
          refine g_bipush C (nI 48) dX5_gatherPairs_29 (by decide) (q := 31) rfl ?_
          refine g_lshr C dX5_gatherPairs_31 (q := 32) rfl ?_
          refine g_eql C (y := lb ((mL gr li nu st n j) q)) (FE_lb (SB_M hT) hn2 (hE q (by omega))) ?_
          refine g_lstore C [(7, .long (lb ((mL gr li nu st n j) q))), (6, .int (nI q)), (4, .long (lb (bst (mL gr li nu st n j) q))), (3, .int (nI (o + (prs (mL gr li nu st n j) q).length))), (0, .ref (a 4)), (1, .ref hA), (2, .int (nI o))] dX5_gatherPairs_32 (by decide) rfl (q := 34) rfl ?_
          refine g_lload C 0 dX5_gatherPairs_34 rfl rfl (q := 36) ?_
          refine g_lload C 2 dX5_gatherPairs_36 rfl rfl (q := 38) ?_
          refine g_lcmp C dX5_gatherPairs_38 (q := 39) rfl ?_
          refine g_if_ge C (t := 67) dX5_gatherPairs_39 (by decide) (q := 42) rfl (fun c_39 => ?_) (fun c_39 => ?_)
          · replace c_39 := kge_t c_39
            have hnl : ¬ (mL gr li nu st n j) q < bst (mL gr li nu st n j) q := fun e => absurd ((lb_lt (hr q) (hb q)).mpr e) (Int64.not_lt.mpr c_39)
            rw [show (o + (prs (mL gr li nu st n j) q).length) = (o + (prs (mL gr li nu st n j) (q + 1)).length) by rw [(prs_keep hnl).1], show lb (bst (mL gr li nu st n j) q) = lb (bst (mL gr li nu st n j) (q + 1)) by rw [(prs_keep hnl).2]]
            refine g_iinc C (z := 1) (nI (q + 1)) [(6, .int (nI (q + 1))), (7, .long (lb ((mL gr li nu st n j) q))), (4, .long (lb (bst (mL gr li nu st n j) (q + 1)))), (3, .int (nI (o + (prs (mL gr li nu st n j) (q + 1)).length))), (0, .ref (a 4)), (1, .ref hA), (2, .int (nI o))] dX5_gatherPairs_67 rfl (nI_add q 1) (by decide) rfl (q := 70) rfl ?_
            refine g_goto C (q := 10) dX5_gatherPairs_70 (by decide) ?_
            refine g_locs C [(6, .int (nI (q + 1))), (4, .long (lb (bst (mL gr li nu st n j) (q + 1)))), (3, .int (nI (o + (prs (mL gr li nu st n j) (q + 1)).length))), (0, .ref (a 4)), (1, .ref hA), (2, .int (nI o))] [0, 2, 3, 4, 5, 6] rfl ?_
            exact ih_10 (q + 1) t1 w1 (by first | assumption | omega) (by first | exact hk | exact fun i hi => ⟨(pk_un (by omega)).trans (hk i hi).1, (pk_uLn (by omega)).trans (hk i hi).2⟩) (by first | exact gp_add hlt (hE q (by omega)) hd | (rw [(prs_keep hnl).1]; exact hd)) (by omega)
          · replace c_39 := kge_f c_39
            have hlt : (mL gr li nu st n j) q < bst (mL gr li nu st n j) q := (lb_lt (hr q) (hb q)).mp c_39
            refine g_lload C 0 dX5_gatherPairs_42 rfl rfl (q := 44) ?_
            refine g_eql C (y := lb (bst (mL gr li nu st n j) (q + 1))) (by rw [(prs_add hlt).2]) ?_
            refine g_lstore C [(4, .long (lb (bst (mL gr li nu st n j) (q + 1)))), (7, .long (lb ((mL gr li nu st n j) q))), (6, .int (nI q)), (3, .int (nI (o + (prs (mL gr li nu st n j) q).length))), (0, .ref (a 4)), (1, .ref hA), (2, .int (nI o))] dX5_gatherPairs_44 (by decide) rfl (q := 46) rfl ?_
            refine g_aload_n C 4 dX5_gatherPairs_46 rfl rfl rfl (q := 47) ?_
            refine g_get C 4 5 dX5_gatherPairs_47 (Cn := RX5) (T := TX5) (N := 8) (fun _ h => List.mem_cons_of_mem _ (List.mem_append_right _ h)) rfl rfl (by decide) (List.mem_cons_of_mem _ (List.mem_append_left _ (List.mem_of_getElem? (i := 1) rfl))) rfl (q := 50) rfl ?_
            refine g_iload_n C 3 dX5_gatherPairs_50 rfl rfl rfl (q := 51) ?_
            refine g_iload C 2 dX5_gatherPairs_51 rfl rfl (q := 53) ?_
            refine g_iast C 15 0 (wC cI cJ cZ a hA nA gr li st sp (nI n) (nI m) nu ev od fp (upd t1 (o + (prs (mL gr li nu st n j) q).length) (nI q)) w1 wu sc pv su sd (nI t)) dX5_gatherPairs_53 rfl rfl (vp_in_nI (by omega) (by decide)) (by rw [nI_clamp (by omega)]; rfl) (q := 54) rfl ?_
            refine g_aload_n C 4 dX5_gatherPairs_54 rfl rfl rfl (q := 55) ?_
            refine g_get C 4 6 dX5_gatherPairs_55 (Cn := RX5) (T := TX5) (N := 8) (fun _ h => List.mem_cons_of_mem _ (List.mem_append_right _ h)) rfl rfl (by decide) (List.mem_cons_of_mem _ (List.mem_append_left _ (List.mem_of_getElem? (i := 2) rfl))) rfl (q := 58) rfl ?_
            refine g_iload_n C 3 dX5_gatherPairs_58 rfl rfl rfl (q := 59) ?_
            refine g_aload_n C 5 dX5_gatherPairs_59 rfl rfl rfl (q := 60) ?_
            refine g_iload C 2 dX5_gatherPairs_60 rfl rfl (q := 62) ?_
            refine g_lald C 11 1 dX5_gatherPairs_62 rfl rfl (vp_in_nI (by omega) (by decide)) (q := 63) rfl ?_
            refine g_eql C (y := ev q) (by rw [nI_clamp (by omega)]) ?_
            refine g_last C 16 1 (wC cI cJ cZ a hA nA gr li st sp (nI n) (nI m) nu ev od fp (upd t1 (o + (prs (mL gr li nu st n j) q).length) (nI q)) (vp_updL w1 (o + (prs (mL gr li nu st n j) q).length) (ev q)) wu sc pv su sd (nI t)) dX5_gatherPairs_63 rfl rfl (vp_in_nI (by omega) (by decide)) (by rw [nI_clamp (by omega)]; rfl) (q := 64) rfl ?_
            refine g_iinc C (z := 3) (nI ((o + (prs (mL gr li nu st n j) q).length) + 1)) [(3, .int (nI ((o + (prs (mL gr li nu st n j) q).length) + 1))), (4, .long (lb (bst (mL gr li nu st n j) (q + 1)))), (7, .long (lb ((mL gr li nu st n j) q))), (6, .int (nI q)), (0, .ref (a 4)), (1, .ref hA), (2, .int (nI o))] dX5_gatherPairs_64 rfl (nI_add (o + (prs (mL gr li nu st n j) q).length) 1) (by decide) rfl (q := 67) rfl ?_
            rw [show (o + (prs (mL gr li nu st n j) q).length) + 1 = (o + (prs (mL gr li nu st n j) (q + 1)).length) by rw [(prs_add hlt).1, List.length_append]; rfl]
            refine g_iinc C (z := 3) (nI (q + 1)) [(6, .int (nI (q + 1))), (3, .int (nI (o + (prs (mL gr li nu st n j) (q + 1)).length))), (4, .long (lb (bst (mL gr li nu st n j) (q + 1)))), (7, .long (lb ((mL gr li nu st n j) q))), (0, .ref (a 4)), (1, .ref hA), (2, .int (nI o))] dX5_gatherPairs_67 rfl (nI_add q 1) (by decide) rfl (q := 70) rfl ?_
            refine g_goto C (q := 10) dX5_gatherPairs_70 (by decide) ?_
            refine g_locs C [(6, .int (nI (q + 1))), (4, .long (lb (bst (mL gr li nu st n j) (q + 1)))), (3, .int (nI (o + (prs (mL gr li nu st n j) (q + 1)).length))), (0, .ref (a 4)), (1, .ref hA), (2, .int (nI o))] [0, 2, 1, 4, 5, 6] rfl ?_
            exact ih_10 (q + 1) (upd t1 (o + (prs (mL gr li nu st n j) q).length) (nI q)) (vp_updL w1 (o + (prs (mL gr li nu st n j) q).length) (ev q)) (by first | assumption | omega) (by first | exact hk | exact fun i hi => ⟨(pk_un (by omega)).trans (hk i hi).1, (pk_uLn (by omega)).trans (hk i hi).2⟩) (by first | exact gp_add hlt (hE q (by omega)) hd | (rw [(prs_keep hnl).1]; exact hd)) (by omega)
  exact lp_10 _ 0 ti wc (by first | assumption | omega) (fun i _ => ⟨rfl, rfl⟩) (fun k h => absurd h (Nat.not_lt_zero _)) (Nat.lt_succ_self _)
set_option maxHeartbeats 4000000 in
set_option maxRecDepth 100000 in
theorem c_X5_bringUpToDate (l : Launch) (D : va_G) (cI cJ cZ : ClassId) (a : Nat → Nat) (hA nA : Nat) (gr li st sp : Nat → Int32) (n m : Nat) (nu : Nat → Int32) (ev od : Nat → Int64) (fp ti : Nat → Int32) (wc : Nat → Int64) (wu : Int32) (sc pv : Nat → Int64) (su : Int32) (sd : Nat → Int32) (t : Nat) (hL : LInv st sp n m) (hT : TrOK nu) (hp : (hA = a 11 ∧ nA = a 12) ∨ (hA = a 12 ∧ nA = a 11)) (hW0 : wu = nI 0 ∨ (wu = nI 1 ∧ WOK gr li nu st n m fp ti wc)) : Met l yX5_bringUpToDate wsX5_bringUpToDate { frames := 5, cells := 0, slots := 0, locals := 128 } (gPc D (tyT cI cJ cZ) (wA a (a 11) (a 12)) FT (wC cI cJ cZ a hA nA gr li st sp (nI n) (nI m) nu ev od fp ti wc wu sc pv su sd (nI t)) [.ref (a 4)]) (va_Qv (fun (u : Nat × Nat × (Nat → Int64) × (Nat → Int64) × (Nat → Int32) × (Nat → Int32) × (Nat → Int64)) => ((u.1 = a 11 ∧ u.2.1 = a 12) ∨ (u.1 = a 12 ∧ u.2.1 = a 11)) ∧ WOK gr li nu st n m u.2.2.2.2.1 u.2.2.2.2.2.1 u.2.2.2.2.2.2) (fun u tS => va_P D vwCl ((fun (u : Nat × Nat × (Nat → Int64) × (Nat → Int64) × (Nat → Int32) × (Nat → Int32) × (Nat → Int64)) => wC cI cJ cZ a u.1 u.2.1 gr li st sp (nI n) (nI m) nu u.2.2.1 u.2.2.2.1 u.2.2.2.2.1 u.2.2.2.2.2.1 u.2.2.2.2.2.2 (nI 1) sc pv su sd (nI t)) u) tS.heap ∧ va_D (wA a (a 11) (a 12)) ((fun (u : Nat × Nat × (Nat → Int64) × (Nat → Int64) × (Nat → Int32) × (Nat → Int32) × (Nat → Int64)) => wC cI cJ cZ a u.1 u.2.1 gr li st sp (nI n) (nI m) nu u.2.2.1 u.2.2.2.1 u.2.2.2.2.1 u.2.2.2.2.2.1 u.2.2.2.2.2.2 (nI 1) sc pv su sd (nI t)) u)) (wA a (a 11) (a 12))) 0 0 (wA a (a 11) (a 12)) := by
  refine gs_qv (cc := cX5_bringUpToDate) (nL := 3) (W' := fun (u : Nat × Nat × (Nat → Int64) × (Nat → Int64) × (Nat → Int32) × (Nat → Int32) × (Nat → Int64)) => wC cI cJ cZ a u.1 u.2.1 gr li st sp (nI n) (nI m) nu u.2.2.1 u.2.2.2.1 u.2.2.2.2.1 u.2.2.2.2.2.1 u.2.2.2.2.2.2 (nI 1) sc pv su sd (nI t)) (by decide) rfl (Nat.le_of_ble_eq_true rfl) (fun G C hret => ?_)
  show G 0 0 (wC cI cJ cZ a hA nA gr li st sp (nI n) (nI m) nu ev od fp ti wc wu sc pv su sd (nI t)) [(0, .ref (a 4))] 0 []
  have hn := hL.2.1
  have hmn := hL.m_le
  refine g_aload_n C 0 dX5_bringUpToDate_0 rfl rfl rfl (q := 1) ?_
  refine g_get C 4 7 dX5_bringUpToDate_1 (Cn := RX5) (T := TX5) (N := 8) (fun _ h => List.mem_cons_of_mem _ (List.mem_append_left _ (List.mem_append_left _ (List.mem_append_left _ (List.mem_append_right _ h))))) rfl rfl (by decide) (List.mem_cons_of_mem _ (List.mem_append_left _ (List.mem_append_left _ (List.mem_append_left _ (List.mem_append_left _ (List.mem_of_getElem? (i := 0) rfl)))))) rfl (q := 4) rfl ?_
  refine g_if_eq C (t := 8) dX5_bringUpToDate_4 (by decide) (q := 7) rfl (fun c_4 => ?_) (fun c_4 => ?_)
  · refine g_iconst C (nI 0) dX5_bringUpToDate_8 (by decide) (q := 9) rfl ?_
    refine g_eqi C (y := nI (offL (cvl gr li nu st n) 0)) (rfl) ?_
    refine g_istore_n C [(1, .int (nI (offL (cvl gr li nu st n) 0))), (0, .ref (a 4))] dX5_bringUpToDate_9 rfl (by decide) rfl (q := 10) rfl ?_
    refine g_iconst C (nI 0) dX5_bringUpToDate_10 (by decide) (q := 11) rfl ?_
    refine g_istore_n C [(2, .int (nI 0)), (1, .int (nI (offL (cvl gr li nu st n) 0))), (0, .ref (a 4))] dX5_bringUpToDate_11 rfl (by decide) rfl (q := 12) rfl ?_
    have lp_12 : ∀ (N : Nat) (j hx nx : Nat) (f g : Nat → Int64) (f1 t1 : Nat → Int32) (w1 : Nat → Int64), (j ≤ m) → ((hx = a 11 ∧ nx = a 12) ∨ (hx = a 12 ∧ nx = a 11)) → (WPart gr li nu st n j f1 t1 w1) → m - j < N → G 0 0 (wC cI cJ cZ a hx nx gr li st sp (nI n) (nI m) nu f g f1 t1 w1 wu sc pv su sd (nI t)) [(2, .int (nI j)), (1, .int (nI (offL (cvl gr li nu st n) j))), (0, .ref (a 4))] 12 [] := by
      intro N
      induction N with
      | zero => intro j hx nx f g f1 t1 w1 _ _ _ hmu; exact absurd hmu (Nat.not_lt_zero _)
      | succ N ih_12 =>
        intro j hx nx f g f1 t1 w1 hj hp2 hWP hmu
        refine g_iload_n C 0 dX5_bringUpToDate_12 rfl rfl rfl (q := 13) ?_
        refine g_aload_n C 2 dX5_bringUpToDate_13 rfl rfl rfl (q := 14) ?_
        refine g_get C 4 0 dX5_bringUpToDate_14 (Cn := RX5) (T := TX5) (N := 8) (fun _ h => List.mem_cons_of_mem _ (List.mem_append_left _ (List.mem_append_left _ (List.mem_append_left _ (List.mem_append_right _ h))))) rfl rfl (by decide) (List.mem_cons_of_mem _ (List.mem_append_left _ (List.mem_append_left _ (List.mem_append_left _ (List.mem_append_left _ (List.mem_of_getElem? (i := 1) rfl)))))) rfl (q := 17) rfl ?_
        refine gcV_si C (n := 0) (As := []) (st := [.int (nI j)]) 1 (fun h => h) dX5_bringUpToDate_17 rfl rfl gX5_bringUpToDate_X0_legCount (c_X0_legCount l D cI cJ cZ a hx nx gr li st sp n m nu f g f1 t1 w1 wu sc pv su sd t) rfl rfl rfl (by decide +kernel) ⟨Nat.le_of_ble_eq_true rfl, Nat.le_of_ble_eq_true rfl⟩ rfl rfl (Nat.le_of_ble_eq_true rfl) FT_b FT_h ⟨Nat.le_of_ble_eq_true rfl, Nat.le_of_ble_eq_true rfl⟩ (q := 20) rfl (fun r_17 h_17 => ?_)
        subst h_17
        refine g_icmp_ge C (t := 47) dX5_bringUpToDate_20 (by decide) (q := 23) rfl (fun c_20 => ?_) (fun c_20 => ?_)
        · rw [nI_leI (by omega) (by omega)] at c_20
          obtain rfl : m = j := (by omega)
          refine g_aload_n C 2 dX5_bringUpToDate_47 rfl rfl rfl (q := 48) ?_
          refine g_get C 4 4 dX5_bringUpToDate_48 (Cn := RX5) (T := TX5) (N := 8) (fun _ h => List.mem_cons_of_mem _ (List.mem_append_left _ (List.mem_append_left _ (List.mem_append_left _ (List.mem_append_right _ h))))) rfl rfl (by decide) (List.mem_cons_of_mem _ (List.mem_append_left _ (List.mem_append_left _ (List.mem_append_left _ (List.mem_append_left _ (List.mem_of_getElem? (i := 2) rfl)))))) rfl (q := 51) rfl ?_
          refine g_aload_n C 2 dX5_bringUpToDate_51 rfl rfl rfl (q := 52) ?_
          refine g_get C 4 0 dX5_bringUpToDate_52 (Cn := RX5) (T := TX5) (N := 8) (fun _ h => List.mem_cons_of_mem _ (List.mem_append_left _ (List.mem_append_left _ (List.mem_append_left _ (List.mem_append_right _ h))))) rfl rfl (by decide) (List.mem_cons_of_mem _ (List.mem_append_left _ (List.mem_append_left _ (List.mem_append_left _ (List.mem_append_left _ (List.mem_of_getElem? (i := 1) rfl)))))) rfl (q := 55) rfl ?_
          refine gcV_si C (n := 0) (As := []) (st := [.ref (a 14)]) 1 (fun h => h) dX5_bringUpToDate_55 rfl rfl gX5_bringUpToDate_X0_legCount (c_X0_legCount l D cI cJ cZ a hx nx gr li st sp n m nu f g f1 t1 w1 wu sc pv su sd t) rfl rfl rfl (by decide +kernel) ⟨Nat.le_of_ble_eq_true rfl, Nat.le_of_ble_eq_true rfl⟩ rfl rfl (Nat.le_of_ble_eq_true rfl) FT_b FT_h ⟨Nat.le_of_ble_eq_true rfl, Nat.le_of_ble_eq_true rfl⟩ (q := 58) rfl (fun r_55 h_55 => ?_)
          subst h_55
          refine g_iload_n C 1 dX5_bringUpToDate_58 rfl rfl rfl (q := 59) ?_
          refine g_iast C 14 0 (wC cI cJ cZ a hx nx gr li st sp (nI n) (nI m) nu f g (upd f1 m (nI (offL (cvl gr li nu st n) m))) t1 w1 wu sc pv su sd (nI t)) dX5_bringUpToDate_59 rfl rfl (vp_in_nI (by omega) (by decide)) (by rw [nI_clamp (by omega)]; rfl) (q := 60) rfl ?_
          refine g_aload_n C 2 dX5_bringUpToDate_60 rfl rfl rfl (q := 61) ?_
          refine g_iconst C (nI 1) dX5_bringUpToDate_61 (by decide) (q := 62) rfl ?_
          refine g_put C 4 7 (wC cI cJ cZ a hx nx gr li st sp (nI n) (nI m) nu f g (upd f1 m (nI (offL (cvl gr li nu st n) m))) t1 w1 (nI 1) sc pv su sd (nI t)) dX5_bringUpToDate_62 (Cn := RX5) (T := TX5) (N := 8) (fun _ h => List.mem_cons_of_mem _ (List.mem_append_left _ (List.mem_append_left _ (List.mem_append_left _ (List.mem_append_right _ h))))) tyX5_ok nmX5 rfl rfl (by decide) (List.mem_cons_of_mem _ (List.mem_append_left _ (List.mem_append_left _ (List.mem_append_left _ (List.mem_append_left _ (List.mem_of_getElem? (i := 0) rfl)))))) rfl (ty := .boolean) (by decide +kernel) (by decide) rfl (Nat.le_of_ble_eq_true rfl) rfl (q := 65) rfl ?_
          exact hret (hx, nx, f, g, upd f1 m (nI (offL (cvl gr li nu st n) m)), t1, w1) 65 _ dX5_bringUpToDate_65 (⟨hp2, fun i hi => ⟨(pk_un (by omega)).trans (hWP i hi).1, (hWP i hi).2⟩, pk_us⟩)
        · rw [nI_leI (by omega) (by omega)] at c_20
          refine g_aload_n C 2 dX5_bringUpToDate_23 rfl rfl rfl (q := 24) ?_
          refine g_get C 4 4 dX5_bringUpToDate_24 (Cn := RX5) (T := TX5) (N := 8) (fun _ h => List.mem_cons_of_mem _ (List.mem_append_left _ (List.mem_append_left _ (List.mem_append_left _ (List.mem_append_right _ h))))) rfl rfl (by decide) (List.mem_cons_of_mem _ (List.mem_append_left _ (List.mem_append_left _ (List.mem_append_left _ (List.mem_append_left _ (List.mem_of_getElem? (i := 2) rfl)))))) rfl (q := 27) rfl ?_
          refine g_iload_n C 0 dX5_bringUpToDate_27 rfl rfl rfl (q := 28) ?_
          refine g_iload_n C 1 dX5_bringUpToDate_28 rfl rfl rfl (q := 29) ?_
          refine g_iast C 14 0 (wC cI cJ cZ a hx nx gr li st sp (nI n) (nI m) nu f g (upd f1 j (nI (offL (cvl gr li nu st n) j))) t1 w1 wu sc pv su sd (nI t)) dX5_bringUpToDate_29 rfl rfl (vp_in_nI (by omega) (by decide)) (by rw [nI_clamp (by omega)]; rfl) (q := 30) rfl ?_
          refine g_aload_n C 2 dX5_bringUpToDate_30 rfl rfl rfl (q := 31) ?_
          refine g_aload_n C 2 dX5_bringUpToDate_31 rfl rfl rfl (q := 32) ?_
          refine g_iload_n C 0 dX5_bringUpToDate_32 rfl rfl rfl (q := 33) ?_
          refine gcV_qr C (n := 1) (As := [.int (nI j)]) (st := [.ref (a 4)]) 4 (fun h => h) (fun _ h => h) dX5_bringUpToDate_33 rfl rfl gX5_bringUpToDate_X5_driveOver (c_X5_driveOver l D cI cJ cZ a hx nx gr li st sp n m nu f g (upd f1 j (nI (offL (cvl gr li nu st n) j))) t1 w1 wu sc pv su sd t j hL hT (by omega) hp2) rfl rfl rfl (by decide +kernel) ⟨Nat.le_of_ble_eq_true rfl, Nat.le_of_ble_eq_true rfl⟩ rfl rfl (Nat.le_of_ble_eq_true rfl) FT_b FT_h ⟨Nat.le_of_ble_eq_true rfl, Nat.le_of_ble_eq_true rfl⟩ (q := 36) rfl (fun u_33 ra_33 h_33 k_33 => ?_)
          subst k_33
          have h_33 : ((u_33.1 = a 11 ∧ u_33.2.1 = a 12) ∨ (u_33.1 = a 12 ∧ u_33.2.1 = a 11)) ∧ ∀ t, t ≤ 540 → FE (okM gr li nu) (pwM gr nu) (nL st n j) (posOf st j n) t (u_33.2.2.1 t) := h_33
          show G 0 0 (wC cI cJ cZ a u_33.1 u_33.2.1 gr li st sp (nI n) (nI m) nu u_33.2.2.1 u_33.2.2.2 (upd f1 j (nI (offL (cvl gr li nu st n) j))) t1 w1 wu sc pv su sd (nI t)) [(2, .int (nI j)), (1, .int (nI (offL (cvl gr li nu st n) j))), (0, .ref (a 4))] 36 [.ref u_33.1, .ref (a 4)]
          refine g_iload_n C 1 dX5_bringUpToDate_36 rfl rfl rfl (q := 37) ?_
          refine gcV_qi C (n := 2) (As := [.ref u_33.1, .int (nI (offL (cvl gr li nu st n) j))]) (st := []) 4 (fun h => h) (fun _ h => h) dX5_bringUpToDate_37 rfl rfl gX5_bringUpToDate_X5_gatherPairs (c_X5_gatherPairs l D cI cJ cZ a u_33.1 u_33.2.1 gr li st sp n m nu u_33.2.2.1 u_33.2.2.2 (upd f1 j (nI (offL (cvl gr li nu st n) j))) t1 w1 wu sc pv su sd t (offL (cvl gr li nu st n) j) j hL hT (by omega) h_33.2 (by have := off_968 (gr := gr) (li := li) hT hL (show j + 1 ≤ m by omega); rw [offL] at this; exact this)) rfl rfl rfl (by decide +kernel) ⟨Nat.le_of_ble_eq_true rfl, Nat.le_of_ble_eq_true rfl⟩ rfl rfl (Nat.le_of_ble_eq_true rfl) FT_b FT_h ⟨Nat.le_of_ble_eq_true rfl, Nat.le_of_ble_eq_true rfl⟩ (q := 40) rfl (fun r_37 u_37 h_37 => ?_)
          have h_37 : r_37 = nI ((offL (cvl gr li nu st n) j) + cvl gr li nu st n j) ∧ (∀ i, i < (offL (cvl gr li nu st n) j) → u_37.1 i = t1 i ∧ u_37.2 i = w1 i) ∧ ∀ k, k < cvl gr li nu st n j → u_37.1 ((offL (cvl gr li nu st n) j) + k) = nI ((prs (mL gr li nu st n j) 1001).getD k 0) ∧ ∃ l, LX (okM gr li nu) (pwM gr nu) (nL st n j) (posOf st j n) 0 ((prs (mL gr li nu st n j) 1001).getD k 0) 0 l ∧ u_37.2 ((offL (cvl gr li nu st n) j) + k) = lJ (CO (pwM gr nu) (posOf st j n) l) := h_37
          show G 0 0 (wC cI cJ cZ a u_33.1 u_33.2.1 gr li st sp (nI n) (nI m) nu u_33.2.2.1 u_33.2.2.2 (upd f1 j (nI (offL (cvl gr li nu st n) j))) u_37.1 u_37.2 wu sc pv su sd (nI t)) [(2, .int (nI j)), (1, .int (nI (offL (cvl gr li nu st n) j))), (0, .ref (a 4))] 40 [.int r_37]
          refine g_eqi C (y := nI (offL (cvl gr li nu st n) (j + 1))) (h_37.1) ?_
          refine g_istore_n C [(1, .int (nI (offL (cvl gr li nu st n) (j + 1)))), (2, .int (nI j)), (0, .ref (a 4))] dX5_bringUpToDate_40 rfl (by decide) rfl (q := 41) rfl ?_
          refine g_iinc C (z := 1) (nI (j + 1)) [(2, .int (nI (j + 1))), (1, .int (nI (offL (cvl gr li nu st n) (j + 1)))), (0, .ref (a 4))] dX5_bringUpToDate_41 rfl (nI_add j 1) (by decide) rfl (q := 44) rfl ?_
          refine g_goto C (q := 12) dX5_bringUpToDate_44 (by decide) ?_
          exact ih_12 (j + 1) u_33.1 u_33.2.1 u_33.2.2.1 u_33.2.2.2 (upd f1 j (nI (offL (cvl gr li nu st n) j))) u_37.1 u_37.2 (by first | assumption | omega) h_33.1 (WPart_next hWP (fun i hi => pk_un (by omega)) pk_us h_37.2.1 h_37.2.2) (by omega)
    exact lp_12 _ 0 hA nA ev od fp ti wc (by first | assumption | omega) hp (fun i h => absurd h (Nat.not_lt_zero _)) (Nat.lt_succ_self _)
  · obtain ⟨hwu, hW⟩ := hW0.resolve_left (fun e => c_4 (by rw [e]; decide))
    subst hwu
    exact hret (hA, nA, ev, od, fp, ti, wc) 7 _ dX5_bringUpToDate_7 (⟨hp, hW⟩)
