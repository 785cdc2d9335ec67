/-! the reference: line once more, its number of cells is at most 16 -/
set_option maxHeartbeats 4000000 in
set_option maxRecDepth 100000 in
theorem c_X7_line2 (l : Launch) (D : va_G) (cI cJ cZ : ClassId) (b : Nat → Nat) (n : Nat) (gr li st tr : Nat → Int32) (t : Nat) (sd lea : Nat → Int32) (pa : Int32) (pt pp : Nat → Int32) (su : Int32) (sh tt : Nat → Int32) (k : Int32) : Met l yX7_line wsX7_line { frames := 1, cells := 0, slots := 0, locals := 22 } (gPc D (tyT cI cJ cZ) (wB b) FT (wM cI cJ cZ b (nI n) gr li st tr (nI t) sd lea pa pt pp su sh tt) [.ref (b 0), .int k]) (va_Qi (fun (r : Int32) (u : Nat × (Nat → Int32) × (Nat → Int32) × (Nat → Int32) × Nat × Int32) => (¬ lnP k → r = -2 ∧ u = (n, gr, li, st, t, su)) ∧ (lnP k → r = nI n ∧ ∃ z : Nat, z ≤ 16 ∧ k = nI z ∧ u = (z, fun _ => nI 0, fun _ => nI 6, stL z, 0, nI 0))) (fun u tS => va_P D vwCl ((fun (u : Nat × (Nat → Int32) × (Nat → Int32) × (Nat → Int32) × Nat × Int32) => wM cI cJ cZ b (nI u.1) u.2.1 u.2.2.1 u.2.2.2.1 tr (nI u.2.2.2.2.1) sd lea pa pt pp u.2.2.2.2.2 sh tt) u) tS.heap ∧ va_D (wB b) ((fun (u : Nat × (Nat → Int32) × (Nat → Int32) × (Nat → Int32) × Nat × Int32) => wM cI cJ cZ b (nI u.1) u.2.1 u.2.2.1 u.2.2.2.1 tr (nI u.2.2.2.2.1) sd lea pa pt pp u.2.2.2.2.2 sh tt) u)) (wB b)) 0 0 (wB b) := by
  refine gs_qi (cc := cX7_line) (nL := 3) (ty := .int) (W' := fun (u : Nat × (Nat → Int32) × (Nat → Int32) × (Nat → Int32) × Nat × Int32) => wM cI cJ cZ b (nI u.1) u.2.1 u.2.2.1 u.2.2.2.1 tr (nI u.2.2.2.2.1) sd lea pa pt pp u.2.2.2.2.2 sh tt) (by decide) rfl (Nat.le_of_ble_eq_true rfl) (fun G C hret => ?_)
  show G 0 0 (wM cI cJ cZ b (nI n) gr li st tr (nI t) sd lea pa pt pp su sh tt) [(0, .ref (b 0)), (1, .int k)] 0 []
  refine g_iload_n C 1 dX7_line_0 rfl rfl rfl (q := 1) ?_
  refine g_iconst C (nI 1) dX7_line_1 (by decide) (q := 2) rfl ?_
  refine g_bipush C (nI 16) dX7_line_2 (by decide) (q := 4) rfl ?_
  refine gcS_si C (n := 3) (As := [.int k, .int (nI 1), .int (nI 16)]) (st := []) (fun h => h) dX7_line_4 gX7_line_X7_in (c_X7_in l D cI cJ cZ b n gr li st tr t sd lea pa pt pp su sh tt k (nI 1) (nI 16)) rfl rfl rfl (by decide +kernel) ⟨Nat.le_of_ble_eq_true rfl, Nat.le_of_ble_eq_true rfl⟩ rfl rfl (Nat.le_of_ble_eq_true rfl) FT_b FT_h ⟨Nat.le_of_ble_eq_true rfl, Nat.le_of_ble_eq_true rfl⟩ (q := 7) rfl (fun r_4 h_4 => ?_)
  subst h_4
  refine g_if_ne C (t := 13) dX7_line_7 (by decide) (q := 10) rfl (fun c_7 => ?_) (fun c_7 => ?_)
  · replace c_7 := ite_n0 c_7
    have hln : lnP k := c_7
    obtain ⟨z, hz1, hz2, rfl⟩ := lnP_of hln
    refine g_aload_n C 0 dX7_line_13 rfl rfl rfl (q := 14) ?_
    refine g_get C 0 0 dX7_line_14 (Cn := RX7) (T := TX7) (N := 14) (fun _ h => List.mem_cons_of_mem _ (List.mem_append_right _ h)) rfl rfl (by decide) (List.mem_cons_of_mem _ (List.mem_append_left _ (List.mem_of_getElem? (i := 0) rfl))) rfl (q := 17) rfl ?_
    refine g_istore_n C [(2, .int (nI n)), (0, .ref (b 0)), (1, .int (nI z))] dX7_line_17 rfl (by decide) rfl (q := 18) rfl ?_
    refine g_aload_n C 1 dX7_line_18 rfl rfl rfl (q := 19) ?_
    refine g_iload_n C 2 dX7_line_19 rfl rfl rfl (q := 20) ?_
    refine gcV_qv C (n := 1) (As := [.int (nI z)]) (st := []) 0 (fun h => h) (fun _ h => h) dX7_line_20 rfl rfl gX7_line_X7_begin (c_X7_begin l D cI cJ cZ b (nI n) gr li st tr (nI t) sd lea pa pt pp su sh tt z (by first | assumption | omega) (by first | assumption | omega)) rfl rfl rfl (by decide +kernel) ⟨Nat.le_of_ble_eq_true rfl, Nat.le_of_ble_eq_true rfl⟩ rfl rfl (Nat.le_of_ble_eq_true rfl) FT_b FT_h ⟨Nat.le_of_ble_eq_true rfl, Nat.le_of_ble_eq_true rfl⟩ (q := 23) rfl (fun u_20 h_20 => ?_)
    refine g_iload_n C 0 dX7_line_23 rfl rfl rfl (q := 24) ?_
    exact hret _ (z, fun _ => nI 0, fun _ => nI 6, stL z, 0, nI 0) 24 _ dX7_line_24 rfl (⟨fun h => absurd hln h, fun _ => ⟨rfl, z, hz2, rfl, rfl⟩⟩)
  · replace c_7 := ite_e0 c_7
    refine g_bipush C (-2) dX7_line_10 (by decide) (q := 12) rfl ?_
    exact hret _ (n, gr, li, st, t, su) 12 _ dX7_line_12 rfl (⟨fun _ => ⟨rfl, rfl⟩, fun h => absurd h c_7⟩)
theorem aBS_uq {gr li nu st sp : Nat → Int32} {n m : Nat} {k t q r r' : Int32} (hL : LInv st sp n m) (h : aBS gr li nu st n m k t q r) (h' : aBS gr li nu st n m k t q r') : r = r' := by
  unfold aBS at h h'
  split at h
  · rename_i c1
    rw [if_pos c1] at h'
    split at h
    · rename_i c2
      rw [if_pos c2] at h'
      split at h
      · rename_i c3
        rw [if_pos c3] at h'
        obtain ⟨l1, a1, e1⟩ := h
        obtain ⟨l2, a2, e2⟩ := h'
        have hk := c1.1
        have hm := hL.m_le
        have hn := hL.2.1
        obtain ⟨j, hj, ek⟩ := hcP_of hk (by omega)
        have hpo : posOf st (k.toNatClampNeg + 1) n ≤ n := by
          rw [ek, nI_clamp (by omega)]
          exact (hL.pos (show j + 1 ≤ m by omega)).1
        have e := LX_uniq (by omega) a1 a2
        rw [e1, e2, e]
      · rename_i c3
        rw [if_neg c3] at h'
        rw [h, h']
    · rename_i c2
      rw [if_neg c2] at h'
      rw [h, h']
  · rename_i c1
    rw [if_neg c1] at h'
    rw [h, h']
theorem w_le {Ls i : Nat} (hL : Ls ≤ 2048) (hi : i < 2 ^ 31) (h : ¬ nI Ls - nI 4 < nI i) : i + 4 ≤ Ls := by
  by_cases q : 4 ≤ Ls
  · rw [pk_sub q, nI_ltI (by omega) hi] at h
    omega
  · exfalso
    refine h (Int32.lt_of_lt_of_le ?_ (nI_pos' hi))
    rcases (show Ls = 0 ∨ Ls = 1 ∨ Ls = 2 ∨ Ls = 3 by omega) with rfl | rfl | rfl | rfl <;> decide
