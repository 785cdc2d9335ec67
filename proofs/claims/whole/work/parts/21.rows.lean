/-! the class: the rows of ways -/
theorem one_m {x : Nat} {e : va_E} : ∀ (k : Nat) (y : Nat × va_E), ([(x, e)] : va_W)[k]? = some y → (fun q : Nat => q = x) y.1 := fun k y h => by
  cases k with
  | zero => simp at h; rw [← h]
  | succ k => simp at h
theorem one_A {x : Nat} {e : va_E} : ∀ (sz q : Nat), (fun q : Nat => q = x) q → va_A [(x, e)] sz q := fun sz q h => Or.inl ⟨0, e, by rw [show q = x from h]; rfl⟩
theorem WOK_fp {gr li nu st fp ti : Nat → Int32} {wc : Nat → Int64} {n m j : Nat} (h : WOK gr li nu st n m fp ti wc) (hj : j ≤ m) : fp j = nI (offL (cvl gr li nu st n) j) := by
  by_cases e : j = m
  · rw [e]; exact h.2
  · exact (h.1 j (by omega)).1
theorem WOK_lt {gr li nu st sp : Nat → Int32} {n m j k : Nat} (hT : TrOK nu) (hL : LInv st sp n m) (hj : j < m) (hk : k < cvl gr li nu st n j) : offL (cvl gr li nu st n) j + k < 968 := by
  have a := off_968 (gr := gr) (li := li) hT hL (show j + 1 ≤ m by omega)
  rw [offL] at a; omega
theorem LX_pwl {gr li nu st : Nat → Int32} {n j t : Nat} {l : List Nat} (hT : TrOK nu) (hn : nL st n j ≤ 16) (h : LX (okM gr li nu) (pwM gr nu) (nL st n j) (posOf st j n) 0 t 0 l) : (lJ (CO (pwM gr nu) (posOf st j n) l) >>> ((nI 48).toInt64 &&& 63)).toInt32 = jN (mL gr li nu st n j t) := by
  obtain ⟨e1, e2, e3, e4⟩ := LX_pw (SB_M hT) hn h
  rw [lJ_shr (by have := e2.1; have := e2.2; omega) (by decide), show ((2 ^ 48 : Nat) : Int) = 281474976710656 by decide, e1, l2i_jN (by omega)]
  rfl
theorem LX_dig {gr li nu st : Nat → Int32} {n j t i : Nat} {l : List Nat} (hT : TrOK nu) (hn : nL st n j ≤ 16) (hi : i < nL st n j) (h : LX (okM gr li nu) (pwM gr nu) (nL st n j) (posOf st j n) 0 t 0 l) : (lJ (CO (pwM gr nu) (posOf st j n) l) >>> ((nI (3 * (16 - (i + 1)))).toInt64 &&& 63)).toInt32 &&& nI 7 = nI (lastS 0 (l.take (i + 1))) := by
  have hlen := h.1.1
  have a := PP_bd (SB_M hT) l _ _ h.1.2.1
  rw [hlen] at a
  rw [CO_dig (PO_7 l _ _ h.1.2.1) (by omega) (by omega) (by omega), lastS_take_succ l i 0 (by omega)]
theorem wAh {a : Nat → Nat} {hA nA : Nat} (hp : (hA = a 11 ∧ nA = a 12) ∨ (hA = a 12 ∧ nA = a 11)) : (∀ q, q = hA → wA a (a 11) (a 12) q) ∧ (∀ q, q = nA → wA a (a 11) (a 12) q) := by
  rcases hp with ⟨h1, h2⟩ | ⟨h1, h2⟩ <;> subst h1 <;> subst h2 <;> exact ⟨fun q e => by rw [e]; simp [wA], fun q e => by rw [e]; simp [wA]⟩
theorem spr_next {ev od g : Nat → Int64} {fr to la q : Nat} {ad y : Int64} (hq : q ≤ la) (hg : ∀ i, i < 3787 → g i = if i < to + q then sprV ev od fr to la ad i else od i) (hy : sprV ev od fr to la ad (to + q) = y) : ∀ i, i < 3787 → vp_updL g (to + q) y i = if i < to + (q + 1) then sprV ev od fr to la ad i else od i := fun i hi => by
  by_cases e : i = to + q
  · subst e; rw [pk_uLs, if_pos (by omega), hy]
  · rw [pk_uLn e, hg i hi]
    by_cases z : i < to + q
    · rw [if_pos z, if_pos (by omega)]
    · rw [if_neg z, if_neg (by omega)]
theorem spr_keep {ev od g : Nat → Int64} {fr to la q : Nat} {ad : Int64} (hg : ∀ i, i < 3787 → g i = if i < to + q then sprV ev od fr to la ad i else od i) (hy : sprV ev od fr to la ad (to + q) = od (to + q)) : ∀ i, i < 3787 → g i = if i < to + (q + 1) then sprV ev od fr to la ad i else od i := fun i hi => by
  rw [hg i hi]
  by_cases e : i = to + q
  · subst e; rw [if_neg (by omega), if_pos (by omega), hy]
  · by_cases z : i < to + q
    · rw [if_pos z, if_pos (by omega)]
    · rw [if_neg z, if_neg (by omega)]
set_option maxHeartbeats 4000000 in
set_option maxRecDepth 100000 in
theorem c_J7_fill_d0a16 (l : Launch) (D : va_G) (cI cJ cZ : ClassId) (a : Nat → Nat) (x : Nat) (f : Nat → Int64) (nn : Nat) (v : Int64) (hn : nn < 2 ^ 31) : Met l yJ7_fill_d0a16 wsJ7_fill_d0a16 { frames := 0, cells := 0, slots := 0, locals := 0 } (gPc D (tyT cI cJ cZ) (fun q => q = x) FT ([(x, .inl (cJ, nn, .inr (.inl f)))]) [.ref x, .long v]) (va_Qv (fun (u : (Nat → Int64)) => ∀ i, i < nn → u i = v) (fun u tS => va_P D vwCl ((fun (u : (Nat → Int64)) => [(x, .inl (cJ, nn, .inr (.inl u)))]) u) tS.heap ∧ va_D (fun q => q = x) ((fun (u : (Nat → Int64)) => [(x, .inl (cJ, nn, .inr (.inl u)))]) u)) (fun q => q = x)) 0 0 (fun q => q = x) := by
  refine gs_qv (cc := cJ7_fill_d0a16) (nL := 5) (W' := fun (u : (Nat → Int64)) => [(x, .inl (cJ, nn, .inr (.inl u)))]) (by decide) rfl (Nat.le_of_ble_eq_true rfl) (fun G C hret => ?_)
  show G 0 0 ([(x, .inl (cJ, nn, .inr (.inl f)))]) [(0, .ref x), (1, .long v)] 0 []
  refine g_iconst C (nI 0) dJ7_fill_d0a16_0 (by decide) (q := 1) rfl ?_
  refine g_istore_n C [(3, .int (nI 0)), (0, .ref x), (1, .long v)] dJ7_fill_d0a16_1 rfl (by decide) rfl (q := 2) rfl ?_
  refine g_aload_n C 1 dJ7_fill_d0a16_2 rfl rfl rfl (q := 3) ?_
  refine g_alen C 0 1 dJ7_fill_d0a16_3 rfl rfl (v := nI nn) rfl (q := 4) rfl ?_
  refine g_istore C [(4, .int (nI nn)), (3, .int (nI 0)), (0, .ref x), (1, .long v)] dJ7_fill_d0a16_4 (by decide) rfl (q := 6) rfl ?_
  have lp_6 : ∀ (N : Nat) (i : Nat) (g : Nat → Int64), (i ≤ nn) → (∀ k, k < i → g k = v) → nn - i < N → G 0 0 ([(x, .inl (cJ, nn, .inr (.inl g)))]) [(3, .int (nI i)), (4, .int (nI nn)), (0, .ref x), (1, .long v)] 6 [] := by
    intro N
    induction N with
    | zero => intro i g _ _ hmu; exact absurd hmu (Nat.not_lt_zero _)
    | succ N ih_6 =>
      intro i g hi hg hmu
      refine g_iload_n C 0 dJ7_fill_d0a16_6 rfl rfl rfl (q := 7) ?_
      refine g_iload C 1 dJ7_fill_d0a16_7 rfl rfl (q := 9) ?_
      refine g_icmp_ge C (t := 22) dJ7_fill_d0a16_9 (by decide) (q := 12) rfl (fun c_9 => ?_) (fun c_9 => ?_)
      · rw [nI_leI (by omega) (by omega)] at c_9
        exact hret g 22 _ dJ7_fill_d0a16_22 (fun k hk => hg k (by omega))
      · rw [nI_leI (by omega) (by omega)] at c_9
        refine g_aload_n C 2 dJ7_fill_d0a16_12 rfl rfl rfl (q := 13) ?_
        refine g_iload_n C 0 dJ7_fill_d0a16_13 rfl rfl rfl (q := 14) ?_
        refine g_lload_n C 3 dJ7_fill_d0a16_14 rfl rfl rfl (q := 15) ?_
        refine g_last C 0 1 ([(x, .inl (cJ, nn, .inr (.inl (vp_updL g i v))))]) dJ7_fill_d0a16_15 rfl rfl (vp_in_nI (by omega) hn) (by rw [nI_clamp (by omega)]; rfl) (q := 16) rfl ?_
        refine g_iinc C (z := 0) (nI (i + 1)) [(3, .int (nI (i + 1))), (4, .int (nI nn)), (0, .ref x), (1, .long v)] dJ7_fill_d0a16_16 rfl (nI_add i 1) (by decide) rfl (q := 19) rfl ?_
        refine g_goto C (q := 6) dJ7_fill_d0a16_19 (by decide) ?_
        exact ih_6 (i + 1) (vp_updL g i v) (by first | assumption | omega) (fun k hk => by by_cases e : k = i; (subst e; exact pk_uLs); (rw [pk_uLn e]; exact hg k (by omega))) (by omega)
  refine g_locs C [(3, .int (nI 0)), (4, .int (nI nn)), (0, .ref x), (1, .long v)] [1, 0, 2, 3] rfl ?_
  exact lp_6 _ 0 f (by first | assumption | omega) (fun k h => absurd h (Nat.not_lt_zero _)) (Nat.lt_succ_self _)
set_option maxHeartbeats 4000000 in
set_option maxRecDepth 100000 in
theorem c_X5_speedPlace (l : Launch) (D : va_G) (cI cJ cZ : ClassId) (a : Nat → Nat) (hA nA : Nat) (gr li st sp : Nat → Int32) (n m : Nat) (nu : Nat → Int32) (ev od : Nat → Int64) (fp ti : Nat → Int32) (wc : Nat → Int64) (wu : Int32) (sc pv : Nat → Int64) (su : Int32) (sd : Nat → Int32) (t x : Nat) (hx : x ≤ 16) : Met l yX5_speedPlace wsX5_speedPlace { frames := 0, cells := 0, slots := 0, locals := 0 } (gPc D (tyT cI cJ cZ) (wA a (a 11) (a 12)) FT (wC cI cJ cZ a hA nA gr li st sp (nI n) (nI m) nu ev od fp ti wc wu sc pv su sd (nI t)) [.int (nI x)]) (vp_Si (fun r => r = nI (3 * (16 - x)))) 0 0 (fun _ => False) := by
  refine gs_si (cc := cX5_speedPlace) (nL := 1) (ty := .int) (by decide) rfl (Nat.le_of_ble_eq_true rfl) (fun G C hret => ?_)
  show G 0 0 (wC cI cJ cZ a hA nA gr li st sp (nI n) (nI m) nu ev od fp ti wc wu sc pv su sd (nI t)) [(0, .int (nI x))] 0 []
  refine g_iconst C (nI 3) dX5_speedPlace_0 (by decide) (q := 1) rfl ?_
  refine g_bipush C (nI 16) dX5_speedPlace_1 (by decide) (q := 3) rfl ?_
  refine g_iload_n C 0 dX5_speedPlace_3 rfl rfl rfl (q := 4) ?_
  refine g_isub C dX5_speedPlace_4 (q := 5) rfl ?_
  refine g_eqi C (y := nI (16 - x)) (pk_sub hx) ?_
  refine g_imul C dX5_speedPlace_5 (q := 6) rfl ?_
  refine g_eqi C (y := nI (3 * (16 - x))) (pk_mul 3 (16 - x)) ?_
  exact hret _ 6 _ _ dX5_speedPlace_6 rfl (rfl)
set_option maxHeartbeats 4000000 in
set_option maxRecDepth 100000 in
theorem c_X5_pairCount (l : Launch) (D : va_G) (cI cJ cZ : ClassId) (a : Nat → Nat) (hA nA : Nat) (gr li st sp : Nat → Int32) (n m : Nat) (nu : Nat → Int32) (ev od : Nat → Int64) (fp ti : Nat → Int32) (wc : Nat → Int64) (wu : Int32) (sc pv : Nat → Int64) (su : Int32) (sd : Nat → Int32) (t j : Nat) (hL : LInv st sp n m) (hT : TrOK nu) (hj : j < m) (hW : WOK gr li nu st n m fp ti wc) : Met l yX5_pairCount wsX5_pairCount { frames := 0, cells := 0, slots := 0, locals := 0 } (gPc D (tyT cI cJ cZ) (wA a (a 11) (a 12)) FT (wC cI cJ cZ a hA nA gr li st sp (nI n) (nI m) nu ev od fp ti wc wu sc pv su sd (nI t)) [.ref (a 4), .int (nI j)]) (vp_Si (fun r => r = nI (cvl gr li nu st n j))) 0 0 (fun _ => False) := by
  refine gs_si (cc := cX5_pairCount) (nL := 2) (ty := .int) (by decide) rfl (Nat.le_of_ble_eq_true rfl) (fun G C hret => ?_)
  show G 0 0 (wC cI cJ cZ a hA nA gr li st sp (nI n) (nI m) nu ev od fp ti wc wu sc pv su sd (nI t)) [(0, .ref (a 4)), (1, .int (nI j))] 0 []
  have hn := hL.2.1
  have hmn := hL.m_le
  refine g_aload_n C 0 dX5_pairCount_0 rfl rfl rfl (q := 1) ?_
  refine g_get C 4 4 dX5_pairCount_1 (Cn := RX5) (T := TX5) (N := 8) (fun _ h => List.mem_cons_of_mem _ (List.mem_append_right _ h)) rfl rfl (by decide) (List.mem_cons_of_mem _ (List.mem_append_left _ (List.mem_of_getElem? (i := 0) rfl))) rfl (q := 4) rfl ?_
  refine g_iload_n C 1 dX5_pairCount_4 rfl rfl rfl (q := 5) ?_
  refine g_iconst C (nI 1) dX5_pairCount_5 (by decide) (q := 6) rfl ?_
  refine g_iadd C dX5_pairCount_6 (q := 7) rfl ?_
  refine g_eqi C (y := nI (j + 1)) (nI_add j 1) ?_
  refine g_iald C 14 0 dX5_pairCount_7 rfl rfl (vp_in_nI (by omega) (by decide)) (q := 8) rfl ?_
  refine g_eqi C (y := fp (j + 1)) (by rw [nI_clamp (by omega)]) ?_
  refine g_eqi C (y := nI (offL (cvl gr li nu st n) (j + 1))) (WOK_fp hW (by omega)) ?_
  refine g_aload_n C 0 dX5_pairCount_8 rfl rfl rfl (q := 9) ?_
  refine g_get C 4 4 dX5_pairCount_9 (Cn := RX5) (T := TX5) (N := 8) (fun _ h => List.mem_cons_of_mem _ (List.mem_append_right _ h)) rfl rfl (by decide) (List.mem_cons_of_mem _ (List.mem_append_left _ (List.mem_of_getElem? (i := 0) rfl))) rfl (q := 12) rfl ?_
  refine g_iload_n C 1 dX5_pairCount_12 rfl rfl rfl (q := 13) ?_
  refine g_iald C 14 0 dX5_pairCount_13 rfl rfl (vp_in_nI (by omega) (by decide)) (q := 14) rfl ?_
  refine g_eqi C (y := fp j) (by rw [nI_clamp (by omega)]) ?_
  refine g_eqi C (y := nI (offL (cvl gr li nu st n) j)) (WOK_fp hW (by omega)) ?_
  refine g_isub C dX5_pairCount_14 (q := 15) rfl ?_
  refine g_eqi C (y := nI ((offL (cvl gr li nu st n) (j + 1)) - (offL (cvl gr li nu st n) j))) (pk_sub (off_mono _ (by omega))) ?_
  exact hret _ 15 _ _ dX5_pairCount_15 rfl (by rw [offL]; congr 1; exact Nat.add_sub_cancel_left _ _)
set_option maxHeartbeats 4000000 in
set_option maxRecDepth 100000 in
theorem c_X5_pairTime (l : Launch) (D : va_G) (cI cJ cZ : ClassId) (a : Nat → Nat) (hA nA : Nat) (gr li st sp : Nat → Int32) (n m : Nat) (nu : Nat → Int32) (ev od : Nat → Int64) (fp ti : Nat → Int32) (wc : Nat → Int64) (wu : Int32) (sc pv : Nat → Int64) (su : Int32) (sd : Nat → Int32) (t j k : Nat) (hL : LInv st sp n m) (hT : TrOK nu) (hj : j < m) (hW : WOK gr li nu st n m fp ti wc) (hk : k < cvl gr li nu st n j) : Met l yX5_pairTime wsX5_pairTime { frames := 0, cells := 0, slots := 0, locals := 0 } (gPc D (tyT cI cJ cZ) (wA a (a 11) (a 12)) FT (wC cI cJ cZ a hA nA gr li st sp (nI n) (nI m) nu ev od fp ti wc wu sc pv su sd (nI t)) [.ref (a 4), .int (nI j), .int (nI k)]) (vp_Si (fun r => r = nI ((prs (mL gr li nu st n j) 1001).getD k 0))) 0 0 (fun _ => False) := by
  refine gs_si (cc := cX5_pairTime) (nL := 3) (ty := .int) (by decide) rfl (Nat.le_of_ble_eq_true rfl) (fun G C hret => ?_)
  show G 0 0 (wC cI cJ cZ a hA nA gr li st sp (nI n) (nI m) nu ev od fp ti wc wu sc pv su sd (nI t)) [(0, .ref (a 4)), (1, .int (nI j)), (2, .int (nI k))] 0 []
  have hn := hL.2.1
  have hmn := hL.m_le
  have hlt := WOK_lt hT hL hj hk
  refine g_aload_n C 0 dX5_pairTime_0 rfl rfl rfl (q := 1) ?_
  refine g_get C 4 5 dX5_pairTime_1 (Cn := RX5) (T := TX5) (N := 8) (fun _ h => List.mem_cons_of_mem _ (List.mem_append_right _ h)) rfl rfl (by decide) (List.mem_cons_of_mem _ (List.mem_append_left _ (List.mem_of_getElem? (i := 0) rfl))) rfl (q := 4) rfl ?_
  refine g_aload_n C 0 dX5_pairTime_4 rfl rfl rfl (q := 5) ?_
  refine g_get C 4 4 dX5_pairTime_5 (Cn := RX5) (T := TX5) (N := 8) (fun _ h => List.mem_cons_of_mem _ (List.mem_append_right _ h)) rfl rfl (by decide) (List.mem_cons_of_mem _ (List.mem_append_left _ (List.mem_of_getElem? (i := 1) rfl))) rfl (q := 8) rfl ?_
  refine g_iload_n C 1 dX5_pairTime_8 rfl rfl rfl (q := 9) ?_
  refine g_iald C 14 0 dX5_pairTime_9 rfl rfl (vp_in_nI (by omega) (by decide)) (q := 10) rfl ?_
  refine g_eqi C (y := fp j) (by rw [nI_clamp (by omega)]) ?_
  refine g_eqi C (y := nI (offL (cvl gr li nu st n) j)) (WOK_fp hW (by omega)) ?_
  refine g_iload_n C 2 dX5_pairTime_10 rfl rfl rfl (q := 11) ?_
  refine g_iadd C dX5_pairTime_11 (q := 12) rfl ?_
  refine g_eqi C (y := nI ((offL (cvl gr li nu st n) j) + k)) (nI_add (offL (cvl gr li nu st n) j) k) ?_
  refine g_iald C 15 0 dX5_pairTime_12 rfl rfl (vp_in_nI (by omega) (by decide)) (q := 13) rfl ?_
  refine g_eqi C (y := ti ((offL (cvl gr li nu st n) j) + k)) (by rw [nI_clamp (by omega)]) ?_
  exact hret _ 13 _ _ dX5_pairTime_13 rfl (((hW.1 j hj).2 k hk).1)
set_option maxHeartbeats 4000000 in
set_option maxRecDepth 100000 in
theorem c_X5_pairPower (l : Launch) (D : va_G) (cI cJ cZ : ClassId) (a : Nat → Nat) (hA nA : Nat) (gr li st sp : Nat → Int32) (n m : Nat) (nu : Nat → Int32) (ev od : Nat → Int64) (fp ti : Nat → Int32) (wc : Nat → Int64) (wu : Int32) (sc pv : Nat → Int64) (su : Int32) (sd : Nat → Int32) (t j k : Nat) (hL : LInv st sp n m) (hT : TrOK nu) (hj : j < m) (hW : WOK gr li nu st n m fp ti wc) (hk : k < cvl gr li nu st n j) : Met l yX5_pairPower wsX5_pairPower { frames := 0, cells := 0, slots := 0, locals := 0 } (gPc D (tyT cI cJ cZ) (wA a (a 11) (a 12)) FT (wC cI cJ cZ a hA nA gr li st sp (nI n) (nI m) nu ev od fp ti wc wu sc pv su sd (nI t)) [.ref (a 4), .int (nI j), .int (nI k)]) (vp_Si (fun r => r = jN (mL gr li nu st n j ((prs (mL gr li nu st n j) 1001).getD k 0)))) 0 0 (fun _ => False) := by
  refine gs_si (cc := cX5_pairPower) (nL := 3) (ty := .int) (by decide) rfl (Nat.le_of_ble_eq_true rfl) (fun G C hret => ?_)
  show G 0 0 (wC cI cJ cZ a hA nA gr li st sp (nI n) (nI m) nu ev od fp ti wc wu sc pv su sd (nI t)) [(0, .ref (a 4)), (1, .int (nI j)), (2, .int (nI k))] 0 []
  have hn := hL.2.1
  have hmn := hL.m_le
  have hlt := WOK_lt hT hL hj hk
  refine g_aload_n C 0 dX5_pairPower_0 rfl rfl rfl (q := 1) ?_
  refine g_get C 4 6 dX5_pairPower_1 (Cn := RX5) (T := TX5) (N := 8) (fun _ h => List.mem_cons_of_mem _ (List.mem_append_right _ h)) rfl rfl (by decide) (List.mem_cons_of_mem _ (List.mem_append_left _ (List.mem_of_getElem? (i := 0) rfl))) rfl (q := 4) rfl ?_
  refine g_aload_n C 0 dX5_pairPower_4 rfl rfl rfl (q := 5) ?_
  refine g_get C 4 4 dX5_pairPower_5 (Cn := RX5) (T := TX5) (N := 8) (fun _ h => List.mem_cons_of_mem _ (List.mem_append_right _ h)) rfl rfl (by decide) (List.mem_cons_of_mem _ (List.mem_append_left _ (List.mem_of_getElem? (i := 1) rfl))) rfl (q := 8) rfl ?_
  refine g_iload_n C 1 dX5_pairPower_8 rfl rfl rfl (q := 9) ?_
  refine g_iald C 14 0 dX5_pairPower_9 rfl rfl (vp_in_nI (by omega) (by decide)) (q := 10) rfl ?_
  refine g_eqi C (y := fp j) (by rw [nI_clamp (by omega)]) ?_
  refine g_eqi C (y := nI (offL (cvl gr li nu st n) j)) (WOK_fp hW (by omega)) ?_
  refine g_iload_n C 2 dX5_pairPower_10 rfl rfl rfl (q := 11) ?_
  refine g_iadd C dX5_pairPower_11 (q := 12) rfl ?_
  refine g_eqi C (y := nI ((offL (cvl gr li nu st n) j) + k)) (nI_add (offL (cvl gr li nu st n) j) k) ?_
  refine g_lald C 16 1 dX5_pairPower_12 rfl rfl (vp_in_nI (by omega) (by decide)) (q := 13) rfl ?_
  refine g_eql C (y := wc ((offL (cvl gr li nu st n) j) + k)) (by rw [nI_clamp (by omega)]) ?_
  refine g_bipush C (nI 48) dX5_pairPower_13 (by decide) (q := 15) rfl ?_
  refine g_lshr C dX5_pairPower_15 (q := 16) rfl ?_
  refine g_l2i C dX5_pairPower_16 (q := 17) rfl ?_
  exact hret _ 17 _ _ dX5_pairPower_17 rfl (by obtain ⟨l, h1, h2⟩ := ((hW.1 j hj).2 k hk).2; rw [h2]; exact LX_pwl hT (nL_rg hL hj).2.1 h1)
set_option maxHeartbeats 4000000 in
set_option maxRecDepth 100000 in
theorem c_X5_pairSpeed (l : Launch) (D : va_G) (cI cJ cZ : ClassId) (a : Nat → Nat) (hA nA : Nat) (gr li st sp : Nat → Int32) (n m : Nat) (nu : Nat → Int32) (ev od : Nat → Int64) (fp ti : Nat → Int32) (wc : Nat → Int64) (wu : Int32) (sc pv : Nat → Int64) (su : Int32) (sd : Nat → Int32) (t j k q : Nat) (hL : LInv st sp n m) (hT : TrOK nu) (hj : j < m) (hW : WOK gr li nu st n m fp ti wc) (hk : k < cvl gr li nu st n j) (hq1 : posOf st j n ≤ q) (hq2 : q ≤ posOf st (j + 1) n) : Met l yX5_pairSpeed wsX5_pairSpeed { frames := 1, cells := 0, slots := 0, locals := 21 } (gPc D (tyT cI cJ cZ) (wA a (a 11) (a 12)) FT (wC cI cJ cZ a hA nA gr li st sp (nI n) (nI m) nu ev od fp ti wc wu sc pv su sd (nI t)) [.ref (a 4), .int (nI j), .int (nI k), .int (nI q)]) (vp_Si (fun r => ∃ l, LX (okM gr li nu) (pwM gr nu) (nL st n j) (posOf st j n) 0 ((prs (mL gr li nu st n j) 1001).getD k 0) 0 l ∧ r = nI (lastS 0 (l.take (q - posOf st j n))))) 0 0 (fun _ => False) := by
  refine gs_si (cc := cX5_pairSpeed) (nL := 5) (ty := .int) (by decide) rfl (Nat.le_of_ble_eq_true rfl) (fun G C hret => ?_)
  show G 0 0 (wC cI cJ cZ a hA nA gr li st sp (nI n) (nI m) nu ev od fp ti wc wu sc pv su sd (nI t)) [(0, .ref (a 4)), (1, .int (nI j)), (2, .int (nI k)), (3, .int (nI q))] 0 []
  have hn := hL.2.1
  have hmn := hL.m_le
  have hlt := WOK_lt hT hL hj hk
  obtain ⟨hn1, hn2, hn3, hn4⟩ := nL_rg hL hj
  obtain ⟨lw, h1, h2⟩ := ((hW.1 j hj).2 k hk).2
  refine g_iload_n C 3 dX5_pairSpeed_0 rfl rfl rfl (q := 1) ?_
  refine g_aload_n C 0 dX5_pairSpeed_1 rfl rfl rfl (q := 2) ?_
  refine g_get C 4 0 dX5_pairSpeed_2 (Cn := RX5) (T := TX5) (N := 8) (fun _ h => List.mem_cons_of_mem _ (List.mem_append_left _ (List.mem_append_right _ h))) rfl rfl (by decide) (List.mem_cons_of_mem _ (List.mem_append_left _ (List.mem_append_left _ (List.mem_of_getElem? (i := 0) rfl)))) rfl (q := 5) rfl ?_
  refine g_iload_n C 1 dX5_pairSpeed_5 rfl rfl rfl (q := 6) ?_
  refine gcV_si C (n := 1) (As := [.int (nI j)]) (st := [.int (nI q)]) 1 (fun h => h) dX5_pairSpeed_6 rfl rfl gX5_pairSpeed_X0_firstPost (c_X0_firstPost l D cI cJ cZ a hA nA gr li st sp n m nu ev od fp ti wc wu sc pv su sd t j (by first | assumption | omega)) rfl rfl rfl (by decide +kernel) ⟨Nat.le_of_ble_eq_true rfl, Nat.le_of_ble_eq_true rfl⟩ rfl rfl (Nat.le_of_ble_eq_true rfl) FT_b FT_h ⟨Nat.le_of_ble_eq_true rfl, Nat.le_of_ble_eq_true rfl⟩ (q := 9) rfl (fun r_6 h_6 => ?_)
  subst h_6
  refine g_eqi C (y := nI (posOf st j n)) (hL.2.2.2.2.2.2 _ (by omega)) ?_
  refine g_isub C dX5_pairSpeed_9 (q := 10) rfl ?_
  refine g_eqi C (y := nI (q - (posOf st j n))) (pk_sub hq1) ?_
  refine g_istore C [(4, .int (nI (q - (posOf st j n)))), (0, .ref (a 4)), (1, .int (nI j)), (2, .int (nI k)), (3, .int (nI q))] dX5_pairSpeed_10 (by decide) rfl (q := 12) rfl ?_
  refine g_iload C 0 dX5_pairSpeed_12 rfl rfl (q := 14) ?_
  refine g_if_ne C (t := 19) dX5_pairSpeed_14 (by decide) (q := 17) rfl (fun c_14 => ?_) (fun c_14 => ?_)
  · rw [← nI_0, nI_eq (by omega) (by omega)] at c_14
    refine g_aload_n C 1 dX5_pairSpeed_19 rfl rfl rfl (q := 20) ?_
    refine g_get C 4 6 dX5_pairSpeed_20 (Cn := RX5) (T := TX5) (N := 8) (fun _ h => List.mem_cons_of_mem _ (List.mem_append_left _ (List.mem_append_right _ h))) rfl rfl (by decide) (List.mem_cons_of_mem _ (List.mem_append_left _ (List.mem_append_left _ (List.mem_of_getElem? (i := 1) rfl)))) rfl (q := 23) rfl ?_
    refine g_aload_n C 1 dX5_pairSpeed_23 rfl rfl rfl (q := 24) ?_
    refine g_get C 4 4 dX5_pairSpeed_24 (Cn := RX5) (T := TX5) (N := 8) (fun _ h => List.mem_cons_of_mem _ (List.mem_append_left _ (List.mem_append_right _ h))) rfl rfl (by decide) (List.mem_cons_of_mem _ (List.mem_append_left _ (List.mem_append_left _ (List.mem_of_getElem? (i := 2) rfl)))) rfl (q := 27) rfl ?_
    refine g_iload_n C 2 dX5_pairSpeed_27 rfl rfl rfl (q := 28) ?_
    refine g_iald C 14 0 dX5_pairSpeed_28 rfl rfl (vp_in_nI (by omega) (by decide)) (q := 29) rfl ?_
    refine g_eqi C (y := fp j) (by rw [nI_clamp (by omega)]) ?_
    refine g_eqi C (y := nI (offL (cvl gr li nu st n) j)) (WOK_fp hW (by omega)) ?_
    refine g_iload_n C 3 dX5_pairSpeed_29 rfl rfl rfl (q := 30) ?_
    refine g_iadd C dX5_pairSpeed_30 (q := 31) rfl ?_
    refine g_eqi C (y := nI ((offL (cvl gr li nu st n) j) + k)) (nI_add (offL (cvl gr li nu st n) j) k) ?_
    refine g_lald C 16 1 dX5_pairSpeed_31 rfl rfl (vp_in_nI (by omega) (by decide)) (q := 32) rfl ?_
    refine g_eql C (y := wc ((offL (cvl gr li nu st n) j) + k)) (by rw [nI_clamp (by omega)]) ?_
    refine g_eql C (y := lJ (CO (pwM gr nu) (posOf st j n) lw)) (h2) ?_
    refine g_iload C 0 dX5_pairSpeed_32 rfl rfl (q := 34) ?_
    refine gcS_si C (n := 1) (As := [.int (nI (q - (posOf st j n)))]) (st := [.long (lJ (CO (pwM gr nu) (posOf st j n) lw))]) (fun h => h) dX5_pairSpeed_34 gX5_pairSpeed_X5_speedPlace (c_X5_speedPlace l D cI cJ cZ a hA nA gr li st sp n m nu ev od fp ti wc wu sc pv su sd t (q - (posOf st j n)) (by first | assumption | omega)) rfl rfl rfl (by decide +kernel) ⟨Nat.le_of_ble_eq_true rfl, Nat.le_of_ble_eq_true rfl⟩ rfl rfl (Nat.le_of_ble_eq_true rfl) FT_b FT_h ⟨Nat.le_of_ble_eq_true rfl, Nat.le_of_ble_eq_true rfl⟩ (q := 37) rfl (fun r_34 h_34 => ?_)
    subst h_34
    refine g_lshr C dX5_pairSpeed_37 (q := 38) rfl ?_
    refine g_l2i C dX5_pairSpeed_38 (q := 39) rfl ?_
    refine g_bipush C (nI 7) dX5_pairSpeed_39 (by decide) (q := 41) rfl ?_
    refine g_iand C dX5_pairSpeed_41 (q := 42) rfl ?_
    exact hret _ 42 _ _ dX5_pairSpeed_42 rfl (⟨lw, h1, by obtain ⟨i, hi⟩ : ∃ i, q - posOf st j n = i + 1 := ⟨q - posOf st j n - 1, by omega⟩; rw [hi]; exact LX_dig hT hn2 (by omega) h1⟩)
  · rw [← nI_0, nI_eq (by omega) (by omega)] at c_14
    refine g_iconst C (nI 0) dX5_pairSpeed_17 (by decide) (q := 18) rfl ?_
    exact hret _ 18 _ _ dX5_pairSpeed_18 rfl (⟨lw, h1, by rw [show q - posOf st j n = 0 by omega]; rfl⟩)
set_option maxHeartbeats 4000000 in
set_option maxRecDepth 100000 in
theorem c_X5_pairWithin (l : Launch) (D : va_G) (cI cJ cZ : ClassId) (a : Nat → Nat) (hA nA : Nat) (gr li st sp : Nat → Int32) (n m : Nat) (nu : Nat → Int32) (ev od : Nat → Int64) (fp ti : Nat → Int32) (wc : Nat → Int64) (wu : Int32) (sc pv : Nat → Int64) (su : Int32) (sd : Nat → Int32) (t j z : Nat) (hL : LInv st sp n m) (hT : TrOK nu) (hj : j < m) (hW : WOK gr li nu st n m fp ti wc) (hz : z ≤ 1000) : Met l yX5_pairWithin wsX5_pairWithin { frames := 1, cells := 0, slots := 0, locals := 22 } (gPc D (tyT cI cJ cZ) (wA a (a 11) (a 12)) FT (wC cI cJ cZ a hA nA gr li st sp (nI n) (nI m) nu ev od fp ti wc wu sc pv su sd (nI t)) [.ref (a 4), .int (nI j), .int (nI z)]) (vp_Si (fun r => r = nI (prs (mL gr li nu st n j) (z + 1)).length + (-1))) 0 0 (fun _ => False) := by
  refine gs_si (cc := cX5_pairWithin) (nL := 4) (ty := .int) (by decide) rfl (Nat.le_of_ble_eq_true rfl) (fun G C hret => ?_)
  show G 0 0 (wC cI cJ cZ a hA nA gr li st sp (nI n) (nI m) nu ev od fp ti wc wu sc pv su sd (nI t)) [(0, .ref (a 4)), (1, .int (nI j)), (2, .int (nI z))] 0 []
  have hn := hL.2.1
  have hmn := hL.m_le
  obtain ⟨hn1, hn2, hn3, hn4⟩ := nL_rg hL hj
  have hcl := (cv_len (gr := gr) (li := li) hT hn2 hn1).2.1
  have hcv : cvl gr li nu st n j = (prs (mL gr li nu st n j) 1001).length := rfl
  have hc2 : (prs (mL gr li nu st n j) (z + 1)).length ≤ (prs (mL gr li nu st n j) 1001).length := by rcases prs_lastI (m := mL gr li nu st n j) hz with h | h; (rw [h.1]; exact Nat.zero_le _); (exact h.2.1)
  refine g_aload_n C 0 dX5_pairWithin_0 rfl rfl rfl (q := 1) ?_
  refine g_iload_n C 1 dX5_pairWithin_1 rfl rfl rfl (q := 2) ?_
  refine gcV_si C (n := 1) (As := [.int (nI j)]) (st := []) 4 (fun h => h) dX5_pairWithin_2 rfl rfl gX5_pairWithin_X5_pairCount (c_X5_pairCount l D cI cJ cZ a hA nA gr li st sp n m nu ev od fp ti wc wu sc pv su sd t j (by first | assumption | omega) (by first | assumption | omega) (by first | assumption | omega) (by first | assumption | omega)) rfl rfl rfl (by decide +kernel) ⟨Nat.le_of_ble_eq_true rfl, Nat.le_of_ble_eq_true rfl⟩ rfl rfl (Nat.le_of_ble_eq_true rfl) FT_b FT_h ⟨Nat.le_of_ble_eq_true rfl, Nat.le_of_ble_eq_true rfl⟩ (q := 5) rfl (fun r_2 h_2 => ?_)
  subst h_2
  refine g_iconst C (nI 1) dX5_pairWithin_5 (by decide) (q := 6) rfl ?_
  refine g_isub C dX5_pairWithin_6 (q := 7) rfl ?_
  refine g_eqi C (y := nI (cvl gr li nu st n j) + (-1)) (Int32.sub_eq_add_neg _ _) ?_
  refine g_istore_n C [(3, .int (nI (cvl gr li nu st n j) + (-1))), (0, .ref (a 4)), (1, .int (nI j)), (2, .int (nI z))] dX5_pairWithin_7 rfl (by decide) rfl (q := 8) rfl ?_
  have lp_8 : ∀ (N : Nat) (r : Nat), ((prs (mL gr li nu st n j) (z + 1)).length ≤ r) → (r ≤ cvl gr li nu st n j) → r < N → G 0 0 (wC cI cJ cZ a hA nA gr li st sp (nI n) (nI m) nu ev od fp ti wc wu sc pv su sd (nI t)) [(3, .int (nI r + (-1))), (0, .ref (a 4)), (1, .int (nI j)), (2, .int (nI z))] 8 [] := by
    intro N
    induction N with
    | zero => intro r _ _ hmu; exact absurd hmu (Nat.not_lt_zero _)
    | succ N ih_8 =>
      intro r h1 h2 hmu
      refine g_iload_n C 0 dX5_pairWithin_8 rfl rfl rfl (q := 9) ?_
      refine g_if_lt C (t := 28) dX5_pairWithin_9 (by decide) (q := 12) rfl (fun c_9 => ?_) (fun c_9 => ?_)
      · refine g_iload_n C 0 dX5_pairWithin_28 rfl rfl rfl (q := 29) ?_
        exact hret _ 29 _ _ dX5_pairWithin_29 rfl (by first | (have hr0 := (dn0_iff (by omega)).mp c_9; rw [hr0, show (prs (mL gr li nu st n j) (z + 1)).length = 0 by omega]) | (have e := (prs_cut hz (show r1 < (prs (mL gr li nu st n j) 1001).length by omega)).mp (by omega); rw [show (prs (mL gr li nu st n j) (z + 1)).length = r1 + 1 by omega, pk_m1]))
      · obtain ⟨r1, rfl⟩ : ∃ r1, r = r1 + 1 := ⟨r - 1, by rw [dn0_iff (by omega)] at c_9; omega⟩
        refine g_lset C (z := 0) (y := nI r1) [(3, .int (nI r1)), (0, .ref (a 4)), (1, .int (nI j)), (2, .int (nI z))] rfl (pk_m1 r1) rfl ?_
        have hT1 := (prs_mem (mL gr li nu st n j) 1001 r1 (by omega)).1
        refine g_aload_n C 1 dX5_pairWithin_12 rfl rfl rfl (q := 13) ?_
        refine g_iload_n C 2 dX5_pairWithin_13 rfl rfl rfl (q := 14) ?_
        refine g_iload_n C 0 dX5_pairWithin_14 rfl rfl rfl (q := 15) ?_
        refine gcV_si C (n := 2) (As := [.int (nI j), .int (nI r1)]) (st := []) 4 (fun h => h) dX5_pairWithin_15 rfl rfl gX5_pairWithin_X5_pairTime (c_X5_pairTime l D cI cJ cZ a hA nA gr li st sp n m nu ev od fp ti wc wu sc pv su sd t j r1 (by first | assumption | omega) (by first | assumption | omega) (by first | assumption | omega) (by first | assumption | omega) (by first | assumption | omega)) rfl rfl rfl (by decide +kernel) ⟨Nat.le_of_ble_eq_true rfl, Nat.le_of_ble_eq_true rfl⟩ rfl rfl (Nat.le_of_ble_eq_true rfl) FT_b FT_h ⟨Nat.le_of_ble_eq_true rfl, Nat.le_of_ble_eq_true rfl⟩ (q := 18) rfl (fun r_15 h_15 => ?_)
        subst h_15
        refine g_iload_n C 3 dX5_pairWithin_18 rfl rfl rfl (q := 19) ?_
        refine g_icmp_le C (t := 28) dX5_pairWithin_19 (by decide) (q := 22) rfl (fun c_19 => ?_) (fun c_19 => ?_)
        · rw [nI_leI (by omega) (by omega)] at c_19
          refine g_iload_n C 0 dX5_pairWithin_28 rfl rfl rfl (q := 29) ?_
          exact hret _ 29 _ _ dX5_pairWithin_29 rfl (by first | (have hr0 := (dn0_iff (by omega)).mp c_9; rw [hr0, show (prs (mL gr li nu st n j) (z + 1)).length = 0 by omega]) | (have e := (prs_cut hz (show r1 < (prs (mL gr li nu st n j) 1001).length by omega)).mp (by omega); rw [show (prs (mL gr li nu st n j) (z + 1)).length = r1 + 1 by omega, pk_m1]))
        · rw [nI_leI (by omega) (by omega)] at c_19
          refine g_iinc C (z := 0) ((nI r1) + (-1)) [(3, .int ((nI r1) + (-1))), (0, .ref (a 4)), (1, .int (nI j)), (2, .int (nI z))] dX5_pairWithin_22 rfl rfl (by decide) rfl (q := 25) rfl ?_
          refine g_goto C (q := 8) dX5_pairWithin_25 (by decide) ?_
          exact ih_8 r1 (by rcases Nat.lt_or_ge r1 (prs (mL gr li nu st n j) (z + 1)).length with e | e; (exact absurd ((prs_cut hz (by omega)).mpr e) (by omega)); (exact e)) (by first | assumption | omega) (by omega)
  exact lp_8 _ (cvl gr li nu st n j) (by first | assumption | omega) (by first | assumption | omega) (Nat.lt_succ_self _)
set_option maxHeartbeats 4000000 in
set_option maxRecDepth 100000 in
theorem c_X5_spread (l : Launch) (D : va_G) (cI cJ cZ : ClassId) (a : Nat → Nat) (hA nA : Nat) (gr li st sp : Nat → Int32) (n m : Nat) (nu : Nat → Int32) (ev od : Nat → Int64) (fp ti : Nat → Int32) (wc : Nat → Int64) (wu : Int32) (sc pv : Nat → Int64) (su : Int32) (sd : Nat → Int32) (t fr to la : Nat) (ad : Int64) (h1 : fr + la < 3787) (h2 : to + la < 3787) : Met l yX5_spread wsX5_spread { frames := 1, cells := 0, slots := 0, locals := 29 } (gPc D (tyT cI cJ cZ) (wA a (a 11) (a 12)) FT (wC cI cJ cZ a hA nA gr li st sp (nI n) (nI m) nu ev od fp ti wc wu sc pv su sd (nI t)) [.ref hA, .int (nI fr), .ref nA, .int (nI to), .int (nI la), .long ad]) (va_Qv (fun (u : (Nat → Int64)) => ∀ i, i < 3787 → u i = sprV ev od fr to la ad i) (fun u tS => va_P D vwCl ((fun (u : (Nat → Int64)) => wC cI cJ cZ a hA nA gr li st sp (nI n) (nI m) nu ev u fp ti wc wu sc pv su sd (nI t)) u) tS.heap ∧ va_D (wA a (a 11) (a 12)) ((fun (u : (Nat → Int64)) => wC cI cJ cZ a hA nA gr li st sp (nI n) (nI m) nu ev u fp ti wc wu sc pv su sd (nI t)) u)) (wA a (a 11) (a 12))) 0 0 (wA a (a 11) (a 12)) := by
  refine gs_qv (cc := cX5_spread) (nL := 10) (W' := fun (u : (Nat → Int64)) => wC cI cJ cZ a hA nA gr li st sp (nI n) (nI m) nu ev u fp ti wc wu sc pv su sd (nI t)) (by decide) rfl (Nat.le_of_ble_eq_true rfl) (fun G C hret => ?_)
  show G 0 0 (wC cI cJ cZ a hA nA gr li st sp (nI n) (nI m) nu ev od fp ti wc wu sc pv su sd (nI t)) [(0, .ref hA), (1, .int (nI fr)), (2, .ref nA), (3, .int (nI to)), (4, .int (nI la)), (5, .long ad)] 0 []
  refine g_iconst C (nI 0) dX5_spread_0 (by decide) (q := 1) rfl ?_
  refine g_istore C [(7, .int (nI 0)), (0, .ref hA), (1, .int (nI fr)), (2, .ref nA), (3, .int (nI to)), (4, .int (nI la)), (5, .long ad)] dX5_spread_1 (by decide) rfl (q := 3) rfl ?_
  have lp_3 : ∀ (N : Nat) (q : Nat) (g : Nat → Int64), (q ≤ la + 1) → (∀ i, i < 3787 → g i = if i < to + q then sprV ev od fr to la ad i else od i) → la + 1 - q < N → G 0 0 (wC cI cJ cZ a hA nA gr li st sp (nI n) (nI m) nu ev g fp ti wc wu sc pv su sd (nI t)) [(7, .int (nI q)), (0, .ref hA), (1, .int (nI fr)), (2, .ref nA), (3, .int (nI to)), (4, .int (nI la)), (5, .long ad)] 3 [] := by
    intro N
    induction N with
    | zero => intro q g _ _ hmu; exact absurd hmu (Nat.not_lt_zero _)
    | succ N ih_3 =>
      intro q g hq hg hmu
      refine g_iload C 0 dX5_spread_3 rfl rfl (q := 5) ?_
      refine g_iload C 5 dX5_spread_5 rfl rfl (q := 7) ?_
      refine g_icmp_gt C (t := 53) dX5_spread_7 (by decide) (q := 10) rfl (fun c_7 => ?_) (fun c_7 => ?_)
      · rw [nI_ltI (by omega) (by omega)] at c_7
        exact hret g 53 _ dX5_spread_53 (fun i hi => by rw [hg i hi]; by_cases e : i < to + q; (rw [if_pos e]); (rw [if_neg e]; exact (if_neg (fun z => by omega)).symm))
      · rw [nI_ltI (by omega) (by omega)] at c_7
        refine g_aload_n C 1 dX5_spread_10 rfl rfl rfl (q := 11) ?_
        refine g_iload_n C 2 dX5_spread_11 rfl rfl rfl (q := 12) ?_
        refine g_iload C 0 dX5_spread_12 rfl rfl (q := 14) ?_
        refine g_iadd C dX5_spread_14 (q := 15) rfl ?_
        refine g_eqi C (y := nI (fr + q)) (nI_add fr q) ?_
        refine g_lald C 11 1 dX5_spread_15 rfl rfl (vp_in_nI (by omega) (by decide)) (q := 16) rfl ?_
        refine g_eql C (y := ev (fr + q)) (by rw [nI_clamp (by omega)]) ?_
        refine g_lstore C [(8, .long (ev (fr + q))), (7, .int (nI q)), (0, .ref hA), (1, .int (nI fr)), (2, .ref nA), (3, .int (nI to)), (4, .int (nI la)), (5, .long ad)] dX5_spread_16 (by decide) rfl (q := 18) rfl ?_
        refine g_lload C 0 dX5_spread_18 rfl rfl (q := 20) ?_
        refine g_ldc2 C (v := (4611686018427387904)) dX5_spread_20 (List.mem_cons_of_mem _ (List.mem_of_getElem? (i := 0) rfl)) (q := 23) rfl ?_
        refine g_lcmp C dX5_spread_23 (q := 24) rfl ?_
        refine g_if_eq C (t := 47) dX5_spread_24 (by decide) (q := 27) rfl (fun c_24 => ?_) (fun c_24 => ?_)
        · replace c_24 := keq_t c_24
          refine g_iinc C (z := 1) (nI (q + 1)) [(7, .int (nI (q + 1))), (8, .long (ev (fr + q))), (0, .ref hA), (1, .int (nI fr)), (2, .ref nA), (3, .int (nI to)), (4, .int (nI la)), (5, .long ad)] dX5_spread_47 rfl (nI_add q 1) (by decide) rfl (q := 50) rfl ?_
          refine g_goto C (q := 3) dX5_spread_50 (by decide) ?_
          refine g_locs C [(7, .int (nI (q + 1))), (0, .ref hA), (1, .int (nI fr)), (2, .ref nA), (3, .int (nI to)), (4, .int (nI la)), (5, .long ad)] [0, 2, 3, 4, 5, 6, 7] rfl ?_
          exact ih_3 (q + 1) g (by first | assumption | omega) (by first | exact spr_next (by omega) hg ((if_pos ⟨by omega, by omega, by rw [show fr + (to + q - to) = fr + q by omega]; exact c_24⟩).trans (by rw [show fr + (to + q - to) = fr + q by omega])) | exact spr_keep hg (if_neg (fun z => z.2.2 (by rw [show fr + (to + q - to) = fr + q by omega]; exact c_24)))) (by omega)
        · replace c_24 := keq_f c_24
          refine g_aload_n C 4 dX5_spread_27 rfl rfl rfl (q := 28) ?_
          refine g_iload_n C 5 dX5_spread_28 rfl rfl rfl (q := 29) ?_
          refine g_iload C 1 dX5_spread_29 rfl rfl (q := 31) ?_
          refine g_iadd C dX5_spread_31 (q := 32) rfl ?_
          refine g_eqi C (y := nI (to + q)) (nI_add to q) ?_
          refine g_aload_n C 4 dX5_spread_32 rfl rfl rfl (q := 33) ?_
          refine g_iload_n C 5 dX5_spread_33 rfl rfl rfl (q := 34) ?_
          refine g_iload C 1 dX5_spread_34 rfl rfl (q := 36) ?_
          refine g_iadd C dX5_spread_36 (q := 37) rfl ?_
          refine g_eqi C (y := nI (to + q)) (nI_add to q) ?_
          refine g_lald C 12 1 dX5_spread_37 rfl rfl (vp_in_nI (by omega) (by decide)) (q := 38) rfl ?_
          refine g_eql C (y := g (to + q)) (by rw [nI_clamp (by omega)]) ?_
          refine g_eql C (y := od (to + q)) ((hg _ (by omega)).trans (if_neg (by omega))) ?_
          refine g_lload C 0 dX5_spread_38 rfl rfl (q := 40) ?_
          refine g_lload C 7 dX5_spread_40 rfl rfl (q := 42) ?_
          refine g_ladd C dX5_spread_42 (q := 43) rfl ?_
          refine g_mminl C dX5_spread_43 (List.mem_cons_of_mem _ (List.mem_of_getElem? (i := 1) rfl)) (List.mem_cons_of_mem _ (List.mem_of_getElem? (i := 2) rfl)) (List.mem_cons_of_mem _ (List.mem_of_getElem? (i := 3) rfl)) (List.mem_cons_of_mem _ (List.mem_of_getElem? (i := 4) rfl)) (by decide) (Nat.le_of_ble_eq_true rfl) (Nat.le_of_ble_eq_true rfl) (Nat.le_of_ble_eq_true rfl) (q := 46) rfl ?_
          refine g_last C 12 1 (wC cI cJ cZ a hA nA gr li st sp (nI n) (nI m) nu ev (vp_updL g (to + q) (if ((ev (fr + q)) + ad) < (od (to + q)) then (ev (fr + q)) + ad else od (to + q))) fp ti wc wu sc pv su sd (nI t)) dX5_spread_46 rfl rfl (vp_in_nI (by omega) (by decide)) (by rw [nI_clamp (by omega)]; rfl) (q := 47) rfl ?_
          refine g_iinc C (z := 1) (nI (q + 1)) [(7, .int (nI (q + 1))), (8, .long (ev (fr + q))), (0, .ref hA), (1, .int (nI fr)), (2, .ref nA), (3, .int (nI to)), (4, .int (nI la)), (5, .long ad)] dX5_spread_47 rfl (nI_add q 1) (by decide) rfl (q := 50) rfl ?_
          refine g_goto C (q := 3) dX5_spread_50 (by decide) ?_
          refine g_locs C [(7, .int (nI (q + 1))), (0, .ref hA), (1, .int (nI fr)), (2, .ref nA), (3, .int (nI to)), (4, .int (nI la)), (5, .long ad)] [0, 2, 3, 4, 5, 6, 7] rfl ?_
          exact ih_3 (q + 1) (vp_updL g (to + q) (if ((ev (fr + q)) + ad) < (od (to + q)) then (ev (fr + q)) + ad else od (to + q))) (by first | assumption | omega) (by first | exact spr_next (by omega) hg ((if_pos ⟨by omega, by omega, by rw [show fr + (to + q - to) = fr + q by omega]; exact c_24⟩).trans (by rw [show fr + (to + q - to) = fr + q by omega])) | exact spr_keep hg (if_neg (fun z => z.2.2 (by rw [show fr + (to + q - to) = fr + q by omega]; exact c_24)))) (by omega)
  exact lp_3 _ 0 od (by first | assumption | omega) (fun i hi => by by_cases e : i < to + 0; (rw [if_pos e]; exact (if_neg (fun z => by omega)).symm); (rw [if_neg e])) (Nat.lt_succ_self _)
set_option maxHeartbeats 4000000 in
set_option maxRecDepth 100000 in
theorem c_X5_driveThrough (l : Launch) (D : va_G) (cI cJ cZ : ClassId) (a : Nat → Nat) (hA nA : Nat) (gr li st sp : Nat → Int32) (n m : Nat) (nu : Nat → Int32) (ev od : Nat → Int64) (fp ti : Nat → Int32) (wc : Nat → Int64) (wu : Int32) (sc pv : Nat → Int64) (su : Int32) (sd : Nat → Int32) (t k c : Nat) (v : Int32) (p : Nat) (hT : TrOK nu) (hk : k = p + c) (hk16 : k < 16) (hc : c ≤ 15) (hF : FRow (okM gr li nu) (pwM gr nu) p c ev) (hO : ∀ i, i < 3787 → od i = 4611686018427387904) : Met l yX5_driveThrough wsX5_driveThrough { frames := 3, cells := 0, slots := 0, locals := 69 } (gPc D (tyT cI cJ cZ) (wA a (a 11) (a 12)) FT (wC cI cJ cZ a hA nA gr li st sp (nI n) (nI m) nu ev od fp ti wc wu sc pv su sd (nI t)) [.ref (a 4), .int (nI k), .int (nI c), .int v, .ref hA, .ref nA]) (va_Qv (fun (u : (Nat → Int64)) => (v = 0 → FRow (okM gr li nu) (pwM gr nu) p (c + 1) u) ∧ (¬ v = 0 → ∀ t, t ≤ 540 → FvL (WY (okM gr li nu) (c + 1) p 0 t) (CO (pwM gr nu) p) (u t))) (fun u tS => va_P D vwCl ((fun (u : (Nat → Int64)) => wC cI cJ cZ a hA nA gr li st sp (nI n) (nI m) nu ev u fp ti wc wu sc pv su sd (nI t)) u) tS.heap ∧ va_D (wA a (a 11) (a 12)) ((fun (u : (Nat → Int64)) => wC cI cJ cZ a hA nA gr li st sp (nI n) (nI m) nu ev u fp ti wc wu sc pv su sd (nI t)) u)) (wA a (a 11) (a 12))) 0 0 (wA a (a 11) (a 12)) := by
  refine gs_qv (cc := cX5_driveThrough) (nL := 13) (W' := fun (u : (Nat → Int64)) => wC cI cJ cZ a hA nA gr li st sp (nI n) (nI m) nu ev u fp ti wc wu sc pv su sd (nI t)) (by decide) rfl (Nat.le_of_ble_eq_true rfl) (fun G C hret => ?_)
  show G 0 0 (wC cI cJ cZ a hA nA gr li st sp (nI n) (nI m) nu ev od fp ti wc wu sc pv su sd (nI t)) [(0, .ref (a 4)), (1, .int (nI k)), (2, .int (nI c)), (3, .int v), (4, .ref hA), (5, .ref nA)] 0 []
  refine g_iload_n C 3 dX5_driveThrough_0 rfl rfl rfl (q := 1) ?_
  refine g_if_eq C (t := 8) dX5_driveThrough_1 (by decide) (q := 4) rfl (fun c_1 => ?_) (fun c_1 => ?_)
  · refine g_iconst C (nI 1) dX5_driveThrough_8 (by decide) (q := 9) rfl ?_
    refine g_istore C [(6, .int (nI 1)), (0, .ref (a 4)), (1, .int (nI k)), (2, .int (nI c)), (3, .int v), (4, .ref hA), (5, .ref nA)] dX5_driveThrough_9 (by decide) rfl (q := 11) rfl ?_
    refine g_iload_n C 4 dX5_driveThrough_11 rfl rfl rfl (q := 12) ?_
    refine g_if_eq C (t := 19) dX5_driveThrough_12 (by decide) (q := 15) rfl (fun c_12 => ?_) (fun c_12 => ?_)
    · refine g_bipush C (nI 6) dX5_driveThrough_19 (by decide) (q := 21) rfl ?_
      refine g_istore C [(7, .int (nI 6)), (6, .int (nI 1)), (0, .ref (a 4)), (1, .int (nI k)), (2, .int (nI c)), (3, .int v), (4, .ref hA), (5, .ref nA)] dX5_driveThrough_21 (by decide) rfl (q := 23) rfl ?_
      refine g_bipush C (nI 30) dX5_driveThrough_23 (by decide) (q := 25) rfl ?_
      refine g_iload_n C 4 dX5_driveThrough_25 rfl rfl rfl (q := 26) ?_
      refine g_iconst C (nI 1) dX5_driveThrough_26 (by decide) (q := 27) rfl ?_
      refine g_iadd C dX5_driveThrough_27 (q := 28) rfl ?_
      refine g_eqi C (y := nI (c + 1)) (nI_add c 1) ?_
      refine g_imul C dX5_driveThrough_28 (q := 29) rfl ?_
      refine g_eqi C (y := nI (30 * (c + 1))) (pk_mul 30 (c + 1)) ?_
      refine g_istore C [(8, .int (nI (30 * (c + 1)))), (7, .int (nI 6)), (6, .int (nI 1)), (0, .ref (a 4)), (1, .int (nI k)), (2, .int (nI c)), (3, .int v), (4, .ref hA), (5, .ref nA)] dX5_driveThrough_29 (by decide) rfl (q := 31) rfl ?_
      refine g_iconst C (nI 0) dX5_driveThrough_31 (by decide) (q := 32) rfl ?_
      refine g_istore C [(9, .int (nI 0)), (8, .int (nI (30 * (c + 1)))), (7, .int (nI 6)), (6, .int (nI 1)), (0, .ref (a 4)), (1, .int (nI k)), (2, .int (nI c)), (3, .int v), (4, .ref hA), (5, .ref nA)] dX5_driveThrough_32 (by decide) rfl (q := 34) rfl ?_
      have lp_34 : ∀ (N : Nat) (x : Nat) (g : Nat → Int64), (x ≤ 7) → (DR (okM gr li nu) (pwM gr nu) p c 1 6 x 1 g) → 7 - x < N → G 0 0 (wC cI cJ cZ a hA nA gr li st sp (nI n) (nI m) nu ev g fp ti wc wu sc pv su sd (nI t)) [(9, .int (nI x)), (8, .int (nI (30 * (c + 1)))), (7, .int (nI 6)), (6, .int (nI 1)), (0, .ref (a 4)), (1, .int (nI k)), (2, .int (nI c)), (3, .int v), (4, .ref hA), (5, .ref nA)] 34 [] := by
        intro N
        induction N with
        | zero => intro x g _ _ hmu; exact absurd hmu (Nat.not_lt_zero _)
        | succ N ih_34 =>
          intro x g hx hD hmu
          refine g_iload C 0 dX5_driveThrough_34 rfl rfl (q := 36) ?_
          refine g_bipush C (nI 6) dX5_driveThrough_36 (by decide) (q := 38) rfl ?_
          refine g_icmp_gt C (t := 143) dX5_driveThrough_38 (by decide) (q := 41) rfl (fun c_38 => ?_) (fun c_38 => ?_)
          · rw [nI_ltI (by omega) (by omega)] at c_38
            exact hret g 143 _ dX5_driveThrough_143 (by obtain rfl : x = 7 := (by omega); first | exact ⟨fun _ => DR_end hD, fun h => absurd c_1 h⟩ | exact ⟨fun h => absurd h c_1, fun _ => DR_stop hD⟩)
          · rw [nI_ltI (by omega) (by omega)] at c_38
            refine g_iload C 3 dX5_driveThrough_41 rfl rfl (q := 43) ?_
            refine g_istore C [(10, .int (nI 1)), (9, .int (nI x)), (8, .int (nI (30 * (c + 1)))), (7, .int (nI 6)), (6, .int (nI 1)), (0, .ref (a 4)), (1, .int (nI k)), (2, .int (nI c)), (3, .int v), (4, .ref hA), (5, .ref nA)] dX5_driveThrough_43 (by decide) rfl (q := 45) rfl ?_
            have lp_45 : ∀ (N : Nat) (y : Nat) (g2 : Nat → Int64), (1 ≤ y) → (y ≤ 7) → (DR (okM gr li nu) (pwM gr nu) p c 1 6 x y g2) → 7 - y < N → G 0 0 (wC cI cJ cZ a hA nA gr li st sp (nI n) (nI m) nu ev g2 fp ti wc wu sc pv su sd (nI t)) [(10, .int (nI y)), (9, .int (nI x)), (8, .int (nI (30 * (c + 1)))), (7, .int (nI 6)), (6, .int (nI 1)), (0, .ref (a 4)), (1, .int (nI k)), (2, .int (nI c)), (3, .int v), (4, .ref hA), (5, .ref nA)] 45 [] := by
              intro N
              induction N with
              | zero => intro y g2 _ _ _ hmu; exact absurd hmu (Nat.not_lt_zero _)
              | succ N ih_45 =>
                intro y g2 hy1 hy2 hD2 hmu
                refine g_iload C 0 dX5_driveThrough_45 rfl rfl (q := 47) ?_
                refine g_iload C 3 dX5_driveThrough_47 rfl rfl (q := 49) ?_
                refine g_icmp_gt C (t := 137) dX5_driveThrough_49 (by decide) (q := 52) rfl (fun c_49 => ?_) (fun c_49 => ?_)
                · rw [nI_ltI (by omega) (by omega)] at c_49
                  obtain rfl : y = 7 := by omega
                  refine g_iinc C (z := 1) (nI (x + 1)) [(9, .int (nI (x + 1))), (10, .int (nI 7)), (8, .int (nI (30 * (c + 1)))), (7, .int (nI 6)), (6, .int (nI 1)), (0, .ref (a 4)), (1, .int (nI k)), (2, .int (nI c)), (3, .int v), (4, .ref hA), (5, .ref nA)] dX5_driveThrough_137 rfl (nI_add x 1) (by decide) rfl (q := 140) rfl ?_
                  refine g_goto C (q := 34) dX5_driveThrough_140 (by decide) ?_
                  refine g_locs C [(9, .int (nI (x + 1))), (8, .int (nI (30 * (c + 1)))), (7, .int (nI 6)), (6, .int (nI 1)), (0, .ref (a 4)), (1, .int (nI k)), (2, .int (nI c)), (3, .int v), (4, .ref hA), (5, .ref nA)] [0, 2, 3, 4, 5, 6, 7, 8, 9, 10] rfl ?_
                  exact ih_34 (x + 1) g2 (by first | assumption | omega) (DR_row hD2) (by omega)
                · rw [nI_ltI (by omega) (by omega)] at c_49
                  refine g_aload_n C 5 dX5_driveThrough_52 rfl rfl rfl (q := 53) ?_
                  refine g_get C 4 1 dX5_driveThrough_53 (Cn := RX5) (T := TX5) (N := 8) (fun _ h => List.mem_cons_of_mem _ (List.mem_append_left _ (List.mem_append_left _ (List.mem_append_left _ (List.mem_append_right _ h))))) rfl rfl (by decide) (List.mem_cons_of_mem _ (List.mem_append_left _ (List.mem_append_left _ (List.mem_append_left _ (List.mem_append_left _ (List.mem_of_getElem? (i := 0) rfl)))))) rfl (q := 56) rfl ?_
                  refine g_iload_n C 6 dX5_driveThrough_56 rfl rfl rfl (q := 57) ?_
                  refine g_iload C 1 dX5_driveThrough_57 rfl rfl (q := 59) ?_
                  refine g_iload C 0 dX5_driveThrough_59 rfl rfl (q := 61) ?_
                  refine gcV_si C (n := 3) (As := [.int (nI k), .int (nI x), .int (nI y)]) (st := []) 3 (fun h => h) dX5_driveThrough_61 rfl rfl gX5_driveThrough_X3_faultOf (c_X3_faultOf l D cI cJ cZ a hA nA gr li st sp n m nu ev g2 fp ti wc wu sc pv su sd t k x y (by first | assumption | omega) (by first | assumption | omega) (by first | assumption | omega)) rfl rfl rfl (by decide +kernel) ⟨Nat.le_of_ble_eq_true rfl, Nat.le_of_ble_eq_true rfl⟩ rfl rfl (Nat.le_of_ble_eq_true rfl) FT_b FT_h ⟨Nat.le_of_ble_eq_true rfl, Nat.le_of_ble_eq_true rfl⟩ (q := 64) rfl (fun r_61 h_61 => ?_)
                  subst h_61
                  refine g_if_ne C (t := 131) dX5_driveThrough_64 (by decide) (q := 67) rfl (fun c_64 => ?_) (fun c_64 => ?_)
                  · refine g_iinc C (z := 0) (nI (y + 1)) [(10, .int (nI (y + 1))), (9, .int (nI x)), (8, .int (nI (30 * (c + 1)))), (7, .int (nI 6)), (6, .int (nI 1)), (0, .ref (a 4)), (1, .int (nI k)), (2, .int (nI c)), (3, .int v), (4, .ref hA), (5, .ref nA)] dX5_driveThrough_131 rfl (nI_add y 1) (by decide) rfl (q := 134) rfl ?_
                    refine g_goto C (q := 45) dX5_driveThrough_134 (by decide) ?_
                    exact ih_45 (y + 1) g2 (by first | assumption | omega) (by first | assumption | omega) (by first | exact DR_yes (SB_M hT) hc (by rw [← hk]; exact okM_t c_64) (by omega) (by omega) (by omega) (by omega) hF hD2 (by rw [← hk]; exact h_128) | exact DR_no (by rw [← hk]; exact okM_f c_64) hD2) (by omega)
                  · have hxy := fl_nz c_64
                    have htm := tm_le hxy
                    refine g_aload_n C 5 dX5_driveThrough_67 rfl rfl rfl (q := 68) ?_
                    refine g_get C 4 1 dX5_driveThrough_68 (Cn := RX5) (T := TX5) (N := 8) (fun _ h => List.mem_cons_of_mem _ (List.mem_append_left _ (List.mem_append_left _ (List.mem_append_left _ (List.mem_append_right _ h))))) rfl rfl (by decide) (List.mem_cons_of_mem _ (List.mem_append_left _ (List.mem_append_left _ (List.mem_append_left _ (List.mem_append_left _ (List.mem_of_getElem? (i := 0) rfl)))))) rfl (q := 71) rfl ?_
                    refine g_iload_n C 6 dX5_driveThrough_71 rfl rfl rfl (q := 72) ?_
                    refine g_iload C 1 dX5_driveThrough_72 rfl rfl (q := 74) ?_
                    refine g_iload C 0 dX5_driveThrough_74 rfl rfl (q := 76) ?_
                    refine gcV_si C (n := 3) (As := [.int (nI k), .int (nI x), .int (nI y)]) (st := []) 3 (fun h => h) dX5_driveThrough_76 rfl rfl gX5_driveThrough_X3_powerOf (c_X3_powerOf l D cI cJ cZ a hA nA gr li st sp n m nu ev g2 fp ti wc wu sc pv su sd t k x y (by first | assumption | omega)) rfl rfl rfl (by decide +kernel) ⟨Nat.le_of_ble_eq_true rfl, Nat.le_of_ble_eq_true rfl⟩ rfl rfl (Nat.le_of_ble_eq_true rfl) FT_b FT_h ⟨Nat.le_of_ble_eq_true rfl, Nat.le_of_ble_eq_true rfl⟩ (q := 79) rfl (fun r_76 h_76 => ?_)
                    subst h_76
                    refine g_i2l C dX5_driveThrough_79 (q := 80) rfl ?_
                    refine g_eql C (y := lJ (pwM gr nu k x y)) (i2l_toInt _) ?_
                    refine g_bipush C (nI 48) dX5_driveThrough_80 (by decide) (q := 82) rfl ?_
                    refine g_lshl C dX5_driveThrough_82 (q := 83) rfl ?_
                    refine g_eql C (y := lJ (pwM gr nu k x y * 281474976710656)) (lJ_shl _ (by decide)) ?_
                    refine g_iload C 0 dX5_driveThrough_83 rfl rfl (q := 85) ?_
                    refine g_i2l C dX5_driveThrough_85 (q := 86) rfl ?_
                    refine g_eql C (y := lJ (y : Int)) (nI_lJ (by omega)) ?_
                    refine g_iload_n C 7 dX5_driveThrough_86 rfl rfl rfl (q := 87) ?_
                    refine g_iconst C (nI 1) dX5_driveThrough_87 (by decide) (q := 88) rfl ?_
                    refine g_iadd C dX5_driveThrough_88 (q := 89) rfl ?_
                    refine g_eqi C (y := nI (c + 1)) (nI_add c 1) ?_
                    refine gcS_si C (n := 1) (As := [.int (nI (c + 1))]) (st := [.long (lJ (y : Int)), .long (lJ (pwM gr nu k x y * 281474976710656))]) (fun h => h) dX5_driveThrough_89 gX5_driveThrough_X5_speedPlace (c_X5_speedPlace l D cI cJ cZ a hA nA gr li st sp n m nu ev g2 fp ti wc wu sc pv su sd t (c + 1) (by first | assumption | omega)) rfl rfl rfl (by decide +kernel) ⟨Nat.le_of_ble_eq_true rfl, Nat.le_of_ble_eq_true rfl⟩ rfl rfl (Nat.le_of_ble_eq_true rfl) FT_b FT_h ⟨Nat.le_of_ble_eq_true rfl, Nat.le_of_ble_eq_true rfl⟩ (q := 92) rfl (fun r_89 h_89 => ?_)
                    subst h_89
                    refine g_lshl C dX5_driveThrough_92 (q := 93) rfl ?_
                    refine g_eql C (y := lJ ((y * 8 ^ (15 - c) : Nat) : Int)) (shl8 hc) ?_
                    refine g_ladd C dX5_driveThrough_93 (q := 94) rfl ?_
                    refine g_eql C (y := lJ (pwM gr nu k x y * 281474976710656 + ((y * 8 ^ (15 - c) : Nat) : Int))) (lJ_add _ _) ?_
                    refine g_lstore C [(11, .long (lJ (pwM gr nu k x y * 281474976710656 + ((y * 8 ^ (15 - c) : Nat) : Int)))), (10, .int (nI y)), (9, .int (nI x)), (8, .int (nI (30 * (c + 1)))), (7, .int (nI 6)), (6, .int (nI 1)), (0, .ref (a 4)), (1, .int (nI k)), (2, .int (nI c)), (3, .int v), (4, .ref hA), (5, .ref nA)] dX5_driveThrough_94 (by decide) rfl (q := 96) rfl ?_
                    refine g_aload C 10 dX5_driveThrough_96 rfl rfl (q := 98) ?_
                    refine g_iload C 2 dX5_driveThrough_98 rfl rfl (q := 100) ?_
                    refine g_sipush C (nI 541) dX5_driveThrough_100 (by decide) (q := 103) rfl ?_
                    refine g_imul C dX5_driveThrough_103 (q := 104) rfl ?_
                    refine g_eqi C (y := nI (x * 541)) (pk_mul x 541) ?_
                    refine g_aload C 11 dX5_driveThrough_104 rfl rfl (q := 106) ?_
                    refine g_iload C 1 dX5_driveThrough_106 rfl rfl (q := 108) ?_
                    refine g_sipush C (nI 541) dX5_driveThrough_108 (by decide) (q := 111) rfl ?_
                    refine g_imul C dX5_driveThrough_111 (q := 112) rfl ?_
                    refine g_eqi C (y := nI (y * 541)) (pk_mul y 541) ?_
                    refine g_aload_n C 6 dX5_driveThrough_112 rfl rfl rfl (q := 113) ?_
                    refine g_get C 4 1 dX5_driveThrough_113 (Cn := RX5) (T := TX5) (N := 8) (fun _ h => List.mem_cons_of_mem _ (List.mem_append_left _ (List.mem_append_left _ (List.mem_append_left _ (List.mem_append_right _ h))))) rfl rfl (by decide) (List.mem_cons_of_mem _ (List.mem_append_left _ (List.mem_append_left _ (List.mem_append_left _ (List.mem_append_left _ (List.mem_of_getElem? (i := 0) rfl)))))) rfl (q := 116) rfl ?_
                    refine g_iload C 2 dX5_driveThrough_116 rfl rfl (q := 118) ?_
                    refine g_iload C 1 dX5_driveThrough_118 rfl rfl (q := 120) ?_
                    refine gcV_si C (n := 2) (As := [.int (nI x), .int (nI y)]) (st := [.int (nI (y * 541)), .ref nA, .int (nI (x * 541)), .ref hA]) 3 (fun h => h) dX5_driveThrough_120 rfl rfl gX5_driveThrough_X3_timeOf (c_X3_timeOf l D cI cJ cZ a hA nA gr li st sp n m nu ev g2 fp ti wc wu sc pv su sd t x y (by first | assumption | omega) (by first | assumption | omega)) rfl rfl rfl (by decide +kernel) ⟨Nat.le_of_ble_eq_true rfl, Nat.le_of_ble_eq_true rfl⟩ rfl rfl (Nat.le_of_ble_eq_true rfl) FT_b FT_h ⟨Nat.le_of_ble_eq_true rfl, Nat.le_of_ble_eq_true rfl⟩ (q := 123) rfl (fun r_120 h_120 => ?_)
                    subst h_120
                    refine g_iadd C dX5_driveThrough_123 (q := 124) rfl ?_
                    refine g_eqi C (y := nI ((y * 541) + (tmN x y))) (nI_add (y * 541) (tmN x y)) ?_
                    refine g_iload C 3 dX5_driveThrough_124 rfl rfl (q := 126) ?_
                    refine g_lload C 0 dX5_driveThrough_126 rfl rfl (q := 128) ?_
                    refine gcS_qv C (n := 6) (As := [.ref hA, .int (nI (x * 541)), .ref nA, .int (nI ((y * 541) + (tmN x y))), .int (nI (30 * (c + 1))), .long (lJ (pwM gr nu k x y * 281474976710656 + ((y * 8 ^ (15 - c) : Nat) : Int)))]) (st := []) (fun h => h) (fun _ h => h) dX5_driveThrough_128 gX5_driveThrough_X5_spread (c_X5_spread l D cI cJ cZ a hA nA gr li st sp n m nu ev g2 fp ti wc wu sc pv su sd t (x * 541) ((y * 541) + (tmN x y)) (30 * (c + 1)) (lJ (pwM gr nu k x y * 281474976710656 + ((y * 8 ^ (15 - c) : Nat) : Int))) (by first | assumption | omega) (by first | assumption | omega)) rfl rfl rfl (by decide +kernel) ⟨Nat.le_of_ble_eq_true rfl, Nat.le_of_ble_eq_true rfl⟩ rfl rfl (Nat.le_of_ble_eq_true rfl) FT_b FT_h ⟨Nat.le_of_ble_eq_true rfl, Nat.le_of_ble_eq_true rfl⟩ (q := 131) rfl (fun u_128 h_128 => ?_)
                    have h_128 : ∀ i, i < 3787 → u_128 i = sprV ev g2 (x * 541) ((y * 541) + (tmN x y)) (30 * (c + 1)) (lJ (pwM gr nu k x y * 281474976710656 + ((y * 8 ^ (15 - c) : Nat) : Int))) i := h_128
                    show G 0 0 (wC cI cJ cZ a hA nA gr li st sp (nI n) (nI m) nu ev u_128 fp ti wc wu sc pv su sd (nI t)) [(11, .long (lJ (pwM gr nu k x y * 281474976710656 + ((y * 8 ^ (15 - c) : Nat) : Int)))), (10, .int (nI y)), (9, .int (nI x)), (8, .int (nI (30 * (c + 1)))), (7, .int (nI 6)), (6, .int (nI 1)), (0, .ref (a 4)), (1, .int (nI k)), (2, .int (nI c)), (3, .int v), (4, .ref hA), (5, .ref nA)] 131 []
                    refine g_iinc C (z := 1) (nI (y + 1)) [(10, .int (nI (y + 1))), (11, .long (lJ (pwM gr nu k x y * 281474976710656 + ((y * 8 ^ (15 - c) : Nat) : Int)))), (9, .int (nI x)), (8, .int (nI (30 * (c + 1)))), (7, .int (nI 6)), (6, .int (nI 1)), (0, .ref (a 4)), (1, .int (nI k)), (2, .int (nI c)), (3, .int v), (4, .ref hA), (5, .ref nA)] dX5_driveThrough_131 rfl (nI_add y 1) (by decide) rfl (q := 134) rfl ?_
                    refine g_goto C (q := 45) dX5_driveThrough_134 (by decide) ?_
                    refine g_locs C [(10, .int (nI (y + 1))), (9, .int (nI x)), (8, .int (nI (30 * (c + 1)))), (7, .int (nI 6)), (6, .int (nI 1)), (0, .ref (a 4)), (1, .int (nI k)), (2, .int (nI c)), (3, .int v), (4, .ref hA), (5, .ref nA)] [0, 2, 3, 4, 5, 6, 7, 8, 9, 10, 11] rfl ?_
                    exact ih_45 (y + 1) u_128 (by first | assumption | omega) (by first | assumption | omega) (by first | exact DR_yes (SB_M hT) hc (by rw [← hk]; exact okM_t c_64) (by omega) (by omega) (by omega) (by omega) hF hD2 (by rw [← hk]; exact h_128) | exact DR_no (by rw [← hk]; exact okM_f c_64) hD2) (by omega)
            exact lp_45 _ 1 g (by first | assumption | omega) (by first | assumption | omega) hD (Nat.lt_succ_self _)
      exact lp_34 _ 0 od (by first | assumption | omega) (DR_init hO) (Nat.lt_succ_self _)
    · exact absurd c_1 c_12
  · refine g_iconst C (nI 0) dX5_driveThrough_4 (by decide) (q := 5) rfl ?_
    refine g_goto C (q := 9) dX5_driveThrough_5 (by decide) ?_
    refine g_istore C [(6, .int (nI 0)), (0, .ref (a 4)), (1, .int (nI k)), (2, .int (nI c)), (3, .int v), (4, .ref hA), (5, .ref nA)] dX5_driveThrough_9 (by decide) rfl (q := 11) rfl ?_
    refine g_iload_n C 4 dX5_driveThrough_11 rfl rfl rfl (q := 12) ?_
    refine g_if_eq C (t := 19) dX5_driveThrough_12 (by decide) (q := 15) rfl (fun c_12 => ?_) (fun c_12 => ?_)
    · exact absurd c_12 c_1
    · refine g_iconst C (nI 0) dX5_driveThrough_15 (by decide) (q := 16) rfl ?_
      refine g_goto C (q := 21) dX5_driveThrough_16 (by decide) ?_
      refine g_istore C [(7, .int (nI 0)), (6, .int (nI 0)), (0, .ref (a 4)), (1, .int (nI k)), (2, .int (nI c)), (3, .int v), (4, .ref hA), (5, .ref nA)] dX5_driveThrough_21 (by decide) rfl (q := 23) rfl ?_
      refine g_bipush C (nI 30) dX5_driveThrough_23 (by decide) (q := 25) rfl ?_
      refine g_iload_n C 4 dX5_driveThrough_25 rfl rfl rfl (q := 26) ?_
      refine g_iconst C (nI 1) dX5_driveThrough_26 (by decide) (q := 27) rfl ?_
      refine g_iadd C dX5_driveThrough_27 (q := 28) rfl ?_
      refine g_eqi C (y := nI (c + 1)) (nI_add c 1) ?_
      refine g_imul C dX5_driveThrough_28 (q := 29) rfl ?_
      refine g_eqi C (y := nI (30 * (c + 1))) (pk_mul 30 (c + 1)) ?_
      refine g_istore C [(8, .int (nI (30 * (c + 1)))), (7, .int (nI 0)), (6, .int (nI 0)), (0, .ref (a 4)), (1, .int (nI k)), (2, .int (nI c)), (3, .int v), (4, .ref hA), (5, .ref nA)] dX5_driveThrough_29 (by decide) rfl (q := 31) rfl ?_
      refine g_iconst C (nI 0) dX5_driveThrough_31 (by decide) (q := 32) rfl ?_
      refine g_istore C [(9, .int (nI 0)), (8, .int (nI (30 * (c + 1)))), (7, .int (nI 0)), (6, .int (nI 0)), (0, .ref (a 4)), (1, .int (nI k)), (2, .int (nI c)), (3, .int v), (4, .ref hA), (5, .ref nA)] dX5_driveThrough_32 (by decide) rfl (q := 34) rfl ?_
      have lp_34 : ∀ (N : Nat) (x : Nat) (g : Nat → Int64), (x ≤ 7) → (DR (okM gr li nu) (pwM gr nu) p c 0 0 x 0 g) → 7 - x < N → G 0 0 (wC cI cJ cZ a hA nA gr li st sp (nI n) (nI m) nu ev g fp ti wc wu sc pv su sd (nI t)) [(9, .int (nI x)), (8, .int (nI (30 * (c + 1)))), (7, .int (nI 0)), (6, .int (nI 0)), (0, .ref (a 4)), (1, .int (nI k)), (2, .int (nI c)), (3, .int v), (4, .ref hA), (5, .ref nA)] 34 [] := by
        intro N
        induction N with
        | zero => intro x g _ _ hmu; exact absurd hmu (Nat.not_lt_zero _)
        | succ N ih_34 =>
          intro x g hx hD hmu
          refine g_iload C 0 dX5_driveThrough_34 rfl rfl (q := 36) ?_
          refine g_bipush C (nI 6) dX5_driveThrough_36 (by decide) (q := 38) rfl ?_
          refine g_icmp_gt C (t := 143) dX5_driveThrough_38 (by decide) (q := 41) rfl (fun c_38 => ?_) (fun c_38 => ?_)
          · rw [nI_ltI (by omega) (by omega)] at c_38
            exact hret g 143 _ dX5_driveThrough_143 (by obtain rfl : x = 7 := (by omega); first | exact ⟨fun _ => DR_end hD, fun h => absurd c_1 h⟩ | exact ⟨fun h => absurd h c_1, fun _ => DR_stop hD⟩)
          · rw [nI_ltI (by omega) (by omega)] at c_38
            refine g_iload C 3 dX5_driveThrough_41 rfl rfl (q := 43) ?_
            refine g_istore C [(10, .int (nI 0)), (9, .int (nI x)), (8, .int (nI (30 * (c + 1)))), (7, .int (nI 0)), (6, .int (nI 0)), (0, .ref (a 4)), (1, .int (nI k)), (2, .int (nI c)), (3, .int v), (4, .ref hA), (5, .ref nA)] dX5_driveThrough_43 (by decide) rfl (q := 45) rfl ?_
            have lp_45 : ∀ (N : Nat) (y : Nat) (g2 : Nat → Int64), (0 ≤ y) → (y ≤ 1) → (DR (okM gr li nu) (pwM gr nu) p c 0 0 x y g2) → 1 - y < N → G 0 0 (wC cI cJ cZ a hA nA gr li st sp (nI n) (nI m) nu ev g2 fp ti wc wu sc pv su sd (nI t)) [(10, .int (nI y)), (9, .int (nI x)), (8, .int (nI (30 * (c + 1)))), (7, .int (nI 0)), (6, .int (nI 0)), (0, .ref (a 4)), (1, .int (nI k)), (2, .int (nI c)), (3, .int v), (4, .ref hA), (5, .ref nA)] 45 [] := by
              intro N
              induction N with
              | zero => intro y g2 _ _ _ hmu; exact absurd hmu (Nat.not_lt_zero _)
              | succ N ih_45 =>
                intro y g2 hy1 hy2 hD2 hmu
                refine g_iload C 0 dX5_driveThrough_45 rfl rfl (q := 47) ?_
                refine g_iload C 3 dX5_driveThrough_47 rfl rfl (q := 49) ?_
                refine g_icmp_gt C (t := 137) dX5_driveThrough_49 (by decide) (q := 52) rfl (fun c_49 => ?_) (fun c_49 => ?_)
                · rw [nI_ltI (by omega) (by omega)] at c_49
                  obtain rfl : y = 1 := by omega
                  refine g_iinc C (z := 1) (nI (x + 1)) [(9, .int (nI (x + 1))), (10, .int (nI 1)), (8, .int (nI (30 * (c + 1)))), (7, .int (nI 0)), (6, .int (nI 0)), (0, .ref (a 4)), (1, .int (nI k)), (2, .int (nI c)), (3, .int v), (4, .ref hA), (5, .ref nA)] dX5_driveThrough_137 rfl (nI_add x 1) (by decide) rfl (q := 140) rfl ?_
                  refine g_goto C (q := 34) dX5_driveThrough_140 (by decide) ?_
                  refine g_locs C [(9, .int (nI (x + 1))), (8, .int (nI (30 * (c + 1)))), (7, .int (nI 0)), (6, .int (nI 0)), (0, .ref (a 4)), (1, .int (nI k)), (2, .int (nI c)), (3, .int v), (4, .ref hA), (5, .ref nA)] [0, 2, 3, 4, 5, 6, 7, 8, 9, 10] rfl ?_
                  exact ih_34 (x + 1) g2 (by first | assumption | omega) (DR_row hD2) (by omega)
                · rw [nI_ltI (by omega) (by omega)] at c_49
                  refine g_aload_n C 5 dX5_driveThrough_52 rfl rfl rfl (q := 53) ?_
                  refine g_get C 4 1 dX5_driveThrough_53 (Cn := RX5) (T := TX5) (N := 8) (fun _ h => List.mem_cons_of_mem _ (List.mem_append_left _ (List.mem_append_left _ (List.mem_append_left _ (List.mem_append_right _ h))))) rfl rfl (by decide) (List.mem_cons_of_mem _ (List.mem_append_left _ (List.mem_append_left _ (List.mem_append_left _ (List.mem_append_left _ (List.mem_of_getElem? (i := 0) rfl)))))) rfl (q := 56) rfl ?_
                  refine g_iload_n C 6 dX5_driveThrough_56 rfl rfl rfl (q := 57) ?_
                  refine g_iload C 1 dX5_driveThrough_57 rfl rfl (q := 59) ?_
                  refine g_iload C 0 dX5_driveThrough_59 rfl rfl (q := 61) ?_
                  refine gcV_si C (n := 3) (As := [.int (nI k), .int (nI x), .int (nI y)]) (st := []) 3 (fun h => h) dX5_driveThrough_61 rfl rfl gX5_driveThrough_X3_faultOf (c_X3_faultOf l D cI cJ cZ a hA nA gr li st sp n m nu ev g2 fp ti wc wu sc pv su sd t k x y (by first | assumption | omega) (by first | assumption | omega) (by first | assumption | omega)) rfl rfl rfl (by decide +kernel) ⟨Nat.le_of_ble_eq_true rfl, Nat.le_of_ble_eq_true rfl⟩ rfl rfl (Nat.le_of_ble_eq_true rfl) FT_b FT_h ⟨Nat.le_of_ble_eq_true rfl, Nat.le_of_ble_eq_true rfl⟩ (q := 64) rfl (fun r_61 h_61 => ?_)
                  subst h_61
                  refine g_if_ne C (t := 131) dX5_driveThrough_64 (by decide) (q := 67) rfl (fun c_64 => ?_) (fun c_64 => ?_)
                  · refine g_iinc C (z := 0) (nI (y + 1)) [(10, .int (nI (y + 1))), (9, .int (nI x)), (8, .int (nI (30 * (c + 1)))), (7, .int (nI 0)), (6, .int (nI 0)), (0, .ref (a 4)), (1, .int (nI k)), (2, .int (nI c)), (3, .int v), (4, .ref hA), (5, .ref nA)] dX5_driveThrough_131 rfl (nI_add y 1) (by decide) rfl (q := 134) rfl ?_
                    refine g_goto C (q := 45) dX5_driveThrough_134 (by decide) ?_
                    exact ih_45 (y + 1) g2 (by first | assumption | omega) (by first | assumption | omega) (by first | exact DR_yes (SB_M hT) hc (by rw [← hk]; exact okM_t c_64) (by omega) (by omega) (by omega) (by omega) hF hD2 (by rw [← hk]; exact h_128) | exact DR_no (by rw [← hk]; exact okM_f c_64) hD2) (by omega)
                  · have hxy := fl_nz c_64
                    have htm := tm_le hxy
                    refine g_aload_n C 5 dX5_driveThrough_67 rfl rfl rfl (q := 68) ?_
                    refine g_get C 4 1 dX5_driveThrough_68 (Cn := RX5) (T := TX5) (N := 8) (fun _ h => List.mem_cons_of_mem _ (List.mem_append_left _ (List.mem_append_left _ (List.mem_append_left _ (List.mem_append_right _ h))))) rfl rfl (by decide) (List.mem_cons_of_mem _ (List.mem_append_left _ (List.mem_append_left _ (List.mem_append_left _ (List.mem_append_left _ (List.mem_of_getElem? (i := 0) rfl)))))) rfl (q := 71) rfl ?_
                    refine g_iload_n C 6 dX5_driveThrough_71 rfl rfl rfl (q := 72) ?_
                    refine g_iload C 1 dX5_driveThrough_72 rfl rfl (q := 74) ?_
                    refine g_iload C 0 dX5_driveThrough_74 rfl rfl (q := 76) ?_
                    refine gcV_si C (n := 3) (As := [.int (nI k), .int (nI x), .int (nI y)]) (st := []) 3 (fun h => h) dX5_driveThrough_76 rfl rfl gX5_driveThrough_X3_powerOf (c_X3_powerOf l D cI cJ cZ a hA nA gr li st sp n m nu ev g2 fp ti wc wu sc pv su sd t k x y (by first | assumption | omega)) rfl rfl rfl (by decide +kernel) ⟨Nat.le_of_ble_eq_true rfl, Nat.le_of_ble_eq_true rfl⟩ rfl rfl (Nat.le_of_ble_eq_true rfl) FT_b FT_h ⟨Nat.le_of_ble_eq_true rfl, Nat.le_of_ble_eq_true rfl⟩ (q := 79) rfl (fun r_76 h_76 => ?_)
                    subst h_76
                    refine g_i2l C dX5_driveThrough_79 (q := 80) rfl ?_
                    refine g_eql C (y := lJ (pwM gr nu k x y)) (i2l_toInt _) ?_
                    refine g_bipush C (nI 48) dX5_driveThrough_80 (by decide) (q := 82) rfl ?_
                    refine g_lshl C dX5_driveThrough_82 (q := 83) rfl ?_
                    refine g_eql C (y := lJ (pwM gr nu k x y * 281474976710656)) (lJ_shl _ (by decide)) ?_
                    refine g_iload C 0 dX5_driveThrough_83 rfl rfl (q := 85) ?_
                    refine g_i2l C dX5_driveThrough_85 (q := 86) rfl ?_
                    refine g_eql C (y := lJ (y : Int)) (nI_lJ (by omega)) ?_
                    refine g_iload_n C 7 dX5_driveThrough_86 rfl rfl rfl (q := 87) ?_
                    refine g_iconst C (nI 1) dX5_driveThrough_87 (by decide) (q := 88) rfl ?_
                    refine g_iadd C dX5_driveThrough_88 (q := 89) rfl ?_
                    refine g_eqi C (y := nI (c + 1)) (nI_add c 1) ?_
                    refine gcS_si C (n := 1) (As := [.int (nI (c + 1))]) (st := [.long (lJ (y : Int)), .long (lJ (pwM gr nu k x y * 281474976710656))]) (fun h => h) dX5_driveThrough_89 gX5_driveThrough_X5_speedPlace (c_X5_speedPlace l D cI cJ cZ a hA nA gr li st sp n m nu ev g2 fp ti wc wu sc pv su sd t (c + 1) (by first | assumption | omega)) rfl rfl rfl (by decide +kernel) ⟨Nat.le_of_ble_eq_true rfl, Nat.le_of_ble_eq_true rfl⟩ rfl rfl (Nat.le_of_ble_eq_true rfl) FT_b FT_h ⟨Nat.le_of_ble_eq_true rfl, Nat.le_of_ble_eq_true rfl⟩ (q := 92) rfl (fun r_89 h_89 => ?_)
                    subst h_89
                    refine g_lshl C dX5_driveThrough_92 (q := 93) rfl ?_
                    refine g_eql C (y := lJ ((y * 8 ^ (15 - c) : Nat) : Int)) (shl8 hc) ?_
                    refine g_ladd C dX5_driveThrough_93 (q := 94) rfl ?_
                    refine g_eql C (y := lJ (pwM gr nu k x y * 281474976710656 + ((y * 8 ^ (15 - c) : Nat) : Int))) (lJ_add _ _) ?_
                    refine g_lstore C [(11, .long (lJ (pwM gr nu k x y * 281474976710656 + ((y * 8 ^ (15 - c) : Nat) : Int)))), (10, .int (nI y)), (9, .int (nI x)), (8, .int (nI (30 * (c + 1)))), (7, .int (nI 0)), (6, .int (nI 0)), (0, .ref (a 4)), (1, .int (nI k)), (2, .int (nI c)), (3, .int v), (4, .ref hA), (5, .ref nA)] dX5_driveThrough_94 (by decide) rfl (q := 96) rfl ?_
                    refine g_aload C 10 dX5_driveThrough_96 rfl rfl (q := 98) ?_
                    refine g_iload C 2 dX5_driveThrough_98 rfl rfl (q := 100) ?_
                    refine g_sipush C (nI 541) dX5_driveThrough_100 (by decide) (q := 103) rfl ?_
                    refine g_imul C dX5_driveThrough_103 (q := 104) rfl ?_
                    refine g_eqi C (y := nI (x * 541)) (pk_mul x 541) ?_
                    refine g_aload C 11 dX5_driveThrough_104 rfl rfl (q := 106) ?_
                    refine g_iload C 1 dX5_driveThrough_106 rfl rfl (q := 108) ?_
                    refine g_sipush C (nI 541) dX5_driveThrough_108 (by decide) (q := 111) rfl ?_
                    refine g_imul C dX5_driveThrough_111 (q := 112) rfl ?_
                    refine g_eqi C (y := nI (y * 541)) (pk_mul y 541) ?_
                    refine g_aload_n C 6 dX5_driveThrough_112 rfl rfl rfl (q := 113) ?_
                    refine g_get C 4 1 dX5_driveThrough_113 (Cn := RX5) (T := TX5) (N := 8) (fun _ h => List.mem_cons_of_mem _ (List.mem_append_left _ (List.mem_append_left _ (List.mem_append_left _ (List.mem_append_right _ h))))) rfl rfl (by decide) (List.mem_cons_of_mem _ (List.mem_append_left _ (List.mem_append_left _ (List.mem_append_left _ (List.mem_append_left _ (List.mem_of_getElem? (i := 0) rfl)))))) rfl (q := 116) rfl ?_
                    refine g_iload C 2 dX5_driveThrough_116 rfl rfl (q := 118) ?_
                    refine g_iload C 1 dX5_driveThrough_118 rfl rfl (q := 120) ?_
                    refine gcV_si C (n := 2) (As := [.int (nI x), .int (nI y)]) (st := [.int (nI (y * 541)), .ref nA, .int (nI (x * 541)), .ref hA]) 3 (fun h => h) dX5_driveThrough_120 rfl rfl gX5_driveThrough_X3_timeOf (c_X3_timeOf l D cI cJ cZ a hA nA gr li st sp n m nu ev g2 fp ti wc wu sc pv su sd t x y (by first | assumption | omega) (by first | assumption | omega)) rfl rfl rfl (by decide +kernel) ⟨Nat.le_of_ble_eq_true rfl, Nat.le_of_ble_eq_true rfl⟩ rfl rfl (Nat.le_of_ble_eq_true rfl) FT_b FT_h ⟨Nat.le_of_ble_eq_true rfl, Nat.le_of_ble_eq_true rfl⟩ (q := 123) rfl (fun r_120 h_120 => ?_)
                    subst h_120
                    refine g_iadd C dX5_driveThrough_123 (q := 124) rfl ?_
                    refine g_eqi C (y := nI ((y * 541) + (tmN x y))) (nI_add (y * 541) (tmN x y)) ?_
                    refine g_iload C 3 dX5_driveThrough_124 rfl rfl (q := 126) ?_
                    refine g_lload C 0 dX5_driveThrough_126 rfl rfl (q := 128) ?_
                    refine gcS_qv C (n := 6) (As := [.ref hA, .int (nI (x * 541)), .ref nA, .int (nI ((y * 541) + (tmN x y))), .int (nI (30 * (c + 1))), .long (lJ (pwM gr nu k x y * 281474976710656 + ((y * 8 ^ (15 - c) : Nat) : Int)))]) (st := []) (fun h => h) (fun _ h => h) dX5_driveThrough_128 gX5_driveThrough_X5_spread (c_X5_spread l D cI cJ cZ a hA nA gr li st sp n m nu ev g2 fp ti wc wu sc pv su sd t (x * 541) ((y * 541) + (tmN x y)) (30 * (c + 1)) (lJ (pwM gr nu k x y * 281474976710656 + ((y * 8 ^ (15 - c) : Nat) : Int))) (by first | assumption | omega) (by first | assumption | omega)) rfl rfl rfl (by decide +kernel) ⟨Nat.le_of_ble_eq_true rfl, Nat.le_of_ble_eq_true rfl⟩ rfl rfl (Nat.le_of_ble_eq_true rfl) FT_b FT_h ⟨Nat.le_of_ble_eq_true rfl, Nat.le_of_ble_eq_true rfl⟩ (q := 131) rfl (fun u_128 h_128 => ?_)
                    have h_128 : ∀ i, i < 3787 → u_128 i = sprV ev g2 (x * 541) ((y * 541) + (tmN x y)) (30 * (c + 1)) (lJ (pwM gr nu k x y * 281474976710656 + ((y * 8 ^ (15 - c) : Nat) : Int))) i := h_128
                    show G 0 0 (wC cI cJ cZ a hA nA gr li st sp (nI n) (nI m) nu ev u_128 fp ti wc wu sc pv su sd (nI t)) [(11, .long (lJ (pwM gr nu k x y * 281474976710656 + ((y * 8 ^ (15 - c) : Nat) : Int)))), (10, .int (nI y)), (9, .int (nI x)), (8, .int (nI (30 * (c + 1)))), (7, .int (nI 0)), (6, .int (nI 0)), (0, .ref (a 4)), (1, .int (nI k)), (2, .int (nI c)), (3, .int v), (4, .ref hA), (5, .ref nA)] 131 []
                    refine g_iinc C (z := 1) (nI (y + 1)) [(10, .int (nI (y + 1))), (11, .long (lJ (pwM gr nu k x y * 281474976710656 + ((y * 8 ^ (15 - c) : Nat) : Int)))), (9, .int (nI x)), (8, .int (nI (30 * (c + 1)))), (7, .int (nI 0)), (6, .int (nI 0)), (0, .ref (a 4)), (1, .int (nI k)), (2, .int (nI c)), (3, .int v), (4, .ref hA), (5, .ref nA)] dX5_driveThrough_131 rfl (nI_add y 1) (by decide) rfl (q := 134) rfl ?_
                    refine g_goto C (q := 45) dX5_driveThrough_134 (by decide) ?_
                    refine g_locs C [(10, .int (nI (y + 1))), (9, .int (nI x)), (8, .int (nI (30 * (c + 1)))), (7, .int (nI 0)), (6, .int (nI 0)), (0, .ref (a 4)), (1, .int (nI k)), (2, .int (nI c)), (3, .int v), (4, .ref hA), (5, .ref nA)] [0, 2, 3, 4, 5, 6, 7, 8, 9, 10, 11] rfl ?_
                    exact ih_45 (y + 1) u_128 (by first | assumption | omega) (by first | assumption | omega) (by first | exact DR_yes (SB_M hT) hc (by rw [← hk]; exact okM_t c_64) (by omega) (by omega) (by omega) (by omega) hF hD2 (by rw [← hk]; exact h_128) | exact DR_no (by rw [← hk]; exact okM_f c_64) hD2) (by omega)
            exact lp_45 _ 0 g (by first | assumption | omega) (by first | assumption | omega) hD (Nat.lt_succ_self _)
      exact lp_34 _ 0 od (by first | assumption | omega) (DR_init hO) (Nat.lt_succ_self _)
