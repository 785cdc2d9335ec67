/-! the reference: sharing -/
theorem SHs_rg2 {m rest : Nat → Int} {Ts : List Nat} {t i : Nat} (hA : ∀ s, inR (m s)) (hB : ∀ s, inR (rest s)) (h : ∀ j, j < i → m (Ts.getD j 0) < BIG) : (SHs m rest Ts t i).1 = BIG ∨ (-12800 ≤ (SHs m rest Ts t i).1 ∧ (SHs m rest Ts t i).1 ≤ 12800) := by
  have := SHs_rg (m := m) (rest := rest) (Ts := Ts) (t := t) (A := 6400) (B := 6400) hA hB i h
  rcases this with e | e
  · exact Or.inl e
  · exact Or.inr (by omega)
theorem cell_no1 {m rest : Nat → Int} {Ts : List Nat} {q i l T : Nat} {sh tt : Nat → Int32} (hB : ∀ s, inR (rest s)) (hT : Ts.getD i 0 = T) (hc : SHcell (SHs m rest Ts q i) l q sh tt) (h : (100000000 : Int32) ≤ jN (rest (q - T))) : SHcell (SHs m rest Ts q (i + 1)) l q sh tt := by
  rw [SHs_no hT (fun z => Int.ne_of_lt z.2.1 ((jbig (hB _)).mp h))]; exact hc
theorem cell_cmp {m rest : Nat → Int} {Ts : List Nat} {q i T : Nat} (hA : ∀ s, inR (m s)) (hB : ∀ s, inR (rest s)) (hl : ∀ j, j < i + 1 → m (Ts.getD j 0) < BIG) (hT : Ts.getD i 0 = T) (h : ¬ (100000000 : Int32) ≤ jN (rest (q - T))) : jN (SHs m rest Ts q i).1 ≤ jN (m T + rest (q - T)) ↔ (SHs m rest Ts q i).1 ≤ m T + rest (q - T) := by
  have hBI : BIG = 100000000 := rfl
  have h1 := SHs_rg2 (t := q) hA hB (fun j hj => hl j (by omega)) (i := i)
  have h2 := inR_lt (hB _) h
  have h3 := hl i (by omega)
  rw [hT] at h3
  have h4 := hA T
  have h5 := hB (q - T)
  exact jN_le (by rcases h1 with e | e <;> omega) (by rcases h4 with e | e <;> rcases h5 with f | f <;> omega)
theorem cell_no2 {m rest : Nat → Int} {Ts : List Nat} {q i l T : Nat} {sh tt : Nat → Int32} (hA : ∀ s, inR (m s)) (hB : ∀ s, inR (rest s)) (hl : ∀ j, j < i + 1 → m (Ts.getD j 0) < BIG) (hT : Ts.getD i 0 = T) (hc : SHcell (SHs m rest Ts q i) l q sh tt) (h : ¬ (100000000 : Int32) ≤ jN (rest (q - T))) (h2 : jN (SHs m rest Ts q i).1 ≤ jN (m T + rest (q - T))) : SHcell (SHs m rest Ts q (i + 1)) l q sh tt := by
  rw [cell_cmp hA hB hl hT h] at h2
  rw [SHs_no hT (fun z => by have := z.2.2; omega)]; exact hc
theorem cell_yes {m rest : Nat → Int} {Ts : List Nat} {q i l T : Nat} {sh tt : Nat → Int32} (hA : ∀ s, inR (m s)) (hB : ∀ s, inR (rest s)) (hl : ∀ j, j < i + 1 → m (Ts.getD j 0) < BIG) (hT : Ts.getD i 0 = T) (hq : T ≤ q) (h : ¬ (100000000 : Int32) ≤ jN (rest (q - T))) (h2 : ¬ jN (SHs m rest Ts q i).1 ≤ jN (m T + rest (q - T))) : SHcell (SHs m rest Ts q (i + 1)) l q (upd sh (1001 * l + q) (jN (m T + rest (q - T)))) (upd tt (1001 * l + q) (nI T)) := by
  rw [cell_cmp hA hB hl hT h] at h2
  rw [SHs_yes hT hq (inR_lt (hB _) h) (by omega)]
  have := SHs_le (m := m) (rest := rest) (Ts := Ts) (t := q) i
  exact ⟨pk_us, pk_us.trans (if_neg (by show ¬ m T + rest (q - T) = BIG; omega)).symm⟩
set_option maxHeartbeats 4000000 in
set_option maxRecDepth 100000 in
theorem c_X7_shareAll (l : Launch) (D : va_G) (cI cJ cZ : ClassId) (b : Nat → Nat) (n : Nat) (gr li st tr : Nat → Int32) (t : Nat) (sd lea : Nat → Int32) (pa : Int32) (pt pp : Nat → Int32) (su : Int32) (sh tt sp : Nat → Int32) (m : Nat) (hL : LInv st sp n m) (hT : TrOK tr) (hsu : su = nI 0 ∨ (su = nI 1 ∧ SHOK (mL gr li tr st n) m sh tt)) : Met l yX7_shareAll wsX7_shareAll { frames := 5, cells := 0, slots := 0, locals := 125 } (gPc D (tyT cI cJ cZ) (wB b) FT (wM cI cJ cZ b (nI n) gr li st tr (nI t) sd lea pa pt pp su sh tt) [.ref (b 0)]) (va_Qv (fun (u : (Nat → Int32) × Int32 × (Nat → Int32) × (Nat → Int32) × (Nat → Int32) × (Nat → Int32)) => SHOK (mL gr li tr st n) m u.2.2.2.2.1 u.2.2.2.2.2) (fun u tS => va_P D vwCl ((fun (u : (Nat → Int32) × Int32 × (Nat → Int32) × (Nat → Int32) × (Nat → Int32) × (Nat → Int32)) => wM cI cJ cZ b (nI n) gr li st tr (nI t) sd u.1 u.2.1 u.2.2.1 u.2.2.2.1 (nI 1) u.2.2.2.2.1 u.2.2.2.2.2) u) tS.heap ∧ va_D (wB b) ((fun (u : (Nat → Int32) × Int32 × (Nat → Int32) × (Nat → Int32) × (Nat → Int32) × (Nat → Int32)) => wM cI cJ cZ b (nI n) gr li st tr (nI t) sd u.1 u.2.1 u.2.2.1 u.2.2.2.1 (nI 1) u.2.2.2.2.1 u.2.2.2.2.2) u)) (wB b)) 0 0 (wB b) := by
  refine gs_qv (cc := cX7_shareAll) (nL := 6) (W' := fun (u : (Nat → Int32) × Int32 × (Nat → Int32) × (Nat → Int32) × (Nat → Int32) × (Nat → Int32)) => wM cI cJ cZ b (nI n) gr li st tr (nI t) sd u.1 u.2.1 u.2.2.1 u.2.2.2.1 (nI 1) u.2.2.2.2.1 u.2.2.2.2.2) (by decide) rfl (Nat.le_of_ble_eq_true rfl) (fun G C hret => ?_)
  show G 0 0 (wM cI cJ cZ b (nI n) gr li st tr (nI t) sd lea pa pt pp su sh tt) [(0, .ref (b 0))] 0 []
  have hn := hL.2.1
  have hmn := hL.m_le
  have hm1 := hL.m_pos
  have hcm := hL.2.2.2.2.2.1
  refine g_aload_n C 0 dX7_shareAll_0 rfl rfl rfl (q := 1) ?_
  refine g_get C 0 11 dX7_shareAll_1 (Cn := RX7) (T := TX7) (N := 14) (fun _ h => List.mem_cons_of_mem _ (List.mem_append_right _ h)) rfl rfl (by decide) (List.mem_cons_of_mem _ (List.mem_append_left _ (List.mem_of_getElem? (i := 0) rfl))) rfl (q := 4) rfl ?_
  refine g_if_eq C (t := 8) dX7_shareAll_4 (by decide) (q := 7) rfl (fun c_4 => ?_) (fun c_4 => ?_)
  · refine g_aload_n C 0 dX7_shareAll_8 rfl rfl rfl (q := 9) ?_
    refine g_iconst C (nI 1) dX7_shareAll_9 (by decide) (q := 10) rfl ?_
    refine g_put C 0 11 (wM cI cJ cZ b (nI n) gr li st tr (nI t) sd lea pa pt pp (nI 1) sh tt) dX7_shareAll_10 (Cn := RX7) (T := TX7) (N := 14) (fun _ h => List.mem_cons_of_mem _ (List.mem_append_right _ h)) tyX7_ok nmX7 rfl rfl (by decide) (List.mem_cons_of_mem _ (List.mem_append_left _ (List.mem_of_getElem? (i := 0) rfl))) rfl (ty := .boolean) (by decide +kernel) (by decide) rfl (Nat.le_of_ble_eq_true rfl) rfl (q := 13) rfl ?_
    refine g_aload_n C 0 dX7_shareAll_13 rfl rfl rfl (q := 14) ?_
    refine gcV_si C (n := 0) (As := []) (st := []) 0 (fun h => h) dX7_shareAll_14 rfl rfl gX7_shareAll_X7_legs (c_X7_legs l D cI cJ cZ b n gr li st tr t sd lea pa pt pp (nI 1) sh tt hn hL.2.2.2.1) rfl rfl rfl (by decide +kernel) ⟨Nat.le_of_ble_eq_true rfl, Nat.le_of_ble_eq_true rfl⟩ rfl rfl (Nat.le_of_ble_eq_true rfl) FT_b FT_h ⟨Nat.le_of_ble_eq_true rfl, Nat.le_of_ble_eq_true rfl⟩ (q := 17) rfl (fun r_14 h_14 => ?_)
    subst h_14
    refine g_eqi C (y := nI m) (by rw [hcm]; rfl) ?_
    refine g_istore_n C [(1, .int (nI m)), (0, .ref (b 0))] dX7_shareAll_17 rfl (by decide) rfl (q := 18) rfl ?_
    refine g_iconst C (nI 0) dX7_shareAll_18 (by decide) (q := 19) rfl ?_
    refine g_istore_n C [(2, .int (nI 0)), (1, .int (nI m)), (0, .ref (b 0))] dX7_shareAll_19 rfl (by decide) rfl (q := 20) rfl ?_
    have lp_20 : ∀ (N : Nat) (q : Nat) (f : Nat → Int32), (q ≤ 1001) → (∀ s, s < q → f (1001 * m + s) = nI 0) → 1001 - q < N → G 0 0 (wM cI cJ cZ b (nI n) gr li st tr (nI t) sd lea pa pt pp (nI 1) f tt) [(2, .int (nI q)), (1, .int (nI m)), (0, .ref (b 0))] 20 [] := by
      intro N
      induction N with
      | zero => intro q f _ _ hmu; exact absurd hmu (Nat.not_lt_zero _)
      | succ N ih_20 =>
        intro q f hq hf hmu
        refine g_iload_n C 0 dX7_shareAll_20 rfl rfl rfl (q := 21) ?_
        refine g_sipush C (nI 1001) dX7_shareAll_21 (by decide) (q := 24) rfl ?_
        refine g_icmp_ge C (t := 46) dX7_shareAll_24 (by decide) (q := 27) rfl (fun c_24 => ?_) (fun c_24 => ?_)
        · rw [nI_leI (by omega) (by omega)] at c_24
          refine g_iload_n C 1 dX7_shareAll_46 rfl rfl rfl (q := 47) ?_
          refine g_iconst C (nI 1) dX7_shareAll_47 (by decide) (q := 48) rfl ?_
          refine g_isub C dX7_shareAll_48 (q := 49) rfl ?_
          refine g_eqi C (y := nI m + (-1)) ((pk_sub hm1).trans (by rw [show nI m = nI (m - 1 + 1) by rw [Nat.sub_add_cancel hm1], pk_m1])) ?_
          refine g_istore_n C [(2, .int (nI m + (-1))), (1, .int (nI m)), (0, .ref (b 0))] dX7_shareAll_49 rfl (by decide) rfl (q := 50) rfl ?_
          have lp_50 : ∀ (N : Nat) (r : Nat) (le2 : Nat → Int32) (pa2 : Int32) (pt2 pp2 f g : Nat → Int32), (r ≤ m) → (SHfrom (mL gr li tr st n) m r f g) → r < N → G 0 0 (wM cI cJ cZ b (nI n) gr li st tr (nI t) sd le2 pa2 pt2 pp2 (nI 1) f g) [(2, .int (nI r + (-1))), (1, .int (nI m)), (0, .ref (b 0))] 50 [] := by
            intro N
            induction N with
            | zero => intro r le2 pa2 pt2 pp2 f g _ _ hmu; exact absurd hmu (Nat.not_lt_zero _)
            | succ N ih_50 =>
              intro r le2 pa2 pt2 pp2 f g hr hS hmu
              refine g_iload_n C 0 dX7_shareAll_50 rfl rfl rfl (q := 51) ?_
              refine g_if_lt C (t := 234) dX7_shareAll_51 (by decide) (q := 54) rfl (fun c_51 => ?_) (fun c_51 => ?_)
              · exact hret (le2, pa2, pt2, pp2, f, g) 234 _ dX7_shareAll_234 (by obtain rfl : r = 0 := (by rw [dn0_iff (by omega)] at c_51; exact c_51); exact fun l hl t ht => hS l (Nat.zero_le _) hl t ht)
              · obtain ⟨r1, rfl⟩ : ∃ r1, r = r1 + 1 := ⟨r - 1, by rw [dn0_iff (by omega)] at c_51; omega⟩
                refine g_lset C (z := 0) (y := nI r1) [(2, .int (nI r1)), (1, .int (nI m)), (0, .ref (b 0))] rfl (pk_m1 r1) rfl ?_
                have hp1 := (hL.pos (show r1 ≤ m by omega)).1
                have hp2 := (hL.pos (show r1 + 1 ≤ m by omega)).1
                have hrg : ∀ t, inR (mL gr li tr st n r1 t) := mL_rg hT (by omega)
                have hsv : ∀ t, inR (SV (mL gr li tr st n) m (m - 1 - r1) t) := SV_in (mL_MB hT hL) (by show posOf st m n ≤ 16; rw [hL.e]; exact hn) (by omega)
                refine g_aload_n C 2 dX7_shareAll_54 rfl rfl rfl (q := 55) ?_
                refine g_iload_n C 0 dX7_shareAll_55 rfl rfl rfl (q := 56) ?_
                refine gcV_qv C (n := 1) (As := [.int (nI r1)]) (st := []) 0 (fun h => h) (fun _ h => h) dX7_shareAll_56 rfl rfl gX7_shareAll_X7_draw (c_X7_draw l D cI cJ cZ b n gr li st tr t sd le2 pa2 pt2 pp2 (nI 1) f g r1 sp m hL (by omega) hT) rfl rfl rfl (by decide +kernel) ⟨Nat.le_of_ble_eq_true rfl, Nat.le_of_ble_eq_true rfl⟩ rfl rfl (Nat.le_of_ble_eq_true rfl) FT_b FT_h ⟨Nat.le_of_ble_eq_true rfl, Nat.le_of_ble_eq_true rfl⟩ (q := 59) rfl (fun u_56 h_56 => ?_)
                have h_56 : DRW (mL gr li tr st n r1) 1001 u_56.2.1 u_56.2.2.1 u_56.2.2.2 := h_56
                show G 0 0 (wM cI cJ cZ b (nI n) gr li st tr (nI t) sd u_56.1 (nI u_56.2.1) u_56.2.2.1 u_56.2.2.2 (nI 1) f g) [(2, .int (nI r1)), (1, .int (nI m)), (0, .ref (b 0))] 59 []
                obtain ⟨g1, np, p1, p2⟩ := u_56
                have h_56 : DRW (mL gr li tr st n r1) 1001 np p1 p2 := h_56
                have hnp : np ≤ 1001 := by rw [h_56.1]; exact prs_len _ _
                have hnl := h_56.1
                refine g_iconst C (nI 0) dX7_shareAll_59 (by decide) (q := 60) rfl ?_
                refine g_istore_n C [(3, .int (nI 0)), (2, .int (nI r1)), (1, .int (nI m)), (0, .ref (b 0))] dX7_shareAll_60 rfl (by decide) rfl (q := 61) rfl ?_
                have lp_61 : ∀ (N : Nat) (q : Nat) (f2 g2 : Nat → Int32), (q ≤ 1001) → (SHfrom (mL gr li tr st n) m (r1 + 1) f2 g2) → (SHrow (mL gr li tr st n) m r1 q f2 g2) → 1001 - q < N → G 0 0 (wM cI cJ cZ b (nI n) gr li st tr (nI t) sd g1 (nI np) p1 p2 (nI 1) f2 g2) [(3, .int (nI q)), (2, .int (nI r1)), (1, .int (nI m)), (0, .ref (b 0))] 61 [] := by
                  intro N
                  induction N with
                  | zero => intro q f2 g2 _ _ _ hmu; exact absurd hmu (Nat.not_lt_zero _)
                  | succ N ih_61 =>
                    intro q f2 g2 hq hS2 hR hmu
                    refine g_iload_n C 0 dX7_shareAll_61 rfl rfl rfl (q := 62) ?_
                    refine g_sipush C (nI 1001) dX7_shareAll_62 (by decide) (q := 65) rfl ?_
                    refine g_icmp_ge C (t := 228) dX7_shareAll_65 (by decide) (q := 68) rfl (fun c_65 => ?_) (fun c_65 => ?_)
                    · rw [nI_leI (by omega) (by omega)] at c_65
                      refine g_iinc C (z := 1) ((nI r1) + (-1)) [(2, .int ((nI r1) + (-1))), (3, .int (nI q)), (1, .int (nI m)), (0, .ref (b 0))] dX7_shareAll_228 rfl rfl (by decide) rfl (q := 231) rfl ?_
                      refine g_goto C (q := 50) dX7_shareAll_231 (by decide) ?_
                      refine g_locs C [(2, .int ((nI r1) + (-1))), (1, .int (nI m)), (0, .ref (b 0))] [0, 2, 3] rfl ?_
                      exact ih_50 r1 g1 (nI np) p1 p2 f2 g2 (by first | assumption | omega) (SHfrom_row (by omega) hS2 (by rw [show 1001 = q by omega]; exact hR)) (by omega)
                    · rw [nI_leI (by omega) (by omega)] at c_65
                      refine g_aload_n C 3 dX7_shareAll_68 rfl rfl rfl (q := 69) ?_
                      refine g_get C 0 12 dX7_shareAll_69 (Cn := RX7) (T := TX7) (N := 14) (fun _ h => List.mem_cons_of_mem _ (List.mem_append_right _ h)) rfl rfl (by decide) (List.mem_cons_of_mem _ (List.mem_append_left _ (List.mem_of_getElem? (i := 1) rfl))) rfl (q := 72) rfl ?_
                      refine g_sipush C (nI 1001) dX7_shareAll_72 (by decide) (q := 75) rfl ?_
                      refine g_iload_n C 1 dX7_shareAll_75 rfl rfl rfl (q := 76) ?_
                      refine g_imul C dX7_shareAll_76 (q := 77) rfl ?_
                      refine g_eqi C (y := nI (1001 * r1)) (pk_mul 1001 r1) ?_
                      refine g_iload_n C 0 dX7_shareAll_77 rfl rfl rfl (q := 78) ?_
                      refine g_iadd C dX7_shareAll_78 (q := 79) rfl ?_
                      refine g_eqi C (y := nI ((1001 * r1) + q)) (nI_add (1001 * r1) q) ?_
                      refine g_ldc C (v := (100000000)) dX7_shareAll_79 (List.mem_cons_of_mem _ (List.mem_append_left _ (List.mem_of_getElem? (i := 2) rfl))) (q := 81) rfl ?_
                      refine g_iast C 9 0 (wM cI cJ cZ b (nI n) gr li st tr (nI t) sd g1 (nI np) p1 p2 (nI 1) (upd f2 ((1001 * r1) + q) (100000000)) g2) dX7_shareAll_81 rfl rfl (vp_in_nI (by omega) (by decide)) (by rw [nI_clamp (by omega)]; rfl) (q := 82) rfl ?_
                      refine g_aload_n C 3 dX7_shareAll_82 rfl rfl rfl (q := 83) ?_
                      refine g_get C 0 13 dX7_shareAll_83 (Cn := RX7) (T := TX7) (N := 14) (fun _ h => List.mem_cons_of_mem _ (List.mem_append_right _ h)) rfl rfl (by decide) (List.mem_cons_of_mem _ (List.mem_append_left _ (List.mem_of_getElem? (i := 3) rfl))) rfl (q := 86) rfl ?_
                      refine g_sipush C (nI 1001) dX7_shareAll_86 (by decide) (q := 89) rfl ?_
                      refine g_iload_n C 1 dX7_shareAll_89 rfl rfl rfl (q := 90) ?_
                      refine g_imul C dX7_shareAll_90 (q := 91) rfl ?_
                      refine g_eqi C (y := nI (1001 * r1)) (pk_mul 1001 r1) ?_
                      refine g_iload_n C 0 dX7_shareAll_91 rfl rfl rfl (q := 92) ?_
                      refine g_iadd C dX7_shareAll_92 (q := 93) rfl ?_
                      refine g_eqi C (y := nI ((1001 * r1) + q)) (nI_add (1001 * r1) q) ?_
                      refine g_ldc C (v := (-1000000)) dX7_shareAll_93 (List.mem_cons_of_mem _ (List.mem_append_left _ (List.mem_of_getElem? (i := 4) rfl))) (q := 95) rfl ?_
                      refine g_iast C 10 0 (wM cI cJ cZ b (nI n) gr li st tr (nI t) sd g1 (nI np) p1 p2 (nI 1) (upd f2 ((1001 * r1) + q) (100000000)) (upd g2 ((1001 * r1) + q) (-1000000))) dX7_shareAll_95 rfl rfl (vp_in_nI (by omega) (by decide)) (by rw [nI_clamp (by omega)]; rfl) (q := 96) rfl ?_
                      refine g_iconst C (nI 0) dX7_shareAll_96 (by decide) (q := 97) rfl ?_
                      refine g_istore C [(4, .int (nI 0)), (3, .int (nI q)), (2, .int (nI r1)), (1, .int (nI m)), (0, .ref (b 0))] dX7_shareAll_97 (by decide) rfl (q := 99) rfl ?_
                      have lp_99 : ∀ (N : Nat) (i : Nat) (f3 g3 : Nat → Int32), (i ≤ np) → (SHcell (SHs (mL gr li tr st n r1) (SV (mL gr li tr st n) m (m - 1 - r1)) (prs (mL gr li tr st n r1) 1001) q i) r1 q f3 g3) → (∀ x, x ≠ 1001 * r1 + q → f3 x = f2 x) → (∀ x, x ≠ 1001 * r1 + q → g3 x = g2 x) → np - i < N → G 0 0 (wM cI cJ cZ b (nI n) gr li st tr (nI t) sd g1 (nI np) p1 p2 (nI 1) f3 g3) [(4, .int (nI i)), (3, .int (nI q)), (2, .int (nI r1)), (1, .int (nI m)), (0, .ref (b 0))] 99 [] := by
                        intro N
                        induction N with
                        | zero => intro i f3 g3 _ _ _ _ hmu; exact absurd hmu (Nat.not_lt_zero _)
                        | succ N ih_99 =>
                          intro i f3 g3 hi hc h1 h2 hmu
                          refine g_iload C 0 dX7_shareAll_99 rfl rfl (q := 101) ?_
                          refine g_aload_n C 4 dX7_shareAll_101 rfl rfl rfl (q := 102) ?_
                          refine g_get C 0 8 dX7_shareAll_102 (Cn := RX7) (T := TX7) (N := 14) (fun _ h => List.mem_cons_of_mem _ (List.mem_append_right _ h)) rfl rfl (by decide) (List.mem_cons_of_mem _ (List.mem_append_left _ (List.mem_of_getElem? (i := 5) rfl))) rfl (q := 105) rfl ?_
                          refine g_icmp_ge C (t := 222) dX7_shareAll_105 (by decide) (q := 108) rfl (fun c_105 => ?_) (fun c_105 => ?_)
                          · rw [nI_leI (by omega) (by omega)] at c_105
                            refine g_iinc C (z := 1) (nI (q + 1)) [(3, .int (nI (q + 1))), (4, .int (nI i)), (2, .int (nI r1)), (1, .int (nI m)), (0, .ref (b 0))] dX7_shareAll_222 rfl (nI_add q 1) (by decide) rfl (q := 225) rfl ?_
                            refine g_goto C (q := 61) dX7_shareAll_225 (by decide) ?_
                            refine g_locs C [(3, .int (nI (q + 1))), (2, .int (nI r1)), (1, .int (nI m)), (0, .ref (b 0))] [0, 2, 3, 4] rfl ?_
                            exact ih_61 (q + 1) f3 g3 (by first | assumption | omega) (SHfrom_keep (by omega) hS2 h1 h2) (SHrow_next (by omega) hR h1 h2 (by rw [SHs_end (M := mL gr li tr st n r1) (i := i) (by omega) (by first | exact Or.inl (by omega) | (right; rw [hTT]; omega))]; exact hc)) (by omega)
                          · rw [nI_leI (by omega) (by omega)] at c_105
                            obtain ⟨T, hTT⟩ : ∃ T, (prs (mL gr li tr st n r1) 1001).getD i 0 = T := ⟨_, rfl⟩
                            have hd := h_56.2 i (by omega)
                            rw [hTT] at hd
                            have hT1 := (prs_mem (mL gr li tr st n r1) 1001 i (by omega)).1
                            rw [hTT] at hT1
                            have hbl : ∀ j, j < i + 1 → mL gr li tr st n r1 ((prs (mL gr li tr st n r1) 1001).getD j 0) < BIG := fun j hj => (prs_mem _ 1001 j (by omega)).2
                            refine g_aload_n C 4 dX7_shareAll_108 rfl rfl rfl (q := 109) ?_
                            refine g_get C 0 9 dX7_shareAll_109 (Cn := RX7) (T := TX7) (N := 14) (fun _ h => List.mem_cons_of_mem _ (List.mem_append_right _ h)) rfl rfl (by decide) (List.mem_cons_of_mem _ (List.mem_append_left _ (List.mem_of_getElem? (i := 6) rfl))) rfl (q := 112) rfl ?_
                            refine g_iload C 0 dX7_shareAll_112 rfl rfl (q := 114) ?_
                            refine g_iald C 7 0 dX7_shareAll_114 rfl rfl (vp_in_nI (by omega) (by decide)) (q := 115) rfl ?_
                            refine g_eqi C (y := p1 i) (by rw [nI_clamp (by omega)]) ?_
                            refine g_eqi C (y := nI T) (hd.1) ?_
                            refine g_iload_n C 1 dX7_shareAll_115 rfl rfl rfl (q := 116) ?_
                            refine g_icmp_gt C (t := 222) dX7_shareAll_116 (by decide) (q := 119) rfl (fun c_116 => ?_) (fun c_116 => ?_)
                            · rw [nI_ltI (by omega) (by omega)] at c_116
                              refine g_iinc C (z := 1) (nI (q + 1)) [(3, .int (nI (q + 1))), (4, .int (nI i)), (2, .int (nI r1)), (1, .int (nI m)), (0, .ref (b 0))] dX7_shareAll_222 rfl (nI_add q 1) (by decide) rfl (q := 225) rfl ?_
                              refine g_goto C (q := 61) dX7_shareAll_225 (by decide) ?_
                              refine g_locs C [(3, .int (nI (q + 1))), (2, .int (nI r1)), (1, .int (nI m)), (0, .ref (b 0))] [0, 2, 3, 4] rfl ?_
                              exact ih_61 (q + 1) f3 g3 (by first | assumption | omega) (SHfrom_keep (by omega) hS2 h1 h2) (SHrow_next (by omega) hR h1 h2 (by rw [SHs_end (M := mL gr li tr st n r1) (i := i) (by omega) (by first | exact Or.inl (by omega) | (right; rw [hTT]; omega))]; exact hc)) (by omega)
                            · rw [nI_ltI (by omega) (by omega)] at c_116
                              refine g_aload_n C 4 dX7_shareAll_119 rfl rfl rfl (q := 120) ?_
                              refine g_get C 0 12 dX7_shareAll_120 (Cn := RX7) (T := TX7) (N := 14) (fun _ h => List.mem_cons_of_mem _ (List.mem_append_right _ h)) rfl rfl (by decide) (List.mem_cons_of_mem _ (List.mem_append_left _ (List.mem_of_getElem? (i := 1) rfl))) rfl (q := 123) rfl ?_
                              refine g_sipush C (nI 1001) dX7_shareAll_123 (by decide) (q := 126) rfl ?_
                              refine g_iload_n C 2 dX7_shareAll_126 rfl rfl rfl (q := 127) ?_
                              refine g_iconst C (nI 1) dX7_shareAll_127 (by decide) (q := 128) rfl ?_
                              refine g_iadd C dX7_shareAll_128 (q := 129) rfl ?_
                              refine g_eqi C (y := nI (r1 + 1)) (nI_add r1 1) ?_
                              refine g_imul C dX7_shareAll_129 (q := 130) rfl ?_
                              refine g_eqi C (y := nI (1001 * (r1 + 1))) (pk_mul 1001 (r1 + 1)) ?_
                              refine g_iload_n C 1 dX7_shareAll_130 rfl rfl rfl (q := 131) ?_
                              refine g_iadd C dX7_shareAll_131 (q := 132) rfl ?_
                              refine g_eqi C (y := nI ((1001 * (r1 + 1)) + q)) (nI_add (1001 * (r1 + 1)) q) ?_
                              refine g_aload_n C 4 dX7_shareAll_132 rfl rfl rfl (q := 133) ?_
                              refine g_get C 0 9 dX7_shareAll_133 (Cn := RX7) (T := TX7) (N := 14) (fun _ h => List.mem_cons_of_mem _ (List.mem_append_right _ h)) rfl rfl (by decide) (List.mem_cons_of_mem _ (List.mem_append_left _ (List.mem_of_getElem? (i := 6) rfl))) rfl (q := 136) rfl ?_
                              refine g_iload C 0 dX7_shareAll_136 rfl rfl (q := 138) ?_
                              refine g_iald C 7 0 dX7_shareAll_138 rfl rfl (vp_in_nI (by omega) (by decide)) (q := 139) rfl ?_
                              refine g_eqi C (y := p1 i) (by rw [nI_clamp (by omega)]) ?_
                              refine g_eqi C (y := nI T) (hd.1) ?_
                              refine g_isub C dX7_shareAll_139 (q := 140) rfl ?_
                              refine g_eqi C (y := nI (((1001 * (r1 + 1)) + q) - T)) (pk_sub (by omega)) ?_
                              refine g_iald C 9 0 dX7_shareAll_140 rfl rfl (vp_in_nI (by omega) (by decide)) (q := 141) rfl ?_
                              refine g_eqi C (y := f3 (((1001 * (r1 + 1)) + q) - T)) (by rw [nI_clamp (by omega)]) ?_
                              refine g_eqi C (y := jN (SV (mL gr li tr st n) m (m - 1 - r1) (q - T))) (by have e := (hS2 (r1 + 1) (Nat.le_refl _) (by omega) (q - T) (by omega)).1; rw [show 1001 * (r1 + 1) + (q - T) = 1001 * (r1 + 1) + q - T by omega, show m - (r1 + 1) = m - 1 - r1 by omega] at e; rw [h1 _ (by omega)]; exact e) ?_
                              refine g_istore C [(5, .int (jN (SV (mL gr li tr st n) m (m - 1 - r1) (q - T)))), (4, .int (nI i)), (3, .int (nI q)), (2, .int (nI r1)), (1, .int (nI m)), (0, .ref (b 0))] dX7_shareAll_141 (by decide) rfl (q := 143) rfl ?_
                              refine g_iload C 0 dX7_shareAll_143 rfl rfl (q := 145) ?_
                              refine g_ldc C (v := (100000000)) dX7_shareAll_145 (List.mem_cons_of_mem _ (List.mem_append_left _ (List.mem_of_getElem? (i := 2) rfl))) (q := 147) rfl ?_
                              refine g_icmp_ge C (t := 216) dX7_shareAll_147 (by decide) (q := 150) rfl (fun c_147 => ?_) (fun c_147 => ?_)
                              · refine g_iinc C (z := 1) (nI (i + 1)) [(4, .int (nI (i + 1))), (5, .int (jN (SV (mL gr li tr st n) m (m - 1 - r1) (q - T)))), (3, .int (nI q)), (2, .int (nI r1)), (1, .int (nI m)), (0, .ref (b 0))] dX7_shareAll_216 rfl (nI_add i 1) (by decide) rfl (q := 219) rfl ?_
                                refine g_goto C (q := 99) dX7_shareAll_219 (by decide) ?_
                                refine g_locs C [(4, .int (nI (i + 1))), (3, .int (nI q)), (2, .int (nI r1)), (1, .int (nI m)), (0, .ref (b 0))] [0, 2, 3, 4, 5] rfl ?_
                                exact ih_99 (i + 1) f3 g3 (by first | assumption | omega) (by first | exact cell_yes hrg hsv hbl hTT (by omega) c_147 c_172 | exact cell_no2 hrg hsv hbl hTT hc c_147 c_172 | exact cell_no1 hsv hTT hc c_147) (by first | exact h1 | exact (fun x hx => (pk_un hx).trans (h1 x hx))) (by first | exact h2 | exact (fun x hx => (pk_un hx).trans (h2 x hx))) (by omega)
                              · refine g_aload_n C 5 dX7_shareAll_150 rfl rfl rfl (q := 151) ?_
                                refine g_get C 0 10 dX7_shareAll_151 (Cn := RX7) (T := TX7) (N := 14) (fun _ h => List.mem_cons_of_mem _ (List.mem_append_right _ h)) rfl rfl (by decide) (List.mem_cons_of_mem _ (List.mem_append_left _ (List.mem_of_getElem? (i := 7) rfl))) rfl (q := 154) rfl ?_
                                refine g_iload C 1 dX7_shareAll_154 rfl rfl (q := 156) ?_
                                refine g_iald C 8 0 dX7_shareAll_156 rfl rfl (vp_in_nI (by omega) (by decide)) (q := 157) rfl ?_
                                refine g_eqi C (y := p2 i) (by rw [nI_clamp (by omega)]) ?_
                                refine g_eqi C (y := jN (mL gr li tr st n r1 T)) (hd.2) ?_
                                refine g_iload C 0 dX7_shareAll_157 rfl rfl (q := 159) ?_
                                refine g_iadd C dX7_shareAll_159 (q := 160) rfl ?_
                                refine g_eqi C (y := jN (mL gr li tr st n r1 T + SV (mL gr li tr st n) m (m - 1 - r1) (q - T))) (jN_add _ _) ?_
                                refine g_aload_n C 5 dX7_shareAll_160 rfl rfl rfl (q := 161) ?_
                                refine g_get C 0 12 dX7_shareAll_161 (Cn := RX7) (T := TX7) (N := 14) (fun _ h => List.mem_cons_of_mem _ (List.mem_append_right _ h)) rfl rfl (by decide) (List.mem_cons_of_mem _ (List.mem_append_left _ (List.mem_of_getElem? (i := 1) rfl))) rfl (q := 164) rfl ?_
                                refine g_sipush C (nI 1001) dX7_shareAll_164 (by decide) (q := 167) rfl ?_
                                refine g_iload_n C 3 dX7_shareAll_167 rfl rfl rfl (q := 168) ?_
                                refine g_imul C dX7_shareAll_168 (q := 169) rfl ?_
                                refine g_eqi C (y := nI (1001 * r1)) (pk_mul 1001 r1) ?_
                                refine g_iload_n C 2 dX7_shareAll_169 rfl rfl rfl (q := 170) ?_
                                refine g_iadd C dX7_shareAll_170 (q := 171) rfl ?_
                                refine g_eqi C (y := nI ((1001 * r1) + q)) (nI_add (1001 * r1) q) ?_
                                refine g_iald C 9 0 dX7_shareAll_171 rfl rfl (vp_in_nI (by omega) (by decide)) (q := 172) rfl ?_
                                refine g_eqi C (y := f3 ((1001 * r1) + q)) (by rw [nI_clamp (by omega)]) ?_
                                refine g_eqi C (y := jN (SHs (mL gr li tr st n r1) (SV (mL gr li tr st n) m (m - 1 - r1)) (prs (mL gr li tr st n r1) 1001) q i).1) (hc.1) ?_
                                refine g_icmp_ge C (t := 216) dX7_shareAll_172 (by decide) (q := 175) rfl (fun c_172 => ?_) (fun c_172 => ?_)
                                · refine g_iinc C (z := 1) (nI (i + 1)) [(4, .int (nI (i + 1))), (5, .int (jN (SV (mL gr li tr st n) m (m - 1 - r1) (q - T)))), (3, .int (nI q)), (2, .int (nI r1)), (1, .int (nI m)), (0, .ref (b 0))] dX7_shareAll_216 rfl (nI_add i 1) (by decide) rfl (q := 219) rfl ?_
                                  refine g_goto C (q := 99) dX7_shareAll_219 (by decide) ?_
                                  refine g_locs C [(4, .int (nI (i + 1))), (3, .int (nI q)), (2, .int (nI r1)), (1, .int (nI m)), (0, .ref (b 0))] [0, 2, 3, 4, 5] rfl ?_
                                  exact ih_99 (i + 1) f3 g3 (by first | assumption | omega) (by first | exact cell_yes hrg hsv hbl hTT (by omega) c_147 c_172 | exact cell_no2 hrg hsv hbl hTT hc c_147 c_172 | exact cell_no1 hsv hTT hc c_147) (by first | exact h1 | exact (fun x hx => (pk_un hx).trans (h1 x hx))) (by first | exact h2 | exact (fun x hx => (pk_un hx).trans (h2 x hx))) (by omega)
                                · refine g_aload_n C 5 dX7_shareAll_175 rfl rfl rfl (q := 176) ?_
                                  refine g_get C 0 12 dX7_shareAll_176 (Cn := RX7) (T := TX7) (N := 14) (fun _ h => List.mem_cons_of_mem _ (List.mem_append_right _ h)) rfl rfl (by decide) (List.mem_cons_of_mem _ (List.mem_append_left _ (List.mem_of_getElem? (i := 1) rfl))) rfl (q := 179) rfl ?_
                                  refine g_sipush C (nI 1001) dX7_shareAll_179 (by decide) (q := 182) rfl ?_
                                  refine g_iload_n C 3 dX7_shareAll_182 rfl rfl rfl (q := 183) ?_
                                  refine g_imul C dX7_shareAll_183 (q := 184) rfl ?_
                                  refine g_eqi C (y := nI (1001 * r1)) (pk_mul 1001 r1) ?_
                                  refine g_iload_n C 2 dX7_shareAll_184 rfl rfl rfl (q := 185) ?_
                                  refine g_iadd C dX7_shareAll_185 (q := 186) rfl ?_
                                  refine g_eqi C (y := nI ((1001 * r1) + q)) (nI_add (1001 * r1) q) ?_
                                  refine g_aload_n C 5 dX7_shareAll_186 rfl rfl rfl (q := 187) ?_
                                  refine g_get C 0 10 dX7_shareAll_187 (Cn := RX7) (T := TX7) (N := 14) (fun _ h => List.mem_cons_of_mem _ (List.mem_append_right _ h)) rfl rfl (by decide) (List.mem_cons_of_mem _ (List.mem_append_left _ (List.mem_of_getElem? (i := 7) rfl))) rfl (q := 190) rfl ?_
                                  refine g_iload C 1 dX7_shareAll_190 rfl rfl (q := 192) ?_
                                  refine g_iald C 8 0 dX7_shareAll_192 rfl rfl (vp_in_nI (by omega) (by decide)) (q := 193) rfl ?_
                                  refine g_eqi C (y := p2 i) (by rw [nI_clamp (by omega)]) ?_
                                  refine g_eqi C (y := jN (mL gr li tr st n r1 T)) (hd.2) ?_
                                  refine g_iload C 0 dX7_shareAll_193 rfl rfl (q := 195) ?_
                                  refine g_iadd C dX7_shareAll_195 (q := 196) rfl ?_
                                  refine g_eqi C (y := jN (mL gr li tr st n r1 T + SV (mL gr li tr st n) m (m - 1 - r1) (q - T))) (jN_add _ _) ?_
                                  refine g_iast C 9 0 (wM cI cJ cZ b (nI n) gr li st tr (nI t) sd g1 (nI np) p1 p2 (nI 1) (upd f3 ((1001 * r1) + q) (jN (mL gr li tr st n r1 T + SV (mL gr li tr st n) m (m - 1 - r1) (q - T)))) g3) dX7_shareAll_196 rfl rfl (vp_in_nI (by omega) (by decide)) (by rw [nI_clamp (by omega)]; rfl) (q := 197) rfl ?_
                                  refine g_aload_n C 5 dX7_shareAll_197 rfl rfl rfl (q := 198) ?_
                                  refine g_get C 0 13 dX7_shareAll_198 (Cn := RX7) (T := TX7) (N := 14) (fun _ h => List.mem_cons_of_mem _ (List.mem_append_right _ h)) rfl rfl (by decide) (List.mem_cons_of_mem _ (List.mem_append_left _ (List.mem_of_getElem? (i := 3) rfl))) rfl (q := 201) rfl ?_
                                  refine g_sipush C (nI 1001) dX7_shareAll_201 (by decide) (q := 204) rfl ?_
                                  refine g_iload_n C 3 dX7_shareAll_204 rfl rfl rfl (q := 205) ?_
                                  refine g_imul C dX7_shareAll_205 (q := 206) rfl ?_
                                  refine g_eqi C (y := nI (1001 * r1)) (pk_mul 1001 r1) ?_
                                  refine g_iload_n C 2 dX7_shareAll_206 rfl rfl rfl (q := 207) ?_
                                  refine g_iadd C dX7_shareAll_207 (q := 208) rfl ?_
                                  refine g_eqi C (y := nI ((1001 * r1) + q)) (nI_add (1001 * r1) q) ?_
                                  refine g_aload_n C 5 dX7_shareAll_208 rfl rfl rfl (q := 209) ?_
                                  refine g_get C 0 9 dX7_shareAll_209 (Cn := RX7) (T := TX7) (N := 14) (fun _ h => List.mem_cons_of_mem _ (List.mem_append_right _ h)) rfl rfl (by decide) (List.mem_cons_of_mem _ (List.mem_append_left _ (List.mem_of_getElem? (i := 6) rfl))) rfl (q := 212) rfl ?_
                                  refine g_iload C 1 dX7_shareAll_212 rfl rfl (q := 214) ?_
                                  refine g_iald C 7 0 dX7_shareAll_214 rfl rfl (vp_in_nI (by omega) (by decide)) (q := 215) rfl ?_
                                  refine g_eqi C (y := p1 i) (by rw [nI_clamp (by omega)]) ?_
                                  refine g_eqi C (y := nI T) (hd.1) ?_
                                  refine g_iast C 10 0 (wM cI cJ cZ b (nI n) gr li st tr (nI t) sd g1 (nI np) p1 p2 (nI 1) (upd f3 ((1001 * r1) + q) (jN (mL gr li tr st n r1 T + SV (mL gr li tr st n) m (m - 1 - r1) (q - T)))) (upd g3 ((1001 * r1) + q) (nI T))) dX7_shareAll_215 rfl rfl (vp_in_nI (by omega) (by decide)) (by rw [nI_clamp (by omega)]; rfl) (q := 216) rfl ?_
                                  refine g_iinc C (z := 1) (nI (i + 1)) [(4, .int (nI (i + 1))), (5, .int (jN (SV (mL gr li tr st n) m (m - 1 - r1) (q - T)))), (3, .int (nI q)), (2, .int (nI r1)), (1, .int (nI m)), (0, .ref (b 0))] dX7_shareAll_216 rfl (nI_add i 1) (by decide) rfl (q := 219) rfl ?_
                                  refine g_goto C (q := 99) dX7_shareAll_219 (by decide) ?_
                                  refine g_locs C [(4, .int (nI (i + 1))), (3, .int (nI q)), (2, .int (nI r1)), (1, .int (nI m)), (0, .ref (b 0))] [0, 2, 3, 4, 5] rfl ?_
                                  exact ih_99 (i + 1) (upd f3 ((1001 * r1) + q) (jN (mL gr li tr st n r1 T + SV (mL gr li tr st n) m (m - 1 - r1) (q - T)))) (upd g3 ((1001 * r1) + q) (nI T)) (by first | assumption | omega) (by first | exact cell_yes hrg hsv hbl hTT (by omega) c_147 c_172 | exact cell_no2 hrg hsv hbl hTT hc c_147 c_172 | exact cell_no1 hsv hTT hc c_147) (by first | exact h1 | exact (fun x hx => (pk_un hx).trans (h1 x hx))) (by first | exact h2 | exact (fun x hx => (pk_un hx).trans (h2 x hx))) (by omega)
                      exact lp_99 _ 0 (upd f2 ((1001 * r1) + q) (100000000)) (upd g2 ((1001 * r1) + q) (-1000000)) (by first | assumption | omega) ⟨pk_us.trans jN_big.symm, pk_us.trans (if_pos rfl).symm⟩ (fun x hx => pk_un hx) (fun x hx => pk_un hx) (Nat.lt_succ_self _)
                exact lp_61 _ 0 f g (by first | assumption | omega) hS (fun t h => absurd h (Nat.not_lt_zero _)) (Nat.lt_succ_self _)
          exact lp_50 _ m lea pa pt pp f tt (by first | assumption | omega) (fun l h1 h2 t ht => ⟨by obtain rfl : l = m := (by omega); rw [hf t (by omega), Nat.sub_self]; rfl, fun h => by omega⟩) (Nat.lt_succ_self _)
        · rw [nI_leI (by omega) (by omega)] at c_24
          refine g_aload_n C 2 dX7_shareAll_27 rfl rfl rfl (q := 28) ?_
          refine g_get C 0 12 dX7_shareAll_28 (Cn := RX7) (T := TX7) (N := 14) (fun _ h => List.mem_cons_of_mem _ (List.mem_append_right _ h)) rfl rfl (by decide) (List.mem_cons_of_mem _ (List.mem_append_left _ (List.mem_of_getElem? (i := 1) rfl))) rfl (q := 31) rfl ?_
          refine g_sipush C (nI 1001) dX7_shareAll_31 (by decide) (q := 34) rfl ?_
          refine g_iload_n C 1 dX7_shareAll_34 rfl rfl rfl (q := 35) ?_
          refine g_imul C dX7_shareAll_35 (q := 36) rfl ?_
          refine g_eqi C (y := nI (1001 * m)) (pk_mul 1001 m) ?_
          refine g_iload_n C 0 dX7_shareAll_36 rfl rfl rfl (q := 37) ?_
          refine g_iadd C dX7_shareAll_37 (q := 38) rfl ?_
          refine g_eqi C (y := nI ((1001 * m) + q)) (nI_add (1001 * m) q) ?_
          refine g_iconst C (nI 0) dX7_shareAll_38 (by decide) (q := 39) rfl ?_
          refine g_iast C 9 0 (wM cI cJ cZ b (nI n) gr li st tr (nI t) sd lea pa pt pp (nI 1) (upd f ((1001 * m) + q) (nI 0)) tt) dX7_shareAll_39 rfl rfl (vp_in_nI (by omega) (by decide)) (by rw [nI_clamp (by omega)]; rfl) (q := 40) rfl ?_
          refine g_iinc C (z := 0) (nI (q + 1)) [(2, .int (nI (q + 1))), (1, .int (nI m)), (0, .ref (b 0))] dX7_shareAll_40 rfl (nI_add q 1) (by decide) rfl (q := 43) rfl ?_
          refine g_goto C (q := 20) dX7_shareAll_43 (by decide) ?_
          exact ih_20 (q + 1) (upd f ((1001 * m) + q) (nI 0)) (by first | assumption | omega) (fun s hs => by by_cases e : s = q; (subst e; exact pk_us); (rw [pk_un (by omega)]; exact hf s (by omega))) (by omega)
    exact lp_20 _ 0 sh (by first | assumption | omega) (fun s h => absurd h (Nat.not_lt_zero _)) (Nat.lt_succ_self _)
  · obtain rfl : su = nI 1 := by rcases hsu with h | h; (rw [h] at c_4; exact absurd rfl c_4); (exact h.1)
    exact hret (lea, pa, pt, pp, sh, tt) 7 _ dX7_shareAll_7 ((hsu.resolve_left (by decide)).2)
set_option maxHeartbeats 4000000 in
set_option maxRecDepth 100000 in
theorem c_X7_share (l : Launch) (D : va_G) (cI cJ cZ : ClassId) (b : Nat → Nat) (n : Nat) (gr li st tr : Nat → Int32) (t : Nat) (sd lea : Nat → Int32) (pa : Int32) (pt pp : Nat → Int32) (su : Int32) (sh tt : Nat → Int32) (z : Int32) (sp : Nat → Int32) (m : Nat) (hL : LInv st sp n m) (hT : TrOK tr) (hsu : su = nI 0 ∨ (su = nI 1 ∧ SHOK (mL gr li tr st n) m sh tt)) : Met l yX7_share wsX7_share { frames := 6, cells := 0, slots := 0, locals := 150 } (gPc D (tyT cI cJ cZ) (wB b) FT (wM cI cJ cZ b (nI n) gr li st tr (nI t) sd lea pa pt pp su sh tt) [.ref (b 0), .int z]) (va_Qi (fun (r : Int32) (u : (Nat → Int32) × Int32 × (Nat → Int32) × (Nat → Int32) × Int32 × (Nat → Int32) × (Nat → Int32)) => r = aShare (SV (mL gr li tr st n) m m) z ∧ (u.2.2.2.2.1 = nI 0 ∨ (u.2.2.2.2.1 = nI 1 ∧ SHOK (mL gr li tr st n) m u.2.2.2.2.2.1 u.2.2.2.2.2.2))) (fun u tS => va_P D vwCl ((fun (u : (Nat → Int32) × Int32 × (Nat → Int32) × (Nat → Int32) × Int32 × (Nat → Int32) × (Nat → Int32)) => wM cI cJ cZ b (nI n) gr li st tr (nI t) sd u.1 u.2.1 u.2.2.1 u.2.2.2.1 u.2.2.2.2.1 u.2.2.2.2.2.1 u.2.2.2.2.2.2) u) tS.heap ∧ va_D (wB b) ((fun (u : (Nat → Int32) × Int32 × (Nat → Int32) × (Nat → Int32) × Int32 × (Nat → Int32) × (Nat → Int32)) => wM cI cJ cZ b (nI n) gr li st tr (nI t) sd u.1 u.2.1 u.2.2.1 u.2.2.2.1 u.2.2.2.2.1 u.2.2.2.2.2.1 u.2.2.2.2.2.2) u)) (wB b)) 0 0 (wB b) := by
  refine gs_qi (cc := cX7_share) (nL := 2) (ty := .int) (W' := fun (u : (Nat → Int32) × Int32 × (Nat → Int32) × (Nat → Int32) × Int32 × (Nat → Int32) × (Nat → Int32)) => wM cI cJ cZ b (nI n) gr li st tr (nI t) sd u.1 u.2.1 u.2.2.1 u.2.2.2.1 u.2.2.2.2.1 u.2.2.2.2.2.1 u.2.2.2.2.2.2) (by decide) rfl (Nat.le_of_ble_eq_true rfl) (fun G C hret => ?_)
  show G 0 0 (wM cI cJ cZ b (nI n) gr li st tr (nI t) sd lea pa pt pp su sh tt) [(0, .ref (b 0)), (1, .int z)] 0 []
  have hn := hL.2.1
  have hmn := hL.m_le
  have hm1 := hL.m_pos
  have hcm := hL.2.2.2.2.2.1
  refine g_iload_n C 1 dX7_share_0 rfl rfl rfl (q := 1) ?_
  refine g_iconst C (nI 0) dX7_share_1 (by decide) (q := 2) rfl ?_
  refine g_sipush C (nI 1000) dX7_share_2 (by decide) (q := 5) rfl ?_
  refine gcS_si C (n := 3) (As := [.int z, .int (nI 0), .int (nI 1000)]) (st := []) (fun h => h) dX7_share_5 gX7_share_X7_in (c_X7_in l D cI cJ cZ b n gr li st tr t sd lea pa pt pp su sh tt z (nI 0) (nI 1000)) rfl rfl rfl (by decide +kernel) ⟨Nat.le_of_ble_eq_true rfl, Nat.le_of_ble_eq_true rfl⟩ rfl rfl (Nat.le_of_ble_eq_true rfl) FT_b FT_h ⟨Nat.le_of_ble_eq_true rfl, Nat.le_of_ble_eq_true rfl⟩ (q := 8) rfl (fun r_5 h_5 => ?_)
  subst h_5
  refine g_eqi C (y := if tmP z then nI 1 else nI 0) (ite_cg in_tm) ?_
  refine g_if_ne C (t := 14) dX7_share_8 (by decide) (q := 11) rfl (fun c_8 => ?_) (fun c_8 => ?_)
  · replace c_8 := ite_n0 c_8
    have hc8 := c_8
    obtain ⟨z1, hz, rfl⟩ := tmP_of c_8
    refine g_aload_n C 0 dX7_share_14 rfl rfl rfl (q := 15) ?_
    refine gcV_qv C (n := 0) (As := []) (st := []) 0 (fun h => h) (fun _ h => h) dX7_share_15 rfl rfl gX7_share_X7_shareAll (c_X7_shareAll l D cI cJ cZ b n gr li st tr t sd lea pa pt pp su sh tt sp m hL hT hsu) rfl rfl rfl (by decide +kernel) ⟨Nat.le_of_ble_eq_true rfl, Nat.le_of_ble_eq_true rfl⟩ rfl rfl (Nat.le_of_ble_eq_true rfl) FT_b FT_h ⟨Nat.le_of_ble_eq_true rfl, Nat.le_of_ble_eq_true rfl⟩ (q := 18) rfl (fun u_15 h_15 => ?_)
    have h_15 : SHOK (mL gr li tr st n) m u_15.2.2.2.2.1 u_15.2.2.2.2.2 := h_15
    show G 0 0 (wM cI cJ cZ b (nI n) gr li st tr (nI t) sd u_15.1 u_15.2.1 u_15.2.2.1 u_15.2.2.2.1 (nI 1) u_15.2.2.2.2.1 u_15.2.2.2.2.2) [(0, .ref (b 0)), (1, .int (nI z1))] 18 []
    obtain ⟨v1, v2, v3, v4, v5, v6⟩ := u_15
    have h_15 : SHOK (mL gr li tr st n) m v5 v6 := h_15
    have hsin : ∀ t, inR (SV (mL gr li tr st n) m m t) := SV_in (mL_MB hT hL) (by show posOf st m n ≤ 16; rw [hL.e]; exact hn) (Nat.le_refl _)
    refine g_aload_n C 0 dX7_share_18 rfl rfl rfl (q := 19) ?_
    refine g_get C 0 12 dX7_share_19 (Cn := RX7) (T := TX7) (N := 14) (fun _ h => List.mem_cons_of_mem _ (List.mem_append_right _ h)) rfl rfl (by decide) (List.mem_cons_of_mem _ (List.mem_append_left _ (List.mem_of_getElem? (i := 0) rfl))) rfl (q := 22) rfl ?_
    refine g_iload_n C 1 dX7_share_22 rfl rfl rfl (q := 23) ?_
    refine g_iald C 9 0 dX7_share_23 rfl rfl (vp_in_nI (by omega) (by decide)) (q := 24) rfl ?_
    refine g_eqi C (y := v5 z1) (by rw [nI_clamp (by omega)]) ?_
    refine g_eqi C (y := jN (SV (mL gr li tr st n) m m z1)) (by have e := (h_15 0 (Nat.zero_le _) z1 (by omega)).1; rw [show 1001 * 0 + z1 = z1 by omega] at e; exact e) ?_
    refine g_ldc C (v := (100000000)) dX7_share_24 (List.mem_cons_of_mem _ (List.mem_append_left _ (List.mem_of_getElem? (i := 1) rfl))) (q := 26) rfl ?_
    refine g_icmp_ge C (t := 38) dX7_share_26 (by decide) (q := 29) rfl (fun c_26 => ?_) (fun c_26 => ?_)
    · refine g_ldc C (v := (-1000000)) dX7_share_38 (List.mem_cons_of_mem _ (List.mem_append_left _ (List.mem_of_getElem? (i := 2) rfl))) (q := 40) rfl ?_
      exact hret _ (v1, v2, v3, v4, nI 1, v5, v6) 40 _ dX7_share_40 rfl (⟨by rw [aShare, if_pos hc8, nI_clamp (by omega)]; first | exact (if_pos (inR_lt (hsin _) c_26)).symm | exact (if_neg (fun h => Int.ne_of_lt h ((jbig (hsin _)).mp c_26))).symm, Or.inr ⟨rfl, h_15⟩⟩)
    · refine g_aload_n C 0 dX7_share_29 rfl rfl rfl (q := 30) ?_
      refine g_get C 0 12 dX7_share_30 (Cn := RX7) (T := TX7) (N := 14) (fun _ h => List.mem_cons_of_mem _ (List.mem_append_right _ h)) rfl rfl (by decide) (List.mem_cons_of_mem _ (List.mem_append_left _ (List.mem_of_getElem? (i := 0) rfl))) rfl (q := 33) rfl ?_
      refine g_iload_n C 1 dX7_share_33 rfl rfl rfl (q := 34) ?_
      refine g_iald C 9 0 dX7_share_34 rfl rfl (vp_in_nI (by omega) (by decide)) (q := 35) rfl ?_
      refine g_eqi C (y := v5 z1) (by rw [nI_clamp (by omega)]) ?_
      refine g_eqi C (y := jN (SV (mL gr li tr st n) m m z1)) (by have e := (h_15 0 (Nat.zero_le _) z1 (by omega)).1; rw [show 1001 * 0 + z1 = z1 by omega] at e; exact e) ?_
      refine g_goto C (q := 40) dX7_share_35 (by decide) ?_
      exact hret _ (v1, v2, v3, v4, nI 1, v5, v6) 40 _ dX7_share_40 rfl (⟨by rw [aShare, if_pos hc8, nI_clamp (by omega)]; first | exact (if_pos (inR_lt (hsin _) c_26)).symm | exact (if_neg (fun h => Int.ne_of_lt h ((jbig (hsin _)).mp c_26))).symm, Or.inr ⟨rfl, h_15⟩⟩)
  · replace c_8 := ite_e0 c_8
    refine g_bipush C (-2) dX7_share_11 (by decide) (q := 13) rfl ?_
    exact hret _ (lea, pa, pt, pp, su, sh, tt) 13 _ dX7_share_13 rfl (⟨by rw [aShare, if_neg c_8], hsu⟩)
set_option maxHeartbeats 4000000 in
set_option maxRecDepth 100000 in
theorem c_X7_needs (l : Launch) (D : va_G) (cI cJ cZ : ClassId) (b : Nat → Nat) (n : Nat) (gr li st tr : Nat → Int32) (t : Nat) (sd lea : Nat → Int32) (pa : Int32) (pt pp : Nat → Int32) (su : Int32) (sh tt : Nat → Int32) (p : Int32) (sp : Nat → Int32) (m : Nat) (hL : LInv st sp n m) (hT : TrOK tr) (hsu : su = nI 0 ∨ (su = nI 1 ∧ SHOK (mL gr li tr st n) m sh tt)) : Met l yX7_needs wsX7_needs { frames := 6, cells := 0, slots := 0, locals := 150 } (gPc D (tyT cI cJ cZ) (wB b) FT (wM cI cJ cZ b (nI n) gr li st tr (nI t) sd lea pa pt pp su sh tt) [.ref (b 0), .int p]) (va_Qi (fun (r : Int32) (u : (Nat → Int32) × Int32 × (Nat → Int32) × (Nat → Int32) × Int32 × (Nat → Int32) × (Nat → Int32)) => r = nd (SV (mL gr li tr st n) m m) p 1001 0 ∧ (u.2.2.2.2.1 = nI 0 ∨ (u.2.2.2.2.1 = nI 1 ∧ SHOK (mL gr li tr st n) m u.2.2.2.2.2.1 u.2.2.2.2.2.2))) (fun u tS => va_P D vwCl ((fun (u : (Nat → Int32) × Int32 × (Nat → Int32) × (Nat → Int32) × Int32 × (Nat → Int32) × (Nat → Int32)) => wM cI cJ cZ b (nI n) gr li st tr (nI t) sd u.1 u.2.1 u.2.2.1 u.2.2.2.1 u.2.2.2.2.1 u.2.2.2.2.2.1 u.2.2.2.2.2.2) u) tS.heap ∧ va_D (wB b) ((fun (u : (Nat → Int32) × Int32 × (Nat → Int32) × (Nat → Int32) × Int32 × (Nat → Int32) × (Nat → Int32)) => wM cI cJ cZ b (nI n) gr li st tr (nI t) sd u.1 u.2.1 u.2.2.1 u.2.2.2.1 u.2.2.2.2.1 u.2.2.2.2.2.1 u.2.2.2.2.2.2) u)) (wB b)) 0 0 (wB b) := by
  refine gs_qi (cc := cX7_needs) (nL := 3) (ty := .int) (W' := fun (u : (Nat → Int32) × Int32 × (Nat → Int32) × (Nat → Int32) × Int32 × (Nat → Int32) × (Nat → Int32)) => wM cI cJ cZ b (nI n) gr li st tr (nI t) sd u.1 u.2.1 u.2.2.1 u.2.2.2.1 u.2.2.2.2.1 u.2.2.2.2.2.1 u.2.2.2.2.2.2) (by decide) rfl (Nat.le_of_ble_eq_true rfl) (fun G C hret => ?_)
  show G 0 0 (wM cI cJ cZ b (nI n) gr li st tr (nI t) sd lea pa pt pp su sh tt) [(0, .ref (b 0)), (1, .int p)] 0 []
  have hn := hL.2.1
  have hmn := hL.m_le
  have hm1 := hL.m_pos
  have hcm := hL.2.2.2.2.2.1
  refine g_aload_n C 0 dX7_needs_0 rfl rfl rfl (q := 1) ?_
  refine gcV_qv C (n := 0) (As := []) (st := []) 0 (fun h => h) (fun _ h => h) dX7_needs_1 rfl rfl gX7_needs_X7_shareAll (c_X7_shareAll l D cI cJ cZ b n gr li st tr t sd lea pa pt pp su sh tt sp m hL hT hsu) rfl rfl rfl (by decide +kernel) ⟨Nat.le_of_ble_eq_true rfl, Nat.le_of_ble_eq_true rfl⟩ rfl rfl (Nat.le_of_ble_eq_true rfl) FT_b FT_h ⟨Nat.le_of_ble_eq_true rfl, Nat.le_of_ble_eq_true rfl⟩ (q := 4) rfl (fun u_1 h_1 => ?_)
  have h_1 : SHOK (mL gr li tr st n) m u_1.2.2.2.2.1 u_1.2.2.2.2.2 := h_1
  show G 0 0 (wM cI cJ cZ b (nI n) gr li st tr (nI t) sd u_1.1 u_1.2.1 u_1.2.2.1 u_1.2.2.2.1 (nI 1) u_1.2.2.2.2.1 u_1.2.2.2.2.2) [(0, .ref (b 0)), (1, .int p)] 4 []
  obtain ⟨v1, v2, v3, v4, v5, v6⟩ := u_1
  have h_1 : SHOK (mL gr li tr st n) m v5 v6 := h_1
  have hsin : ∀ t, inR (SV (mL gr li tr st n) m m t) := SV_in (mL_MB hT hL) (by show posOf st m n ≤ 16; rw [hL.e]; exact hn) (Nat.le_refl _)
  refine g_iconst C (nI 0) dX7_needs_4 (by decide) (q := 5) rfl ?_
  refine g_istore_n C [(2, .int (nI 0)), (0, .ref (b 0)), (1, .int p)] dX7_needs_5 rfl (by decide) rfl (q := 6) rfl ?_
  have lp_6 : ∀ (N : Nat) (q : Nat), (q ≤ 1001) → (∀ s, s < q → ¬ (SV (mL gr li tr st n) m m s < BIG ∧ jN (SV (mL gr li tr st n) m m s) ≤ p)) → 1001 - q < N → G 0 0 (wM cI cJ cZ b (nI n) gr li st tr (nI t) sd v1 v2 v3 v4 (nI 1) v5 v6) [(2, .int (nI q)), (0, .ref (b 0)), (1, .int p)] 6 [] := by
    intro N
    induction N with
    | zero => intro q _ _ hmu; exact absurd hmu (Nat.not_lt_zero _)
    | succ N ih_6 =>
      intro q hq hz hmu
      refine g_iload_n C 0 dX7_needs_6 rfl rfl rfl (q := 7) ?_
      refine g_sipush C (nI 1001) dX7_needs_7 (by decide) (q := 10) rfl ?_
      refine g_icmp_ge C (t := 42) dX7_needs_10 (by decide) (q := 13) rfl (fun c_10 => ?_) (fun c_10 => ?_)
      · rw [nI_leI (by omega) (by omega)] at c_10
        refine g_ldc C (v := (-1000000)) dX7_needs_42 (List.mem_cons_of_mem _ (List.mem_append_left _ (List.mem_of_getElem? (i := 2) rfl))) (q := 44) rfl ?_
        exact hret _ (v1, v2, v3, v4, nI 1, v5, v6) 44 _ dX7_needs_44 rfl (⟨by have e := nd_no 1001 0 (fun s hs => hz s (by omega)); exact e.symm, Or.inr ⟨rfl, h_1⟩⟩)
      · rw [nI_leI (by omega) (by omega)] at c_10
        refine g_aload_n C 1 dX7_needs_13 rfl rfl rfl (q := 14) ?_
        refine g_get C 0 12 dX7_needs_14 (Cn := RX7) (T := TX7) (N := 14) (fun _ h => List.mem_cons_of_mem _ (List.mem_append_right _ h)) rfl rfl (by decide) (List.mem_cons_of_mem _ (List.mem_append_left _ (List.mem_of_getElem? (i := 0) rfl))) rfl (q := 17) rfl ?_
        refine g_iload_n C 0 dX7_needs_17 rfl rfl rfl (q := 18) ?_
        refine g_iald C 9 0 dX7_needs_18 rfl rfl (vp_in_nI (by omega) (by decide)) (q := 19) rfl ?_
        refine g_eqi C (y := v5 q) (by rw [nI_clamp (by omega)]) ?_
        refine g_eqi C (y := jN (SV (mL gr li tr st n) m m q)) (by have e := (h_1 0 (Nat.zero_le _) q (by omega)).1; rw [show 1001 * 0 + q = q by omega] at e; exact e) ?_
        refine g_ldc C (v := (100000000)) dX7_needs_19 (List.mem_cons_of_mem _ (List.mem_append_left _ (List.mem_of_getElem? (i := 1) rfl))) (q := 21) rfl ?_
        refine g_icmp_ge C (t := 36) dX7_needs_21 (by decide) (q := 24) rfl (fun c_21 => ?_) (fun c_21 => ?_)
        · refine g_iinc C (z := 0) (nI (q + 1)) [(2, .int (nI (q + 1))), (0, .ref (b 0)), (1, .int p)] dX7_needs_36 rfl (nI_add q 1) (by decide) rfl (q := 39) rfl ?_
          refine g_goto C (q := 6) dX7_needs_39 (by decide) ?_
          exact ih_6 (q + 1) (by first | assumption | omega) (fun s hs => by by_cases e : s = q; (subst e; first | exact (fun h => Int.ne_of_lt h.1 ((jbig (hsin _)).mp c_21)) | exact (fun h => c_31 h.2)); (exact hz s (by omega))) (by omega)
        · refine g_aload_n C 1 dX7_needs_24 rfl rfl rfl (q := 25) ?_
          refine g_get C 0 12 dX7_needs_25 (Cn := RX7) (T := TX7) (N := 14) (fun _ h => List.mem_cons_of_mem _ (List.mem_append_right _ h)) rfl rfl (by decide) (List.mem_cons_of_mem _ (List.mem_append_left _ (List.mem_of_getElem? (i := 0) rfl))) rfl (q := 28) rfl ?_
          refine g_iload_n C 0 dX7_needs_28 rfl rfl rfl (q := 29) ?_
          refine g_iald C 9 0 dX7_needs_29 rfl rfl (vp_in_nI (by omega) (by decide)) (q := 30) rfl ?_
          refine g_eqi C (y := v5 q) (by rw [nI_clamp (by omega)]) ?_
          refine g_eqi C (y := jN (SV (mL gr li tr st n) m m q)) (by have e := (h_1 0 (Nat.zero_le _) q (by omega)).1; rw [show 1001 * 0 + q = q by omega] at e; exact e) ?_
          refine g_iload_n C 2 dX7_needs_30 rfl rfl rfl (q := 31) ?_
          refine g_icmp_gt C (t := 36) dX7_needs_31 (by decide) (q := 34) rfl (fun c_31 => ?_) (fun c_31 => ?_)
          · replace c_31 := Int32.not_le.mpr c_31
            refine g_iinc C (z := 0) (nI (q + 1)) [(2, .int (nI (q + 1))), (0, .ref (b 0)), (1, .int p)] dX7_needs_36 rfl (nI_add q 1) (by decide) rfl (q := 39) rfl ?_
            refine g_goto C (q := 6) dX7_needs_39 (by decide) ?_
            exact ih_6 (q + 1) (by first | assumption | omega) (fun s hs => by by_cases e : s = q; (subst e; first | exact (fun h => Int.ne_of_lt h.1 ((jbig (hsin _)).mp c_21)) | exact (fun h => c_31 h.2)); (exact hz s (by omega))) (by omega)
          · replace c_31 := Int32.not_lt.mp c_31
            refine g_iload_n C 0 dX7_needs_34 rfl rfl rfl (q := 35) ?_
            exact hret _ (v1, v2, v3, v4, nI 1, v5, v6) 35 _ dX7_needs_35 rfl (⟨by rw [show 1001 = q + ((1000 - q) + 1) by omega, nd_no q _ hz, nd, if_pos ⟨inR_lt (hsin _) c_21, c_31⟩], Or.inr ⟨rfl, h_1⟩⟩)
  exact lp_6 _ 0 (by first | assumption | omega) (fun s h => absurd h (Nat.not_lt_zero _)) (Nat.lt_succ_self _)
set_option maxHeartbeats 4000000 in
set_option maxRecDepth 100000 in
theorem c_X7_shareTime (l : Launch) (D : va_G) (cI cJ cZ : ClassId) (b : Nat → Nat) (n : Nat) (gr li st tr : Nat → Int32) (t : Nat) (sd lea : Nat → Int32) (pa : Int32) (pt pp : Nat → Int32) (su : Int32) (sh tt : Nat → Int32) (z k : Int32) (sp : Nat → Int32) (m : Nat) (hL : LInv st sp n m) (hT : TrOK tr) (hsu : su = nI 0 ∨ (su = nI 1 ∧ SHOK (mL gr li tr st n) m sh tt)) : Met l yX7_shareTime wsX7_shareTime { frames := 6, cells := 0, slots := 0, locals := 150 } (gPc D (tyT cI cJ cZ) (wB b) FT (wM cI cJ cZ b (nI n) gr li st tr (nI t) sd lea pa pt pp su sh tt) [.ref (b 0), .int z, .int k]) (va_Qi (fun (r : Int32) (u : (Nat → Int32) × Int32 × (Nat → Int32) × (Nat → Int32) × Int32 × (Nat → Int32) × (Nat → Int32)) => r = aShT (mL gr li tr st n) m z k ∧ (u.2.2.2.2.1 = nI 0 ∨ (u.2.2.2.2.1 = nI 1 ∧ SHOK (mL gr li tr st n) m u.2.2.2.2.2.1 u.2.2.2.2.2.2))) (fun u tS => va_P D vwCl ((fun (u : (Nat → Int32) × Int32 × (Nat → Int32) × (Nat → Int32) × Int32 × (Nat → Int32) × (Nat → Int32)) => wM cI cJ cZ b (nI n) gr li st tr (nI t) sd u.1 u.2.1 u.2.2.1 u.2.2.2.1 u.2.2.2.2.1 u.2.2.2.2.2.1 u.2.2.2.2.2.2) u) tS.heap ∧ va_D (wB b) ((fun (u : (Nat → Int32) × Int32 × (Nat → Int32) × (Nat → Int32) × Int32 × (Nat → Int32) × (Nat → Int32)) => wM cI cJ cZ b (nI n) gr li st tr (nI t) sd u.1 u.2.1 u.2.2.1 u.2.2.2.1 u.2.2.2.2.1 u.2.2.2.2.2.1 u.2.2.2.2.2.2) u)) (wB b)) 0 0 (wB b) := by
  refine gs_qi (cc := cX7_shareTime) (nL := 5) (ty := .int) (W' := fun (u : (Nat → Int32) × Int32 × (Nat → Int32) × (Nat → Int32) × Int32 × (Nat → Int32) × (Nat → Int32)) => wM cI cJ cZ b (nI n) gr li st tr (nI t) sd u.1 u.2.1 u.2.2.1 u.2.2.2.1 u.2.2.2.2.1 u.2.2.2.2.2.1 u.2.2.2.2.2.2) (by decide) rfl (Nat.le_of_ble_eq_true rfl) (fun G C hret => ?_)
  show G 0 0 (wM cI cJ cZ b (nI n) gr li st tr (nI t) sd lea pa pt pp su sh tt) [(0, .ref (b 0)), (1, .int z), (2, .int k)] 0 []
  have hn := hL.2.1
  have hmn := hL.m_le
  have hm1 := hL.m_pos
  have hcm := hL.2.2.2.2.2.1
  refine g_aload_n C 0 dX7_shareTime_0 rfl rfl rfl (q := 1) ?_
  refine g_iload_n C 2 dX7_shareTime_1 rfl rfl rfl (q := 2) ?_
  refine gcV_si C (n := 1) (As := [.int k]) (st := []) 0 (fun h => h) dX7_shareTime_2 rfl rfl gX7_shareTime_X7_isLeg (c_X7_isLeg l D cI cJ cZ b n gr li st tr t sd lea pa pt pp su sh tt k sp m (by first | assumption | omega)) rfl rfl rfl (by decide +kernel) ⟨Nat.le_of_ble_eq_true rfl, Nat.le_of_ble_eq_true rfl⟩ rfl rfl (Nat.le_of_ble_eq_true rfl) FT_b FT_h ⟨Nat.le_of_ble_eq_true rfl, Nat.le_of_ble_eq_true rfl⟩ (q := 5) rfl (fun r_2 h_2 => ?_)
  subst h_2
  refine g_if_ne C (t := 10) dX7_shareTime_5 (by decide) (q := 8) rfl (fun c_5 => ?_) (fun c_5 => ?_)
  · replace c_5 := ite_n0 c_5
    refine g_iload_n C 1 dX7_shareTime_10 rfl rfl rfl (q := 11) ?_
    refine g_iconst C (nI 0) dX7_shareTime_11 (by decide) (q := 12) rfl ?_
    refine g_sipush C (nI 1000) dX7_shareTime_12 (by decide) (q := 15) rfl ?_
    refine gcS_si C (n := 3) (As := [.int z, .int (nI 0), .int (nI 1000)]) (st := []) (fun h => h) dX7_shareTime_15 gX7_shareTime_X7_in (c_X7_in l D cI cJ cZ b n gr li st tr t sd lea pa pt pp su sh tt z (nI 0) (nI 1000)) rfl rfl rfl (by decide +kernel) ⟨Nat.le_of_ble_eq_true rfl, Nat.le_of_ble_eq_true rfl⟩ rfl rfl (Nat.le_of_ble_eq_true rfl) FT_b FT_h ⟨Nat.le_of_ble_eq_true rfl, Nat.le_of_ble_eq_true rfl⟩ (q := 18) rfl (fun r_15 h_15 => ?_)
    subst h_15
    refine g_eqi C (y := if tmP z then nI 1 else nI 0) (ite_cg in_tm) ?_
    refine g_if_ne C (t := 24) dX7_shareTime_18 (by decide) (q := 21) rfl (fun c_18 => ?_) (fun c_18 => ?_)
    · replace c_18 := ite_n0 c_18
      have hc5 := c_5
      have hc18 := c_18
      obtain ⟨k1, hk, rfl⟩ := hcP_of c_5 (by omega)
      obtain ⟨z1, hz, rfl⟩ := tmP_of c_18
      refine g_aload_n C 0 dX7_shareTime_24 rfl rfl rfl (q := 25) ?_
      refine gcV_qv C (n := 0) (As := []) (st := []) 0 (fun h => h) (fun _ h => h) dX7_shareTime_25 rfl rfl gX7_shareTime_X7_shareAll (c_X7_shareAll l D cI cJ cZ b n gr li st tr t sd lea pa pt pp su sh tt sp m hL hT hsu) rfl rfl rfl (by decide +kernel) ⟨Nat.le_of_ble_eq_true rfl, Nat.le_of_ble_eq_true rfl⟩ rfl rfl (Nat.le_of_ble_eq_true rfl) FT_b FT_h ⟨Nat.le_of_ble_eq_true rfl, Nat.le_of_ble_eq_true rfl⟩ (q := 28) rfl (fun u_25 h_25 => ?_)
      have h_25 : SHOK (mL gr li tr st n) m u_25.2.2.2.2.1 u_25.2.2.2.2.2 := h_25
      show G 0 0 (wM cI cJ cZ b (nI n) gr li st tr (nI t) sd u_25.1 u_25.2.1 u_25.2.2.1 u_25.2.2.2.1 (nI 1) u_25.2.2.2.2.1 u_25.2.2.2.2.2) [(0, .ref (b 0)), (1, .int (nI z1)), (2, .int (nI k1))] 28 []
      obtain ⟨v1, v2, v3, v4, v5, v6⟩ := u_25
      have h_25 : SHOK (mL gr li tr st n) m v5 v6 := h_25
      have hsin : ∀ t, inR (SV (mL gr li tr st n) m m t) := SV_in (mL_MB hT hL) (by show posOf st m n ≤ 16; rw [hL.e]; exact hn) (Nat.le_refl _)
      refine g_aload_n C 0 dX7_shareTime_28 rfl rfl rfl (q := 29) ?_
      refine g_get C 0 12 dX7_shareTime_29 (Cn := RX7) (T := TX7) (N := 14) (fun _ h => List.mem_cons_of_mem _ (List.mem_append_right _ h)) rfl rfl (by decide) (List.mem_cons_of_mem _ (List.mem_append_left _ (List.mem_of_getElem? (i := 0) rfl))) rfl (q := 32) rfl ?_
      refine g_iload_n C 1 dX7_shareTime_32 rfl rfl rfl (q := 33) ?_
      refine g_iald C 9 0 dX7_shareTime_33 rfl rfl (vp_in_nI (by omega) (by decide)) (q := 34) rfl ?_
      refine g_eqi C (y := v5 z1) (by rw [nI_clamp (by omega)]) ?_
      refine g_eqi C (y := jN (SV (mL gr li tr st n) m m z1)) (by have e := (h_25 0 (Nat.zero_le _) z1 (by omega)).1; rw [show 1001 * 0 + z1 = z1 by omega] at e; exact e) ?_
      refine g_ldc C (v := (100000000)) dX7_shareTime_34 (List.mem_cons_of_mem _ (List.mem_append_left _ (List.mem_of_getElem? (i := 1) rfl))) (q := 36) rfl ?_
      refine g_icmp_ne C (t := 42) dX7_shareTime_36 (by decide) (q := 39) rfl (fun c_36 => ?_) (fun c_36 => ?_)
      · have hlt : SV (mL gr li tr st n) m m z1 < BIG := inR_lt (hsin _) (fun h => c_36 (by rw [(jbig (hsin _)).mp h]; exact jN_big))
        refine g_iload_n C 1 dX7_shareTime_42 rfl rfl rfl (q := 43) ?_
        refine g_istore_n C [(3, .int (nI z1)), (0, .ref (b 0)), (1, .int (nI z1)), (2, .int (nI k1))] dX7_shareTime_43 rfl (by decide) rfl (q := 44) rfl ?_
        refine g_iconst C (nI 0) dX7_shareTime_44 (by decide) (q := 45) rfl ?_
        refine g_istore C [(4, .int (nI 0)), (3, .int (nI z1)), (0, .ref (b 0)), (1, .int (nI z1)), (2, .int (nI k1))] dX7_shareTime_45 (by decide) rfl (q := 47) rfl ?_
        have lp_47 : ∀ (N : Nat) (q : Nat), (q ≤ k1) → k1 - q < N → G 0 0 (wM cI cJ cZ b (nI n) gr li st tr (nI t) sd v1 v2 v3 v4 (nI 1) v5 v6) [(4, .int (nI q)), (3, .int (nI (LF (mL gr li tr st n) m z1 q))), (0, .ref (b 0)), (1, .int (nI z1)), (2, .int (nI k1))] 47 [] := by
          intro N
          induction N with
          | zero => intro q _ hmu; exact absurd hmu (Nat.not_lt_zero _)
          | succ N ih_47 =>
            intro q hq hmu
            have hlo := LF_ok hlt q (by omega)
            refine g_iload C 0 dX7_shareTime_47 rfl rfl (q := 49) ?_
            refine g_iload_n C 4 dX7_shareTime_49 rfl rfl rfl (q := 50) ?_
            refine g_icmp_ge C (t := 75) dX7_shareTime_50 (by decide) (q := 53) rfl (fun c_50 => ?_) (fun c_50 => ?_)
            · rw [nI_leI (by omega) (by omega)] at c_50
              obtain rfl : q = k1 := by omega
              refine g_aload_n C 2 dX7_shareTime_75 rfl rfl rfl (q := 76) ?_
              refine g_get C 0 13 dX7_shareTime_76 (Cn := RX7) (T := TX7) (N := 14) (fun _ h => List.mem_cons_of_mem _ (List.mem_append_right _ h)) rfl rfl (by decide) (List.mem_cons_of_mem _ (List.mem_append_left _ (List.mem_of_getElem? (i := 3) rfl))) rfl (q := 79) rfl ?_
              refine g_sipush C (nI 1001) dX7_shareTime_79 (by decide) (q := 82) rfl ?_
              refine g_iload_n C 4 dX7_shareTime_82 rfl rfl rfl (q := 83) ?_
              refine g_imul C dX7_shareTime_83 (q := 84) rfl ?_
              refine g_eqi C (y := nI (1001 * q)) (pk_mul 1001 q) ?_
              refine g_iload_n C 1 dX7_shareTime_84 rfl rfl rfl (q := 85) ?_
              refine g_iadd C dX7_shareTime_85 (q := 86) rfl ?_
              refine g_eqi C (y := nI ((1001 * q) + (LF (mL gr li tr st n) m z1 q))) (nI_add (1001 * q) (LF (mL gr li tr st n) m z1 q)) ?_
              refine g_iald C 10 0 dX7_shareTime_86 rfl rfl (vp_in_nI (by omega) (by decide)) (q := 87) rfl ?_
              refine g_eqi C (y := v6 ((1001 * q) + (LF (mL gr li tr st n) m z1 q))) (by rw [nI_clamp (by omega)]) ?_
              refine g_eqi C (y := nI (ST (mL gr li tr st n) m (m - 1 - q) (LF (mL gr li tr st n) m z1 q)).1) (by have hk5 := LF_ok hlt q (by omega); have e := (h_25 q (by omega) (LF (mL gr li tr st n) m z1 q) (by omega)).2 (by omega); rw [if_neg (Int.ne_of_lt hk5.1)] at e; exact e) ?_
              exact hret _ (v1, v2, v3, v4, nI 1, v5, v6) 87 _ dX7_shareTime_87 rfl (⟨by rw [aShT, if_pos hc5, if_pos hc18, nI_clamp (show q < 2 ^ 31 by omega), nI_clamp (show z1 < 2 ^ 31 by omega), if_pos hlt], Or.inr ⟨rfl, h_25⟩⟩)
            · rw [nI_leI (by omega) (by omega)] at c_50
              refine g_iload_n C 1 dX7_shareTime_53 rfl rfl rfl (q := 54) ?_
              refine g_aload_n C 2 dX7_shareTime_54 rfl rfl rfl (q := 55) ?_
              refine g_get C 0 13 dX7_shareTime_55 (Cn := RX7) (T := TX7) (N := 14) (fun _ h => List.mem_cons_of_mem _ (List.mem_append_right _ h)) rfl rfl (by decide) (List.mem_cons_of_mem _ (List.mem_append_left _ (List.mem_of_getElem? (i := 3) rfl))) rfl (q := 58) rfl ?_
              refine g_sipush C (nI 1001) dX7_shareTime_58 (by decide) (q := 61) rfl ?_
              refine g_iload C 0 dX7_shareTime_61 rfl rfl (q := 63) ?_
              refine g_imul C dX7_shareTime_63 (q := 64) rfl ?_
              refine g_eqi C (y := nI (1001 * q)) (pk_mul 1001 q) ?_
              refine g_iload_n C 1 dX7_shareTime_64 rfl rfl rfl (q := 65) ?_
              refine g_iadd C dX7_shareTime_65 (q := 66) rfl ?_
              refine g_eqi C (y := nI ((1001 * q) + (LF (mL gr li tr st n) m z1 q))) (nI_add (1001 * q) (LF (mL gr li tr st n) m z1 q)) ?_
              refine g_iald C 10 0 dX7_shareTime_66 rfl rfl (vp_in_nI (by omega) (by decide)) (q := 67) rfl ?_
              refine g_eqi C (y := v6 ((1001 * q) + (LF (mL gr li tr st n) m z1 q))) (by rw [nI_clamp (by omega)]) ?_
              refine g_eqi C (y := nI (ST (mL gr li tr st n) m (m - 1 - q) (LF (mL gr li tr st n) m z1 q)).1) (by have hk5 := LF_ok hlt q (by omega); have e := (h_25 q (by omega) (LF (mL gr li tr st n) m z1 q) (by omega)).2 (by omega); rw [if_neg (Int.ne_of_lt hk5.1)] at e; exact e) ?_
              refine g_isub C dX7_shareTime_67 (q := 68) rfl ?_
              refine g_eqi C (y := nI (LF (mL gr li tr st n) m z1 (q + 1))) (by have hq5 := LF_ok hlt q (by omega); rw [show m - q = m - 1 - q + 1 by omega] at hq5; exact pk_sub (SV_step hq5.1).1) ?_
              refine g_istore_n C [(3, .int (nI (LF (mL gr li tr st n) m z1 (q + 1)))), (4, .int (nI q)), (0, .ref (b 0)), (1, .int (nI z1)), (2, .int (nI k1))] dX7_shareTime_68 rfl (by decide) rfl (q := 69) rfl ?_
              refine g_iinc C (z := 1) (nI (q + 1)) [(4, .int (nI (q + 1))), (3, .int (nI (LF (mL gr li tr st n) m z1 (q + 1)))), (0, .ref (b 0)), (1, .int (nI z1)), (2, .int (nI k1))] dX7_shareTime_69 rfl (nI_add q 1) (by decide) rfl (q := 72) rfl ?_
              refine g_goto C (q := 47) dX7_shareTime_72 (by decide) ?_
              exact ih_47 (q + 1) (by first | assumption | omega) (by omega)
        exact lp_47 _ 0 (by first | assumption | omega) (Nat.lt_succ_self _)
      · have hbg : ¬ SV (mL gr li tr st n) m m z1 < BIG := fun h => by rw [← jN_big, jN_eq (by rcases hsin z1 with e | e; (simp only [BIG] at e; omega); (omega)) (by simp only [BIG]; omega)] at c_36; omega
        refine g_ldc C (v := (-1000000)) dX7_shareTime_39 (List.mem_cons_of_mem _ (List.mem_append_left _ (List.mem_of_getElem? (i := 2) rfl))) (q := 41) rfl ?_
        exact hret _ (v1, v2, v3, v4, nI 1, v5, v6) 41 _ dX7_shareTime_41 rfl (⟨by rw [aShT, if_pos hc5, if_pos hc18, nI_clamp (by omega), nI_clamp (by omega), if_neg hbg], Or.inr ⟨rfl, h_25⟩⟩)
    · replace c_18 := ite_e0 c_18
      refine g_bipush C (-2) dX7_shareTime_21 (by decide) (q := 23) rfl ?_
      exact hret _ (lea, pa, pt, pp, su, sh, tt) 23 _ dX7_shareTime_23 rfl (⟨by rw [aShT, if_pos c_5, if_neg c_18], hsu⟩)
  · replace c_5 := ite_e0 c_5
    refine g_iconst C (-1) dX7_shareTime_8 (by decide) (q := 9) rfl ?_
    exact hret _ (lea, pa, pt, pp, su, sh, tt) 9 _ dX7_shareTime_9 rfl (⟨by rw [aShT, if_neg c_5], hsu⟩)
