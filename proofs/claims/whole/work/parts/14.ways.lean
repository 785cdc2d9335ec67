/-! the reference: what it says of ways -/
def aFast (gr li nu st : Nat → Int32) (n m : Nat) (k : Int32) : Int32 := if hcP m k then headI (prs (mL gr li nu st n k.toNatClampNeg) 1001) else -1
def aBT (gr li nu st : Nat → Int32) (n m : Nat) (k t : Int32) : Int32 := if aDR m k t = 0 then lastI (prs (mL gr li nu st n k.toNatClampNeg) (t.toNatClampNeg + 1)) else aDR m k t
def aBP (gr li nu st : Nat → Int32) (n m : Nat) (k t : Int32) : Int32 := if aDR m k t = 0 then lastP (mL gr li nu st n k.toNatClampNeg) (prs (mL gr li nu st n k.toNatClampNeg) (t.toNatClampNeg + 1)) else aDR m k t
def aCurve (gr li nu st : Nat → Int32) (n m : Nat) (k : Int32) : Int32 := if hcP m k then nI (prs (mL gr li nu st n k.toNatClampNeg) 1001).length else -1
def aPoint (gr li nu st : Nat → Int32) (n m : Nat) (k i b : Int32) : Int32 := if hcP m k then (if hcP (prs (mL gr li nu st n k.toNatClampNeg) 1001).length i then (if b = 0 then nI ((prs (mL gr li nu st n k.toNatClampNeg) 1001).getD i.toNatClampNeg 0) else jN (mL gr li nu st n k.toNatClampNeg ((prs (mL gr li nu st n k.toNatClampNeg) 1001).getD i.toNatClampNeg 0))) else -1000000) else -1
/-- what bestSpeed answers -/
def aBS (gr li nu st : Nat → Int32) (n m : Nat) (k t q r : Int32) : Prop :=
  if hcP m k ∧ hpP n q then (if tmP t then
    (if ¬ lastI (prs (mL gr li nu st n k.toNatClampNeg) (t.toNatClampNeg + 1)) = -1000000 ∧ posOf st k.toNatClampNeg n ≤ q.toNatClampNeg ∧ q.toNatClampNeg ≤ posOf st (k.toNatClampNeg + 1) n then
      ∃ l, LX (okM gr li nu) (pwM gr nu) (posOf st (k.toNatClampNeg + 1) n - posOf st k.toNatClampNeg n) (posOf st k.toNatClampNeg n) 0 (lastI (prs (mL gr li nu st n k.toNatClampNeg) (t.toNatClampNeg + 1))).toNatClampNeg 0 l ∧ r = nI (lastS 0 (l.take (q.toNatClampNeg - posOf st k.toNatClampNeg n)))
    else r = -1000000) else r = -2) else r = -1
theorem last_ne {m : Nat → Int} {t : Nat} (h : ¬ lastI (prs m t) = -1000000) : ∃ x, lastI (prs m t) = nI x ∧ x < t ∧ m x = bst m t ∧ m x < BIG ∧ lastP m (prs m t) = jN (m x) := by
  rcases prs_last m t with ⟨a, _⟩ | ⟨l, x, a, b, c, d⟩
  · exact absurd (lastI_nil a) h
  · exact ⟨x, by rw [a, lastI_snoc], b, c, d, by rw [a, lastP_snoc]⟩
theorem last_eq {m : Nat → Int} {t : Nat} (ht : t ≤ 1001) (h : lastI (prs m t) = -1000000) : prs m t = [] ∧ bst m t = BIG := by
  rcases prs_last m t with a | ⟨l, x, a, b, c, d⟩
  · exact a
  · rw [a, lastI_snoc] at h; exact absurd h (nI_gt (by omega))
theorem bo_a {m : Nat → Int} {q : Nat} (r : inR (m q)) (h : (100000000 : Int32) ≤ jN (m q)) : ¬ m q < bst m q := by
  rw [jbig r] at h
  have := bst_le m q
  omega
theorem inR_lt {z : Int} (r : inR z) (h : ¬ (100000000 : Int32) ≤ jN z) : z < BIG := by
  rw [jbig r] at h
  have hB : BIG = 100000000 := rfl
  rcases r with r | r <;> omega
theorem bst_rg {m : Nat → Int} (hr : ∀ t, inR (m t)) : ∀ t, inR (bst m t)
  | 0 => Or.inl rfl
  | t + 1 => by
    rw [bst]; split
    · exact hr t
    · exact bst_rg hr t
theorem jle {a b : Int} (ha : inR a) (hb : inR b) : jN a ≤ jN b ↔ a ≤ b := by
  have hB : BIG = 100000000 := rfl
  exact jN_le (by rcases ha with h | h <;> omega) (by rcases hb with h | h <;> omega)
theorem bo_b {m : Nat → Int} {q : Nat} (r : inR (m q)) (h : ¬ (100000000 : Int32) ≤ jN (m q)) (hq : q ≤ 1001) (e : lastI (prs m q) = -1000000) : m q < bst m q := by
  rw [(last_eq hq e).2]; exact inR_lt r h
theorem aDR_neg {m : Nat} {k t : Int32} (h : 0 ≤ aDR m k t) : aDR m k t = 0 := by
  unfold aDR at h ⊢
  by_cases h1 : hcP m k
  · rw [if_pos h1] at h ⊢
    by_cases h2 : tmP t
    · rw [if_pos h2]; rfl
    · rw [if_neg h2] at h; exact absurd h (by decide)
  · rw [if_neg h1] at h; exact absurd h (by decide)
theorem aDR_1 {m : Nat} {k t : Int32} (h : ¬ hcP m k) : aDR m k t = -1 := by rw [aDR, if_neg h]
theorem aDR_2 {m : Nat} {k t : Int32} (h : hcP m k) (h2 : ¬ tmP t) : aDR m k t = -2 := by rw [aDR, if_pos h, if_neg h2]
theorem aDR_3 {m : Nat} {k t : Int32} (h : hcP m k) (h2 : tmP t) : aDR m k t = 0 := by rw [aDR, if_pos h, if_pos h2]; rfl
theorem aBT_ge {gr li nu st : Nat → Int32} {n m : Nat} {k t : Int32} (h : 0 ≤ aBT gr li nu st n m k t) : aDR m k t = 0 ∧ ¬ lastI (prs (mL gr li nu st n k.toNatClampNeg) (t.toNatClampNeg + 1)) = -1000000 := by
  unfold aBT at h
  by_cases e : aDR m k t = 0
  · rw [if_pos e] at h
    exact ⟨e, fun q => by rw [q] at h; exact absurd h (by decide)⟩
  · rw [if_neg e] at h; exact absurd (aDR_neg h) e
theorem aBT_lt {gr li nu st : Nat → Int32} {n m : Nat} {k t : Int32} (hm : m ≤ 16) (h : ¬ 0 ≤ aBT gr li nu st n m k t) : aBT gr li nu st n m k t = aBP gr li nu st n m k t := by
  unfold aBT at h ⊢
  unfold aBP
  by_cases e : aDR m k t = 0
  · rw [if_pos e] at h ⊢
    rw [if_pos e]
    rcases prs_last (mL gr li nu st n k.toNatClampNeg) (t.toNatClampNeg + 1) with ⟨a, _⟩ | ⟨l, x, a, b, c, d⟩
    · rw [a]; rfl
    · rw [a, lastI_snoc] at h
      obtain ⟨_, t1, _, ht, _, rfl⟩ := aDR_0 e hm
      rw [nI_clamp (by omega)] at b
      exact absurd (nI_pos' (by omega)) h
  · rw [if_neg e, if_neg e]
set_option maxHeartbeats 4000000 in
set_option maxRecDepth 100000 in
theorem c_X7_fastest (l : Launch) (D : va_G) (cI cJ cZ : ClassId) (b : Nat → Nat) (n : Nat) (gr li st tr : Nat → Int32) (t : Nat) (sd lea : Nat → Int32) (pa : Int32) (pt pp : Nat → Int32) (su : Int32) (sh tt : Nat → Int32) (k : Int32) (sp : Nat → Int32) (m : Nat) (hL : LInv st sp n m) (hT : TrOK tr) : Met l yX7_fastest wsX7_fastest { frames := 4, cells := 0, slots := 0, locals := 102 } (gPc D (tyT cI cJ cZ) (wB b) FT (wM cI cJ cZ b (nI n) gr li st tr (nI t) sd lea pa pt pp su sh tt) [.ref (b 0), .int k]) (va_Qi (fun (r : Int32) (u : (Nat → Int32)) => r = aFast gr li tr st n m k) (fun u tS => va_P D vwCl ((fun (u : (Nat → Int32)) => wM cI cJ cZ b (nI n) gr li st tr (nI t) sd u pa pt pp su sh tt) u) tS.heap ∧ va_D (wB b) ((fun (u : (Nat → Int32)) => wM cI cJ cZ b (nI n) gr li st tr (nI t) sd u pa pt pp su sh tt) u)) (wB b)) 0 0 (wB b) := by
  refine gs_qi (cc := cX7_fastest) (nL := 4) (ty := .int) (W' := fun (u : (Nat → Int32)) => wM cI cJ cZ b (nI n) gr li st tr (nI t) sd u pa pt pp su sh tt) (by decide) rfl (Nat.le_of_ble_eq_true rfl) (fun G C hret => ?_)
  show G 0 0 (wM cI cJ cZ b (nI n) gr li st tr (nI t) sd lea pa pt pp su sh tt) [(0, .ref (b 0)), (1, .int k)] 0 []
  have hn := hL.2.1
  have hmn := hL.m_le
  refine g_aload_n C 0 dX7_fastest_0 rfl rfl rfl (q := 1) ?_
  refine g_iload_n C 1 dX7_fastest_1 rfl rfl rfl (q := 2) ?_
  refine gcV_si C (n := 1) (As := [.int k]) (st := []) 0 (fun h => h) dX7_fastest_2 rfl rfl gX7_fastest_X7_isLeg (c_X7_isLeg l D cI cJ cZ b n gr li st tr t sd lea pa pt pp su sh tt k sp m (by first | assumption | omega)) rfl rfl rfl (by decide +kernel) ⟨Nat.le_of_ble_eq_true rfl, Nat.le_of_ble_eq_true rfl⟩ rfl rfl (Nat.le_of_ble_eq_true rfl) FT_b FT_h ⟨Nat.le_of_ble_eq_true rfl, Nat.le_of_ble_eq_true rfl⟩ (q := 5) rfl (fun r_2 h_2 => ?_)
  subst h_2
  refine g_if_ne C (t := 10) dX7_fastest_5 (by decide) (q := 8) rfl (fun c_5 => ?_) (fun c_5 => ?_)
  · replace c_5 := ite_n0 c_5
    obtain ⟨k1, hk, rfl⟩ := hcP_of c_5 (by omega)
    refine g_aload_n C 0 dX7_fastest_10 rfl rfl rfl (q := 11) ?_
    refine g_iload_n C 1 dX7_fastest_11 rfl rfl rfl (q := 12) ?_
    refine gcV_qv C (n := 1) (As := [.int (nI k1)]) (st := []) 0 (fun h => h) (fun _ h => h) dX7_fastest_12 rfl rfl gX7_fastest_X7_work (c_X7_work l D cI cJ cZ b n gr li st tr t sd lea pa pt pp su sh tt k1 sp m hL hk hT) rfl rfl rfl (by decide +kernel) ⟨Nat.le_of_ble_eq_true rfl, Nat.le_of_ble_eq_true rfl⟩ rfl rfl (Nat.le_of_ble_eq_true rfl) FT_b FT_h ⟨Nat.le_of_ble_eq_true rfl, Nat.le_of_ble_eq_true rfl⟩ (q := 15) rfl (fun u_12 h_12 => ?_)
    have h_12 : WIa (okM gr li tr) (pwM gr tr) (posOf st k1 n) (posOf st (k1 + 1) n) (posOf st k1 n) u_12 ∧ WIc (okM gr li tr) (pwM gr tr) (posOf st k1 n) (posOf st (k1 + 1) n) u_12 := h_12
    show G 0 0 (wM cI cJ cZ b (nI n) gr li st tr (nI t) sd u_12 pa pt pp su sh tt) [(0, .ref (b 0)), (1, .int (nI k1))] 15 []
    have hp1 := (hL.pos (show k1 ≤ m by omega)).1
    have hp2 := (hL.pos (show k1 + 1 ≤ m by omega)).1
    have hrg : ∀ t, inR (mL gr li tr st n k1 t) := mL_rg hT (by omega)
    refine g_aload_n C 0 dX7_fastest_15 rfl rfl rfl (q := 16) ?_
    refine g_aload_n C 0 dX7_fastest_16 rfl rfl rfl (q := 17) ?_
    refine g_iload_n C 1 dX7_fastest_17 rfl rfl rfl (q := 18) ?_
    refine gcV_si C (n := 1) (As := [.int (nI k1)]) (st := [.ref (b 0)]) 0 (fun h => h) dX7_fastest_18 rfl rfl gX7_fastest_X7_firstOf (c_X7_firstOf l D cI cJ cZ b n gr li st tr t sd u_12 pa pt pp su sh tt k1 sp m hL (by omega)) rfl rfl rfl (by decide +kernel) ⟨Nat.le_of_ble_eq_true rfl, Nat.le_of_ble_eq_true rfl⟩ rfl rfl (Nat.le_of_ble_eq_true rfl) FT_b FT_h ⟨Nat.le_of_ble_eq_true rfl, Nat.le_of_ble_eq_true rfl⟩ (q := 21) rfl (fun r_18 h_18 => ?_)
    subst h_18
    refine g_iconst C (nI 0) dX7_fastest_21 (by decide) (q := 22) rfl ?_
    refine gcV_si C (n := 2) (As := [.int (nI (posOf st k1 n)), .int (nI 0)]) (st := []) 0 (fun h => h) dX7_fastest_22 rfl rfl gX7_fastest_X7_place (c_X7_place l D cI cJ cZ b n gr li st tr t sd u_12 pa pt pp su sh tt (posOf st k1 n) 0) rfl rfl rfl (by decide +kernel) ⟨Nat.le_of_ble_eq_true rfl, Nat.le_of_ble_eq_true rfl⟩ rfl rfl (Nat.le_of_ble_eq_true rfl) FT_b FT_h ⟨Nat.le_of_ble_eq_true rfl, Nat.le_of_ble_eq_true rfl⟩ (q := 25) rfl (fun r_22 h_22 => ?_)
    subst h_22
    refine g_istore_n C [(2, .int (nI (1001 * (7 * (posOf st k1 n) + 0)))), (0, .ref (b 0)), (1, .int (nI k1))] dX7_fastest_25 rfl (by decide) rfl (q := 26) rfl ?_
    refine g_iconst C (nI 0) dX7_fastest_26 (by decide) (q := 27) rfl ?_
    refine g_istore_n C [(3, .int (nI 0)), (2, .int (nI (1001 * (7 * (posOf st k1 n) + 0)))), (0, .ref (b 0)), (1, .int (nI k1))] dX7_fastest_27 rfl (by decide) rfl (q := 28) rfl ?_
    have lp_28 : ∀ (N : Nat) (q : Nat), (q ≤ 1001) → (∀ s, s < q → mL gr li tr st n k1 s = BIG) → 1001 - q < N → G 0 0 (wM cI cJ cZ b (nI n) gr li st tr (nI t) sd u_12 pa pt pp su sh tt) [(3, .int (nI q)), (2, .int (nI (1001 * (7 * (posOf st k1 n) + 0)))), (0, .ref (b 0)), (1, .int (nI k1))] 28 [] := by
      intro N
      induction N with
      | zero => intro q _ _ hmu; exact absurd hmu (Nat.not_lt_zero _)
      | succ N ih_28 =>
        intro q hq hz hmu
        refine g_iload_n C 0 dX7_fastest_28 rfl rfl rfl (q := 29) ?_
        refine g_sipush C (nI 1001) dX7_fastest_29 (by decide) (q := 32) rfl ?_
        refine g_icmp_ge C (t := 56) dX7_fastest_32 (by decide) (q := 35) rfl (fun c_32 => ?_) (fun c_32 => ?_)
        · rw [nI_leI (by omega) (by omega)] at c_32
          refine g_ldc C (v := (-1000000)) dX7_fastest_56 (List.mem_cons_of_mem _ (List.mem_append_left _ (List.mem_of_getElem? (i := 2) rfl))) (q := 58) rfl ?_
          exact hret _ u_12 58 _ dX7_fastest_58 rfl (by rw [aFast, if_pos c_5, nI_clamp (by omega), prs_none _ (fun s hs => hz s (by omega))]; rfl)
        · rw [nI_leI (by omega) (by omega)] at c_32
          refine g_aload_n C 2 dX7_fastest_35 rfl rfl rfl (q := 36) ?_
          refine g_get C 0 7 dX7_fastest_36 (Cn := RX7) (T := TX7) (N := 14) (fun _ h => List.mem_cons_of_mem _ (List.mem_append_right _ h)) rfl rfl (by decide) (List.mem_cons_of_mem _ (List.mem_append_left _ (List.mem_of_getElem? (i := 0) rfl))) rfl (q := 39) rfl ?_
          refine g_iload_n C 1 dX7_fastest_39 rfl rfl rfl (q := 40) ?_
          refine g_iload_n C 0 dX7_fastest_40 rfl rfl rfl (q := 41) ?_
          refine g_iadd C dX7_fastest_41 (q := 42) rfl ?_
          refine g_eqi C (y := nI ((1001 * (7 * (posOf st k1 n) + 0)) + q)) (nI_add (1001 * (7 * (posOf st k1 n) + 0)) q) ?_
          refine g_iald C 6 0 dX7_fastest_42 rfl rfl (vp_in_nI (by omega) (by decide)) (q := 43) rfl ?_
          refine g_eqi C (y := u_12 ((1001 * (7 * (posOf st k1 n) + 0)) + q)) (by rw [nI_clamp (by omega)]) ?_
          refine g_eqi C (y := jN (mL gr li tr st n k1 q)) (h_12.2 q (by omega)) ?_
          refine g_ldc C (v := (100000000)) dX7_fastest_43 (List.mem_cons_of_mem _ (List.mem_append_left _ (List.mem_of_getElem? (i := 1) rfl))) (q := 45) rfl ?_
          refine g_icmp_ge C (t := 50) dX7_fastest_45 (by decide) (q := 48) rfl (fun c_45 => ?_) (fun c_45 => ?_)
          · refine g_iinc C (z := 0) (nI (q + 1)) [(3, .int (nI (q + 1))), (2, .int (nI (1001 * (7 * (posOf st k1 n) + 0)))), (0, .ref (b 0)), (1, .int (nI k1))] dX7_fastest_50 rfl (nI_add q 1) (by decide) rfl (q := 53) rfl ?_
            refine g_goto C (q := 28) dX7_fastest_53 (by decide) ?_
            exact ih_28 (q + 1) (by first | assumption | omega) (fun s hs => by by_cases e : s = q; (subst e; exact (jbig (hrg _)).mp c_45); (exact hz s (by omega))) (by omega)
          · refine g_iload_n C 0 dX7_fastest_48 rfl rfl rfl (q := 49) ?_
            exact hret _ u_12 49 _ dX7_fastest_49 rfl (by rw [aFast, if_pos c_5, nI_clamp (by omega), headI_of hz (inR_lt (hrg _) c_45) (by omega)])
    exact lp_28 _ 0 (by first | assumption | omega) (fun s h => absurd h (Nat.not_lt_zero _)) (Nat.lt_succ_self _)
  · replace c_5 := ite_e0 c_5
    refine g_iconst C (-1) dX7_fastest_8 (by decide) (q := 9) rfl ?_
    exact hret _ lea 9 _ dX7_fastest_9 rfl (by rw [aFast, if_neg c_5])
set_option maxHeartbeats 4000000 in
set_option maxRecDepth 100000 in
theorem c_X7_bestOf (l : Launch) (D : va_G) (cI cJ cZ : ClassId) (b : Nat → Nat) (n : Nat) (gr li st tr : Nat → Int32) (t : Nat) (sd lea : Nat → Int32) (pa : Int32) (pt pp : Nat → Int32) (su : Int32) (sh tt : Nat → Int32) (j z : Nat) (sp : Nat → Int32) (m : Nat) (hL : LInv st sp n m) (hj : j < m) (hT : TrOK tr) (hz : z ≤ 1000) (hW : WIc (okM gr li tr) (pwM gr tr) (posOf st j n) (posOf st (j + 1) n) lea) : Met l yX7_bestOf wsX7_bestOf { frames := 2, cells := 0, slots := 0, locals := 44 } (gPc D (tyT cI cJ cZ) (wB b) FT (wM cI cJ cZ b (nI n) gr li st tr (nI t) sd lea pa pt pp su sh tt) [.ref (b 0), .int (nI j), .int (nI z)]) (vp_Si (fun r => r = lastI (prs (mL gr li tr st n j) (z + 1)))) 0 0 (fun _ => False) := by
  refine gs_si (cc := cX7_bestOf) (nL := 6) (ty := .int) (by decide) rfl (Nat.le_of_ble_eq_true rfl) (fun G C hret => ?_)
  show G 0 0 (wM cI cJ cZ b (nI n) gr li st tr (nI t) sd lea pa pt pp su sh tt) [(0, .ref (b 0)), (1, .int (nI j)), (2, .int (nI z))] 0 []
  have hn := hL.2.1
  have hmn := hL.m_le
  have hp1 := (hL.pos (show j ≤ m by omega)).1
  have hp2 := (hL.pos (show j + 1 ≤ m by omega)).1
  have hrg : ∀ t, inR (mL gr li tr st n j t) := mL_rg hT (by omega)
  refine g_aload_n C 0 dX7_bestOf_0 rfl rfl rfl (q := 1) ?_
  refine g_aload_n C 0 dX7_bestOf_1 rfl rfl rfl (q := 2) ?_
  refine g_iload_n C 1 dX7_bestOf_2 rfl rfl rfl (q := 3) ?_
  refine gcV_si C (n := 1) (As := [.int (nI j)]) (st := [.ref (b 0)]) 0 (fun h => h) dX7_bestOf_3 rfl rfl gX7_bestOf_X7_firstOf (c_X7_firstOf l D cI cJ cZ b n gr li st tr t sd lea pa pt pp su sh tt j sp m hL (by omega)) rfl rfl rfl (by decide +kernel) ⟨Nat.le_of_ble_eq_true rfl, Nat.le_of_ble_eq_true rfl⟩ rfl rfl (Nat.le_of_ble_eq_true rfl) FT_b FT_h ⟨Nat.le_of_ble_eq_true rfl, Nat.le_of_ble_eq_true rfl⟩ (q := 6) rfl (fun r_3 h_3 => ?_)
  subst h_3
  refine g_iconst C (nI 0) dX7_bestOf_6 (by decide) (q := 7) rfl ?_
  refine gcV_si C (n := 2) (As := [.int (nI (posOf st j n)), .int (nI 0)]) (st := []) 0 (fun h => h) dX7_bestOf_7 rfl rfl gX7_bestOf_X7_place (c_X7_place l D cI cJ cZ b n gr li st tr t sd lea pa pt pp su sh tt (posOf st j n) 0) rfl rfl rfl (by decide +kernel) ⟨Nat.le_of_ble_eq_true rfl, Nat.le_of_ble_eq_true rfl⟩ rfl rfl (Nat.le_of_ble_eq_true rfl) FT_b FT_h ⟨Nat.le_of_ble_eq_true rfl, Nat.le_of_ble_eq_true rfl⟩ (q := 10) rfl (fun r_7 h_7 => ?_)
  subst h_7
  refine g_istore_n C [(3, .int (nI (1001 * (7 * (posOf st j n) + 0)))), (0, .ref (b 0)), (1, .int (nI j)), (2, .int (nI z))] dX7_bestOf_10 rfl (by decide) rfl (q := 11) rfl ?_
  refine g_ldc C (v := (-1000000)) dX7_bestOf_11 (List.mem_cons_of_mem _ (List.mem_append_left _ (List.mem_of_getElem? (i := 0) rfl))) (q := 13) rfl ?_
  refine g_istore C [(4, .int (-1000000)), (3, .int (nI (1001 * (7 * (posOf st j n) + 0)))), (0, .ref (b 0)), (1, .int (nI j)), (2, .int (nI z))] dX7_bestOf_13 (by decide) rfl (q := 15) rfl ?_
  refine g_lset C (z := 0) (y := lastI (prs (mL gr li tr st n j) 0)) [(4, .int (lastI (prs (mL gr li tr st n j) 0))), (3, .int (nI (1001 * (7 * (posOf st j n) + 0)))), (0, .ref (b 0)), (1, .int (nI j)), (2, .int (nI z))] rfl rfl rfl ?_
  refine g_iconst C (nI 0) dX7_bestOf_15 (by decide) (q := 16) rfl ?_
  refine g_istore C [(5, .int (nI 0)), (4, .int (lastI (prs (mL gr li tr st n j) 0))), (3, .int (nI (1001 * (7 * (posOf st j n) + 0)))), (0, .ref (b 0)), (1, .int (nI j)), (2, .int (nI z))] dX7_bestOf_16 (by decide) rfl (q := 18) rfl ?_
  have lp_18 : ∀ (N : Nat) (q : Nat), (q ≤ z + 1) → z + 1 - q < N → G 0 0 (wM cI cJ cZ b (nI n) gr li st tr (nI t) sd lea pa pt pp su sh tt) [(5, .int (nI q)), (4, .int (lastI (prs (mL gr li tr st n j) q))), (3, .int (nI (1001 * (7 * (posOf st j n) + 0)))), (0, .ref (b 0)), (1, .int (nI j)), (2, .int (nI z))] 18 [] := by
    intro N
    induction N with
    | zero => intro q _ hmu; exact absurd hmu (Nat.not_lt_zero _)
    | succ N ih_18 =>
      intro q hq hmu
      refine g_iload C 0 dX7_bestOf_18 rfl rfl (q := 20) ?_
      refine g_iload_n C 5 dX7_bestOf_20 rfl rfl rfl (q := 21) ?_
      refine g_icmp_gt C (t := 76) dX7_bestOf_21 (by decide) (q := 24) rfl (fun c_21 => ?_) (fun c_21 => ?_)
      · rw [nI_ltI (by omega) (by omega)] at c_21
        refine g_iload C 1 dX7_bestOf_76 rfl rfl (q := 78) ?_
        exact hret _ 78 _ _ dX7_bestOf_78 rfl (by rw [show q = z + 1 by omega])
      · rw [nI_ltI (by omega) (by omega)] at c_21
        refine g_aload_n C 3 dX7_bestOf_24 rfl rfl rfl (q := 25) ?_
        refine g_get C 0 7 dX7_bestOf_25 (Cn := RX7) (T := TX7) (N := 14) (fun _ h => List.mem_cons_of_mem _ (List.mem_append_right _ h)) rfl rfl (by decide) (List.mem_cons_of_mem _ (List.mem_append_left _ (List.mem_of_getElem? (i := 1) rfl))) rfl (q := 28) rfl ?_
        refine g_iload_n C 2 dX7_bestOf_28 rfl rfl rfl (q := 29) ?_
        refine g_iload C 0 dX7_bestOf_29 rfl rfl (q := 31) ?_
        refine g_iadd C dX7_bestOf_31 (q := 32) rfl ?_
        refine g_eqi C (y := nI ((1001 * (7 * (posOf st j n) + 0)) + q)) (nI_add (1001 * (7 * (posOf st j n) + 0)) q) ?_
        refine g_iald C 6 0 dX7_bestOf_32 rfl rfl (vp_in_nI (by omega) (by decide)) (q := 33) rfl ?_
        refine g_eqi C (y := lea ((1001 * (7 * (posOf st j n) + 0)) + q)) (by rw [nI_clamp (by omega)]) ?_
        refine g_eqi C (y := jN (mL gr li tr st n j q)) (hW q (by omega)) ?_
        refine g_ldc C (v := (100000000)) dX7_bestOf_33 (List.mem_cons_of_mem _ (List.mem_append_left _ (List.mem_of_getElem? (i := 2) rfl))) (q := 35) rfl ?_
        refine g_icmp_ge C (t := 70) dX7_bestOf_35 (by decide) (q := 38) rfl (fun c_35 => ?_) (fun c_35 => ?_)
        · refine g_lset C (z := 1) (y := lastI (prs (mL gr li tr st n j) (q + 1))) [(5, .int (nI q)), (4, .int (lastI (prs (mL gr li tr st n j) (q + 1)))), (3, .int (nI (1001 * (7 * (posOf st j n) + 0)))), (0, .ref (b 0)), (1, .int (nI j)), (2, .int (nI z))] rfl (by rw [(prs_keep (bo_a (hrg _) c_35)).1]) rfl ?_
          refine g_iinc C (z := 0) (nI (q + 1)) [(5, .int (nI (q + 1))), (4, .int (lastI (prs (mL gr li tr st n j) (q + 1)))), (3, .int (nI (1001 * (7 * (posOf st j n) + 0)))), (0, .ref (b 0)), (1, .int (nI j)), (2, .int (nI z))] dX7_bestOf_70 rfl (nI_add q 1) (by decide) rfl (q := 73) rfl ?_
          refine g_goto C (q := 18) dX7_bestOf_73 (by decide) ?_
          exact ih_18 (q + 1) (by first | assumption | omega) (by omega)
        · refine g_iload C 1 dX7_bestOf_38 rfl rfl (q := 40) ?_
          refine g_ldc C (v := (-1000000)) dX7_bestOf_40 (List.mem_cons_of_mem _ (List.mem_append_left _ (List.mem_of_getElem? (i := 0) rfl))) (q := 42) rfl ?_
          refine g_icmp_eq C (t := 66) dX7_bestOf_42 (by decide) (q := 45) rfl (fun c_42 => ?_) (fun c_42 => ?_)
          · refine g_iload C 0 dX7_bestOf_66 rfl rfl (q := 68) ?_
            refine g_istore C [(4, .int (nI q)), (5, .int (nI q)), (3, .int (nI (1001 * (7 * (posOf st j n) + 0)))), (0, .ref (b 0)), (1, .int (nI j)), (2, .int (nI z))] dX7_bestOf_68 (by decide) rfl (q := 70) rfl ?_
            refine g_lset C (z := 0) (y := lastI (prs (mL gr li tr st n j) (q + 1))) [(4, .int (lastI (prs (mL gr li tr st n j) (q + 1)))), (5, .int (nI q)), (3, .int (nI (1001 * (7 * (posOf st j n) + 0)))), (0, .ref (b 0)), (1, .int (nI j)), (2, .int (nI z))] rfl (by first | (rw [(prs_add (bo_b (hrg _) c_35 (by omega) c_42)).1, lastI_snoc]) | (rw [(prs_add (by rw [jle (hrg _) (hrg _)] at c_63; omega)).1, lastI_snoc])) rfl ?_
            refine g_iinc C (z := 1) (nI (q + 1)) [(5, .int (nI (q + 1))), (4, .int (lastI (prs (mL gr li tr st n j) (q + 1)))), (3, .int (nI (1001 * (7 * (posOf st j n) + 0)))), (0, .ref (b 0)), (1, .int (nI j)), (2, .int (nI z))] dX7_bestOf_70 rfl (nI_add q 1) (by decide) rfl (q := 73) rfl ?_
            refine g_goto C (q := 18) dX7_bestOf_73 (by decide) ?_
            exact ih_18 (q + 1) (by first | assumption | omega) (by omega)
          · obtain ⟨x, hx, hx1, hx2, hx3, _⟩ := last_ne c_42
            refine g_lset C (z := 1) (y := nI x) [(5, .int (nI q)), (4, .int (nI x)), (3, .int (nI (1001 * (7 * (posOf st j n) + 0)))), (0, .ref (b 0)), (1, .int (nI j)), (2, .int (nI z))] rfl hx rfl ?_
            refine g_aload_n C 3 dX7_bestOf_45 rfl rfl rfl (q := 46) ?_
            refine g_get C 0 7 dX7_bestOf_46 (Cn := RX7) (T := TX7) (N := 14) (fun _ h => List.mem_cons_of_mem _ (List.mem_append_right _ h)) rfl rfl (by decide) (List.mem_cons_of_mem _ (List.mem_append_left _ (List.mem_of_getElem? (i := 1) rfl))) rfl (q := 49) rfl ?_
            refine g_iload_n C 2 dX7_bestOf_49 rfl rfl rfl (q := 50) ?_
            refine g_iload C 0 dX7_bestOf_50 rfl rfl (q := 52) ?_
            refine g_iadd C dX7_bestOf_52 (q := 53) rfl ?_
            refine g_eqi C (y := nI ((1001 * (7 * (posOf st j n) + 0)) + q)) (nI_add (1001 * (7 * (posOf st j n) + 0)) q) ?_
            refine g_iald C 6 0 dX7_bestOf_53 rfl rfl (vp_in_nI (by omega) (by decide)) (q := 54) rfl ?_
            refine g_eqi C (y := lea ((1001 * (7 * (posOf st j n) + 0)) + q)) (by rw [nI_clamp (by omega)]) ?_
            refine g_eqi C (y := jN (mL gr li tr st n j q)) (hW q (by omega)) ?_
            refine g_aload_n C 3 dX7_bestOf_54 rfl rfl rfl (q := 55) ?_
            refine g_get C 0 7 dX7_bestOf_55 (Cn := RX7) (T := TX7) (N := 14) (fun _ h => List.mem_cons_of_mem _ (List.mem_append_right _ h)) rfl rfl (by decide) (List.mem_cons_of_mem _ (List.mem_append_left _ (List.mem_of_getElem? (i := 1) rfl))) rfl (q := 58) rfl ?_
            refine g_iload_n C 2 dX7_bestOf_58 rfl rfl rfl (q := 59) ?_
            refine g_iload C 1 dX7_bestOf_59 rfl rfl (q := 61) ?_
            refine g_iadd C dX7_bestOf_61 (q := 62) rfl ?_
            refine g_eqi C (y := nI ((1001 * (7 * (posOf st j n) + 0)) + x)) (nI_add (1001 * (7 * (posOf st j n) + 0)) x) ?_
            refine g_iald C 6 0 dX7_bestOf_62 rfl rfl (vp_in_nI (by omega) (by decide)) (q := 63) rfl ?_
            refine g_eqi C (y := lea ((1001 * (7 * (posOf st j n) + 0)) + x)) (by rw [nI_clamp (by omega)]) ?_
            refine g_eqi C (y := jN (mL gr li tr st n j x)) (hW x (by omega)) ?_
            refine g_icmp_ge C (t := 70) dX7_bestOf_63 (by decide) (q := 66) rfl (fun c_63 => ?_) (fun c_63 => ?_)
            · refine g_lset C (z := 1) (y := lastI (prs (mL gr li tr st n j) (q + 1))) [(5, .int (nI q)), (4, .int (lastI (prs (mL gr li tr st n j) (q + 1)))), (3, .int (nI (1001 * (7 * (posOf st j n) + 0)))), (0, .ref (b 0)), (1, .int (nI j)), (2, .int (nI z))] rfl (by rw [(prs_keep (by rw [jle (hrg _) (hrg _)] at c_63; omega)).1]; exact hx.symm) rfl ?_
              refine g_iinc C (z := 0) (nI (q + 1)) [(5, .int (nI (q + 1))), (4, .int (lastI (prs (mL gr li tr st n j) (q + 1)))), (3, .int (nI (1001 * (7 * (posOf st j n) + 0)))), (0, .ref (b 0)), (1, .int (nI j)), (2, .int (nI z))] dX7_bestOf_70 rfl (nI_add q 1) (by decide) rfl (q := 73) rfl ?_
              refine g_goto C (q := 18) dX7_bestOf_73 (by decide) ?_
              exact ih_18 (q + 1) (by first | assumption | omega) (by omega)
            · refine g_iload C 0 dX7_bestOf_66 rfl rfl (q := 68) ?_
              refine g_istore C [(4, .int (nI q)), (5, .int (nI q)), (3, .int (nI (1001 * (7 * (posOf st j n) + 0)))), (0, .ref (b 0)), (1, .int (nI j)), (2, .int (nI z))] dX7_bestOf_68 (by decide) rfl (q := 70) rfl ?_
              refine g_lset C (z := 0) (y := lastI (prs (mL gr li tr st n j) (q + 1))) [(4, .int (lastI (prs (mL gr li tr st n j) (q + 1)))), (5, .int (nI q)), (3, .int (nI (1001 * (7 * (posOf st j n) + 0)))), (0, .ref (b 0)), (1, .int (nI j)), (2, .int (nI z))] rfl (by first | (rw [(prs_add (bo_b (hrg _) c_35 (by omega) c_42)).1, lastI_snoc]) | (rw [(prs_add (by rw [jle (hrg _) (hrg _)] at c_63; omega)).1, lastI_snoc])) rfl ?_
              refine g_iinc C (z := 1) (nI (q + 1)) [(5, .int (nI (q + 1))), (4, .int (lastI (prs (mL gr li tr st n j) (q + 1)))), (3, .int (nI (1001 * (7 * (posOf st j n) + 0)))), (0, .ref (b 0)), (1, .int (nI j)), (2, .int (nI z))] dX7_bestOf_70 rfl (nI_add q 1) (by decide) rfl (q := 73) rfl ?_
              refine g_goto C (q := 18) dX7_bestOf_73 (by decide) ?_
              exact ih_18 (q + 1) (by first | assumption | omega) (by omega)
  exact lp_18 _ 0 (by first | assumption | omega) (Nat.lt_succ_self _)
set_option maxHeartbeats 4000000 in
set_option maxRecDepth 100000 in
theorem c_X7_bestTime (l : Launch) (D : va_G) (cI cJ cZ : ClassId) (b : Nat → Nat) (n : Nat) (gr li st tr : Nat → Int32) (t : Nat) (sd lea : Nat → Int32) (pa : Int32) (pt pp : Nat → Int32) (su : Int32) (sh tt : Nat → Int32) (k z : Int32) (sp : Nat → Int32) (m : Nat) (hL : LInv st sp n m) (hT : TrOK tr) : Met l yX7_bestTime wsX7_bestTime { frames := 4, cells := 0, slots := 0, locals := 102 } (gPc D (tyT cI cJ cZ) (wB b) FT (wM cI cJ cZ b (nI n) gr li st tr (nI t) sd lea pa pt pp su sh tt) [.ref (b 0), .int k, .int z]) (va_Qi (fun (r : Int32) (u : (Nat → Int32)) => r = aBT gr li tr st n m k z ∧ (aDR m k z = 0 → WIc (okM gr li tr) (pwM gr tr) (posOf st (k.toNatClampNeg) n) (posOf st ((k.toNatClampNeg) + 1) n) u)) (fun u tS => va_P D vwCl ((fun (u : (Nat → Int32)) => wM cI cJ cZ b (nI n) gr li st tr (nI t) sd u pa pt pp su sh tt) u) tS.heap ∧ va_D (wB b) ((fun (u : (Nat → Int32)) => wM cI cJ cZ b (nI n) gr li st tr (nI t) sd u pa pt pp su sh tt) u)) (wB b)) 0 0 (wB b) := by
  refine gs_qi (cc := cX7_bestTime) (nL := 3) (ty := .int) (W' := fun (u : (Nat → Int32)) => wM cI cJ cZ b (nI n) gr li st tr (nI t) sd u pa pt pp su sh tt) (by decide) rfl (Nat.le_of_ble_eq_true rfl) (fun G C hret => ?_)
  show G 0 0 (wM cI cJ cZ b (nI n) gr li st tr (nI t) sd lea pa pt pp su sh tt) [(0, .ref (b 0)), (1, .int k), (2, .int z)] 0 []
  have hn := hL.2.1
  have hmn := hL.m_le
  refine g_aload_n C 0 dX7_bestTime_0 rfl rfl rfl (q := 1) ?_
  refine g_iload_n C 1 dX7_bestTime_1 rfl rfl rfl (q := 2) ?_
  refine gcV_si C (n := 1) (As := [.int k]) (st := []) 0 (fun h => h) dX7_bestTime_2 rfl rfl gX7_bestTime_X7_isLeg (c_X7_isLeg l D cI cJ cZ b n gr li st tr t sd lea pa pt pp su sh tt k sp m (by first | assumption | omega)) rfl rfl rfl (by decide +kernel) ⟨Nat.le_of_ble_eq_true rfl, Nat.le_of_ble_eq_true rfl⟩ rfl rfl (Nat.le_of_ble_eq_true rfl) FT_b FT_h ⟨Nat.le_of_ble_eq_true rfl, Nat.le_of_ble_eq_true rfl⟩ (q := 5) rfl (fun r_2 h_2 => ?_)
  subst h_2
  refine g_if_ne C (t := 10) dX7_bestTime_5 (by decide) (q := 8) rfl (fun c_5 => ?_) (fun c_5 => ?_)
  · replace c_5 := ite_n0 c_5
    refine g_iload_n C 2 dX7_bestTime_10 rfl rfl rfl (q := 11) ?_
    refine g_iconst C (nI 0) dX7_bestTime_11 (by decide) (q := 12) rfl ?_
    refine g_sipush C (nI 1000) dX7_bestTime_12 (by decide) (q := 15) rfl ?_
    refine gcS_si C (n := 3) (As := [.int z, .int (nI 0), .int (nI 1000)]) (st := []) (fun h => h) dX7_bestTime_15 gX7_bestTime_X7_in (c_X7_in l D cI cJ cZ b n gr li st tr t sd lea pa pt pp su sh tt z (nI 0) (nI 1000)) rfl rfl rfl (by decide +kernel) ⟨Nat.le_of_ble_eq_true rfl, Nat.le_of_ble_eq_true rfl⟩ rfl rfl (Nat.le_of_ble_eq_true rfl) FT_b FT_h ⟨Nat.le_of_ble_eq_true rfl, Nat.le_of_ble_eq_true rfl⟩ (q := 18) rfl (fun r_15 h_15 => ?_)
    subst h_15
    refine g_eqi C (y := if tmP z then nI 1 else nI 0) (ite_cg in_tm) ?_
    refine g_if_ne C (t := 24) dX7_bestTime_18 (by decide) (q := 21) rfl (fun c_18 => ?_) (fun c_18 => ?_)
    · replace c_18 := ite_n0 c_18
      have hdr := aDR_3 c_5 c_18
      obtain ⟨k1, hk, rfl⟩ := hcP_of c_5 (by omega)
      obtain ⟨z1, hz, rfl⟩ := tmP_of c_18
      refine g_aload_n C 0 dX7_bestTime_24 rfl rfl rfl (q := 25) ?_
      refine g_iload_n C 1 dX7_bestTime_25 rfl rfl rfl (q := 26) ?_
      refine gcV_qv C (n := 1) (As := [.int (nI k1)]) (st := []) 0 (fun h => h) (fun _ h => h) dX7_bestTime_26 rfl rfl gX7_bestTime_X7_work (c_X7_work l D cI cJ cZ b n gr li st tr t sd lea pa pt pp su sh tt k1 sp m hL hk hT) rfl rfl rfl (by decide +kernel) ⟨Nat.le_of_ble_eq_true rfl, Nat.le_of_ble_eq_true rfl⟩ rfl rfl (Nat.le_of_ble_eq_true rfl) FT_b FT_h ⟨Nat.le_of_ble_eq_true rfl, Nat.le_of_ble_eq_true rfl⟩ (q := 29) rfl (fun u_26 h_26 => ?_)
      have h_26 : WIa (okM gr li tr) (pwM gr tr) (posOf st k1 n) (posOf st (k1 + 1) n) (posOf st k1 n) u_26 ∧ WIc (okM gr li tr) (pwM gr tr) (posOf st k1 n) (posOf st (k1 + 1) n) u_26 := h_26
      show G 0 0 (wM cI cJ cZ b (nI n) gr li st tr (nI t) sd u_26 pa pt pp su sh tt) [(0, .ref (b 0)), (1, .int (nI k1)), (2, .int (nI z1))] 29 []
      refine g_aload_n C 0 dX7_bestTime_29 rfl rfl rfl (q := 30) ?_
      refine g_iload_n C 1 dX7_bestTime_30 rfl rfl rfl (q := 31) ?_
      refine g_iload_n C 2 dX7_bestTime_31 rfl rfl rfl (q := 32) ?_
      refine gcV_si C (n := 2) (As := [.int (nI k1), .int (nI z1)]) (st := []) 0 (fun h => h) dX7_bestTime_32 rfl rfl gX7_bestTime_X7_bestOf (c_X7_bestOf l D cI cJ cZ b n gr li st tr t sd u_26 pa pt pp su sh tt k1 z1 sp m hL hk hT hz h_26.2) rfl rfl rfl (by decide +kernel) ⟨Nat.le_of_ble_eq_true rfl, Nat.le_of_ble_eq_true rfl⟩ rfl rfl (Nat.le_of_ble_eq_true rfl) FT_b FT_h ⟨Nat.le_of_ble_eq_true rfl, Nat.le_of_ble_eq_true rfl⟩ (q := 35) rfl (fun r_32 h_32 => ?_)
      subst h_32
      exact hret _ u_26 35 _ dX7_bestTime_35 rfl (⟨by rw [aBT, if_pos hdr, nI_clamp (by omega), nI_clamp (by omega)], fun _ => by rw [nI_clamp (by omega)]; exact h_26.2⟩)
    · replace c_18 := ite_e0 c_18
      refine g_bipush C (-2) dX7_bestTime_21 (by decide) (q := 23) rfl ?_
      exact hret _ lea 23 _ dX7_bestTime_23 rfl (⟨by rw [aBT, aDR_2 c_5 c_18]; rfl, fun h => by rw [aDR_2 c_5 c_18] at h; exact absurd h (by decide)⟩)
  · replace c_5 := ite_e0 c_5
    refine g_iconst C (-1) dX7_bestTime_8 (by decide) (q := 9) rfl ?_
    exact hret _ lea 9 _ dX7_bestTime_9 rfl (⟨by rw [aBT, aDR_1 c_5]; rfl, fun h => by rw [aDR_1 c_5] at h; exact absurd h (by decide)⟩)
set_option maxHeartbeats 4000000 in
set_option maxRecDepth 100000 in
theorem c_X7_best (l : Launch) (D : va_G) (cI cJ cZ : ClassId) (b : Nat → Nat) (n : Nat) (gr li st tr : Nat → Int32) (t : Nat) (sd lea : Nat → Int32) (pa : Int32) (pt pp : Nat → Int32) (su : Int32) (sh tt : Nat → Int32) (k z : Int32) (sp : Nat → Int32) (m : Nat) (hL : LInv st sp n m) (hT : TrOK tr) : Met l yX7_best wsX7_best { frames := 5, cells := 0, slots := 0, locals := 124 } (gPc D (tyT cI cJ cZ) (wB b) FT (wM cI cJ cZ b (nI n) gr li st tr (nI t) sd lea pa pt pp su sh tt) [.ref (b 0), .int k, .int z]) (va_Qi (fun (r : Int32) (u : (Nat → Int32)) => r = aBP gr li tr st n m k z) (fun u tS => va_P D vwCl ((fun (u : (Nat → Int32)) => wM cI cJ cZ b (nI n) gr li st tr (nI t) sd u pa pt pp su sh tt) u) tS.heap ∧ va_D (wB b) ((fun (u : (Nat → Int32)) => wM cI cJ cZ b (nI n) gr li st tr (nI t) sd u pa pt pp su sh tt) u)) (wB b)) 0 0 (wB b) := by
  refine gs_qi (cc := cX7_best) (nL := 4) (ty := .int) (W' := fun (u : (Nat → Int32)) => wM cI cJ cZ b (nI n) gr li st tr (nI t) sd u pa pt pp su sh tt) (by decide) rfl (Nat.le_of_ble_eq_true rfl) (fun G C hret => ?_)
  show G 0 0 (wM cI cJ cZ b (nI n) gr li st tr (nI t) sd lea pa pt pp su sh tt) [(0, .ref (b 0)), (1, .int k), (2, .int z)] 0 []
  have hn := hL.2.1
  have hmn := hL.m_le
  refine g_aload_n C 0 dX7_best_0 rfl rfl rfl (q := 1) ?_
  refine g_iload_n C 1 dX7_best_1 rfl rfl rfl (q := 2) ?_
  refine g_iload_n C 2 dX7_best_2 rfl rfl rfl (q := 3) ?_
  refine gcV_qi C (n := 2) (As := [.int k, .int z]) (st := []) 0 (fun h => h) (fun _ h => h) dX7_best_3 rfl rfl gX7_best_X7_bestTime (c_X7_bestTime l D cI cJ cZ b n gr li st tr t sd lea pa pt pp su sh tt k z sp m hL hT) rfl rfl rfl (by decide +kernel) ⟨Nat.le_of_ble_eq_true rfl, Nat.le_of_ble_eq_true rfl⟩ rfl rfl (Nat.le_of_ble_eq_true rfl) FT_b FT_h ⟨Nat.le_of_ble_eq_true rfl, Nat.le_of_ble_eq_true rfl⟩ (q := 6) rfl (fun r_3 u_3 h_3 => ?_)
  have h_3 : r_3 = aBT gr li tr st n m k z ∧ (aDR m k z = 0 → WIc (okM gr li tr) (pwM gr tr) (posOf st (k.toNatClampNeg) n) (posOf st ((k.toNatClampNeg) + 1) n) u_3) := h_3
  show G 0 0 (wM cI cJ cZ b (nI n) gr li st tr (nI t) sd u_3 pa pt pp su sh tt) [(0, .ref (b 0)), (1, .int k), (2, .int z)] 6 [.int r_3]
  refine g_istore_n C [(3, .int r_3), (0, .ref (b 0)), (1, .int k), (2, .int z)] dX7_best_6 rfl (by decide) rfl (q := 7) rfl ?_
  refine g_iload_n C 0 dX7_best_7 rfl rfl rfl (q := 8) ?_
  refine g_if_ge C (t := 15) dX7_best_8 (by decide) (q := 11) rfl (fun c_8 => ?_) (fun c_8 => ?_)
  · obtain ⟨hdr, hne⟩ := aBT_ge (by rw [← h_3.1]; exact c_8)
    obtain ⟨k1, z1, hk, hz, rfl, rfl⟩ := aDR_0 hdr (by omega)
    have h5 := h_3.2 hdr
    rw [nI_clamp (by omega)] at h5
    rw [nI_clamp (by omega), nI_clamp (by omega)] at hne
    obtain ⟨x, hx, hx1, hx2, hx3, hx4⟩ := last_ne hne
    have hr3 : r_3 = nI x := by rw [h_3.1, aBT, if_pos hdr, nI_clamp (by omega), nI_clamp (by omega), hx]
    refine g_lset C (z := 0) (y := nI x) [(3, .int (nI x)), (0, .ref (b 0)), (1, .int (nI k1)), (2, .int (nI z1))] rfl hr3 rfl ?_
    have hp1 := (hL.pos (show k1 ≤ m by omega)).1
    have hp2 := (hL.pos (show k1 + 1 ≤ m by omega)).1
    have hrg : ∀ t, inR (mL gr li tr st n k1 t) := mL_rg hT (by omega)
    refine g_aload_n C 1 dX7_best_15 rfl rfl rfl (q := 16) ?_
    refine g_get C 0 7 dX7_best_16 (Cn := RX7) (T := TX7) (N := 14) (fun _ h => List.mem_cons_of_mem _ (List.mem_append_right _ h)) rfl rfl (by decide) (List.mem_cons_of_mem _ (List.mem_append_left _ (List.mem_of_getElem? (i := 0) rfl))) rfl (q := 19) rfl ?_
    refine g_aload_n C 1 dX7_best_19 rfl rfl rfl (q := 20) ?_
    refine g_aload_n C 1 dX7_best_20 rfl rfl rfl (q := 21) ?_
    refine g_iload_n C 2 dX7_best_21 rfl rfl rfl (q := 22) ?_
    refine gcV_si C (n := 1) (As := [.int (nI k1)]) (st := [.ref (b 0), .ref (b 6)]) 0 (fun h => h) dX7_best_22 rfl rfl gX7_best_X7_firstOf (c_X7_firstOf l D cI cJ cZ b n gr li st tr t sd u_3 pa pt pp su sh tt k1 sp m hL (by omega)) rfl rfl rfl (by decide +kernel) ⟨Nat.le_of_ble_eq_true rfl, Nat.le_of_ble_eq_true rfl⟩ rfl rfl (Nat.le_of_ble_eq_true rfl) FT_b FT_h ⟨Nat.le_of_ble_eq_true rfl, Nat.le_of_ble_eq_true rfl⟩ (q := 25) rfl (fun r_22 h_22 => ?_)
    subst h_22
    refine g_iconst C (nI 0) dX7_best_25 (by decide) (q := 26) rfl ?_
    refine gcV_si C (n := 2) (As := [.int (nI (posOf st k1 n)), .int (nI 0)]) (st := [.ref (b 6)]) 0 (fun h => h) dX7_best_26 rfl rfl gX7_best_X7_place (c_X7_place l D cI cJ cZ b n gr li st tr t sd u_3 pa pt pp su sh tt (posOf st k1 n) 0) rfl rfl rfl (by decide +kernel) ⟨Nat.le_of_ble_eq_true rfl, Nat.le_of_ble_eq_true rfl⟩ rfl rfl (Nat.le_of_ble_eq_true rfl) FT_b FT_h ⟨Nat.le_of_ble_eq_true rfl, Nat.le_of_ble_eq_true rfl⟩ (q := 29) rfl (fun r_26 h_26 => ?_)
    subst h_26
    refine g_iload_n C 0 dX7_best_29 rfl rfl rfl (q := 30) ?_
    refine g_iadd C dX7_best_30 (q := 31) rfl ?_
    refine g_eqi C (y := nI ((1001 * (7 * (posOf st k1 n) + 0)) + x)) (nI_add (1001 * (7 * (posOf st k1 n) + 0)) x) ?_
    refine g_iald C 6 0 dX7_best_31 rfl rfl (vp_in_nI (by omega) (by decide)) (q := 32) rfl ?_
    refine g_eqi C (y := u_3 ((1001 * (7 * (posOf st k1 n) + 0)) + x)) (by rw [nI_clamp (by omega)]) ?_
    refine g_eqi C (y := jN (mL gr li tr st n k1 x)) (h5 x (by omega)) ?_
    exact hret _ u_3 32 _ dX7_best_32 rfl (by first | (rw [h_3.1]; exact aBT_lt (by omega) (by rw [← h_3.1]; exact c_8)) | (rw [aBP, if_pos hdr, nI_clamp (by omega), nI_clamp (by omega), hx4]))
  · refine g_iload_n C 0 dX7_best_11 rfl rfl rfl (q := 12) ?_
    refine g_goto C (q := 32) dX7_best_12 (by decide) ?_
    exact hret _ u_3 32 _ dX7_best_32 rfl (by first | (rw [h_3.1]; exact aBT_lt (by omega) (by rw [← h_3.1]; exact c_8)) | (rw [aBP, if_pos hdr, nI_clamp (by omega), nI_clamp (by omega), hx4]))
set_option maxHeartbeats 4000000 in
set_option maxRecDepth 100000 in
theorem c_X7_draw (l : Launch) (D : va_G) (cI cJ cZ : ClassId) (b : Nat → Nat) (n : Nat) (gr li st tr : Nat → Int32) (t : Nat) (sd lea : Nat → Int32) (pa : Int32) (pt pp : Nat → Int32) (su : Int32) (sh tt : Nat → Int32) (j : Nat) (sp : Nat → Int32) (m : Nat) (hL : LInv st sp n m) (hj : j < m) (hT : TrOK tr) : Met l yX7_draw wsX7_draw { frames := 4, cells := 0, slots := 0, locals := 102 } (gPc D (tyT cI cJ cZ) (wB b) FT (wM cI cJ cZ b (nI n) gr li st tr (nI t) sd lea pa pt pp su sh tt) [.ref (b 0), .int (nI j)]) (va_Qv (fun (u : (Nat → Int32) × Nat × (Nat → Int32) × (Nat → Int32)) => DRW (mL gr li tr st n j) 1001 u.2.1 u.2.2.1 u.2.2.2) (fun u tS => va_P D vwCl ((fun (u : (Nat → Int32) × Nat × (Nat → Int32) × (Nat → Int32)) => wM cI cJ cZ b (nI n) gr li st tr (nI t) sd u.1 (nI u.2.1) u.2.2.1 u.2.2.2 su sh tt) u) tS.heap ∧ va_D (wB b) ((fun (u : (Nat → Int32) × Nat × (Nat → Int32) × (Nat → Int32)) => wM cI cJ cZ b (nI n) gr li st tr (nI t) sd u.1 (nI u.2.1) u.2.2.1 u.2.2.2 su sh tt) u)) (wB b)) 0 0 (wB b) := by
  refine gs_qv (cc := cX7_draw) (nL := 4) (W' := fun (u : (Nat → Int32) × Nat × (Nat → Int32) × (Nat → Int32)) => wM cI cJ cZ b (nI n) gr li st tr (nI t) sd u.1 (nI u.2.1) u.2.2.1 u.2.2.2 su sh tt) (by decide) rfl (Nat.le_of_ble_eq_true rfl) (fun G C hret => ?_)
  show G 0 0 (wM cI cJ cZ b (nI n) gr li st tr (nI t) sd lea pa pt pp su sh tt) [(0, .ref (b 0)), (1, .int (nI j))] 0 []
  have hn := hL.2.1
  have hmn := hL.m_le
  have hp1 := (hL.pos (show j ≤ m by omega)).1
  have hp2 := (hL.pos (show j + 1 ≤ m by omega)).1
  have hrg : ∀ t, inR (mL gr li tr st n j t) := mL_rg hT (by omega)
  refine g_aload_n C 0 dX7_draw_0 rfl rfl rfl (q := 1) ?_
  refine g_iload_n C 1 dX7_draw_1 rfl rfl rfl (q := 2) ?_
  refine gcV_qv C (n := 1) (As := [.int (nI j)]) (st := []) 0 (fun h => h) (fun _ h => h) dX7_draw_2 rfl rfl gX7_draw_X7_work (c_X7_work l D cI cJ cZ b n gr li st tr t sd lea pa pt pp su sh tt j sp m hL hj hT) rfl rfl rfl (by decide +kernel) ⟨Nat.le_of_ble_eq_true rfl, Nat.le_of_ble_eq_true rfl⟩ rfl rfl (Nat.le_of_ble_eq_true rfl) FT_b FT_h ⟨Nat.le_of_ble_eq_true rfl, Nat.le_of_ble_eq_true rfl⟩ (q := 5) rfl (fun u_2 h_2 => ?_)
  have h_2 : WIa (okM gr li tr) (pwM gr tr) (posOf st j n) (posOf st (j + 1) n) (posOf st j n) u_2 ∧ WIc (okM gr li tr) (pwM gr tr) (posOf st j n) (posOf st (j + 1) n) u_2 := h_2
  show G 0 0 (wM cI cJ cZ b (nI n) gr li st tr (nI t) sd u_2 pa pt pp su sh tt) [(0, .ref (b 0)), (1, .int (nI j))] 5 []
  refine g_aload_n C 0 dX7_draw_5 rfl rfl rfl (q := 6) ?_
  refine g_aload_n C 0 dX7_draw_6 rfl rfl rfl (q := 7) ?_
  refine g_iload_n C 1 dX7_draw_7 rfl rfl rfl (q := 8) ?_
  refine gcV_si C (n := 1) (As := [.int (nI j)]) (st := [.ref (b 0)]) 0 (fun h => h) dX7_draw_8 rfl rfl gX7_draw_X7_firstOf (c_X7_firstOf l D cI cJ cZ b n gr li st tr t sd u_2 pa pt pp su sh tt j sp m hL (by omega)) rfl rfl rfl (by decide +kernel) ⟨Nat.le_of_ble_eq_true rfl, Nat.le_of_ble_eq_true rfl⟩ rfl rfl (Nat.le_of_ble_eq_true rfl) FT_b FT_h ⟨Nat.le_of_ble_eq_true rfl, Nat.le_of_ble_eq_true rfl⟩ (q := 11) rfl (fun r_8 h_8 => ?_)
  subst h_8
  refine g_iconst C (nI 0) dX7_draw_11 (by decide) (q := 12) rfl ?_
  refine gcV_si C (n := 2) (As := [.int (nI (posOf st j n)), .int (nI 0)]) (st := []) 0 (fun h => h) dX7_draw_12 rfl rfl gX7_draw_X7_place (c_X7_place l D cI cJ cZ b n gr li st tr t sd u_2 pa pt pp su sh tt (posOf st j n) 0) rfl rfl rfl (by decide +kernel) ⟨Nat.le_of_ble_eq_true rfl, Nat.le_of_ble_eq_true rfl⟩ rfl rfl (Nat.le_of_ble_eq_true rfl) FT_b FT_h ⟨Nat.le_of_ble_eq_true rfl, Nat.le_of_ble_eq_true rfl⟩ (q := 15) rfl (fun r_12 h_12 => ?_)
  subst h_12
  refine g_istore_n C [(2, .int (nI (1001 * (7 * (posOf st j n) + 0)))), (0, .ref (b 0)), (1, .int (nI j))] dX7_draw_15 rfl (by decide) rfl (q := 16) rfl ?_
  refine g_aload_n C 1 dX7_draw_16 rfl rfl rfl (q := 17) ?_
  refine g_iconst C (nI 0) dX7_draw_17 (by decide) (q := 18) rfl ?_
  refine g_put C 0 8 (wM cI cJ cZ b (nI n) gr li st tr (nI t) sd u_2 (nI 0) pt pp su sh tt) dX7_draw_18 (Cn := RX7) (T := TX7) (N := 14) (fun _ h => List.mem_cons_of_mem _ (List.mem_append_right _ h)) tyX7_ok nmX7 rfl rfl (by decide) (List.mem_cons_of_mem _ (List.mem_append_left _ (List.mem_of_getElem? (i := 0) rfl))) rfl (ty := .int) (by decide +kernel) rfl rfl (Nat.le_of_ble_eq_true rfl) rfl (q := 21) rfl ?_
  refine g_iconst C (nI 0) dX7_draw_21 (by decide) (q := 22) rfl ?_
  refine g_istore_n C [(3, .int (nI 0)), (2, .int (nI (1001 * (7 * (posOf st j n) + 0)))), (0, .ref (b 0)), (1, .int (nI j))] dX7_draw_22 rfl (by decide) rfl (q := 23) rfl ?_
  have lp_23 : ∀ (N : Nat) (q np : Nat) (f g : Nat → Int32), (q ≤ 1001) → (DRW (mL gr li tr st n j) q np f g) → 1001 - q < N → G 0 0 (wM cI cJ cZ b (nI n) gr li st tr (nI t) sd u_2 (nI np) f g su sh tt) [(3, .int (nI q)), (2, .int (nI (1001 * (7 * (posOf st j n) + 0)))), (0, .ref (b 0)), (1, .int (nI j))] 23 [] := by
    intro N
    induction N with
    | zero => intro q np f g _ _ hmu; exact absurd hmu (Nat.not_lt_zero _)
    | succ N ih_23 =>
      intro q np f g hq hd hmu
      have hnp : np ≤ q := by rw [hd.1]; exact prs_len _ _
      refine g_iload_n C 0 dX7_draw_23 rfl rfl rfl (q := 24) ?_
      refine g_sipush C (nI 1001) dX7_draw_24 (by decide) (q := 27) rfl ?_
      refine g_icmp_ge C (t := 115) dX7_draw_27 (by decide) (q := 30) rfl (fun c_27 => ?_) (fun c_27 => ?_)
      · rw [nI_leI (by omega) (by omega)] at c_27
        exact hret (u_2, np, f, g) 115 _ dX7_draw_115 (by obtain rfl : q = 1001 := (by omega); exact hd)
      · rw [nI_leI (by omega) (by omega)] at c_27
        refine g_aload_n C 2 dX7_draw_30 rfl rfl rfl (q := 31) ?_
        refine g_get C 0 7 dX7_draw_31 (Cn := RX7) (T := TX7) (N := 14) (fun _ h => List.mem_cons_of_mem _ (List.mem_append_right _ h)) rfl rfl (by decide) (List.mem_cons_of_mem _ (List.mem_append_left _ (List.mem_of_getElem? (i := 1) rfl))) rfl (q := 34) rfl ?_
        refine g_iload_n C 1 dX7_draw_34 rfl rfl rfl (q := 35) ?_
        refine g_iload_n C 0 dX7_draw_35 rfl rfl rfl (q := 36) ?_
        refine g_iadd C dX7_draw_36 (q := 37) rfl ?_
        refine g_eqi C (y := nI ((1001 * (7 * (posOf st j n) + 0)) + q)) (nI_add (1001 * (7 * (posOf st j n) + 0)) q) ?_
        refine g_iald C 6 0 dX7_draw_37 rfl rfl (vp_in_nI (by omega) (by decide)) (q := 38) rfl ?_
        refine g_eqi C (y := u_2 ((1001 * (7 * (posOf st j n) + 0)) + q)) (by rw [nI_clamp (by omega)]) ?_
        refine g_eqi C (y := jN (mL gr li tr st n j q)) (h_2.2 q (by omega)) ?_
        refine g_ldc C (v := (100000000)) dX7_draw_38 (List.mem_cons_of_mem _ (List.mem_append_left _ (List.mem_of_getElem? (i := 2) rfl))) (q := 40) rfl ?_
        refine g_icmp_ge C (t := 109) dX7_draw_40 (by decide) (q := 43) rfl (fun c_40 => ?_) (fun c_40 => ?_)
        · refine g_iinc C (z := 0) (nI (q + 1)) [(3, .int (nI (q + 1))), (2, .int (nI (1001 * (7 * (posOf st j n) + 0)))), (0, .ref (b 0)), (1, .int (nI j))] dX7_draw_109 rfl (nI_add q 1) (by decide) rfl (q := 112) rfl ?_
          refine g_goto C (q := 23) dX7_draw_112 (by decide) ?_
          exact ih_23 (q + 1) np f g (by first | assumption | omega) (by first | exact DRW_add (by rw [DRW_0 hd c_47]; exact inR_lt (hrg _) c_40) hd | exact DRW_add (by rw [jle (bst_rg hrg _) (hrg _)] at c_69; omega) hd | exact DRW_keep (bo_a (hrg _) c_40) hd | exact DRW_keep (by rw [jle (bst_rg hrg _) (hrg _)] at c_69; omega) hd) (by omega)
        · refine g_aload_n C 2 dX7_draw_43 rfl rfl rfl (q := 44) ?_
          refine g_get C 0 8 dX7_draw_44 (Cn := RX7) (T := TX7) (N := 14) (fun _ h => List.mem_cons_of_mem _ (List.mem_append_right _ h)) rfl rfl (by decide) (List.mem_cons_of_mem _ (List.mem_append_left _ (List.mem_of_getElem? (i := 0) rfl))) rfl (q := 47) rfl ?_
          refine g_if_eq C (t := 72) dX7_draw_47 (by decide) (q := 50) rfl (fun c_47 => ?_) (fun c_47 => ?_)
          · rw [← nI_0, nI_eq (by omega) (by omega)] at c_47
            refine g_aload_n C 2 dX7_draw_72 rfl rfl rfl (q := 73) ?_
            refine g_get C 0 9 dX7_draw_73 (Cn := RX7) (T := TX7) (N := 14) (fun _ h => List.mem_cons_of_mem _ (List.mem_append_right _ h)) rfl rfl (by decide) (List.mem_cons_of_mem _ (List.mem_append_left _ (List.mem_of_getElem? (i := 4) rfl))) rfl (q := 76) rfl ?_
            refine g_aload_n C 2 dX7_draw_76 rfl rfl rfl (q := 77) ?_
            refine g_get C 0 8 dX7_draw_77 (Cn := RX7) (T := TX7) (N := 14) (fun _ h => List.mem_cons_of_mem _ (List.mem_append_right _ h)) rfl rfl (by decide) (List.mem_cons_of_mem _ (List.mem_append_left _ (List.mem_of_getElem? (i := 0) rfl))) rfl (q := 80) rfl ?_
            refine g_iload_n C 0 dX7_draw_80 rfl rfl rfl (q := 81) ?_
            refine g_iast C 7 0 (wM cI cJ cZ b (nI n) gr li st tr (nI t) sd u_2 (nI np) (upd f np (nI q)) g su sh tt) dX7_draw_81 rfl rfl (vp_in_nI (by omega) (by decide)) (by rw [nI_clamp (by omega)]; rfl) (q := 82) rfl ?_
            refine g_aload_n C 2 dX7_draw_82 rfl rfl rfl (q := 83) ?_
            refine g_get C 0 10 dX7_draw_83 (Cn := RX7) (T := TX7) (N := 14) (fun _ h => List.mem_cons_of_mem _ (List.mem_append_right _ h)) rfl rfl (by decide) (List.mem_cons_of_mem _ (List.mem_append_left _ (List.mem_of_getElem? (i := 3) rfl))) rfl (q := 86) rfl ?_
            refine g_aload_n C 2 dX7_draw_86 rfl rfl rfl (q := 87) ?_
            refine g_get C 0 8 dX7_draw_87 (Cn := RX7) (T := TX7) (N := 14) (fun _ h => List.mem_cons_of_mem _ (List.mem_append_right _ h)) rfl rfl (by decide) (List.mem_cons_of_mem _ (List.mem_append_left _ (List.mem_of_getElem? (i := 0) rfl))) rfl (q := 90) rfl ?_
            refine g_aload_n C 2 dX7_draw_90 rfl rfl rfl (q := 91) ?_
            refine g_get C 0 7 dX7_draw_91 (Cn := RX7) (T := TX7) (N := 14) (fun _ h => List.mem_cons_of_mem _ (List.mem_append_right _ h)) rfl rfl (by decide) (List.mem_cons_of_mem _ (List.mem_append_left _ (List.mem_of_getElem? (i := 1) rfl))) rfl (q := 94) rfl ?_
            refine g_iload_n C 1 dX7_draw_94 rfl rfl rfl (q := 95) ?_
            refine g_iload_n C 0 dX7_draw_95 rfl rfl rfl (q := 96) ?_
            refine g_iadd C dX7_draw_96 (q := 97) rfl ?_
            refine g_eqi C (y := nI ((1001 * (7 * (posOf st j n) + 0)) + q)) (nI_add (1001 * (7 * (posOf st j n) + 0)) q) ?_
            refine g_iald C 6 0 dX7_draw_97 rfl rfl (vp_in_nI (by omega) (by decide)) (q := 98) rfl ?_
            refine g_eqi C (y := u_2 ((1001 * (7 * (posOf st j n) + 0)) + q)) (by rw [nI_clamp (by omega)]) ?_
            refine g_eqi C (y := jN (mL gr li tr st n j q)) (h_2.2 q (by omega)) ?_
            refine g_iast C 8 0 (wM cI cJ cZ b (nI n) gr li st tr (nI t) sd u_2 (nI np) (upd f np (nI q)) (upd g np (jN (mL gr li tr st n j q))) su sh tt) dX7_draw_98 rfl rfl (vp_in_nI (by omega) (by decide)) (by rw [nI_clamp (by omega)]; rfl) (q := 99) rfl ?_
            refine g_aload_n C 2 dX7_draw_99 rfl rfl rfl (q := 100) ?_
            refine g_dup C dX7_draw_100 rfl (q := 101) rfl ?_
            refine g_get C 0 8 dX7_draw_101 (Cn := RX7) (T := TX7) (N := 14) (fun _ h => List.mem_cons_of_mem _ (List.mem_append_right _ h)) rfl rfl (by decide) (List.mem_cons_of_mem _ (List.mem_append_left _ (List.mem_of_getElem? (i := 0) rfl))) rfl (q := 104) rfl ?_
            refine g_iconst C (nI 1) dX7_draw_104 (by decide) (q := 105) rfl ?_
            refine g_iadd C dX7_draw_105 (q := 106) rfl ?_
            refine g_eqi C (y := nI (np + 1)) (nI_add np 1) ?_
            refine g_put C 0 8 (wM cI cJ cZ b (nI n) gr li st tr (nI t) sd u_2 (nI (np + 1)) (upd f np (nI q)) (upd g np (jN (mL gr li tr st n j q))) su sh tt) dX7_draw_106 (Cn := RX7) (T := TX7) (N := 14) (fun _ h => List.mem_cons_of_mem _ (List.mem_append_right _ h)) tyX7_ok nmX7 rfl rfl (by decide) (List.mem_cons_of_mem _ (List.mem_append_left _ (List.mem_of_getElem? (i := 0) rfl))) rfl (ty := .int) (by decide +kernel) rfl rfl (Nat.le_of_ble_eq_true rfl) rfl (q := 109) rfl ?_
            refine g_iinc C (z := 0) (nI (q + 1)) [(3, .int (nI (q + 1))), (2, .int (nI (1001 * (7 * (posOf st j n) + 0)))), (0, .ref (b 0)), (1, .int (nI j))] dX7_draw_109 rfl (nI_add q 1) (by decide) rfl (q := 112) rfl ?_
            refine g_goto C (q := 23) dX7_draw_112 (by decide) ?_
            exact ih_23 (q + 1) (np + 1) (upd f np (nI q)) (upd g np (jN (mL gr li tr st n j q))) (by first | assumption | omega) (by first | exact DRW_add (by rw [DRW_0 hd c_47]; exact inR_lt (hrg _) c_40) hd | exact DRW_add (by rw [jle (bst_rg hrg _) (hrg _)] at c_69; omega) hd | exact DRW_keep (bo_a (hrg _) c_40) hd | exact DRW_keep (by rw [jle (bst_rg hrg _) (hrg _)] at c_69; omega) hd) (by omega)
          · rw [← nI_0, nI_eq (by omega) (by omega)] at c_47
            refine g_aload_n C 2 dX7_draw_50 rfl rfl rfl (q := 51) ?_
            refine g_get C 0 7 dX7_draw_51 (Cn := RX7) (T := TX7) (N := 14) (fun _ h => List.mem_cons_of_mem _ (List.mem_append_right _ h)) rfl rfl (by decide) (List.mem_cons_of_mem _ (List.mem_append_left _ (List.mem_of_getElem? (i := 1) rfl))) rfl (q := 54) rfl ?_
            refine g_iload_n C 1 dX7_draw_54 rfl rfl rfl (q := 55) ?_
            refine g_iload_n C 0 dX7_draw_55 rfl rfl rfl (q := 56) ?_
            refine g_iadd C dX7_draw_56 (q := 57) rfl ?_
            refine g_eqi C (y := nI ((1001 * (7 * (posOf st j n) + 0)) + q)) (nI_add (1001 * (7 * (posOf st j n) + 0)) q) ?_
            refine g_iald C 6 0 dX7_draw_57 rfl rfl (vp_in_nI (by omega) (by decide)) (q := 58) rfl ?_
            refine g_eqi C (y := u_2 ((1001 * (7 * (posOf st j n) + 0)) + q)) (by rw [nI_clamp (by omega)]) ?_
            refine g_eqi C (y := jN (mL gr li tr st n j q)) (h_2.2 q (by omega)) ?_
            refine g_aload_n C 2 dX7_draw_58 rfl rfl rfl (q := 59) ?_
            refine g_get C 0 10 dX7_draw_59 (Cn := RX7) (T := TX7) (N := 14) (fun _ h => List.mem_cons_of_mem _ (List.mem_append_right _ h)) rfl rfl (by decide) (List.mem_cons_of_mem _ (List.mem_append_left _ (List.mem_of_getElem? (i := 3) rfl))) rfl (q := 62) rfl ?_
            refine g_aload_n C 2 dX7_draw_62 rfl rfl rfl (q := 63) ?_
            refine g_get C 0 8 dX7_draw_63 (Cn := RX7) (T := TX7) (N := 14) (fun _ h => List.mem_cons_of_mem _ (List.mem_append_right _ h)) rfl rfl (by decide) (List.mem_cons_of_mem _ (List.mem_append_left _ (List.mem_of_getElem? (i := 0) rfl))) rfl (q := 66) rfl ?_
            refine g_iconst C (nI 1) dX7_draw_66 (by decide) (q := 67) rfl ?_
            refine g_isub C dX7_draw_67 (q := 68) rfl ?_
            refine g_eqi C (y := nI (np - 1)) (pk_sub (by omega)) ?_
            refine g_iald C 8 0 dX7_draw_68 rfl rfl (vp_in_nI (by omega) (by decide)) (q := 69) rfl ?_
            refine g_eqi C (y := g (np - 1)) (by rw [nI_clamp (by omega)]) ?_
            refine g_eqi C (y := jN (bst (mL gr li tr st n j) q)) (DRW_last hd (by omega)) ?_
            refine g_icmp_ge C (t := 109) dX7_draw_69 (by decide) (q := 72) rfl (fun c_69 => ?_) (fun c_69 => ?_)
            · refine g_iinc C (z := 0) (nI (q + 1)) [(3, .int (nI (q + 1))), (2, .int (nI (1001 * (7 * (posOf st j n) + 0)))), (0, .ref (b 0)), (1, .int (nI j))] dX7_draw_109 rfl (nI_add q 1) (by decide) rfl (q := 112) rfl ?_
              refine g_goto C (q := 23) dX7_draw_112 (by decide) ?_
              exact ih_23 (q + 1) np f g (by first | assumption | omega) (by first | exact DRW_add (by rw [DRW_0 hd c_47]; exact inR_lt (hrg _) c_40) hd | exact DRW_add (by rw [jle (bst_rg hrg _) (hrg _)] at c_69; omega) hd | exact DRW_keep (bo_a (hrg _) c_40) hd | exact DRW_keep (by rw [jle (bst_rg hrg _) (hrg _)] at c_69; omega) hd) (by omega)
            · refine g_aload_n C 2 dX7_draw_72 rfl rfl rfl (q := 73) ?_
              refine g_get C 0 9 dX7_draw_73 (Cn := RX7) (T := TX7) (N := 14) (fun _ h => List.mem_cons_of_mem _ (List.mem_append_right _ h)) rfl rfl (by decide) (List.mem_cons_of_mem _ (List.mem_append_left _ (List.mem_of_getElem? (i := 4) rfl))) rfl (q := 76) rfl ?_
              refine g_aload_n C 2 dX7_draw_76 rfl rfl rfl (q := 77) ?_
              refine g_get C 0 8 dX7_draw_77 (Cn := RX7) (T := TX7) (N := 14) (fun _ h => List.mem_cons_of_mem _ (List.mem_append_right _ h)) rfl rfl (by decide) (List.mem_cons_of_mem _ (List.mem_append_left _ (List.mem_of_getElem? (i := 0) rfl))) rfl (q := 80) rfl ?_
              refine g_iload_n C 0 dX7_draw_80 rfl rfl rfl (q := 81) ?_
              refine g_iast C 7 0 (wM cI cJ cZ b (nI n) gr li st tr (nI t) sd u_2 (nI np) (upd f np (nI q)) g su sh tt) dX7_draw_81 rfl rfl (vp_in_nI (by omega) (by decide)) (by rw [nI_clamp (by omega)]; rfl) (q := 82) rfl ?_
              refine g_aload_n C 2 dX7_draw_82 rfl rfl rfl (q := 83) ?_
              refine g_get C 0 10 dX7_draw_83 (Cn := RX7) (T := TX7) (N := 14) (fun _ h => List.mem_cons_of_mem _ (List.mem_append_right _ h)) rfl rfl (by decide) (List.mem_cons_of_mem _ (List.mem_append_left _ (List.mem_of_getElem? (i := 3) rfl))) rfl (q := 86) rfl ?_
              refine g_aload_n C 2 dX7_draw_86 rfl rfl rfl (q := 87) ?_
              refine g_get C 0 8 dX7_draw_87 (Cn := RX7) (T := TX7) (N := 14) (fun _ h => List.mem_cons_of_mem _ (List.mem_append_right _ h)) rfl rfl (by decide) (List.mem_cons_of_mem _ (List.mem_append_left _ (List.mem_of_getElem? (i := 0) rfl))) rfl (q := 90) rfl ?_
              refine g_aload_n C 2 dX7_draw_90 rfl rfl rfl (q := 91) ?_
              refine g_get C 0 7 dX7_draw_91 (Cn := RX7) (T := TX7) (N := 14) (fun _ h => List.mem_cons_of_mem _ (List.mem_append_right _ h)) rfl rfl (by decide) (List.mem_cons_of_mem _ (List.mem_append_left _ (List.mem_of_getElem? (i := 1) rfl))) rfl (q := 94) rfl ?_
              refine g_iload_n C 1 dX7_draw_94 rfl rfl rfl (q := 95) ?_
              refine g_iload_n C 0 dX7_draw_95 rfl rfl rfl (q := 96) ?_
              refine g_iadd C dX7_draw_96 (q := 97) rfl ?_
              refine g_eqi C (y := nI ((1001 * (7 * (posOf st j n) + 0)) + q)) (nI_add (1001 * (7 * (posOf st j n) + 0)) q) ?_
              refine g_iald C 6 0 dX7_draw_97 rfl rfl (vp_in_nI (by omega) (by decide)) (q := 98) rfl ?_
              refine g_eqi C (y := u_2 ((1001 * (7 * (posOf st j n) + 0)) + q)) (by rw [nI_clamp (by omega)]) ?_
              refine g_eqi C (y := jN (mL gr li tr st n j q)) (h_2.2 q (by omega)) ?_
              refine g_iast C 8 0 (wM cI cJ cZ b (nI n) gr li st tr (nI t) sd u_2 (nI np) (upd f np (nI q)) (upd g np (jN (mL gr li tr st n j q))) su sh tt) dX7_draw_98 rfl rfl (vp_in_nI (by omega) (by decide)) (by rw [nI_clamp (by omega)]; rfl) (q := 99) rfl ?_
              refine g_aload_n C 2 dX7_draw_99 rfl rfl rfl (q := 100) ?_
              refine g_dup C dX7_draw_100 rfl (q := 101) rfl ?_
              refine g_get C 0 8 dX7_draw_101 (Cn := RX7) (T := TX7) (N := 14) (fun _ h => List.mem_cons_of_mem _ (List.mem_append_right _ h)) rfl rfl (by decide) (List.mem_cons_of_mem _ (List.mem_append_left _ (List.mem_of_getElem? (i := 0) rfl))) rfl (q := 104) rfl ?_
              refine g_iconst C (nI 1) dX7_draw_104 (by decide) (q := 105) rfl ?_
              refine g_iadd C dX7_draw_105 (q := 106) rfl ?_
              refine g_eqi C (y := nI (np + 1)) (nI_add np 1) ?_
              refine g_put C 0 8 (wM cI cJ cZ b (nI n) gr li st tr (nI t) sd u_2 (nI (np + 1)) (upd f np (nI q)) (upd g np (jN (mL gr li tr st n j q))) su sh tt) dX7_draw_106 (Cn := RX7) (T := TX7) (N := 14) (fun _ h => List.mem_cons_of_mem _ (List.mem_append_right _ h)) tyX7_ok nmX7 rfl rfl (by decide) (List.mem_cons_of_mem _ (List.mem_append_left _ (List.mem_of_getElem? (i := 0) rfl))) rfl (ty := .int) (by decide +kernel) rfl rfl (Nat.le_of_ble_eq_true rfl) rfl (q := 109) rfl ?_
              refine g_iinc C (z := 0) (nI (q + 1)) [(3, .int (nI (q + 1))), (2, .int (nI (1001 * (7 * (posOf st j n) + 0)))), (0, .ref (b 0)), (1, .int (nI j))] dX7_draw_109 rfl (nI_add q 1) (by decide) rfl (q := 112) rfl ?_
              refine g_goto C (q := 23) dX7_draw_112 (by decide) ?_
              exact ih_23 (q + 1) (np + 1) (upd f np (nI q)) (upd g np (jN (mL gr li tr st n j q))) (by first | assumption | omega) (by first | exact DRW_add (by rw [DRW_0 hd c_47]; exact inR_lt (hrg _) c_40) hd | exact DRW_add (by rw [jle (bst_rg hrg _) (hrg _)] at c_69; omega) hd | exact DRW_keep (bo_a (hrg _) c_40) hd | exact DRW_keep (by rw [jle (bst_rg hrg _) (hrg _)] at c_69; omega) hd) (by omega)
  exact lp_23 _ 0 0 pt pp (by first | assumption | omega) ⟨rfl, fun i h => absurd h (Nat.not_lt_zero _)⟩ (Nat.lt_succ_self _)
set_option maxHeartbeats 4000000 in
set_option maxRecDepth 100000 in
theorem c_X7_curve (l : Launch) (D : va_G) (cI cJ cZ : ClassId) (b : Nat → Nat) (n : Nat) (gr li st tr : Nat → Int32) (t : Nat) (sd lea : Nat → Int32) (pa : Int32) (pt pp : Nat → Int32) (su : Int32) (sh tt : Nat → Int32) (k : Int32) (sp : Nat → Int32) (m : Nat) (hL : LInv st sp n m) (hT : TrOK tr) : Met l yX7_curve wsX7_curve { frames := 5, cells := 0, slots := 0, locals := 125 } (gPc D (tyT cI cJ cZ) (wB b) FT (wM cI cJ cZ b (nI n) gr li st tr (nI t) sd lea pa pt pp su sh tt) [.ref (b 0), .int k]) (va_Qi (fun (r : Int32) (u : (Nat → Int32) × Int32 × (Nat → Int32) × (Nat → Int32)) => r = aCurve gr li tr st n m k) (fun u tS => va_P D vwCl ((fun (u : (Nat → Int32) × Int32 × (Nat → Int32) × (Nat → Int32)) => wM cI cJ cZ b (nI n) gr li st tr (nI t) sd u.1 u.2.1 u.2.2.1 u.2.2.2 su sh tt) u) tS.heap ∧ va_D (wB b) ((fun (u : (Nat → Int32) × Int32 × (Nat → Int32) × (Nat → Int32)) => wM cI cJ cZ b (nI n) gr li st tr (nI t) sd u.1 u.2.1 u.2.2.1 u.2.2.2 su sh tt) u)) (wB b)) 0 0 (wB b) := by
  refine gs_qi (cc := cX7_curve) (nL := 2) (ty := .int) (W' := fun (u : (Nat → Int32) × Int32 × (Nat → Int32) × (Nat → Int32)) => wM cI cJ cZ b (nI n) gr li st tr (nI t) sd u.1 u.2.1 u.2.2.1 u.2.2.2 su sh tt) (by decide) rfl (Nat.le_of_ble_eq_true rfl) (fun G C hret => ?_)
  show G 0 0 (wM cI cJ cZ b (nI n) gr li st tr (nI t) sd lea pa pt pp su sh tt) [(0, .ref (b 0)), (1, .int k)] 0 []
  have hn := hL.2.1
  have hmn := hL.m_le
  refine g_aload_n C 0 dX7_curve_0 rfl rfl rfl (q := 1) ?_
  refine g_iload_n C 1 dX7_curve_1 rfl rfl rfl (q := 2) ?_
  refine gcV_si C (n := 1) (As := [.int k]) (st := []) 0 (fun h => h) dX7_curve_2 rfl rfl gX7_curve_X7_isLeg (c_X7_isLeg l D cI cJ cZ b n gr li st tr t sd lea pa pt pp su sh tt k sp m (by first | assumption | omega)) rfl rfl rfl (by decide +kernel) ⟨Nat.le_of_ble_eq_true rfl, Nat.le_of_ble_eq_true rfl⟩ rfl rfl (Nat.le_of_ble_eq_true rfl) FT_b FT_h ⟨Nat.le_of_ble_eq_true rfl, Nat.le_of_ble_eq_true rfl⟩ (q := 5) rfl (fun r_2 h_2 => ?_)
  subst h_2
  refine g_if_ne C (t := 10) dX7_curve_5 (by decide) (q := 8) rfl (fun c_5 => ?_) (fun c_5 => ?_)
  · replace c_5 := ite_n0 c_5
    obtain ⟨k1, hk, rfl⟩ := hcP_of c_5 (by omega)
    refine g_aload_n C 0 dX7_curve_10 rfl rfl rfl (q := 11) ?_
    refine g_iload_n C 1 dX7_curve_11 rfl rfl rfl (q := 12) ?_
    refine gcV_qv C (n := 1) (As := [.int (nI k1)]) (st := []) 0 (fun h => h) (fun _ h => h) dX7_curve_12 rfl rfl gX7_curve_X7_draw (c_X7_draw l D cI cJ cZ b n gr li st tr t sd lea pa pt pp su sh tt k1 sp m hL hk hT) rfl rfl rfl (by decide +kernel) ⟨Nat.le_of_ble_eq_true rfl, Nat.le_of_ble_eq_true rfl⟩ rfl rfl (Nat.le_of_ble_eq_true rfl) FT_b FT_h ⟨Nat.le_of_ble_eq_true rfl, Nat.le_of_ble_eq_true rfl⟩ (q := 15) rfl (fun u_12 h_12 => ?_)
    have h_12 : DRW (mL gr li tr st n k1) 1001 u_12.2.1 u_12.2.2.1 u_12.2.2.2 := h_12
    show G 0 0 (wM cI cJ cZ b (nI n) gr li st tr (nI t) sd u_12.1 (nI u_12.2.1) u_12.2.2.1 u_12.2.2.2 su sh tt) [(0, .ref (b 0)), (1, .int (nI k1))] 15 []
    refine g_aload_n C 0 dX7_curve_15 rfl rfl rfl (q := 16) ?_
    refine g_get C 0 8 dX7_curve_16 (Cn := RX7) (T := TX7) (N := 14) (fun _ h => List.mem_cons_of_mem _ (List.mem_append_right _ h)) rfl rfl (by decide) (List.mem_cons_of_mem _ (List.mem_append_left _ (List.mem_of_getElem? (i := 0) rfl))) rfl (q := 19) rfl ?_
    exact hret _ (u_12.1, nI u_12.2.1, u_12.2.2.1, u_12.2.2.2) 19 _ dX7_curve_19 rfl (by rw [aCurve, if_pos c_5, nI_clamp (by omega), h_12.1])
  · replace c_5 := ite_e0 c_5
    refine g_iconst C (-1) dX7_curve_8 (by decide) (q := 9) rfl ?_
    exact hret _ (lea, pa, pt, pp) 9 _ dX7_curve_9 rfl (by rw [aCurve, if_neg c_5])
set_option maxHeartbeats 4000000 in
set_option maxRecDepth 100000 in
theorem c_X7_point (l : Launch) (D : va_G) (cI cJ cZ : ClassId) (b : Nat → Nat) (n : Nat) (gr li st tr : Nat → Int32) (t : Nat) (sd lea : Nat → Int32) (pa : Int32) (pt pp : Nat → Int32) (su : Int32) (sh tt : Nat → Int32) (k i v : Int32) (sp : Nat → Int32) (m : Nat) (hL : LInv st sp n m) (hT : TrOK tr) : Met l yX7_point wsX7_point { frames := 5, cells := 0, slots := 0, locals := 125 } (gPc D (tyT cI cJ cZ) (wB b) FT (wM cI cJ cZ b (nI n) gr li st tr (nI t) sd lea pa pt pp su sh tt) [.ref (b 0), .int k, .int i, .int v]) (va_Qi (fun (r : Int32) (u : (Nat → Int32) × Int32 × (Nat → Int32) × (Nat → Int32)) => r = aPoint gr li tr st n m k i v) (fun u tS => va_P D vwCl ((fun (u : (Nat → Int32) × Int32 × (Nat → Int32) × (Nat → Int32)) => wM cI cJ cZ b (nI n) gr li st tr (nI t) sd u.1 u.2.1 u.2.2.1 u.2.2.2 su sh tt) u) tS.heap ∧ va_D (wB b) ((fun (u : (Nat → Int32) × Int32 × (Nat → Int32) × (Nat → Int32)) => wM cI cJ cZ b (nI n) gr li st tr (nI t) sd u.1 u.2.1 u.2.2.1 u.2.2.2 su sh tt) u)) (wB b)) 0 0 (wB b) := by
  refine gs_qi (cc := cX7_point) (nL := 4) (ty := .int) (W' := fun (u : (Nat → Int32) × Int32 × (Nat → Int32) × (Nat → Int32)) => wM cI cJ cZ b (nI n) gr li st tr (nI t) sd u.1 u.2.1 u.2.2.1 u.2.2.2 su sh tt) (by decide) rfl (Nat.le_of_ble_eq_true rfl) (fun G C hret => ?_)
  show G 0 0 (wM cI cJ cZ b (nI n) gr li st tr (nI t) sd lea pa pt pp su sh tt) [(0, .ref (b 0)), (1, .int k), (2, .int i), (3, .int v)] 0 []
  have hn := hL.2.1
  have hmn := hL.m_le
  refine g_aload_n C 0 dX7_point_0 rfl rfl rfl (q := 1) ?_
  refine g_iload_n C 1 dX7_point_1 rfl rfl rfl (q := 2) ?_
  refine gcV_si C (n := 1) (As := [.int k]) (st := []) 0 (fun h => h) dX7_point_2 rfl rfl gX7_point_X7_isLeg (c_X7_isLeg l D cI cJ cZ b n gr li st tr t sd lea pa pt pp su sh tt k sp m (by first | assumption | omega)) rfl rfl rfl (by decide +kernel) ⟨Nat.le_of_ble_eq_true rfl, Nat.le_of_ble_eq_true rfl⟩ rfl rfl (Nat.le_of_ble_eq_true rfl) FT_b FT_h ⟨Nat.le_of_ble_eq_true rfl, Nat.le_of_ble_eq_true rfl⟩ (q := 5) rfl (fun r_2 h_2 => ?_)
  subst h_2
  refine g_if_ne C (t := 10) dX7_point_5 (by decide) (q := 8) rfl (fun c_5 => ?_) (fun c_5 => ?_)
  · replace c_5 := ite_n0 c_5
    obtain ⟨k1, hk, rfl⟩ := hcP_of c_5 (by omega)
    refine g_aload_n C 0 dX7_point_10 rfl rfl rfl (q := 11) ?_
    refine g_iload_n C 1 dX7_point_11 rfl rfl rfl (q := 12) ?_
    refine gcV_qv C (n := 1) (As := [.int (nI k1)]) (st := []) 0 (fun h => h) (fun _ h => h) dX7_point_12 rfl rfl gX7_point_X7_draw (c_X7_draw l D cI cJ cZ b n gr li st tr t sd lea pa pt pp su sh tt k1 sp m hL hk hT) rfl rfl rfl (by decide +kernel) ⟨Nat.le_of_ble_eq_true rfl, Nat.le_of_ble_eq_true rfl⟩ rfl rfl (Nat.le_of_ble_eq_true rfl) FT_b FT_h ⟨Nat.le_of_ble_eq_true rfl, Nat.le_of_ble_eq_true rfl⟩ (q := 15) rfl (fun u_12 h_12 => ?_)
    have h_12 : DRW (mL gr li tr st n k1) 1001 u_12.2.1 u_12.2.2.1 u_12.2.2.2 := h_12
    show G 0 0 (wM cI cJ cZ b (nI n) gr li st tr (nI t) sd u_12.1 (nI u_12.2.1) u_12.2.2.1 u_12.2.2.2 su sh tt) [(0, .ref (b 0)), (1, .int (nI k1)), (2, .int i), (3, .int v)] 15 []
    obtain ⟨g1, np, f1, f2⟩ := u_12
    have h_12 : DRW (mL gr li tr st n k1) 1001 np f1 f2 := h_12
    have hnp : np ≤ 1001 := by rw [h_12.1]; exact prs_len _ _
    refine g_iload_n C 2 dX7_point_15 rfl rfl rfl (q := 16) ?_
    refine g_iconst C (nI 0) dX7_point_16 (by decide) (q := 17) rfl ?_
    refine g_aload_n C 0 dX7_point_17 rfl rfl rfl (q := 18) ?_
    refine g_get C 0 8 dX7_point_18 (Cn := RX7) (T := TX7) (N := 14) (fun _ h => List.mem_cons_of_mem _ (List.mem_append_right _ h)) rfl rfl (by decide) (List.mem_cons_of_mem _ (List.mem_append_left _ (List.mem_of_getElem? (i := 0) rfl))) rfl (q := 21) rfl ?_
    refine g_iconst C (nI 1) dX7_point_21 (by decide) (q := 22) rfl ?_
    refine g_isub C dX7_point_22 (q := 23) rfl ?_
    refine gcS_si C (n := 3) (As := [.int i, .int (nI 0), .int ((nI np) - (nI 1))]) (st := []) (fun h => h) dX7_point_23 gX7_point_X7_in (c_X7_in l D cI cJ cZ b n gr li st tr t sd g1 (nI np) f1 f2 su sh tt i (nI 0) ((nI np) - (nI 1))) rfl rfl rfl (by decide +kernel) ⟨Nat.le_of_ble_eq_true rfl, Nat.le_of_ble_eq_true rfl⟩ rfl rfl (Nat.le_of_ble_eq_true rfl) FT_b FT_h ⟨Nat.le_of_ble_eq_true rfl, Nat.le_of_ble_eq_true rfl⟩ (q := 26) rfl (fun r_23 h_23 => ?_)
    subst h_23
    refine g_eqi C (y := if hcP np i then nI 1 else nI 0) (ite_cg (in_hc0 (by omega))) ?_
    refine g_if_ne C (t := 34) dX7_point_26 (by decide) (q := 29) rfl (fun c_26 => ?_) (fun c_26 => ?_)
    · replace c_26 := ite_n0 c_26
      have hci := c_26
      obtain ⟨i1, hi, rfl⟩ := hcP_of c_26 (by omega)
      refine g_iload_n C 3 dX7_point_34 rfl rfl rfl (q := 35) ?_
      refine g_if_eq C (t := 47) dX7_point_35 (by decide) (q := 38) rfl (fun c_35 => ?_) (fun c_35 => ?_)
      · refine g_aload_n C 0 dX7_point_47 rfl rfl rfl (q := 48) ?_
        refine g_get C 0 9 dX7_point_48 (Cn := RX7) (T := TX7) (N := 14) (fun _ h => List.mem_cons_of_mem _ (List.mem_append_right _ h)) rfl rfl (by decide) (List.mem_cons_of_mem _ (List.mem_append_left _ (List.mem_of_getElem? (i := 3) rfl))) rfl (q := 51) rfl ?_
        refine g_iload_n C 2 dX7_point_51 rfl rfl rfl (q := 52) ?_
        refine g_iald C 7 0 dX7_point_52 rfl rfl (vp_in_nI (by omega) (by decide)) (q := 53) rfl ?_
        refine g_eqi C (y := f1 i1) (by rw [nI_clamp (by omega)]) ?_
        refine g_eqi C (y := nI ((prs (mL gr li tr st n k1) 1001).getD i1 0)) ((h_12.2 i1 hi).1) ?_
        exact hret _ (g1, nI np, f1, f2) 53 _ dX7_point_53 rfl (by first | (rw [aPoint, if_pos c_5, nI_clamp (by omega), ← h_12.1, if_neg c_26]) | (rw [aPoint, if_pos c_5, nI_clamp (show k1 < 2 ^ 31 by omega), ← h_12.1, if_pos hci, nI_clamp (show i1 < 2 ^ 31 by omega), if_neg c_35]) | (rw [aPoint, if_pos c_5, nI_clamp (show k1 < 2 ^ 31 by omega), ← h_12.1, if_pos hci, nI_clamp (show i1 < 2 ^ 31 by omega), if_pos c_35]))
      · refine g_aload_n C 0 dX7_point_38 rfl rfl rfl (q := 39) ?_
        refine g_get C 0 10 dX7_point_39 (Cn := RX7) (T := TX7) (N := 14) (fun _ h => List.mem_cons_of_mem _ (List.mem_append_right _ h)) rfl rfl (by decide) (List.mem_cons_of_mem _ (List.mem_append_left _ (List.mem_of_getElem? (i := 2) rfl))) rfl (q := 42) rfl ?_
        refine g_iload_n C 2 dX7_point_42 rfl rfl rfl (q := 43) ?_
        refine g_iald C 8 0 dX7_point_43 rfl rfl (vp_in_nI (by omega) (by decide)) (q := 44) rfl ?_
        refine g_eqi C (y := f2 i1) (by rw [nI_clamp (by omega)]) ?_
        refine g_eqi C (y := jN (mL gr li tr st n k1 ((prs (mL gr li tr st n k1) 1001).getD i1 0))) ((h_12.2 i1 hi).2) ?_
        refine g_goto C (q := 53) dX7_point_44 (by decide) ?_
        exact hret _ (g1, nI np, f1, f2) 53 _ dX7_point_53 rfl (by first | (rw [aPoint, if_pos c_5, nI_clamp (by omega), ← h_12.1, if_neg c_26]) | (rw [aPoint, if_pos c_5, nI_clamp (show k1 < 2 ^ 31 by omega), ← h_12.1, if_pos hci, nI_clamp (show i1 < 2 ^ 31 by omega), if_neg c_35]) | (rw [aPoint, if_pos c_5, nI_clamp (show k1 < 2 ^ 31 by omega), ← h_12.1, if_pos hci, nI_clamp (show i1 < 2 ^ 31 by omega), if_pos c_35]))
    · replace c_26 := ite_e0 c_26
      refine g_ldc C (v := (-1000000)) dX7_point_29 (List.mem_cons_of_mem _ (List.mem_append_left _ (List.mem_of_getElem? (i := 1) rfl))) (q := 31) rfl ?_
      refine g_goto C (q := 53) dX7_point_31 (by decide) ?_
      exact hret _ (g1, nI np, f1, f2) 53 _ dX7_point_53 rfl (by first | (rw [aPoint, if_pos c_5, nI_clamp (by omega), ← h_12.1, if_neg c_26]) | (rw [aPoint, if_pos c_5, nI_clamp (show k1 < 2 ^ 31 by omega), ← h_12.1, if_pos hci, nI_clamp (show i1 < 2 ^ 31 by omega), if_neg c_35]) | (rw [aPoint, if_pos c_5, nI_clamp (show k1 < 2 ^ 31 by omega), ← h_12.1, if_pos hci, nI_clamp (show i1 < 2 ^ 31 by omega), if_pos c_35]))
  · replace c_5 := ite_e0 c_5
    refine g_iconst C (-1) dX7_point_8 (by decide) (q := 9) rfl ?_
    exact hret _ (lea, pa, pt, pp) 9 _ dX7_point_9 rfl (by rw [aPoint, if_neg c_5])
