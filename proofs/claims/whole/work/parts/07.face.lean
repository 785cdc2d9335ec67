/-! the class: what its simple calls answer -/
abbrev hcP (n : Nat) (k : Int32) : Prop := ¬ k < 0 ∧ ¬ nI n ≤ k
abbrev hpP (n : Nat) (k : Int32) : Prop := ¬ k < 0 ∧ ¬ nI n < k
abbrev spP (x : Int32) : Prop := ¬ x < 0 ∧ ¬ nI 6 < x
abbrev tmP (x : Int32) : Prop := ¬ x < 0 ∧ ¬ nI 1000 < x
theorem hcP_of {n : Nat} {k : Int32} (h : hcP n k) (hn : n < 2 ^ 31) : ∃ j : Nat, j < n ∧ k = nI j := by
  rcases pk_ix k hn with q | q | q
  · exact absurd q h.1
  · exact absurd q h.2
  · exact q
theorem hcP_nI {n k : Nat} (hn : n < 2 ^ 31) (h : k < n) : hcP n (nI k) := ⟨nI_pos (by omega), nI_ge h hn⟩
theorem hpP_of {n : Nat} {k : Int32} (h : hpP n k) (hn : n < 2 ^ 31) : ∃ j : Nat, j ≤ n ∧ k = nI j := nI_of2 (nI_toInt hn) h.1 (Int32.not_lt.mp h.2)
theorem spP_of {x : Int32} (h : spP x) : ∃ v : Nat, v ≤ 6 ∧ x = nI v := nI_of2 (nI_toInt (by decide)) h.1 (Int32.not_lt.mp h.2)
theorem tmP_of {x : Int32} (h : tmP x) : ∃ v : Nat, v ≤ 1000 ∧ x = nI v := nI_of2 (nI_toInt (by decide)) h.1 (Int32.not_lt.mp h.2)
def aSR (n : Nat) (k u v : Int32) : Int32 := if hcP n k then (if spP u ∧ spP v then nI 0 else -2) else -1
def aSt (F : Nat → Nat → Nat → Int32) (n : Nat) (k u v : Int32) : Int32 := if aSR n k u v = 0 then F k.toNatClampNeg u.toNatClampNeg v.toNatClampNeg else aSR n k u v
theorem aSR_0 {n : Nat} {k u v : Int32} (h : aSR n k u v = 0) (hn : n ≤ 16) : ∃ a b c : Nat, a < n ∧ b ≤ 6 ∧ c ≤ 6 ∧ k = nI a ∧ u = nI b ∧ v = nI c := by
  unfold aSR at h
  by_cases h1 : hcP n k
  · rw [if_pos h1] at h
    by_cases h2 : spP u ∧ spP v
    · obtain ⟨a, ha, e1⟩ := hcP_of h1 (by omega)
      obtain ⟨b, hb, e2⟩ := spP_of h2.1
      obtain ⟨c, hc, e3⟩ := spP_of h2.2
      exact ⟨a, b, c, ha, hb, hc, e1, e2, e3⟩
    · rw [if_neg h2] at h; exact absurd h (by decide)
  · rw [if_neg h1] at h; exact absurd h (by decide)
theorem aSt_1 {F : Nat → Nat → Nat → Int32} {n k u v : Nat} (h : aSR n (nI k) (nI u) (nI v) = 0) (hk : k < 16) (hu : u ≤ 6) (hv : v ≤ 6) {x : Int32} (e : x = F k u v) : x = aSt F n (nI k) (nI u) (nI v) := by
  rw [aSt, if_pos h, nI_clamp (by omega), nI_clamp (by omega), nI_clamp (by omega), e]
def aDR (m : Nat) (k t : Int32) : Int32 := if hcP m k then (if tmP t then nI 0 else -2) else -1
theorem aDR_0 {m : Nat} {k t : Int32} (h : aDR m k t = 0) (hm : m ≤ 16) : ∃ a b : Nat, a < m ∧ b ≤ 1000 ∧ k = nI a ∧ t = nI b := by
  unfold aDR at h
  by_cases h1 : hcP m k
  · rw [if_pos h1] at h
    by_cases h2 : tmP t
    · obtain ⟨a, ha, e1⟩ := hcP_of h1 (by omega)
      obtain ⟨b, hb, e2⟩ := tmP_of h2
      exact ⟨a, b, ha, hb, e1, e2⟩
    · rw [if_neg h2] at h; exact absurd h (by decide)
  · rw [if_neg h1] at h; exact absurd h (by decide)
def aTm (gr li nu : Nat → Int32) (k u v : Nat) : Int32 := if flN gr li nu k u v = 0 then nI (tmN u v) else -1000000
def aPw (gr li nu : Nat → Int32) (k u v : Nat) : Int32 := if flN gr li nu k u v = 0 then pwN gr nu k u v else -1000000
def aHas (nu : Nat → Int32) (k : Int32) : Int32 := if hcP 5 k then nu k.toNatClampNeg else -2
def aLeg (st : Nat → Int32) (n m : Nat) (k b : Int32) : Int32 := if hcP m k then nI (posOf st (k.toNatClampNeg + (if b = 0 then 0 else 1)) n) else -1
def aCount (n m t : Nat) (k : Int32) : Int32 := if k = nI 0 then nI n else if k = nI 1 then nI m else if k = nI 2 then nI t else -2
def aJudged (gr li nu st : Nat → Int32) (s : Nat → Nat) (t : Nat) (k : Int32) : Int32 := if k = nI 0 then sumI (lgT gr li nu s) (t - 1) else if k = nI 1 then sumI (lgP gr li nu s) (t - 1) else if k = nI 2 then sumI (lgF gr li nu s) (t - 1) else if k = nI 3 then ffU (lgF gr li nu s) (t - 1) else if k = nI 4 then sumI (lgS st s) t else -2
theorem tb_out {x : Int32} {n : Nat} (h : ∀ i, i < n → ¬ x = nI i) (hn : n < 2 ^ 31) : x.toInt < 0 ∨ ((n : Int) - 1) < x.toInt := by
  rcases Int.lt_or_le x.toInt 0 with q | q
  · exact Or.inl q
  · rcases Int.lt_or_le ((n : Int) - 1) x.toInt with r | r
    · exact Or.inr r
    · refine absurd ?_ (h x.toInt.toNat (by omega))
      apply Int32.toInt_inj.mp
      rw [nI_toInt (by omega)]
      omega
def aLog (n t : Nat) (sd : Nat → Int32) (v : Int32) : Int32 × (Nat → Int32) × Nat := if spP v then (if n < t then (-4, sd, t) else (nI (t + 1), upd sd t v, t + 1)) else (-2, sd, t)
abbrev okC (g v : Int32) : Prop := ¬ g < -4 ∧ ¬ nI 4 < g ∧ ¬ v < nI 1 ∧ ¬ nI 6 < v
def aCell (gr li : Nat → Int32) (n : Nat) (k g v : Int32) : Int32 × (Nat → Int32) × (Nat → Int32) := if hcP n k then (if okC g v then (li k.toNatClampNeg, upd gr k.toNatClampNeg g, upd li k.toNatClampNeg v) else (-2, gr, li)) else (-1, gr, li)
def aStop (st : Nat → Int32) (n : Nat) (k v : Int32) : Int32 × (Nat → Int32) := if hpP n k then (if k = nI 0 ∨ k = nI n then (-3, st) else (nI (cnt (upd st k.toNatClampNeg v) (n + 1) - 1), upd st k.toNatClampNeg v)) else (-1, st)
abbrev lnP (k : Int32) : Prop := ¬ k < nI 1 ∧ ¬ nI 16 < k
theorem lnP_of {k : Int32} (h : lnP k) : ∃ z : Nat, 1 ≤ z ∧ z ≤ 16 ∧ k = nI z := by
  obtain ⟨z, hz, e⟩ := nI_of2 (x := k) (M := nI 16) (n := 16) (nI_toInt (by decide)) (fun q => h.1 (Int32.lt_trans q (by decide))) (Int32.not_lt.mp h.2)
  subst e
  refine ⟨z, ?_, hz, rfl⟩
  have := h.1
  rw [nI_ltI (by omega) (by decide)] at this
  omega
theorem upd_01 {st : Nat → Int32} {k : Nat} {v : Int32} (h : ∀ j, st j = nI 0 ∨ st j = nI 1) (hv : v = nI 0 ∨ v = nI 1) : ∀ j, upd st k v j = nI 0 ∨ upd st k v j = nI 1 := by
  intro j
  by_cases e : j = k
  · subst e; rw [pk_us]; exact hv
  · rw [pk_un e]; exact h j
set_option maxHeartbeats 4000000 in
set_option maxRecDepth 100000 in
theorem c_X6_isSpeed (l : Launch) (D : va_G) (cI cJ cZ : ClassId) (a : Nat → Nat) (hA nA : Nat) (gr li st sp : Nat → Int32) (n m : Nat) (nu : Nat → Int32) (ev od : Nat → Int64) (fp ti : Nat → Int32) (wc : Nat → Int64) (wu : Int32) (sc pv : Nat → Int64) (su : Int32) (sd : Nat → Int32) (t : Nat) (x : Int32) : Met l yX6_isSpeed wsX6_isSpeed { frames := 0, cells := 0, slots := 0, locals := 0 } (gPc D (tyT cI cJ cZ) (wA a (a 11) (a 12)) FT (wC cI cJ cZ a hA nA gr li st sp (nI n) (nI m) nu ev od fp ti wc wu sc pv su sd (nI t)) [.int x]) (vp_Si (fun r => r = if spP x then nI 1 else nI 0)) 0 0 (fun _ => False) := by
  refine gs_si (cc := cX6_isSpeed) (nL := 1) (ty := .boolean) (by decide) rfl (Nat.le_of_ble_eq_true rfl) (fun G C hret => ?_)
  show G 0 0 (wC cI cJ cZ a hA nA gr li st sp (nI n) (nI m) nu ev od fp ti wc wu sc pv su sd (nI t)) [(0, .int x)] 0 []
  refine g_iload_n C 0 dX6_isSpeed_0 rfl rfl rfl (q := 1) ?_
  refine g_if_lt C (t := 14) dX6_isSpeed_1 (by decide) (q := 4) rfl (fun c_1 => ?_) (fun c_1 => ?_)
  · refine g_iconst C (nI 0) dX6_isSpeed_14 (by decide) (q := 15) rfl ?_
    exact hret _ 15 _ _ dX6_isSpeed_15 (by decide) ((if_neg (by first | assumption | (refine ⟨?_, ?_⟩ <;> assumption) | (refine ⟨?_, ?_, ?_⟩ <;> assumption) | omega | simp_all)).symm)
  · refine g_iload_n C 0 dX6_isSpeed_4 rfl rfl rfl (q := 5) ?_
    refine g_bipush C (nI 6) dX6_isSpeed_5 (by decide) (q := 7) rfl ?_
    refine g_icmp_gt C (t := 14) dX6_isSpeed_7 (by decide) (q := 10) rfl (fun c_7 => ?_) (fun c_7 => ?_)
    · refine g_iconst C (nI 0) dX6_isSpeed_14 (by decide) (q := 15) rfl ?_
      exact hret _ 15 _ _ dX6_isSpeed_15 (by decide) ((if_neg (by first | assumption | (refine ⟨?_, ?_⟩ <;> assumption) | (refine ⟨?_, ?_, ?_⟩ <;> assumption) | omega | simp_all)).symm)
    · refine g_iconst C (nI 1) dX6_isSpeed_10 (by decide) (q := 11) rfl ?_
      refine g_goto C (q := 15) dX6_isSpeed_11 (by decide) ?_
      exact hret _ 15 _ _ dX6_isSpeed_15 (by decide) ((if_pos (by first | assumption | (refine ⟨?_, ?_⟩ <;> assumption) | (refine ⟨?_, ?_, ?_⟩ <;> assumption) | omega | simp_all)).symm)
set_option maxHeartbeats 4000000 in
set_option maxRecDepth 100000 in
theorem c_X6_isTime (l : Launch) (D : va_G) (cI cJ cZ : ClassId) (a : Nat → Nat) (hA nA : Nat) (gr li st sp : Nat → Int32) (n m : Nat) (nu : Nat → Int32) (ev od : Nat → Int64) (fp ti : Nat → Int32) (wc : Nat → Int64) (wu : Int32) (sc pv : Nat → Int64) (su : Int32) (sd : Nat → Int32) (t : Nat) (x : Int32) : Met l yX6_isTime wsX6_isTime { frames := 0, cells := 0, slots := 0, locals := 0 } (gPc D (tyT cI cJ cZ) (wA a (a 11) (a 12)) FT (wC cI cJ cZ a hA nA gr li st sp (nI n) (nI m) nu ev od fp ti wc wu sc pv su sd (nI t)) [.int x]) (vp_Si (fun r => r = if tmP x then nI 1 else nI 0)) 0 0 (fun _ => False) := by
  refine gs_si (cc := cX6_isTime) (nL := 1) (ty := .boolean) (by decide) rfl (Nat.le_of_ble_eq_true rfl) (fun G C hret => ?_)
  show G 0 0 (wC cI cJ cZ a hA nA gr li st sp (nI n) (nI m) nu ev od fp ti wc wu sc pv su sd (nI t)) [(0, .int x)] 0 []
  refine g_iload_n C 0 dX6_isTime_0 rfl rfl rfl (q := 1) ?_
  refine g_if_lt C (t := 15) dX6_isTime_1 (by decide) (q := 4) rfl (fun c_1 => ?_) (fun c_1 => ?_)
  · refine g_iconst C (nI 0) dX6_isTime_15 (by decide) (q := 16) rfl ?_
    exact hret _ 16 _ _ dX6_isTime_16 (by decide) ((if_neg (by first | assumption | (refine ⟨?_, ?_⟩ <;> assumption) | (refine ⟨?_, ?_, ?_⟩ <;> assumption) | omega | simp_all)).symm)
  · refine g_iload_n C 0 dX6_isTime_4 rfl rfl rfl (q := 5) ?_
    refine g_sipush C (nI 1000) dX6_isTime_5 (by decide) (q := 8) rfl ?_
    refine g_icmp_gt C (t := 15) dX6_isTime_8 (by decide) (q := 11) rfl (fun c_8 => ?_) (fun c_8 => ?_)
    · refine g_iconst C (nI 0) dX6_isTime_15 (by decide) (q := 16) rfl ?_
      exact hret _ 16 _ _ dX6_isTime_16 (by decide) ((if_neg (by first | assumption | (refine ⟨?_, ?_⟩ <;> assumption) | (refine ⟨?_, ?_, ?_⟩ <;> assumption) | omega | simp_all)).symm)
    · refine g_iconst C (nI 1) dX6_isTime_11 (by decide) (q := 12) rfl ?_
      refine g_goto C (q := 16) dX6_isTime_12 (by decide) ?_
      exact hret _ 16 _ _ dX6_isTime_16 (by decide) ((if_pos (by first | assumption | (refine ⟨?_, ?_⟩ <;> assumption) | (refine ⟨?_, ?_, ?_⟩ <;> assumption) | omega | simp_all)).symm)
set_option maxHeartbeats 4000000 in
set_option maxRecDepth 100000 in
theorem c_X6_forgetChoices (l : Launch) (D : va_G) (cI cJ cZ : ClassId) (a : Nat → Nat) (hA nA : Nat) (gr li st sp : Nat → Int32) (n m : Nat) (nu : Nat → Int32) (ev od : Nat → Int64) (fp ti : Nat → Int32) (wc : Nat → Int64) (wu : Int32) (sc pv : Nat → Int64) (su : Int32) (sd : Nat → Int32) (t : Nat) : Met l yX6_forgetChoices wsX6_forgetChoices { frames := 1, cells := 0, slots := 0, locals := 20 } (gPc D (tyT cI cJ cZ) (wA a (a 11) (a 12)) FT (wC cI cJ cZ a hA nA gr li st sp (nI n) (nI m) nu ev od fp ti wc wu sc pv su sd (nI t)) [.ref (a 0)]) (va_Qv (fun (u : Unit) => True) (fun u tS => va_P D vwCl ((fun (u : Unit) => wC cI cJ cZ a hA nA gr li st sp (nI n) (nI m) nu ev od fp ti wc (nI 0) sc pv (nI 0) sd (nI t)) u) tS.heap ∧ va_D (wA a (a 11) (a 12)) ((fun (u : Unit) => wC cI cJ cZ a hA nA gr li st sp (nI n) (nI m) nu ev od fp ti wc (nI 0) sc pv (nI 0) sd (nI t)) u)) (wA a (a 11) (a 12))) 0 0 (wA a (a 11) (a 12)) := by
  refine gs_qv (cc := cX6_forgetChoices) (nL := 1) (W' := fun (u : Unit) => wC cI cJ cZ a hA nA gr li st sp (nI n) (nI m) nu ev od fp ti wc (nI 0) sc pv (nI 0) sd (nI t)) (by decide) rfl (Nat.le_of_ble_eq_true rfl) (fun G C hret => ?_)
  show G 0 0 (wC cI cJ cZ a hA nA gr li st sp (nI n) (nI m) nu ev od fp ti wc wu sc pv su sd (nI t)) [(0, .ref (a 0))] 0 []
  refine g_aload_n C 0 dX6_forgetChoices_0 rfl rfl rfl (q := 1) ?_
  refine g_get C 0 3 dX6_forgetChoices_1 (Cn := RX6) (T := TX6) (N := 6) (fun _ h => List.mem_cons_of_mem _ (List.mem_append_left _ (List.mem_append_left _ (List.mem_append_right _ h)))) rfl rfl (by decide) (List.mem_cons_of_mem _ (List.mem_append_left _ (List.mem_append_left _ (List.mem_append_left _ (List.mem_of_getElem? (i := 0) rfl))))) rfl (q := 4) rfl ?_
  refine gcV_qv C (n := 0) (As := []) (st := []) 4 (fun h => h) (fun _ h => h) dX6_forgetChoices_4 rfl rfl gX6_forgetChoices_X5_forget (c_X5_forget l D cI cJ cZ a hA nA gr li st sp n m nu ev od fp ti wc wu sc pv su sd t) rfl rfl rfl (by decide +kernel) ⟨Nat.le_of_ble_eq_true rfl, Nat.le_of_ble_eq_true rfl⟩ rfl rfl (Nat.le_of_ble_eq_true rfl) FT_b FT_h ⟨Nat.le_of_ble_eq_true rfl, Nat.le_of_ble_eq_true rfl⟩ (q := 7) rfl (fun u_4 h_4 => ?_)
  refine g_aload_n C 0 dX6_forgetChoices_7 rfl rfl rfl (q := 8) ?_
  refine g_get C 0 4 dX6_forgetChoices_8 (Cn := RX6) (T := TX6) (N := 6) (fun _ h => List.mem_cons_of_mem _ (List.mem_append_left _ (List.mem_append_left _ (List.mem_append_right _ h)))) rfl rfl (by decide) (List.mem_cons_of_mem _ (List.mem_append_left _ (List.mem_append_left _ (List.mem_append_left _ (List.mem_of_getElem? (i := 1) rfl))))) rfl (q := 11) rfl ?_
  refine gcV_qv C (n := 0) (As := []) (st := []) 5 (fun h => h) (fun _ h => h) dX6_forgetChoices_11 rfl rfl gX6_forgetChoices_X2_forget (c_X2_forget l D cI cJ cZ a hA nA gr li st sp n m nu ev od fp ti wc (nI 0) sc pv su sd t) rfl rfl rfl (by decide +kernel) ⟨Nat.le_of_ble_eq_true rfl, Nat.le_of_ble_eq_true rfl⟩ rfl rfl (Nat.le_of_ble_eq_true rfl) FT_b FT_h ⟨Nat.le_of_ble_eq_true rfl, Nat.le_of_ble_eq_true rfl⟩ (q := 14) rfl (fun u_11 h_11 => ?_)
  exact hret () 14 _ dX6_forgetChoices_14 (trivial)
set_option maxHeartbeats 4000000 in
set_option maxRecDepth 100000 in
theorem c_X6_stepRefusal (l : Launch) (D : va_G) (cI cJ cZ : ClassId) (a : Nat → Nat) (hA nA : Nat) (gr li st sp : Nat → Int32) (n m : Nat) (nu : Nat → Int32) (ev od : Nat → Int64) (fp ti : Nat → Int32) (wc : Nat → Int64) (wu : Int32) (sc pv : Nat → Int64) (su : Int32) (sd : Nat → Int32) (t : Nat) (k u v : Int32) : Met l yX6_stepRefusal wsX6_stepRefusal { frames := 1, cells := 0, slots := 0, locals := 21 } (gPc D (tyT cI cJ cZ) (wA a (a 11) (a 12)) FT (wC cI cJ cZ a hA nA gr li st sp (nI n) (nI m) nu ev od fp ti wc wu sc pv su sd (nI t)) [.ref (a 0), .int k, .int u, .int v]) (vp_Si (fun r => r = aSR n k u v)) 0 0 (fun _ => False) := by
  refine gs_si (cc := cX6_stepRefusal) (nL := 4) (ty := .int) (by decide) rfl (Nat.le_of_ble_eq_true rfl) (fun G C hret => ?_)
  show G 0 0 (wC cI cJ cZ a hA nA gr li st sp (nI n) (nI m) nu ev od fp ti wc wu sc pv su sd (nI t)) [(0, .ref (a 0)), (1, .int k), (2, .int u), (3, .int v)] 0 []
  refine g_aload_n C 0 dX6_stepRefusal_0 rfl rfl rfl (q := 1) ?_
  refine g_get C 0 0 dX6_stepRefusal_1 (Cn := RX6) (T := TX6) (N := 6) (fun _ h => List.mem_cons_of_mem _ (List.mem_append_left _ (List.mem_append_right _ h))) rfl rfl (by decide) (List.mem_cons_of_mem _ (List.mem_append_left _ (List.mem_append_left _ (List.mem_of_getElem? (i := 0) rfl)))) rfl (q := 4) rfl ?_
  refine g_iload_n C 1 dX6_stepRefusal_4 rfl rfl rfl (q := 5) ?_
  refine gcV_si C (n := 1) (As := [.int k]) (st := []) 1 (fun h => h) dX6_stepRefusal_5 rfl rfl gX6_stepRefusal_X0_hasCell (c_X0_hasCell l D cI cJ cZ a hA nA gr li st sp n m nu ev od fp ti wc wu sc pv su sd t k) rfl rfl rfl (by decide +kernel) ⟨Nat.le_of_ble_eq_true rfl, Nat.le_of_ble_eq_true rfl⟩ rfl rfl (Nat.le_of_ble_eq_true rfl) FT_b FT_h ⟨Nat.le_of_ble_eq_true rfl, Nat.le_of_ble_eq_true rfl⟩ (q := 8) rfl (fun r_5 h_5 => ?_)
  subst h_5
  refine g_if_ne C (t := 13) dX6_stepRefusal_8 (by decide) (q := 11) rfl (fun c_8 => ?_) (fun c_8 => ?_)
  · replace c_8 := ite_n0 c_8
    refine g_iload_n C 2 dX6_stepRefusal_13 rfl rfl rfl (q := 14) ?_
    refine gcS_si C (n := 1) (As := [.int u]) (st := []) (fun h => h) dX6_stepRefusal_14 gX6_stepRefusal_X6_isSpeed (c_X6_isSpeed l D cI cJ cZ a hA nA gr li st sp n m nu ev od fp ti wc wu sc pv su sd t u) rfl rfl rfl (by decide +kernel) ⟨Nat.le_of_ble_eq_true rfl, Nat.le_of_ble_eq_true rfl⟩ rfl rfl (Nat.le_of_ble_eq_true rfl) FT_b FT_h ⟨Nat.le_of_ble_eq_true rfl, Nat.le_of_ble_eq_true rfl⟩ (q := 17) rfl (fun r_14 h_14 => ?_)
    subst h_14
    refine g_if_eq C (t := 31) dX6_stepRefusal_17 (by decide) (q := 20) rfl (fun c_17 => ?_) (fun c_17 => ?_)
    · replace c_17 := ite_e0 c_17
      refine g_bipush C (-2) dX6_stepRefusal_31 (by decide) (q := 33) rfl ?_
      exact hret _ 33 _ _ dX6_stepRefusal_33 rfl (by first | (rw [aSR, if_pos c_8, if_neg (show ¬ (spP u ∧ spP v) from fun h => c_17 h.1)]) | (rw [aSR, if_pos c_8, if_neg (show ¬ (spP u ∧ spP v) from fun h => c_24 h.2)]) | (rw [aSR, if_pos c_8, if_pos (show spP u ∧ spP v from ⟨c_17, c_24⟩)]))
    · replace c_17 := ite_n0 c_17
      refine g_iload_n C 3 dX6_stepRefusal_20 rfl rfl rfl (q := 21) ?_
      refine gcS_si C (n := 1) (As := [.int v]) (st := []) (fun h => h) dX6_stepRefusal_21 gX6_stepRefusal_X6_isSpeed (c_X6_isSpeed l D cI cJ cZ a hA nA gr li st sp n m nu ev od fp ti wc wu sc pv su sd t v) rfl rfl rfl (by decide +kernel) ⟨Nat.le_of_ble_eq_true rfl, Nat.le_of_ble_eq_true rfl⟩ rfl rfl (Nat.le_of_ble_eq_true rfl) FT_b FT_h ⟨Nat.le_of_ble_eq_true rfl, Nat.le_of_ble_eq_true rfl⟩ (q := 24) rfl (fun r_21 h_21 => ?_)
      subst h_21
      refine g_if_eq C (t := 31) dX6_stepRefusal_24 (by decide) (q := 27) rfl (fun c_24 => ?_) (fun c_24 => ?_)
      · replace c_24 := ite_e0 c_24
        refine g_bipush C (-2) dX6_stepRefusal_31 (by decide) (q := 33) rfl ?_
        exact hret _ 33 _ _ dX6_stepRefusal_33 rfl (by first | (rw [aSR, if_pos c_8, if_neg (show ¬ (spP u ∧ spP v) from fun h => c_17 h.1)]) | (rw [aSR, if_pos c_8, if_neg (show ¬ (spP u ∧ spP v) from fun h => c_24 h.2)]) | (rw [aSR, if_pos c_8, if_pos (show spP u ∧ spP v from ⟨c_17, c_24⟩)]))
      · replace c_24 := ite_n0 c_24
        refine g_iconst C (nI 0) dX6_stepRefusal_27 (by decide) (q := 28) rfl ?_
        refine g_goto C (q := 33) dX6_stepRefusal_28 (by decide) ?_
        exact hret _ 33 _ _ dX6_stepRefusal_33 rfl (by first | (rw [aSR, if_pos c_8, if_neg (show ¬ (spP u ∧ spP v) from fun h => c_17 h.1)]) | (rw [aSR, if_pos c_8, if_neg (show ¬ (spP u ∧ spP v) from fun h => c_24 h.2)]) | (rw [aSR, if_pos c_8, if_pos (show spP u ∧ spP v from ⟨c_17, c_24⟩)]))
  · replace c_8 := ite_e0 c_8
    refine g_iconst C (-1) dX6_stepRefusal_11 (by decide) (q := 12) rfl ?_
    exact hret _ 12 _ _ dX6_stepRefusal_12 rfl (by rw [aSR, if_neg c_8])
set_option maxHeartbeats 4000000 in
set_option maxRecDepth 100000 in
theorem c_X6_driveRefusal (l : Launch) (D : va_G) (cI cJ cZ : ClassId) (a : Nat → Nat) (hA nA : Nat) (gr li st sp : Nat → Int32) (n m : Nat) (nu : Nat → Int32) (ev od : Nat → Int64) (fp ti : Nat → Int32) (wc : Nat → Int64) (wu : Int32) (sc pv : Nat → Int64) (su : Int32) (sd : Nat → Int32) (t : Nat) (k z : Int32) : Met l yX6_driveRefusal wsX6_driveRefusal { frames := 1, cells := 0, slots := 0, locals := 21 } (gPc D (tyT cI cJ cZ) (wA a (a 11) (a 12)) FT (wC cI cJ cZ a hA nA gr li st sp (nI n) (nI m) nu ev od fp ti wc wu sc pv su sd (nI t)) [.ref (a 0), .int k, .int z]) (vp_Si (fun r => r = aDR m k z)) 0 0 (fun _ => False) := by
  refine gs_si (cc := cX6_driveRefusal) (nL := 3) (ty := .int) (by decide) rfl (Nat.le_of_ble_eq_true rfl) (fun G C hret => ?_)
  show G 0 0 (wC cI cJ cZ a hA nA gr li st sp (nI n) (nI m) nu ev od fp ti wc wu sc pv su sd (nI t)) [(0, .ref (a 0)), (1, .int k), (2, .int z)] 0 []
  refine g_aload_n C 0 dX6_driveRefusal_0 rfl rfl rfl (q := 1) ?_
  refine g_get C 0 0 dX6_driveRefusal_1 (Cn := RX6) (T := TX6) (N := 6) (fun _ h => List.mem_cons_of_mem _ (List.mem_append_left _ (List.mem_append_right _ h))) rfl rfl (by decide) (List.mem_cons_of_mem _ (List.mem_append_left _ (List.mem_append_left _ (List.mem_of_getElem? (i := 0) rfl)))) rfl (q := 4) rfl ?_
  refine g_iload_n C 1 dX6_driveRefusal_4 rfl rfl rfl (q := 5) ?_
  refine gcV_si C (n := 1) (As := [.int k]) (st := []) 1 (fun h => h) dX6_driveRefusal_5 rfl rfl gX6_driveRefusal_X0_hasLeg (c_X0_hasLeg l D cI cJ cZ a hA nA gr li st sp n m nu ev od fp ti wc wu sc pv su sd t k) rfl rfl rfl (by decide +kernel) ⟨Nat.le_of_ble_eq_true rfl, Nat.le_of_ble_eq_true rfl⟩ rfl rfl (Nat.le_of_ble_eq_true rfl) FT_b FT_h ⟨Nat.le_of_ble_eq_true rfl, Nat.le_of_ble_eq_true rfl⟩ (q := 8) rfl (fun r_5 h_5 => ?_)
  subst h_5
  refine g_if_ne C (t := 13) dX6_driveRefusal_8 (by decide) (q := 11) rfl (fun c_8 => ?_) (fun c_8 => ?_)
  · replace c_8 := ite_n0 c_8
    refine g_iload_n C 2 dX6_driveRefusal_13 rfl rfl rfl (q := 14) ?_
    refine gcS_si C (n := 1) (As := [.int z]) (st := []) (fun h => h) dX6_driveRefusal_14 gX6_driveRefusal_X6_isTime (c_X6_isTime l D cI cJ cZ a hA nA gr li st sp n m nu ev od fp ti wc wu sc pv su sd t z) rfl rfl rfl (by decide +kernel) ⟨Nat.le_of_ble_eq_true rfl, Nat.le_of_ble_eq_true rfl⟩ rfl rfl (Nat.le_of_ble_eq_true rfl) FT_b FT_h ⟨Nat.le_of_ble_eq_true rfl, Nat.le_of_ble_eq_true rfl⟩ (q := 17) rfl (fun r_14 h_14 => ?_)
    subst h_14
    refine g_if_eq C (t := 24) dX6_driveRefusal_17 (by decide) (q := 20) rfl (fun c_17 => ?_) (fun c_17 => ?_)
    · replace c_17 := ite_e0 c_17
      refine g_bipush C (-2) dX6_driveRefusal_24 (by decide) (q := 26) rfl ?_
      exact hret _ 26 _ _ dX6_driveRefusal_26 rfl (by first | (rw [aDR, if_pos c_8, if_neg c_17]) | (rw [aDR, if_pos c_8, if_pos c_17]))
    · replace c_17 := ite_n0 c_17
      refine g_iconst C (nI 0) dX6_driveRefusal_20 (by decide) (q := 21) rfl ?_
      refine g_goto C (q := 26) dX6_driveRefusal_21 (by decide) ?_
      exact hret _ 26 _ _ dX6_driveRefusal_26 rfl (by first | (rw [aDR, if_pos c_8, if_neg c_17]) | (rw [aDR, if_pos c_8, if_pos c_17]))
  · replace c_8 := ite_e0 c_8
    refine g_iconst C (-1) dX6_driveRefusal_11 (by decide) (q := 12) rfl ?_
    exact hret _ 12 _ _ dX6_driveRefusal_12 rfl (by rw [aDR, if_neg c_8])
set_option maxHeartbeats 4000000 in
set_option maxRecDepth 100000 in
theorem c_X6_force (l : Launch) (D : va_G) (cI cJ cZ : ClassId) (a : Nat → Nat) (hA nA : Nat) (gr li st sp : Nat → Int32) (n m : Nat) (nu : Nat → Int32) (ev od : Nat → Int64) (fp ti : Nat → Int32) (wc : Nat → Int64) (wu : Int32) (sc pv : Nat → Int64) (su : Int32) (sd : Nat → Int32) (t : Nat) (k u v : Int32) (hn : n ≤ 16) : Met l yX6_force wsX6_force { frames := 2, cells := 0, slots := 0, locals := 45 } (gPc D (tyT cI cJ cZ) (wA a (a 11) (a 12)) FT (wC cI cJ cZ a hA nA gr li st sp (nI n) (nI m) nu ev od fp ti wc wu sc pv su sd (nI t)) [.ref (a 0), .int k, .int u, .int v]) (vp_Si (fun r => r = aSt (fcN gr nu) n k u v)) 0 0 (fun _ => False) := by
  refine gs_si (cc := cX6_force) (nL := 5) (ty := .int) (by decide) rfl (Nat.le_of_ble_eq_true rfl) (fun G C hret => ?_)
  show G 0 0 (wC cI cJ cZ a hA nA gr li st sp (nI n) (nI m) nu ev od fp ti wc wu sc pv su sd (nI t)) [(0, .ref (a 0)), (1, .int k), (2, .int u), (3, .int v)] 0 []
  refine g_aload_n C 0 dX6_force_0 rfl rfl rfl (q := 1) ?_
  refine g_iload_n C 1 dX6_force_1 rfl rfl rfl (q := 2) ?_
  refine g_iload_n C 2 dX6_force_2 rfl rfl rfl (q := 3) ?_
  refine g_iload_n C 3 dX6_force_3 rfl rfl rfl (q := 4) ?_
  refine gcV_si C (n := 3) (As := [.int k, .int u, .int v]) (st := []) 0 (fun h => h) dX6_force_4 rfl rfl gX6_force_X6_stepRefusal (c_X6_stepRefusal l D cI cJ cZ a hA nA gr li st sp n m nu ev od fp ti wc wu sc pv su sd t k u v) rfl rfl rfl (by decide +kernel) ⟨Nat.le_of_ble_eq_true rfl, Nat.le_of_ble_eq_true rfl⟩ rfl rfl (Nat.le_of_ble_eq_true rfl) FT_b FT_h ⟨Nat.le_of_ble_eq_true rfl, Nat.le_of_ble_eq_true rfl⟩ (q := 7) rfl (fun r_4 h_4 => ?_)
  subst h_4
  refine g_istore C [(4, .int (aSR n k u v)), (0, .ref (a 0)), (1, .int k), (2, .int u), (3, .int v)] dX6_force_7 (by decide) rfl (q := 9) rfl ?_
  refine g_iload C 0 dX6_force_9 rfl rfl (q := 11) ?_
  refine g_if_eq C (t := 19) dX6_force_11 (by decide) (q := 14) rfl (fun c_11 => ?_) (fun c_11 => ?_)
  · obtain ⟨k1, u1, v1, hk, hu, hv, rfl, rfl, rfl⟩ := aSR_0 c_11 hn
    refine g_aload_n C 1 dX6_force_19 rfl rfl rfl (q := 20) ?_
    refine g_get C 0 2 dX6_force_20 (Cn := RX6) (T := TX6) (N := 6) (fun _ h => List.mem_cons_of_mem _ (List.mem_append_left _ (List.mem_append_left _ (List.mem_append_left _ (List.mem_append_right _ h))))) rfl rfl (by decide) (List.mem_cons_of_mem _ (List.mem_append_left _ (List.mem_append_left _ (List.mem_append_left _ (List.mem_append_left _ (List.mem_of_getElem? (i := 0) rfl)))))) rfl (q := 23) rfl ?_
    refine g_iload_n C 2 dX6_force_23 rfl rfl rfl (q := 24) ?_
    refine g_iload_n C 3 dX6_force_24 rfl rfl rfl (q := 25) ?_
    refine g_iload_n C 4 dX6_force_25 rfl rfl rfl (q := 26) ?_
    refine gcV_si C (n := 3) (As := [.int (nI k1), .int (nI u1), .int (nI v1)]) (st := []) 3 (fun h => h) dX6_force_26 rfl rfl gX6_force_X3_forceOf (c_X3_forceOf l D cI cJ cZ a hA nA gr li st sp n m nu ev od fp ti wc wu sc pv su sd t k1 u1 v1 (by first | assumption | omega)) rfl rfl rfl (by decide +kernel) ⟨Nat.le_of_ble_eq_true rfl, Nat.le_of_ble_eq_true rfl⟩ rfl rfl (Nat.le_of_ble_eq_true rfl) FT_b FT_h ⟨Nat.le_of_ble_eq_true rfl, Nat.le_of_ble_eq_true rfl⟩ (q := 29) rfl (fun r_26 h_26 => ?_)
    subst h_26
    exact hret _ 29 _ _ dX6_force_29 rfl (by first | exact aSt_1 c_11 (by omega) hu hv rfl | rw [aSt, if_neg c_11])
  · refine g_iload C 0 dX6_force_14 rfl rfl (q := 16) ?_
    refine g_goto C (q := 29) dX6_force_16 (by decide) ?_
    exact hret _ 29 _ _ dX6_force_29 rfl (by first | exact aSt_1 c_11 (by omega) hu hv rfl | rw [aSt, if_neg c_11])
set_option maxHeartbeats 4000000 in
set_option maxRecDepth 100000 in
theorem c_X6_fault (l : Launch) (D : va_G) (cI cJ cZ : ClassId) (a : Nat → Nat) (hA nA : Nat) (gr li st sp : Nat → Int32) (n m : Nat) (nu : Nat → Int32) (ev od : Nat → Int64) (fp ti : Nat → Int32) (wc : Nat → Int64) (wu : Int32) (sc pv : Nat → Int64) (su : Int32) (sd : Nat → Int32) (t : Nat) (k u v : Int32) (hn : n ≤ 16) : Met l yX6_fault wsX6_fault { frames := 3, cells := 0, slots := 0, locals := 69 } (gPc D (tyT cI cJ cZ) (wA a (a 11) (a 12)) FT (wC cI cJ cZ a hA nA gr li st sp (nI n) (nI m) nu ev od fp ti wc wu sc pv su sd (nI t)) [.ref (a 0), .int k, .int u, .int v]) (vp_Si (fun r => r = aSt (flN gr li nu) n k u v)) 0 0 (fun _ => False) := by
  refine gs_si (cc := cX6_fault) (nL := 5) (ty := .int) (by decide) rfl (Nat.le_of_ble_eq_true rfl) (fun G C hret => ?_)
  show G 0 0 (wC cI cJ cZ a hA nA gr li st sp (nI n) (nI m) nu ev od fp ti wc wu sc pv su sd (nI t)) [(0, .ref (a 0)), (1, .int k), (2, .int u), (3, .int v)] 0 []
  refine g_aload_n C 0 dX6_fault_0 rfl rfl rfl (q := 1) ?_
  refine g_iload_n C 1 dX6_fault_1 rfl rfl rfl (q := 2) ?_
  refine g_iload_n C 2 dX6_fault_2 rfl rfl rfl (q := 3) ?_
  refine g_iload_n C 3 dX6_fault_3 rfl rfl rfl (q := 4) ?_
  refine gcV_si C (n := 3) (As := [.int k, .int u, .int v]) (st := []) 0 (fun h => h) dX6_fault_4 rfl rfl gX6_fault_X6_stepRefusal (c_X6_stepRefusal l D cI cJ cZ a hA nA gr li st sp n m nu ev od fp ti wc wu sc pv su sd t k u v) rfl rfl rfl (by decide +kernel) ⟨Nat.le_of_ble_eq_true rfl, Nat.le_of_ble_eq_true rfl⟩ rfl rfl (Nat.le_of_ble_eq_true rfl) FT_b FT_h ⟨Nat.le_of_ble_eq_true rfl, Nat.le_of_ble_eq_true rfl⟩ (q := 7) rfl (fun r_4 h_4 => ?_)
  subst h_4
  refine g_istore C [(4, .int (aSR n k u v)), (0, .ref (a 0)), (1, .int k), (2, .int u), (3, .int v)] dX6_fault_7 (by decide) rfl (q := 9) rfl ?_
  refine g_iload C 0 dX6_fault_9 rfl rfl (q := 11) ?_
  refine g_if_eq C (t := 19) dX6_fault_11 (by decide) (q := 14) rfl (fun c_11 => ?_) (fun c_11 => ?_)
  · obtain ⟨k1, u1, v1, hk, hu, hv, rfl, rfl, rfl⟩ := aSR_0 c_11 hn
    refine g_aload_n C 1 dX6_fault_19 rfl rfl rfl (q := 20) ?_
    refine g_get C 0 2 dX6_fault_20 (Cn := RX6) (T := TX6) (N := 6) (fun _ h => List.mem_cons_of_mem _ (List.mem_append_left _ (List.mem_append_left _ (List.mem_append_left _ (List.mem_append_right _ h))))) rfl rfl (by decide) (List.mem_cons_of_mem _ (List.mem_append_left _ (List.mem_append_left _ (List.mem_append_left _ (List.mem_append_left _ (List.mem_of_getElem? (i := 0) rfl)))))) rfl (q := 23) rfl ?_
    refine g_iload_n C 2 dX6_fault_23 rfl rfl rfl (q := 24) ?_
    refine g_iload_n C 3 dX6_fault_24 rfl rfl rfl (q := 25) ?_
    refine g_iload_n C 4 dX6_fault_25 rfl rfl rfl (q := 26) ?_
    refine gcV_si C (n := 3) (As := [.int (nI k1), .int (nI u1), .int (nI v1)]) (st := []) 3 (fun h => h) dX6_fault_26 rfl rfl gX6_fault_X3_faultOf (c_X3_faultOf l D cI cJ cZ a hA nA gr li st sp n m nu ev od fp ti wc wu sc pv su sd t k1 u1 v1 (by first | assumption | omega) (by first | assumption | omega) (by first | assumption | omega)) rfl rfl rfl (by decide +kernel) ⟨Nat.le_of_ble_eq_true rfl, Nat.le_of_ble_eq_true rfl⟩ rfl rfl (Nat.le_of_ble_eq_true rfl) FT_b FT_h ⟨Nat.le_of_ble_eq_true rfl, Nat.le_of_ble_eq_true rfl⟩ (q := 29) rfl (fun r_26 h_26 => ?_)
    subst h_26
    exact hret _ 29 _ _ dX6_fault_29 rfl (by first | exact aSt_1 c_11 (by omega) hu hv rfl | rw [aSt, if_neg c_11])
  · refine g_iload C 0 dX6_fault_14 rfl rfl (q := 16) ?_
    refine g_goto C (q := 29) dX6_fault_16 (by decide) ?_
    exact hret _ 29 _ _ dX6_fault_29 rfl (by first | exact aSt_1 c_11 (by omega) hu hv rfl | rw [aSt, if_neg c_11])
set_option maxHeartbeats 4000000 in
set_option maxRecDepth 100000 in
theorem c_X6_time (l : Launch) (D : va_G) (cI cJ cZ : ClassId) (a : Nat → Nat) (hA nA : Nat) (gr li st sp : Nat → Int32) (n m : Nat) (nu : Nat → Int32) (ev od : Nat → Int64) (fp ti : Nat → Int32) (wc : Nat → Int64) (wu : Int32) (sc pv : Nat → Int64) (su : Int32) (sd : Nat → Int32) (t : Nat) (k u v : Int32) (hn : n ≤ 16) : Met l yX6_time wsX6_time { frames := 3, cells := 0, slots := 0, locals := 69 } (gPc D (tyT cI cJ cZ) (wA a (a 11) (a 12)) FT (wC cI cJ cZ a hA nA gr li st sp (nI n) (nI m) nu ev od fp ti wc wu sc pv su sd (nI t)) [.ref (a 0), .int k, .int u, .int v]) (vp_Si (fun r => r = aSt (aTm gr li nu) n k u v)) 0 0 (fun _ => False) := by
  refine gs_si (cc := cX6_time) (nL := 5) (ty := .int) (by decide) rfl (Nat.le_of_ble_eq_true rfl) (fun G C hret => ?_)
  show G 0 0 (wC cI cJ cZ a hA nA gr li st sp (nI n) (nI m) nu ev od fp ti wc wu sc pv su sd (nI t)) [(0, .ref (a 0)), (1, .int k), (2, .int u), (3, .int v)] 0 []
  refine g_aload_n C 0 dX6_time_0 rfl rfl rfl (q := 1) ?_
  refine g_iload_n C 1 dX6_time_1 rfl rfl rfl (q := 2) ?_
  refine g_iload_n C 2 dX6_time_2 rfl rfl rfl (q := 3) ?_
  refine g_iload_n C 3 dX6_time_3 rfl rfl rfl (q := 4) ?_
  refine gcV_si C (n := 3) (As := [.int k, .int u, .int v]) (st := []) 0 (fun h => h) dX6_time_4 rfl rfl gX6_time_X6_stepRefusal (c_X6_stepRefusal l D cI cJ cZ a hA nA gr li st sp n m nu ev od fp ti wc wu sc pv su sd t k u v) rfl rfl rfl (by decide +kernel) ⟨Nat.le_of_ble_eq_true rfl, Nat.le_of_ble_eq_true rfl⟩ rfl rfl (Nat.le_of_ble_eq_true rfl) FT_b FT_h ⟨Nat.le_of_ble_eq_true rfl, Nat.le_of_ble_eq_true rfl⟩ (q := 7) rfl (fun r_4 h_4 => ?_)
  subst h_4
  refine g_istore C [(4, .int (aSR n k u v)), (0, .ref (a 0)), (1, .int k), (2, .int u), (3, .int v)] dX6_time_7 (by decide) rfl (q := 9) rfl ?_
  refine g_iload C 0 dX6_time_9 rfl rfl (q := 11) ?_
  refine g_if_eq C (t := 17) dX6_time_11 (by decide) (q := 14) rfl (fun c_11 => ?_) (fun c_11 => ?_)
  · obtain ⟨k1, u1, v1, hk, hu, hv, rfl, rfl, rfl⟩ := aSR_0 c_11 hn
    refine g_aload_n C 1 dX6_time_17 rfl rfl rfl (q := 18) ?_
    refine g_get C 0 2 dX6_time_18 (Cn := RX6) (T := TX6) (N := 6) (fun _ h => List.mem_cons_of_mem _ (List.mem_append_left _ (List.mem_append_left _ (List.mem_append_left _ (List.mem_append_right _ h))))) rfl rfl (by decide) (List.mem_cons_of_mem _ (List.mem_append_left _ (List.mem_append_left _ (List.mem_append_left _ (List.mem_append_left _ (List.mem_of_getElem? (i := 0) rfl)))))) rfl (q := 21) rfl ?_
    refine g_iload_n C 2 dX6_time_21 rfl rfl rfl (q := 22) ?_
    refine g_iload_n C 3 dX6_time_22 rfl rfl rfl (q := 23) ?_
    refine g_iload_n C 4 dX6_time_23 rfl rfl rfl (q := 24) ?_
    refine gcV_si C (n := 3) (As := [.int (nI k1), .int (nI u1), .int (nI v1)]) (st := []) 3 (fun h => h) dX6_time_24 rfl rfl gX6_time_X3_faultOf (c_X3_faultOf l D cI cJ cZ a hA nA gr li st sp n m nu ev od fp ti wc wu sc pv su sd t k1 u1 v1 (by first | assumption | omega) (by first | assumption | omega) (by first | assumption | omega)) rfl rfl rfl (by decide +kernel) ⟨Nat.le_of_ble_eq_true rfl, Nat.le_of_ble_eq_true rfl⟩ rfl rfl (Nat.le_of_ble_eq_true rfl) FT_b FT_h ⟨Nat.le_of_ble_eq_true rfl, Nat.le_of_ble_eq_true rfl⟩ (q := 27) rfl (fun r_24 h_24 => ?_)
    subst h_24
    refine g_if_eq C (t := 35) dX6_time_27 (by decide) (q := 30) rfl (fun c_27 => ?_) (fun c_27 => ?_)
    · refine g_aload_n C 1 dX6_time_35 rfl rfl rfl (q := 36) ?_
      refine g_get C 0 2 dX6_time_36 (Cn := RX6) (T := TX6) (N := 6) (fun _ h => List.mem_cons_of_mem _ (List.mem_append_left _ (List.mem_append_left _ (List.mem_append_left _ (List.mem_append_right _ h))))) rfl rfl (by decide) (List.mem_cons_of_mem _ (List.mem_append_left _ (List.mem_append_left _ (List.mem_append_left _ (List.mem_append_left _ (List.mem_of_getElem? (i := 0) rfl)))))) rfl (q := 39) rfl ?_
      refine g_iload_n C 3 dX6_time_39 rfl rfl rfl (q := 40) ?_
      refine g_iload_n C 4 dX6_time_40 rfl rfl rfl (q := 41) ?_
      refine gcV_si C (n := 2) (As := [.int (nI u1), .int (nI v1)]) (st := []) 3 (fun h => h) dX6_time_41 rfl rfl gX6_time_X3_timeOf (c_X3_timeOf l D cI cJ cZ a hA nA gr li st sp n m nu ev od fp ti wc wu sc pv su sd t u1 v1 (by first | assumption | omega) (by first | assumption | omega)) rfl rfl rfl (by decide +kernel) ⟨Nat.le_of_ble_eq_true rfl, Nat.le_of_ble_eq_true rfl⟩ rfl rfl (Nat.le_of_ble_eq_true rfl) FT_b FT_h ⟨Nat.le_of_ble_eq_true rfl, Nat.le_of_ble_eq_true rfl⟩ (q := 44) rfl (fun r_41 h_41 => ?_)
      subst h_41
      exact hret _ 44 _ _ dX6_time_44 rfl (aSt_1 c_11 (by omega) hu hv (by first | exact (if_neg c_27).symm | exact (if_pos c_27).symm))
    · refine g_ldc C (v := (-1000000)) dX6_time_30 (List.mem_cons_of_mem _ (List.mem_append_left _ (List.mem_append_left _ (List.mem_append_left _ (List.mem_append_left _ (List.mem_of_getElem? (i := 1) rfl)))))) (q := 32) rfl ?_
      refine g_goto C (q := 44) dX6_time_32 (by decide) ?_
      exact hret _ 44 _ _ dX6_time_44 rfl (aSt_1 c_11 (by omega) hu hv (by first | exact (if_neg c_27).symm | exact (if_pos c_27).symm))
  · refine g_iload C 0 dX6_time_14 rfl rfl (q := 16) ?_
    exact hret _ 16 _ _ dX6_time_16 rfl (by rw [aSt, if_neg c_11])
set_option maxHeartbeats 4000000 in
set_option maxRecDepth 100000 in
theorem c_X6_power (l : Launch) (D : va_G) (cI cJ cZ : ClassId) (a : Nat → Nat) (hA nA : Nat) (gr li st sp : Nat → Int32) (n m : Nat) (nu : Nat → Int32) (ev od : Nat → Int64) (fp ti : Nat → Int32) (wc : Nat → Int64) (wu : Int32) (sc pv : Nat → Int64) (su : Int32) (sd : Nat → Int32) (t : Nat) (k u v : Int32) (hn : n ≤ 16) : Met l yX6_power wsX6_power { frames := 3, cells := 0, slots := 0, locals := 69 } (gPc D (tyT cI cJ cZ) (wA a (a 11) (a 12)) FT (wC cI cJ cZ a hA nA gr li st sp (nI n) (nI m) nu ev od fp ti wc wu sc pv su sd (nI t)) [.ref (a 0), .int k, .int u, .int v]) (vp_Si (fun r => r = aSt (aPw gr li nu) n k u v)) 0 0 (fun _ => False) := by
  refine gs_si (cc := cX6_power) (nL := 5) (ty := .int) (by decide) rfl (Nat.le_of_ble_eq_true rfl) (fun G C hret => ?_)
  show G 0 0 (wC cI cJ cZ a hA nA gr li st sp (nI n) (nI m) nu ev od fp ti wc wu sc pv su sd (nI t)) [(0, .ref (a 0)), (1, .int k), (2, .int u), (3, .int v)] 0 []
  refine g_aload_n C 0 dX6_power_0 rfl rfl rfl (q := 1) ?_
  refine g_iload_n C 1 dX6_power_1 rfl rfl rfl (q := 2) ?_
  refine g_iload_n C 2 dX6_power_2 rfl rfl rfl (q := 3) ?_
  refine g_iload_n C 3 dX6_power_3 rfl rfl rfl (q := 4) ?_
  refine gcV_si C (n := 3) (As := [.int k, .int u, .int v]) (st := []) 0 (fun h => h) dX6_power_4 rfl rfl gX6_power_X6_stepRefusal (c_X6_stepRefusal l D cI cJ cZ a hA nA gr li st sp n m nu ev od fp ti wc wu sc pv su sd t k u v) rfl rfl rfl (by decide +kernel) ⟨Nat.le_of_ble_eq_true rfl, Nat.le_of_ble_eq_true rfl⟩ rfl rfl (Nat.le_of_ble_eq_true rfl) FT_b FT_h ⟨Nat.le_of_ble_eq_true rfl, Nat.le_of_ble_eq_true rfl⟩ (q := 7) rfl (fun r_4 h_4 => ?_)
  subst h_4
  refine g_istore C [(4, .int (aSR n k u v)), (0, .ref (a 0)), (1, .int k), (2, .int u), (3, .int v)] dX6_power_7 (by decide) rfl (q := 9) rfl ?_
  refine g_iload C 0 dX6_power_9 rfl rfl (q := 11) ?_
  refine g_if_eq C (t := 17) dX6_power_11 (by decide) (q := 14) rfl (fun c_11 => ?_) (fun c_11 => ?_)
  · obtain ⟨k1, u1, v1, hk, hu, hv, rfl, rfl, rfl⟩ := aSR_0 c_11 hn
    refine g_aload_n C 1 dX6_power_17 rfl rfl rfl (q := 18) ?_
    refine g_get C 0 2 dX6_power_18 (Cn := RX6) (T := TX6) (N := 6) (fun _ h => List.mem_cons_of_mem _ (List.mem_append_left _ (List.mem_append_left _ (List.mem_append_left _ (List.mem_append_right _ h))))) rfl rfl (by decide) (List.mem_cons_of_mem _ (List.mem_append_left _ (List.mem_append_left _ (List.mem_append_left _ (List.mem_append_left _ (List.mem_of_getElem? (i := 0) rfl)))))) rfl (q := 21) rfl ?_
    refine g_iload_n C 2 dX6_power_21 rfl rfl rfl (q := 22) ?_
    refine g_iload_n C 3 dX6_power_22 rfl rfl rfl (q := 23) ?_
    refine g_iload_n C 4 dX6_power_23 rfl rfl rfl (q := 24) ?_
    refine gcV_si C (n := 3) (As := [.int (nI k1), .int (nI u1), .int (nI v1)]) (st := []) 3 (fun h => h) dX6_power_24 rfl rfl gX6_power_X3_faultOf (c_X3_faultOf l D cI cJ cZ a hA nA gr li st sp n m nu ev od fp ti wc wu sc pv su sd t k1 u1 v1 (by first | assumption | omega) (by first | assumption | omega) (by first | assumption | omega)) rfl rfl rfl (by decide +kernel) ⟨Nat.le_of_ble_eq_true rfl, Nat.le_of_ble_eq_true rfl⟩ rfl rfl (Nat.le_of_ble_eq_true rfl) FT_b FT_h ⟨Nat.le_of_ble_eq_true rfl, Nat.le_of_ble_eq_true rfl⟩ (q := 27) rfl (fun r_24 h_24 => ?_)
    subst h_24
    refine g_if_eq C (t := 35) dX6_power_27 (by decide) (q := 30) rfl (fun c_27 => ?_) (fun c_27 => ?_)
    · refine g_aload_n C 1 dX6_power_35 rfl rfl rfl (q := 36) ?_
      refine g_get C 0 2 dX6_power_36 (Cn := RX6) (T := TX6) (N := 6) (fun _ h => List.mem_cons_of_mem _ (List.mem_append_left _ (List.mem_append_left _ (List.mem_append_left _ (List.mem_append_right _ h))))) rfl rfl (by decide) (List.mem_cons_of_mem _ (List.mem_append_left _ (List.mem_append_left _ (List.mem_append_left _ (List.mem_append_left _ (List.mem_of_getElem? (i := 0) rfl)))))) rfl (q := 39) rfl ?_
      refine g_iload_n C 2 dX6_power_39 rfl rfl rfl (q := 40) ?_
      refine g_iload_n C 3 dX6_power_40 rfl rfl rfl (q := 41) ?_
      refine g_iload_n C 4 dX6_power_41 rfl rfl rfl (q := 42) ?_
      refine gcV_si C (n := 3) (As := [.int (nI k1), .int (nI u1), .int (nI v1)]) (st := []) 3 (fun h => h) dX6_power_42 rfl rfl gX6_power_X3_powerOf (c_X3_powerOf l D cI cJ cZ a hA nA gr li st sp n m nu ev od fp ti wc wu sc pv su sd t k1 u1 v1 (by first | assumption | omega)) rfl rfl rfl (by decide +kernel) ⟨Nat.le_of_ble_eq_true rfl, Nat.le_of_ble_eq_true rfl⟩ rfl rfl (Nat.le_of_ble_eq_true rfl) FT_b FT_h ⟨Nat.le_of_ble_eq_true rfl, Nat.le_of_ble_eq_true rfl⟩ (q := 45) rfl (fun r_42 h_42 => ?_)
      subst h_42
      exact hret _ 45 _ _ dX6_power_45 rfl (aSt_1 c_11 (by omega) hu hv (by first | exact (if_neg c_27).symm | exact (if_pos c_27).symm))
    · refine g_ldc C (v := (-1000000)) dX6_power_30 (List.mem_cons_of_mem _ (List.mem_append_left _ (List.mem_append_left _ (List.mem_append_left _ (List.mem_append_left _ (List.mem_of_getElem? (i := 1) rfl)))))) (q := 32) rfl ?_
      refine g_goto C (q := 45) dX6_power_32 (by decide) ?_
      exact hret _ 45 _ _ dX6_power_45 rfl (aSt_1 c_11 (by omega) hu hv (by first | exact (if_neg c_27).symm | exact (if_pos c_27).symm))
  · refine g_iload C 0 dX6_power_14 rfl rfl (q := 16) ?_
    exact hret _ 16 _ _ dX6_power_16 rfl (by rw [aSt, if_neg c_11])
set_option maxHeartbeats 4000000 in
set_option maxRecDepth 100000 in
theorem c_X6_has (l : Launch) (D : va_G) (cI cJ cZ : ClassId) (a : Nat → Nat) (hA nA : Nat) (gr li st sp : Nat → Int32) (n m : Nat) (nu : Nat → Int32) (ev od : Nat → Int64) (fp ti : Nat → Int32) (wc : Nat → Int64) (wu : Int32) (sc pv : Nat → Int64) (su : Int32) (sd : Nat → Int32) (t : Nat) (k : Int32) : Met l yX6_has wsX6_has { frames := 1, cells := 0, slots := 0, locals := 21 } (gPc D (tyT cI cJ cZ) (wA a (a 11) (a 12)) FT (wC cI cJ cZ a hA nA gr li st sp (nI n) (nI m) nu ev od fp ti wc wu sc pv su sd (nI t)) [.ref (a 0), .int k]) (vp_Si (fun r => r = aHas nu k)) 0 0 (fun _ => False) := by
  refine gs_si (cc := cX6_has) (nL := 2) (ty := .int) (by decide) rfl (Nat.le_of_ble_eq_true rfl) (fun G C hret => ?_)
  show G 0 0 (wC cI cJ cZ a hA nA gr li st sp (nI n) (nI m) nu ev od fp ti wc wu sc pv su sd (nI t)) [(0, .ref (a 0)), (1, .int k)] 0 []
  refine g_aload_n C 0 dX6_has_0 rfl rfl rfl (q := 1) ?_
  refine g_get C 0 1 dX6_has_1 (Cn := RX6) (T := TX6) (N := 6) (fun _ h => List.mem_cons_of_mem _ (List.mem_append_left _ (List.mem_append_right _ h))) rfl rfl (by decide) (List.mem_cons_of_mem _ (List.mem_append_left _ (List.mem_append_left _ (List.mem_of_getElem? (i := 0) rfl)))) rfl (q := 4) rfl ?_
  refine g_iload_n C 1 dX6_has_4 rfl rfl rfl (q := 5) ?_
  refine gcV_si C (n := 1) (As := [.int k]) (st := []) 2 (fun h => h) dX6_has_5 rfl rfl gX6_has_X4_knows (c_X4_knows l D cI cJ cZ a hA nA gr li st sp n m nu ev od fp ti wc wu sc pv su sd t k) rfl rfl rfl (by decide +kernel) ⟨Nat.le_of_ble_eq_true rfl, Nat.le_of_ble_eq_true rfl⟩ rfl rfl (Nat.le_of_ble_eq_true rfl) FT_b FT_h ⟨Nat.le_of_ble_eq_true rfl, Nat.le_of_ble_eq_true rfl⟩ (q := 8) rfl (fun r_5 h_5 => ?_)
  subst h_5
  refine g_if_eq C (t := 22) dX6_has_8 (by decide) (q := 11) rfl (fun c_8 => ?_) (fun c_8 => ?_)
  · replace c_8 := ite_e0 c_8
    refine g_bipush C (-2) dX6_has_22 (by decide) (q := 24) rfl ?_
    exact hret _ 24 _ _ dX6_has_24 rfl (by first | (rw [aHas, if_neg c_8]) | (rw [aHas, if_pos c_8, nI_clamp (by omega)]))
  · replace c_8 := ite_n0 c_8
    obtain ⟨k1, hk, rfl⟩ := hcP_of c_8 (by decide)
    refine g_aload_n C 0 dX6_has_11 rfl rfl rfl (q := 12) ?_
    refine g_get C 0 1 dX6_has_12 (Cn := RX6) (T := TX6) (N := 6) (fun _ h => List.mem_cons_of_mem _ (List.mem_append_left _ (List.mem_append_right _ h))) rfl rfl (by decide) (List.mem_cons_of_mem _ (List.mem_append_left _ (List.mem_append_left _ (List.mem_of_getElem? (i := 0) rfl)))) rfl (q := 15) rfl ?_
    refine g_iload_n C 1 dX6_has_15 rfl rfl rfl (q := 16) ?_
    refine gcV_si C (n := 1) (As := [.int (nI k1)]) (st := []) 2 (fun h => h) dX6_has_16 rfl rfl gX6_has_X4_number (c_X4_number l D cI cJ cZ a hA nA gr li st sp n m nu ev od fp ti wc wu sc pv su sd t k1 (by first | assumption | omega)) rfl rfl rfl (by decide +kernel) ⟨Nat.le_of_ble_eq_true rfl, Nat.le_of_ble_eq_true rfl⟩ rfl rfl (Nat.le_of_ble_eq_true rfl) FT_b FT_h ⟨Nat.le_of_ble_eq_true rfl, Nat.le_of_ble_eq_true rfl⟩ (q := 19) rfl (fun r_16 h_16 => ?_)
    subst h_16
    refine g_goto C (q := 24) dX6_has_19 (by decide) ?_
    exact hret _ 24 _ _ dX6_has_24 rfl (by first | (rw [aHas, if_neg c_8]) | (rw [aHas, if_pos c_8, nI_clamp (by omega)]))
set_option maxHeartbeats 4000000 in
set_option maxRecDepth 100000 in
theorem c_X6_leg (l : Launch) (D : va_G) (cI cJ cZ : ClassId) (a : Nat → Nat) (hA nA : Nat) (gr li st sp : Nat → Int32) (n m : Nat) (nu : Nat → Int32) (ev od : Nat → Int64) (fp ti : Nat → Int32) (wc : Nat → Int64) (wu : Int32) (sc pv : Nat → Int64) (su : Int32) (sd : Nat → Int32) (t : Nat) (k v : Int32) (hL : LInv st sp n m) : Met l yX6_leg wsX6_leg { frames := 1, cells := 0, slots := 0, locals := 21 } (gPc D (tyT cI cJ cZ) (wA a (a 11) (a 12)) FT (wC cI cJ cZ a hA nA gr li st sp (nI n) (nI m) nu ev od fp ti wc wu sc pv su sd (nI t)) [.ref (a 0), .int k, .int v]) (vp_Si (fun r => r = aLeg st n m k v)) 0 0 (fun _ => False) := by
  refine gs_si (cc := cX6_leg) (nL := 3) (ty := .int) (by decide) rfl (Nat.le_of_ble_eq_true rfl) (fun G C hret => ?_)
  show G 0 0 (wC cI cJ cZ a hA nA gr li st sp (nI n) (nI m) nu ev od fp ti wc wu sc pv su sd (nI t)) [(0, .ref (a 0)), (1, .int k), (2, .int v)] 0 []
  have hn := hL.2.1
  have hmn := hL.m_le
  refine g_aload_n C 0 dX6_leg_0 rfl rfl rfl (q := 1) ?_
  refine g_get C 0 0 dX6_leg_1 (Cn := RX6) (T := TX6) (N := 6) (fun _ h => List.mem_cons_of_mem _ (List.mem_append_left _ (List.mem_append_right _ h))) rfl rfl (by decide) (List.mem_cons_of_mem _ (List.mem_append_left _ (List.mem_append_left _ (List.mem_of_getElem? (i := 0) rfl)))) rfl (q := 4) rfl ?_
  refine g_iload_n C 1 dX6_leg_4 rfl rfl rfl (q := 5) ?_
  refine gcV_si C (n := 1) (As := [.int k]) (st := []) 1 (fun h => h) dX6_leg_5 rfl rfl gX6_leg_X0_hasLeg (c_X0_hasLeg l D cI cJ cZ a hA nA gr li st sp n m nu ev od fp ti wc wu sc pv su sd t k) rfl rfl rfl (by decide +kernel) ⟨Nat.le_of_ble_eq_true rfl, Nat.le_of_ble_eq_true rfl⟩ rfl rfl (Nat.le_of_ble_eq_true rfl) FT_b FT_h ⟨Nat.le_of_ble_eq_true rfl, Nat.le_of_ble_eq_true rfl⟩ (q := 8) rfl (fun r_5 h_5 => ?_)
  subst h_5
  refine g_if_ne C (t := 13) dX6_leg_8 (by decide) (q := 11) rfl (fun c_8 => ?_) (fun c_8 => ?_)
  · replace c_8 := ite_n0 c_8
    obtain ⟨k1, hk, rfl⟩ := hcP_of c_8 (by omega)
    refine g_iload_n C 2 dX6_leg_13 rfl rfl rfl (q := 14) ?_
    refine g_if_eq C (t := 28) dX6_leg_14 (by decide) (q := 17) rfl (fun c_14 => ?_) (fun c_14 => ?_)
    · refine g_aload_n C 0 dX6_leg_28 rfl rfl rfl (q := 29) ?_
      refine g_get C 0 0 dX6_leg_29 (Cn := RX6) (T := TX6) (N := 6) (fun _ h => List.mem_cons_of_mem _ (List.mem_append_left _ (List.mem_append_right _ h))) rfl rfl (by decide) (List.mem_cons_of_mem _ (List.mem_append_left _ (List.mem_append_left _ (List.mem_of_getElem? (i := 0) rfl)))) rfl (q := 32) rfl ?_
      refine g_iload_n C 1 dX6_leg_32 rfl rfl rfl (q := 33) ?_
      refine gcV_si C (n := 1) (As := [.int (nI k1)]) (st := []) 1 (fun h => h) dX6_leg_33 rfl rfl gX6_leg_X0_firstPost (c_X0_firstPost l D cI cJ cZ a hA nA gr li st sp n m nu ev od fp ti wc wu sc pv su sd t k1 (by first | assumption | omega)) rfl rfl rfl (by decide +kernel) ⟨Nat.le_of_ble_eq_true rfl, Nat.le_of_ble_eq_true rfl⟩ rfl rfl (Nat.le_of_ble_eq_true rfl) FT_b FT_h ⟨Nat.le_of_ble_eq_true rfl, Nat.le_of_ble_eq_true rfl⟩ (q := 36) rfl (fun r_33 h_33 => ?_)
      subst h_33
      refine g_eqi C (y := nI (posOf st k1 n)) (hL.2.2.2.2.2.2 _ (by omega)) ?_
      exact hret _ 36 _ _ dX6_leg_36 rfl (by first | (rw [aLeg, if_pos c_8, nI_clamp (by omega), if_neg c_14]) | (rw [aLeg, if_pos c_8, nI_clamp (by omega), if_pos c_14]; rfl))
    · refine g_aload_n C 0 dX6_leg_17 rfl rfl rfl (q := 18) ?_
      refine g_get C 0 0 dX6_leg_18 (Cn := RX6) (T := TX6) (N := 6) (fun _ h => List.mem_cons_of_mem _ (List.mem_append_left _ (List.mem_append_right _ h))) rfl rfl (by decide) (List.mem_cons_of_mem _ (List.mem_append_left _ (List.mem_append_left _ (List.mem_of_getElem? (i := 0) rfl)))) rfl (q := 21) rfl ?_
      refine g_iload_n C 1 dX6_leg_21 rfl rfl rfl (q := 22) ?_
      refine gcV_si C (n := 1) (As := [.int (nI k1)]) (st := []) 1 (fun h => h) dX6_leg_22 rfl rfl gX6_leg_X0_lastPost (c_X0_lastPost l D cI cJ cZ a hA nA gr li st sp n m nu ev od fp ti wc wu sc pv su sd t k1 (by first | assumption | omega)) rfl rfl rfl (by decide +kernel) ⟨Nat.le_of_ble_eq_true rfl, Nat.le_of_ble_eq_true rfl⟩ rfl rfl (Nat.le_of_ble_eq_true rfl) FT_b FT_h ⟨Nat.le_of_ble_eq_true rfl, Nat.le_of_ble_eq_true rfl⟩ (q := 25) rfl (fun r_22 h_22 => ?_)
      subst h_22
      refine g_eqi C (y := nI (posOf st (k1 + 1) n)) (hL.2.2.2.2.2.2 _ (by omega)) ?_
      refine g_goto C (q := 36) dX6_leg_25 (by decide) ?_
      exact hret _ 36 _ _ dX6_leg_36 rfl (by first | (rw [aLeg, if_pos c_8, nI_clamp (by omega), if_neg c_14]) | (rw [aLeg, if_pos c_8, nI_clamp (by omega), if_pos c_14]; rfl))
  · replace c_8 := ite_e0 c_8
    refine g_iconst C (-1) dX6_leg_11 (by decide) (q := 12) rfl ?_
    exact hret _ 12 _ _ dX6_leg_12 rfl (by rw [aLeg, if_neg c_8])
set_option maxHeartbeats 4000000 in
set_option maxRecDepth 100000 in
theorem c_X6_count (l : Launch) (D : va_G) (cI cJ cZ : ClassId) (a : Nat → Nat) (hA nA : Nat) (gr li st sp : Nat → Int32) (n m : Nat) (nu : Nat → Int32) (ev od : Nat → Int64) (fp ti : Nat → Int32) (wc : Nat → Int64) (wu : Int32) (sc pv : Nat → Int64) (su : Int32) (sd : Nat → Int32) (t : Nat) (w : Int32) : Met l yX6_count wsX6_count { frames := 1, cells := 0, slots := 0, locals := 20 } (gPc D (tyT cI cJ cZ) (wA a (a 11) (a 12)) FT (wC cI cJ cZ a hA nA gr li st sp (nI n) (nI m) nu ev od fp ti wc wu sc pv su sd (nI t)) [.ref (a 0), .int w]) (vp_Si (fun r => r = aCount n m t w)) 0 0 (fun _ => False) := by
  refine gs_si (cc := cX6_count) (nL := 2) (ty := .int) (by decide) rfl (Nat.le_of_ble_eq_true rfl) (fun G C hret => ?_)
  show G 0 0 (wC cI cJ cZ a hA nA gr li st sp (nI n) (nI m) nu ev od fp ti wc wu sc pv su sd (nI t)) [(0, .ref (a 0)), (1, .int w)] 0 []
  refine g_iload_n C 1 dX6_count_0 rfl rfl rfl (q := 1) ?_
  by_cases w0 : w = nI 0
  · subst w0
    refine g_tableIn C (q := 28) (off := 27) dX6_count_1 (by decide) (by decide) (by decide +kernel) (by decide) ?_
    refine g_aload_n C 0 dX6_count_28 rfl rfl rfl (q := 29) ?_
    refine g_get C 0 0 dX6_count_29 (Cn := RX6) (T := TX6) (N := 6) (fun _ h => List.mem_cons_of_mem _ (List.mem_append_left _ (List.mem_append_left _ (List.mem_append_right _ h)))) rfl rfl (by decide) (List.mem_cons_of_mem _ (List.mem_append_left _ (List.mem_append_left _ (List.mem_append_left _ (List.mem_of_getElem? (i := 0) rfl))))) rfl (q := 32) rfl ?_
    refine gcV_si C (n := 0) (As := []) (st := []) 1 (fun h => h) dX6_count_32 rfl rfl gX6_count_X0_cellCount (c_X0_cellCount l D cI cJ cZ a hA nA gr li st sp n m nu ev od fp ti wc wu sc pv su sd t) rfl rfl rfl (by decide +kernel) ⟨Nat.le_of_ble_eq_true rfl, Nat.le_of_ble_eq_true rfl⟩ rfl rfl (Nat.le_of_ble_eq_true rfl) FT_b FT_h ⟨Nat.le_of_ble_eq_true rfl, Nat.le_of_ble_eq_true rfl⟩ (q := 35) rfl (fun r_32 h_32 => ?_)
    subst h_32
    exact hret _ 35 _ _ dX6_count_35 rfl (rfl)
  by_cases w1 : w = nI 1
  · subst w1
    refine g_tableIn C (q := 36) (off := 35) dX6_count_1 (by decide) (by decide) (by decide +kernel) (by decide) ?_
    refine g_aload_n C 0 dX6_count_36 rfl rfl rfl (q := 37) ?_
    refine g_get C 0 0 dX6_count_37 (Cn := RX6) (T := TX6) (N := 6) (fun _ h => List.mem_cons_of_mem _ (List.mem_append_left _ (List.mem_append_left _ (List.mem_append_right _ h)))) rfl rfl (by decide) (List.mem_cons_of_mem _ (List.mem_append_left _ (List.mem_append_left _ (List.mem_append_left _ (List.mem_of_getElem? (i := 0) rfl))))) rfl (q := 40) rfl ?_
    refine gcV_si C (n := 0) (As := []) (st := []) 1 (fun h => h) dX6_count_40 rfl rfl gX6_count_X0_legCount (c_X0_legCount l D cI cJ cZ a hA nA gr li st sp n m nu ev od fp ti wc wu sc pv su sd t) rfl rfl rfl (by decide +kernel) ⟨Nat.le_of_ble_eq_true rfl, Nat.le_of_ble_eq_true rfl⟩ rfl rfl (Nat.le_of_ble_eq_true rfl) FT_b FT_h ⟨Nat.le_of_ble_eq_true rfl, Nat.le_of_ble_eq_true rfl⟩ (q := 43) rfl (fun r_40 h_40 => ?_)
    subst h_40
    exact hret _ 43 _ _ dX6_count_43 rfl (rfl)
  by_cases w2 : w = nI 2
  · subst w2
    refine g_tableIn C (q := 44) (off := 43) dX6_count_1 (by decide) (by decide) (by decide +kernel) (by decide) ?_
    refine g_aload_n C 0 dX6_count_44 rfl rfl rfl (q := 45) ?_
    refine g_get C 0 5 dX6_count_45 (Cn := RX6) (T := TX6) (N := 6) (fun _ h => List.mem_cons_of_mem _ (List.mem_append_left _ (List.mem_append_left _ (List.mem_append_right _ h)))) rfl rfl (by decide) (List.mem_cons_of_mem _ (List.mem_append_left _ (List.mem_append_left _ (List.mem_append_left _ (List.mem_of_getElem? (i := 1) rfl))))) rfl (q := 48) rfl ?_
    refine gcV_si C (n := 0) (As := []) (st := []) 6 (fun h => h) dX6_count_48 rfl rfl gX6_count_X1_size (c_X1_size l D cI cJ cZ a hA nA gr li st sp n m nu ev od fp ti wc wu sc pv su sd t) rfl rfl rfl (by decide +kernel) ⟨Nat.le_of_ble_eq_true rfl, Nat.le_of_ble_eq_true rfl⟩ rfl rfl (Nat.le_of_ble_eq_true rfl) FT_b FT_h ⟨Nat.le_of_ble_eq_true rfl, Nat.le_of_ble_eq_true rfl⟩ (q := 51) rfl (fun r_48 h_48 => ?_)
    subst h_48
    exact hret _ 51 _ _ dX6_count_51 rfl (rfl)
  refine g_tableOut C (q := 52) dX6_count_1 (tb_out (n := 3) (fun i hi => by rcases (show i = 0 ∨ i = 1 ∨ i = 2 by omega) with rfl | rfl | rfl <;> assumption) (by decide)) (by decide) ?_
  refine g_bipush C (-2) dX6_count_52 (by decide) (q := 54) rfl ?_
  exact hret _ 54 _ _ dX6_count_54 rfl (by rw [aCount, if_neg w0, if_neg w1, if_neg w2])
set_option maxHeartbeats 4000000 in
set_option maxRecDepth 100000 in
theorem c_X6_judged (l : Launch) (D : va_G) (cI cJ cZ : ClassId) (a : Nat → Nat) (hA nA : Nat) (gr li st sp : Nat → Int32) (n m : Nat) (nu : Nat → Int32) (ev od : Nat → Int64) (fp ti : Nat → Int32) (wc : Nat → Int64) (wu : Int32) (sc pv : Nat → Int64) (su : Int32) (sd : Nat → Int32) (t : Nat) (w : Int32) (s : Nat → Nat) (ht : t ≤ 17) (hs : ∀ j, sd j = nI (s j) ∧ s j ≤ 6) (hst : ∀ j, st j = nI 0 ∨ st j = nI 1) : Met l yX6_judged wsX6_judged { frames := 5, cells := 0, slots := 0, locals := 112 } (gPc D (tyT cI cJ cZ) (wA a (a 11) (a 12)) FT (wC cI cJ cZ a hA nA gr li st sp (nI n) (nI m) nu ev od fp ti wc wu sc pv su sd (nI t)) [.ref (a 0), .int w]) (vp_Si (fun r => r = aJudged gr li nu st s t w)) 0 0 (fun _ => False) := by
  refine gs_si (cc := cX6_judged) (nL := 2) (ty := .int) (by decide) rfl (Nat.le_of_ble_eq_true rfl) (fun G C hret => ?_)
  show G 0 0 (wC cI cJ cZ a hA nA gr li st sp (nI n) (nI m) nu ev od fp ti wc wu sc pv su sd (nI t)) [(0, .ref (a 0)), (1, .int w)] 0 []
  refine g_iload_n C 1 dX6_judged_0 rfl rfl rfl (q := 1) ?_
  by_cases w0 : w = nI 0
  · subst w0
    refine g_tableIn C (q := 36) (off := 35) dX6_judged_1 (by decide) (by decide) (by decide +kernel) (by decide) ?_
    refine g_aload_n C 0 dX6_judged_36 rfl rfl rfl (q := 37) ?_
    refine g_get C 0 5 dX6_judged_37 (Cn := RX6) (T := TX6) (N := 6) (fun _ h => List.mem_cons_of_mem _ (List.mem_append_left _ (List.mem_append_left _ (List.mem_append_left _ (List.mem_append_left _ (List.mem_append_right _ h)))))) rfl rfl (by decide) (List.mem_cons_of_mem _ (List.mem_append_left _ (List.mem_append_left _ (List.mem_append_left _ (List.mem_append_left _ (List.mem_append_left _ (List.mem_of_getElem? (i := 0) rfl))))))) rfl (q := 40) rfl ?_
    refine gcV_si C (n := 0) (As := []) (st := []) 6 (fun h => h) dX6_judged_40 rfl rfl gX6_judged_X1_timeTogether (c_X1_timeTogether l D cI cJ cZ a hA nA gr li st sp n m nu ev od fp ti wc wu sc pv su sd t s (by first | assumption | omega) (by first | assumption | omega)) rfl rfl rfl (by decide +kernel) ⟨Nat.le_of_ble_eq_true rfl, Nat.le_of_ble_eq_true rfl⟩ rfl rfl (Nat.le_of_ble_eq_true rfl) FT_b FT_h ⟨Nat.le_of_ble_eq_true rfl, Nat.le_of_ble_eq_true rfl⟩ (q := 43) rfl (fun r_40 h_40 => ?_)
    subst h_40
    exact hret _ 43 _ _ dX6_judged_43 rfl (rfl)
  by_cases w1 : w = nI 1
  · subst w1
    refine g_tableIn C (q := 44) (off := 43) dX6_judged_1 (by decide) (by decide) (by decide +kernel) (by decide) ?_
    refine g_aload_n C 0 dX6_judged_44 rfl rfl rfl (q := 45) ?_
    refine g_get C 0 5 dX6_judged_45 (Cn := RX6) (T := TX6) (N := 6) (fun _ h => List.mem_cons_of_mem _ (List.mem_append_left _ (List.mem_append_left _ (List.mem_append_left _ (List.mem_append_left _ (List.mem_append_right _ h)))))) rfl rfl (by decide) (List.mem_cons_of_mem _ (List.mem_append_left _ (List.mem_append_left _ (List.mem_append_left _ (List.mem_append_left _ (List.mem_append_left _ (List.mem_of_getElem? (i := 0) rfl))))))) rfl (q := 48) rfl ?_
    refine gcV_si C (n := 0) (As := []) (st := []) 6 (fun h => h) dX6_judged_48 rfl rfl gX6_judged_X1_powerTogether (c_X1_powerTogether l D cI cJ cZ a hA nA gr li st sp n m nu ev od fp ti wc wu sc pv su sd t s (by first | assumption | omega) (by first | assumption | omega)) rfl rfl rfl (by decide +kernel) ⟨Nat.le_of_ble_eq_true rfl, Nat.le_of_ble_eq_true rfl⟩ rfl rfl (Nat.le_of_ble_eq_true rfl) FT_b FT_h ⟨Nat.le_of_ble_eq_true rfl, Nat.le_of_ble_eq_true rfl⟩ (q := 51) rfl (fun r_48 h_48 => ?_)
    subst h_48
    exact hret _ 51 _ _ dX6_judged_51 rfl (rfl)
  by_cases w2 : w = nI 2
  · subst w2
    refine g_tableIn C (q := 52) (off := 51) dX6_judged_1 (by decide) (by decide) (by decide +kernel) (by decide) ?_
    refine g_aload_n C 0 dX6_judged_52 rfl rfl rfl (q := 53) ?_
    refine g_get C 0 5 dX6_judged_53 (Cn := RX6) (T := TX6) (N := 6) (fun _ h => List.mem_cons_of_mem _ (List.mem_append_left _ (List.mem_append_left _ (List.mem_append_left _ (List.mem_append_left _ (List.mem_append_right _ h)))))) rfl rfl (by decide) (List.mem_cons_of_mem _ (List.mem_append_left _ (List.mem_append_left _ (List.mem_append_left _ (List.mem_append_left _ (List.mem_append_left _ (List.mem_of_getElem? (i := 0) rfl))))))) rfl (q := 56) rfl ?_
    refine gcV_si C (n := 0) (As := []) (st := []) 6 (fun h => h) dX6_judged_56 rfl rfl gX6_judged_X1_faultCount (c_X1_faultCount l D cI cJ cZ a hA nA gr li st sp n m nu ev od fp ti wc wu sc pv su sd t s (by first | assumption | omega) (by first | assumption | omega)) rfl rfl rfl (by decide +kernel) ⟨Nat.le_of_ble_eq_true rfl, Nat.le_of_ble_eq_true rfl⟩ rfl rfl (Nat.le_of_ble_eq_true rfl) FT_b FT_h ⟨Nat.le_of_ble_eq_true rfl, Nat.le_of_ble_eq_true rfl⟩ (q := 59) rfl (fun r_56 h_56 => ?_)
    subst h_56
    exact hret _ 59 _ _ dX6_judged_59 rfl (rfl)
  by_cases w3 : w = nI 3
  · subst w3
    refine g_tableIn C (q := 60) (off := 59) dX6_judged_1 (by decide) (by decide) (by decide +kernel) (by decide) ?_
    refine g_aload_n C 0 dX6_judged_60 rfl rfl rfl (q := 61) ?_
    refine g_get C 0 5 dX6_judged_61 (Cn := RX6) (T := TX6) (N := 6) (fun _ h => List.mem_cons_of_mem _ (List.mem_append_left _ (List.mem_append_left _ (List.mem_append_left _ (List.mem_append_left _ (List.mem_append_right _ h)))))) rfl rfl (by decide) (List.mem_cons_of_mem _ (List.mem_append_left _ (List.mem_append_left _ (List.mem_append_left _ (List.mem_append_left _ (List.mem_append_left _ (List.mem_of_getElem? (i := 0) rfl))))))) rfl (q := 64) rfl ?_
    refine gcV_si C (n := 0) (As := []) (st := []) 6 (fun h => h) dX6_judged_64 rfl rfl gX6_judged_X1_firstFaultCell (c_X1_firstFaultCell l D cI cJ cZ a hA nA gr li st sp n m nu ev od fp ti wc wu sc pv su sd t s (by first | assumption | omega) (by first | assumption | omega)) rfl rfl rfl (by decide +kernel) ⟨Nat.le_of_ble_eq_true rfl, Nat.le_of_ble_eq_true rfl⟩ rfl rfl (Nat.le_of_ble_eq_true rfl) FT_b FT_h ⟨Nat.le_of_ble_eq_true rfl, Nat.le_of_ble_eq_true rfl⟩ (q := 67) rfl (fun r_64 h_64 => ?_)
    subst h_64
    exact hret _ 67 _ _ dX6_judged_67 rfl (rfl)
  by_cases w4 : w = nI 4
  · subst w4
    refine g_tableIn C (q := 68) (off := 67) dX6_judged_1 (by decide) (by decide) (by decide +kernel) (by decide) ?_
    refine g_aload_n C 0 dX6_judged_68 rfl rfl rfl (q := 69) ?_
    refine g_get C 0 5 dX6_judged_69 (Cn := RX6) (T := TX6) (N := 6) (fun _ h => List.mem_cons_of_mem _ (List.mem_append_left _ (List.mem_append_left _ (List.mem_append_left _ (List.mem_append_left _ (List.mem_append_right _ h)))))) rfl rfl (by decide) (List.mem_cons_of_mem _ (List.mem_append_left _ (List.mem_append_left _ (List.mem_append_left _ (List.mem_append_left _ (List.mem_append_left _ (List.mem_of_getElem? (i := 0) rfl))))))) rfl (q := 72) rfl ?_
    refine gcV_si C (n := 0) (As := []) (st := []) 6 (fun h => h) dX6_judged_72 rfl rfl gX6_judged_X1_stopsPassed (c_X1_stopsPassed l D cI cJ cZ a hA nA gr li st sp n m nu ev od fp ti wc wu sc pv su sd t s (by first | assumption | omega) (by first | assumption | omega) (by first | assumption | omega)) rfl rfl rfl (by decide +kernel) ⟨Nat.le_of_ble_eq_true rfl, Nat.le_of_ble_eq_true rfl⟩ rfl rfl (Nat.le_of_ble_eq_true rfl) FT_b FT_h ⟨Nat.le_of_ble_eq_true rfl, Nat.le_of_ble_eq_true rfl⟩ (q := 75) rfl (fun r_72 h_72 => ?_)
    subst h_72
    exact hret _ 75 _ _ dX6_judged_75 rfl (rfl)
  refine g_tableOut C (q := 76) dX6_judged_1 (tb_out (n := 5) (fun i hi => by rcases (show i = 0 ∨ i = 1 ∨ i = 2 ∨ i = 3 ∨ i = 4 by omega) with rfl | rfl | rfl | rfl | rfl <;> assumption) (by decide)) (by decide) ?_
  refine g_bipush C (-2) dX6_judged_76 (by decide) (q := 78) rfl ?_
  exact hret _ 78 _ _ dX6_judged_78 rfl (by rw [aJudged, if_neg w0, if_neg w1, if_neg w2, if_neg w3, if_neg w4])
set_option maxHeartbeats 4000000 in
set_option maxRecDepth 100000 in
theorem c_X6_clear (l : Launch) (D : va_G) (cI cJ cZ : ClassId) (a : Nat → Nat) (hA nA : Nat) (gr li st sp : Nat → Int32) (n m : Nat) (nu : Nat → Int32) (ev od : Nat → Int64) (fp ti : Nat → Int32) (wc : Nat → Int64) (wu : Int32) (sc pv : Nat → Int64) (su : Int32) (sd : Nat → Int32) (t : Nat) : Met l yX6_clear wsX6_clear { frames := 1, cells := 0, slots := 0, locals := 20 } (gPc D (tyT cI cJ cZ) (wA a (a 11) (a 12)) FT (wC cI cJ cZ a hA nA gr li st sp (nI n) (nI m) nu ev od fp ti wc wu sc pv su sd (nI t)) [.ref (a 0)]) (va_Qi (fun (r : Int32) (u : Unit) => r = nI t) (fun u tS => va_P D vwCl ((fun (u : Unit) => wC cI cJ cZ a hA nA gr li st sp (nI n) (nI m) nu ev od fp ti wc wu sc pv su sd (nI 0)) u) tS.heap ∧ va_D (wA a (a 11) (a 12)) ((fun (u : Unit) => wC cI cJ cZ a hA nA gr li st sp (nI n) (nI m) nu ev od fp ti wc wu sc pv su sd (nI 0)) u)) (wA a (a 11) (a 12))) 0 0 (wA a (a 11) (a 12)) := by
  refine gs_qi (cc := cX6_clear) (nL := 2) (ty := .int) (W' := fun (u : Unit) => wC cI cJ cZ a hA nA gr li st sp (nI n) (nI m) nu ev od fp ti wc wu sc pv su sd (nI 0)) (by decide) rfl (Nat.le_of_ble_eq_true rfl) (fun G C hret => ?_)
  show G 0 0 (wC cI cJ cZ a hA nA gr li st sp (nI n) (nI m) nu ev od fp ti wc wu sc pv su sd (nI t)) [(0, .ref (a 0))] 0 []
  refine g_aload_n C 0 dX6_clear_0 rfl rfl rfl (q := 1) ?_
  refine g_get C 0 5 dX6_clear_1 (Cn := RX6) (T := TX6) (N := 6) (fun _ h => List.mem_cons_of_mem _ (List.mem_append_left _ (List.mem_append_right _ h))) rfl rfl (by decide) (List.mem_cons_of_mem _ (List.mem_append_left _ (List.mem_append_left _ (List.mem_of_getElem? (i := 0) rfl)))) rfl (q := 4) rfl ?_
  refine gcV_si C (n := 0) (As := []) (st := []) 6 (fun h => h) dX6_clear_4 rfl rfl gX6_clear_X1_size (c_X1_size l D cI cJ cZ a hA nA gr li st sp n m nu ev od fp ti wc wu sc pv su sd t) rfl rfl rfl (by decide +kernel) ⟨Nat.le_of_ble_eq_true rfl, Nat.le_of_ble_eq_true rfl⟩ rfl rfl (Nat.le_of_ble_eq_true rfl) FT_b FT_h ⟨Nat.le_of_ble_eq_true rfl, Nat.le_of_ble_eq_true rfl⟩ (q := 7) rfl (fun r_4 h_4 => ?_)
  subst h_4
  refine g_istore_n C [(1, .int (nI t)), (0, .ref (a 0))] dX6_clear_7 rfl (by decide) rfl (q := 8) rfl ?_
  refine g_aload_n C 1 dX6_clear_8 rfl rfl rfl (q := 9) ?_
  refine g_get C 0 5 dX6_clear_9 (Cn := RX6) (T := TX6) (N := 6) (fun _ h => List.mem_cons_of_mem _ (List.mem_append_left _ (List.mem_append_right _ h))) rfl rfl (by decide) (List.mem_cons_of_mem _ (List.mem_append_left _ (List.mem_append_left _ (List.mem_of_getElem? (i := 0) rfl)))) rfl (q := 12) rfl ?_
  refine gcV_qv C (n := 0) (As := []) (st := []) 6 (fun h => h) (fun _ h => h) dX6_clear_12 rfl rfl gX6_clear_X1_wipe (c_X1_wipe l D cI cJ cZ a hA nA gr li st sp n m nu ev od fp ti wc wu sc pv su sd t) rfl rfl rfl (by decide +kernel) ⟨Nat.le_of_ble_eq_true rfl, Nat.le_of_ble_eq_true rfl⟩ rfl rfl (Nat.le_of_ble_eq_true rfl) FT_b FT_h ⟨Nat.le_of_ble_eq_true rfl, Nat.le_of_ble_eq_true rfl⟩ (q := 15) rfl (fun u_12 h_12 => ?_)
  refine g_iload_n C 0 dX6_clear_15 rfl rfl rfl (q := 16) ?_
  exact hret _ () 16 _ dX6_clear_16 rfl (rfl)
set_option maxHeartbeats 4000000 in
set_option maxRecDepth 100000 in
theorem c_X6_log (l : Launch) (D : va_G) (cI cJ cZ : ClassId) (a : Nat → Nat) (hA nA : Nat) (gr li st sp : Nat → Int32) (n m : Nat) (nu : Nat → Int32) (ev od : Nat → Int64) (fp ti : Nat → Int32) (wc : Nat → Int64) (wu : Int32) (sc pv : Nat → Int64) (su : Int32) (sd : Nat → Int32) (t : Nat) (v : Int32) (hn : n ≤ 16) (ht : t ≤ n + 1) : Met l yX6_log wsX6_log { frames := 2, cells := 0, slots := 0, locals := 40 } (gPc D (tyT cI cJ cZ) (wA a (a 11) (a 12)) FT (wC cI cJ cZ a hA nA gr li st sp (nI n) (nI m) nu ev od fp ti wc wu sc pv su sd (nI t)) [.ref (a 0), .int v]) (va_Qi (fun (r : Int32) (u : (Nat → Int32) × Nat) => (r, u.1, u.2) = aLog n t sd v) (fun u tS => va_P D vwCl ((fun (u : (Nat → Int32) × Nat) => wC cI cJ cZ a hA nA gr li st sp (nI n) (nI m) nu ev od fp ti wc wu sc pv su u.1 (nI u.2)) u) tS.heap ∧ va_D (wA a (a 11) (a 12)) ((fun (u : (Nat → Int32) × Nat) => wC cI cJ cZ a hA nA gr li st sp (nI n) (nI m) nu ev od fp ti wc wu sc pv su u.1 (nI u.2)) u)) (wA a (a 11) (a 12))) 0 0 (wA a (a 11) (a 12)) := by
  refine gs_qi (cc := cX6_log) (nL := 2) (ty := .int) (W' := fun (u : (Nat → Int32) × Nat) => wC cI cJ cZ a hA nA gr li st sp (nI n) (nI m) nu ev od fp ti wc wu sc pv su u.1 (nI u.2)) (by decide) rfl (Nat.le_of_ble_eq_true rfl) (fun G C hret => ?_)
  show G 0 0 (wC cI cJ cZ a hA nA gr li st sp (nI n) (nI m) nu ev od fp ti wc wu sc pv su sd (nI t)) [(0, .ref (a 0)), (1, .int v)] 0 []
  refine g_iload_n C 1 dX6_log_0 rfl rfl rfl (q := 1) ?_
  refine gcS_si C (n := 1) (As := [.int v]) (st := []) (fun h => h) dX6_log_1 gX6_log_X6_isSpeed (c_X6_isSpeed l D cI cJ cZ a hA nA gr li st sp n m nu ev od fp ti wc wu sc pv su sd t v) rfl rfl rfl (by decide +kernel) ⟨Nat.le_of_ble_eq_true rfl, Nat.le_of_ble_eq_true rfl⟩ rfl rfl (Nat.le_of_ble_eq_true rfl) FT_b FT_h ⟨Nat.le_of_ble_eq_true rfl, Nat.le_of_ble_eq_true rfl⟩ (q := 4) rfl (fun r_1 h_1 => ?_)
  subst h_1
  refine g_if_ne C (t := 10) dX6_log_4 (by decide) (q := 7) rfl (fun c_4 => ?_) (fun c_4 => ?_)
  · replace c_4 := ite_n0 c_4
    refine g_aload_n C 0 dX6_log_10 rfl rfl rfl (q := 11) ?_
    refine g_get C 0 5 dX6_log_11 (Cn := RX6) (T := TX6) (N := 6) (fun _ h => List.mem_cons_of_mem _ (List.mem_append_left _ (List.mem_append_left _ (List.mem_append_right _ h)))) rfl rfl (by decide) (List.mem_cons_of_mem _ (List.mem_append_left _ (List.mem_append_left _ (List.mem_append_left _ (List.mem_of_getElem? (i := 0) rfl))))) rfl (q := 14) rfl ?_
    refine gcV_si C (n := 0) (As := []) (st := []) 6 (fun h => h) dX6_log_14 rfl rfl gX6_log_X1_isFull (c_X1_isFull l D cI cJ cZ a hA nA gr li st sp n m nu ev od fp ti wc wu sc pv su sd t (by first | assumption | omega) (by first | assumption | omega)) rfl rfl rfl (by decide +kernel) ⟨Nat.le_of_ble_eq_true rfl, Nat.le_of_ble_eq_true rfl⟩ rfl rfl (Nat.le_of_ble_eq_true rfl) FT_b FT_h ⟨Nat.le_of_ble_eq_true rfl, Nat.le_of_ble_eq_true rfl⟩ (q := 17) rfl (fun r_14 h_14 => ?_)
    subst h_14
    refine g_if_eq C (t := 23) dX6_log_17 (by decide) (q := 20) rfl (fun c_17 => ?_) (fun c_17 => ?_)
    · replace c_17 := ite_e0 c_17
      refine g_aload_n C 0 dX6_log_23 rfl rfl rfl (q := 24) ?_
      refine g_get C 0 5 dX6_log_24 (Cn := RX6) (T := TX6) (N := 6) (fun _ h => List.mem_cons_of_mem _ (List.mem_append_left _ (List.mem_append_left _ (List.mem_append_right _ h)))) rfl rfl (by decide) (List.mem_cons_of_mem _ (List.mem_append_left _ (List.mem_append_left _ (List.mem_append_left _ (List.mem_of_getElem? (i := 0) rfl))))) rfl (q := 27) rfl ?_
      refine g_iload_n C 1 dX6_log_27 rfl rfl rfl (q := 28) ?_
      refine gcV_qv C (n := 1) (As := [.int v]) (st := []) 6 (fun h => h) (fun _ h => h) dX6_log_28 rfl rfl gX6_log_X1_add (c_X1_add l D cI cJ cZ a hA nA gr li st sp n m nu ev od fp ti wc wu sc pv su sd t v (by first | assumption | omega)) rfl rfl rfl (by decide +kernel) ⟨Nat.le_of_ble_eq_true rfl, Nat.le_of_ble_eq_true rfl⟩ rfl rfl (Nat.le_of_ble_eq_true rfl) FT_b FT_h ⟨Nat.le_of_ble_eq_true rfl, Nat.le_of_ble_eq_true rfl⟩ (q := 31) rfl (fun u_28 h_28 => ?_)
      refine g_aload_n C 0 dX6_log_31 rfl rfl rfl (q := 32) ?_
      refine g_get C 0 5 dX6_log_32 (Cn := RX6) (T := TX6) (N := 6) (fun _ h => List.mem_cons_of_mem _ (List.mem_append_left _ (List.mem_append_left _ (List.mem_append_right _ h)))) rfl rfl (by decide) (List.mem_cons_of_mem _ (List.mem_append_left _ (List.mem_append_left _ (List.mem_append_left _ (List.mem_of_getElem? (i := 0) rfl))))) rfl (q := 35) rfl ?_
      refine gcV_si C (n := 0) (As := []) (st := []) 6 (fun h => h) dX6_log_35 rfl rfl gX6_log_X1_size (c_X1_size l D cI cJ cZ a hA nA gr li st sp n m nu ev od fp ti wc wu sc pv su (upd sd t v) (t + 1)) rfl rfl rfl (by decide +kernel) ⟨Nat.le_of_ble_eq_true rfl, Nat.le_of_ble_eq_true rfl⟩ rfl rfl (Nat.le_of_ble_eq_true rfl) FT_b FT_h ⟨Nat.le_of_ble_eq_true rfl, Nat.le_of_ble_eq_true rfl⟩ (q := 38) rfl (fun r_35 h_35 => ?_)
      subst h_35
      exact hret _ (upd sd t v, t + 1) 38 _ dX6_log_38 rfl (by rw [aLog, if_pos c_4, if_neg c_17])
    · replace c_17 := ite_n0 c_17
      refine g_bipush C (-4) dX6_log_20 (by decide) (q := 22) rfl ?_
      exact hret _ (sd, t) 22 _ dX6_log_22 rfl (by rw [aLog, if_pos c_4, if_pos c_17])
  · replace c_4 := ite_e0 c_4
    refine g_bipush C (-2) dX6_log_7 (by decide) (q := 9) rfl ?_
    exact hret _ (sd, t) 9 _ dX6_log_9 rfl (by rw [aLog, if_neg c_4])
set_option maxHeartbeats 4000000 in
set_option maxRecDepth 100000 in
theorem c_X6_cell (l : Launch) (D : va_G) (cI cJ cZ : ClassId) (a : Nat → Nat) (hA nA : Nat) (gr li st sp : Nat → Int32) (n m : Nat) (nu : Nat → Int32) (ev od : Nat → Int64) (fp ti : Nat → Int32) (wc : Nat → Int64) (wu : Int32) (sc pv : Nat → Int64) (su : Int32) (sd : Nat → Int32) (t : Nat) (k g v : Int32) (hn : n ≤ 16) : Met l yX6_cell wsX6_cell { frames := 2, cells := 0, slots := 0, locals := 40 } (gPc D (tyT cI cJ cZ) (wA a (a 11) (a 12)) FT (wC cI cJ cZ a hA nA gr li st sp (nI n) (nI m) nu ev od fp ti wc wu sc pv su sd (nI t)) [.ref (a 0), .int k, .int g, .int v]) (va_Qi (fun (r : Int32) (u : (Nat → Int32) × (Nat → Int32) × Int32 × Int32) => (r, u.1, u.2.1) = aCell gr li n k g v ∧ ((u.1 = gr ∧ u.2.1 = li ∧ u.2.2 = (wu, su)) ∨ u.2.2 = (nI 0, nI 0))) (fun u tS => va_P D vwCl ((fun (u : (Nat → Int32) × (Nat → Int32) × Int32 × Int32) => wC cI cJ cZ a hA nA u.1 u.2.1 st sp (nI n) (nI m) nu ev od fp ti wc u.2.2.1 sc pv u.2.2.2 sd (nI t)) u) tS.heap ∧ va_D (wA a (a 11) (a 12)) ((fun (u : (Nat → Int32) × (Nat → Int32) × Int32 × Int32) => wC cI cJ cZ a hA nA u.1 u.2.1 st sp (nI n) (nI m) nu ev od fp ti wc u.2.2.1 sc pv u.2.2.2 sd (nI t)) u)) (wA a (a 11) (a 12))) 0 0 (wA a (a 11) (a 12)) := by
  refine gs_qi (cc := cX6_cell) (nL := 5) (ty := .int) (W' := fun (u : (Nat → Int32) × (Nat → Int32) × Int32 × Int32) => wC cI cJ cZ a hA nA u.1 u.2.1 st sp (nI n) (nI m) nu ev od fp ti wc u.2.2.1 sc pv u.2.2.2 sd (nI t)) (by decide) rfl (Nat.le_of_ble_eq_true rfl) (fun G C hret => ?_)
  show G 0 0 (wC cI cJ cZ a hA nA gr li st sp (nI n) (nI m) nu ev od fp ti wc wu sc pv su sd (nI t)) [(0, .ref (a 0)), (1, .int k), (2, .int g), (3, .int v)] 0 []
  refine g_aload_n C 0 dX6_cell_0 rfl rfl rfl (q := 1) ?_
  refine g_get C 0 0 dX6_cell_1 (Cn := RX6) (T := TX6) (N := 6) (fun _ h => List.mem_cons_of_mem _ (List.mem_append_left _ (List.mem_append_left _ (List.mem_append_left _ (List.mem_append_right _ h))))) rfl rfl (by decide) (List.mem_cons_of_mem _ (List.mem_append_left _ (List.mem_append_left _ (List.mem_append_left _ (List.mem_append_left _ (List.mem_of_getElem? (i := 0) rfl)))))) rfl (q := 4) rfl ?_
  refine g_iload_n C 1 dX6_cell_4 rfl rfl rfl (q := 5) ?_
  refine gcV_si C (n := 1) (As := [.int k]) (st := []) 1 (fun h => h) dX6_cell_5 rfl rfl gX6_cell_X0_hasCell (c_X0_hasCell l D cI cJ cZ a hA nA gr li st sp n m nu ev od fp ti wc wu sc pv su sd t k) rfl rfl rfl (by decide +kernel) ⟨Nat.le_of_ble_eq_true rfl, Nat.le_of_ble_eq_true rfl⟩ rfl rfl (Nat.le_of_ble_eq_true rfl) FT_b FT_h ⟨Nat.le_of_ble_eq_true rfl, Nat.le_of_ble_eq_true rfl⟩ (q := 8) rfl (fun r_5 h_5 => ?_)
  subst h_5
  refine g_if_ne C (t := 13) dX6_cell_8 (by decide) (q := 11) rfl (fun c_8 => ?_) (fun c_8 => ?_)
  · replace c_8 := ite_n0 c_8
    refine g_iload_n C 2 dX6_cell_13 rfl rfl rfl (q := 14) ?_
    refine g_bipush C (-4) dX6_cell_14 (by decide) (q := 16) rfl ?_
    refine g_icmp_lt C (t := 35) dX6_cell_16 (by decide) (q := 19) rfl (fun c_16 => ?_) (fun c_16 => ?_)
    · refine g_bipush C (-2) dX6_cell_35 (by decide) (q := 37) rfl ?_
      exact hret _ (gr, li, wu, su) 37 _ dX6_cell_37 rfl (⟨by first | (rw [aCell, if_pos c_8, if_neg (show ¬ okC g v from fun h => h.1 c_16)]) | (rw [aCell, if_pos c_8, if_neg (show ¬ okC g v from fun h => h.2.1 c_21)]) | (rw [aCell, if_pos c_8, if_neg (show ¬ okC g v from fun h => h.2.2.1 c_26)]) | (rw [aCell, if_pos c_8, if_neg (show ¬ okC g v from fun h => c_32 (Int32.not_lt.mp h.2.2.2))]), Or.inl ⟨rfl, rfl, rfl⟩⟩)
    · refine g_iload_n C 2 dX6_cell_19 rfl rfl rfl (q := 20) ?_
      refine g_iconst C (nI 4) dX6_cell_20 (by decide) (q := 21) rfl ?_
      refine g_icmp_gt C (t := 35) dX6_cell_21 (by decide) (q := 24) rfl (fun c_21 => ?_) (fun c_21 => ?_)
      · refine g_bipush C (-2) dX6_cell_35 (by decide) (q := 37) rfl ?_
        exact hret _ (gr, li, wu, su) 37 _ dX6_cell_37 rfl (⟨by first | (rw [aCell, if_pos c_8, if_neg (show ¬ okC g v from fun h => h.1 c_16)]) | (rw [aCell, if_pos c_8, if_neg (show ¬ okC g v from fun h => h.2.1 c_21)]) | (rw [aCell, if_pos c_8, if_neg (show ¬ okC g v from fun h => h.2.2.1 c_26)]) | (rw [aCell, if_pos c_8, if_neg (show ¬ okC g v from fun h => c_32 (Int32.not_lt.mp h.2.2.2))]), Or.inl ⟨rfl, rfl, rfl⟩⟩)
      · refine g_iload_n C 3 dX6_cell_24 rfl rfl rfl (q := 25) ?_
        refine g_iconst C (nI 1) dX6_cell_25 (by decide) (q := 26) rfl ?_
        refine g_icmp_lt C (t := 35) dX6_cell_26 (by decide) (q := 29) rfl (fun c_26 => ?_) (fun c_26 => ?_)
        · refine g_bipush C (-2) dX6_cell_35 (by decide) (q := 37) rfl ?_
          exact hret _ (gr, li, wu, su) 37 _ dX6_cell_37 rfl (⟨by first | (rw [aCell, if_pos c_8, if_neg (show ¬ okC g v from fun h => h.1 c_16)]) | (rw [aCell, if_pos c_8, if_neg (show ¬ okC g v from fun h => h.2.1 c_21)]) | (rw [aCell, if_pos c_8, if_neg (show ¬ okC g v from fun h => h.2.2.1 c_26)]) | (rw [aCell, if_pos c_8, if_neg (show ¬ okC g v from fun h => c_32 (Int32.not_lt.mp h.2.2.2))]), Or.inl ⟨rfl, rfl, rfl⟩⟩)
        · refine g_iload_n C 3 dX6_cell_29 rfl rfl rfl (q := 30) ?_
          refine g_bipush C (nI 6) dX6_cell_30 (by decide) (q := 32) rfl ?_
          refine g_icmp_le C (t := 38) dX6_cell_32 (by decide) (q := 35) rfl (fun c_32 => ?_) (fun c_32 => ?_)
          · obtain ⟨k1, hk, rfl⟩ := hcP_of c_8 (by omega)
            refine g_aload_n C 0 dX6_cell_38 rfl rfl rfl (q := 39) ?_
            refine g_get C 0 0 dX6_cell_39 (Cn := RX6) (T := TX6) (N := 6) (fun _ h => List.mem_cons_of_mem _ (List.mem_append_left _ (List.mem_append_left _ (List.mem_append_left _ (List.mem_append_right _ h))))) rfl rfl (by decide) (List.mem_cons_of_mem _ (List.mem_append_left _ (List.mem_append_left _ (List.mem_append_left _ (List.mem_append_left _ (List.mem_of_getElem? (i := 0) rfl)))))) rfl (q := 42) rfl ?_
            refine g_iload_n C 1 dX6_cell_42 rfl rfl rfl (q := 43) ?_
            refine gcV_si C (n := 1) (As := [.int (nI k1)]) (st := []) 1 (fun h => h) dX6_cell_43 rfl rfl gX6_cell_X0_limitOf (c_X0_limitOf l D cI cJ cZ a hA nA gr li st sp n m nu ev od fp ti wc wu sc pv su sd t k1 (by first | assumption | omega)) rfl rfl rfl (by decide +kernel) ⟨Nat.le_of_ble_eq_true rfl, Nat.le_of_ble_eq_true rfl⟩ rfl rfl (Nat.le_of_ble_eq_true rfl) FT_b FT_h ⟨Nat.le_of_ble_eq_true rfl, Nat.le_of_ble_eq_true rfl⟩ (q := 46) rfl (fun r_43 h_43 => ?_)
            subst h_43
            refine g_istore C [(4, .int (li k1)), (0, .ref (a 0)), (1, .int (nI k1)), (2, .int g), (3, .int v)] dX6_cell_46 (by decide) rfl (q := 48) rfl ?_
            refine g_aload_n C 1 dX6_cell_48 rfl rfl rfl (q := 49) ?_
            refine g_get C 0 0 dX6_cell_49 (Cn := RX6) (T := TX6) (N := 6) (fun _ h => List.mem_cons_of_mem _ (List.mem_append_left _ (List.mem_append_left _ (List.mem_append_left _ (List.mem_append_right _ h))))) rfl rfl (by decide) (List.mem_cons_of_mem _ (List.mem_append_left _ (List.mem_append_left _ (List.mem_append_left _ (List.mem_append_left _ (List.mem_of_getElem? (i := 0) rfl)))))) rfl (q := 52) rfl ?_
            refine g_iload_n C 2 dX6_cell_52 rfl rfl rfl (q := 53) ?_
            refine g_iload_n C 3 dX6_cell_53 rfl rfl rfl (q := 54) ?_
            refine g_iload_n C 4 dX6_cell_54 rfl rfl rfl (q := 55) ?_
            refine gcV_qv C (n := 3) (As := [.int (nI k1), .int g, .int v]) (st := []) 1 (fun h => h) (fun _ h => h) dX6_cell_55 rfl rfl gX6_cell_X0_shape (c_X0_shape l D cI cJ cZ a hA nA gr li st sp n m nu ev od fp ti wc wu sc pv su sd t k1 g v (by first | assumption | omega)) rfl rfl rfl (by decide +kernel) ⟨Nat.le_of_ble_eq_true rfl, Nat.le_of_ble_eq_true rfl⟩ rfl rfl (Nat.le_of_ble_eq_true rfl) FT_b FT_h ⟨Nat.le_of_ble_eq_true rfl, Nat.le_of_ble_eq_true rfl⟩ (q := 58) rfl (fun u_55 h_55 => ?_)
            refine g_aload_n C 1 dX6_cell_58 rfl rfl rfl (q := 59) ?_
            refine gcV_qv C (n := 0) (As := []) (st := []) 0 (fun h => h) (fun _ h => h) dX6_cell_59 rfl rfl gX6_cell_X6_forgetChoices (c_X6_forgetChoices l D cI cJ cZ a hA nA (upd gr k1 g) (upd li k1 v) st sp n m nu ev od fp ti wc wu sc pv su sd t) rfl rfl rfl (by decide +kernel) ⟨Nat.le_of_ble_eq_true rfl, Nat.le_of_ble_eq_true rfl⟩ rfl rfl (Nat.le_of_ble_eq_true rfl) FT_b FT_h ⟨Nat.le_of_ble_eq_true rfl, Nat.le_of_ble_eq_true rfl⟩ (q := 62) rfl (fun u_59 h_59 => ?_)
            refine g_iload C 0 dX6_cell_62 rfl rfl (q := 64) ?_
            exact hret _ (upd gr k1 g, upd li k1 v, nI 0, nI 0) 64 _ dX6_cell_64 rfl (⟨by rw [aCell, if_pos c_8, if_pos ⟨c_16, c_21, c_26, Int32.not_lt.mpr c_32⟩, nI_clamp (by omega)], Or.inr rfl⟩)
          · refine g_bipush C (-2) dX6_cell_35 (by decide) (q := 37) rfl ?_
            exact hret _ (gr, li, wu, su) 37 _ dX6_cell_37 rfl (⟨by first | (rw [aCell, if_pos c_8, if_neg (show ¬ okC g v from fun h => h.1 c_16)]) | (rw [aCell, if_pos c_8, if_neg (show ¬ okC g v from fun h => h.2.1 c_21)]) | (rw [aCell, if_pos c_8, if_neg (show ¬ okC g v from fun h => h.2.2.1 c_26)]) | (rw [aCell, if_pos c_8, if_neg (show ¬ okC g v from fun h => c_32 (Int32.not_lt.mp h.2.2.2))]), Or.inl ⟨rfl, rfl, rfl⟩⟩)
  · replace c_8 := ite_e0 c_8
    refine g_iconst C (-1) dX6_cell_11 (by decide) (q := 12) rfl ?_
    exact hret _ (gr, li, wu, su) 12 _ dX6_cell_12 rfl (⟨by rw [aCell, if_neg c_8], Or.inl ⟨rfl, rfl, rfl⟩⟩)
set_option maxHeartbeats 4000000 in
set_option maxRecDepth 100000 in
theorem c_X6_stop (l : Launch) (D : va_G) (cI cJ cZ : ClassId) (a : Nat → Nat) (hA nA : Nat) (gr li st sp : Nat → Int32) (n m : Nat) (nu : Nat → Int32) (ev od : Nat → Int64) (fp ti : Nat → Int32) (wc : Nat → Int64) (wu : Int32) (sc pv : Nat → Int64) (su : Int32) (sd : Nat → Int32) (t : Nat) (k v : Int32) (hL : LInv st sp n m) (hv : v = nI 0 ∨ v = nI 1) : Met l yX6_stop wsX6_stop { frames := 2, cells := 0, slots := 0, locals := 44 } (gPc D (tyT cI cJ cZ) (wA a (a 11) (a 12)) FT (wC cI cJ cZ a hA nA gr li st sp (nI n) (nI m) nu ev od fp ti wc wu sc pv su sd (nI t)) [.ref (a 0), .int k, .int v]) (va_Qi (fun (r : Int32) (u : (Nat → Int32) × (Nat → Int32) × Nat × Int32 × Int32) => (r, u.1) = aStop st n k v ∧ LInv u.1 u.2.1 n u.2.2.1 ∧ ((u.1 = st ∧ u.2.1 = sp ∧ u.2.2.1 = m ∧ u.2.2.2 = (wu, su)) ∨ u.2.2.2 = (nI 0, nI 0))) (fun u tS => va_P D vwCl ((fun (u : (Nat → Int32) × (Nat → Int32) × Nat × Int32 × Int32) => wC cI cJ cZ a hA nA gr li u.1 u.2.1 (nI n) (nI u.2.2.1) nu ev od fp ti wc u.2.2.2.1 sc pv u.2.2.2.2 sd (nI t)) u) tS.heap ∧ va_D (wA a (a 11) (a 12)) ((fun (u : (Nat → Int32) × (Nat → Int32) × Nat × Int32 × Int32) => wC cI cJ cZ a hA nA gr li u.1 u.2.1 (nI n) (nI u.2.2.1) nu ev od fp ti wc u.2.2.2.1 sc pv u.2.2.2.2 sd (nI t)) u)) (wA a (a 11) (a 12))) 0 0 (wA a (a 11) (a 12)) := by
  refine gs_qi (cc := cX6_stop) (nL := 3) (ty := .int) (W' := fun (u : (Nat → Int32) × (Nat → Int32) × Nat × Int32 × Int32) => wC cI cJ cZ a hA nA gr li u.1 u.2.1 (nI n) (nI u.2.2.1) nu ev od fp ti wc u.2.2.2.1 sc pv u.2.2.2.2 sd (nI t)) (by decide) rfl (Nat.le_of_ble_eq_true rfl) (fun G C hret => ?_)
  show G 0 0 (wC cI cJ cZ a hA nA gr li st sp (nI n) (nI m) nu ev od fp ti wc wu sc pv su sd (nI t)) [(0, .ref (a 0)), (1, .int k), (2, .int v)] 0 []
  have hn := hL.2.1
  have hst := hL.2.2.1
  have h0 := hL.2.2.2.1
  refine g_aload_n C 0 dX6_stop_0 rfl rfl rfl (q := 1) ?_
  refine g_get C 0 0 dX6_stop_1 (Cn := RX6) (T := TX6) (N := 6) (fun _ h => List.mem_cons_of_mem _ (List.mem_append_left _ (List.mem_append_left _ (List.mem_append_left _ (List.mem_append_right _ h))))) rfl rfl (by decide) (List.mem_cons_of_mem _ (List.mem_append_left _ (List.mem_append_left _ (List.mem_append_left _ (List.mem_append_left _ (List.mem_of_getElem? (i := 0) rfl)))))) rfl (q := 4) rfl ?_
  refine g_iload_n C 1 dX6_stop_4 rfl rfl rfl (q := 5) ?_
  refine gcV_si C (n := 1) (As := [.int k]) (st := []) 1 (fun h => h) dX6_stop_5 rfl rfl gX6_stop_X0_hasPost (c_X0_hasPost l D cI cJ cZ a hA nA gr li st sp n m nu ev od fp ti wc wu sc pv su sd t k) rfl rfl rfl (by decide +kernel) ⟨Nat.le_of_ble_eq_true rfl, Nat.le_of_ble_eq_true rfl⟩ rfl rfl (Nat.le_of_ble_eq_true rfl) FT_b FT_h ⟨Nat.le_of_ble_eq_true rfl, Nat.le_of_ble_eq_true rfl⟩ (q := 8) rfl (fun r_5 h_5 => ?_)
  subst h_5
  refine g_if_ne C (t := 13) dX6_stop_8 (by decide) (q := 11) rfl (fun c_8 => ?_) (fun c_8 => ?_)
  · replace c_8 := ite_n0 c_8
    obtain ⟨k1, hk, rfl⟩ := hpP_of c_8 (by omega)
    refine g_aload_n C 0 dX6_stop_13 rfl rfl rfl (q := 14) ?_
    refine g_get C 0 0 dX6_stop_14 (Cn := RX6) (T := TX6) (N := 6) (fun _ h => List.mem_cons_of_mem _ (List.mem_append_left _ (List.mem_append_left _ (List.mem_append_left _ (List.mem_append_right _ h))))) rfl rfl (by decide) (List.mem_cons_of_mem _ (List.mem_append_left _ (List.mem_append_left _ (List.mem_append_left _ (List.mem_append_left _ (List.mem_of_getElem? (i := 0) rfl)))))) rfl (q := 17) rfl ?_
    refine g_iload_n C 1 dX6_stop_17 rfl rfl rfl (q := 18) ?_
    refine gcV_si C (n := 1) (As := [.int (nI k1)]) (st := []) 1 (fun h => h) dX6_stop_18 rfl rfl gX6_stop_X0_isEnd (c_X0_isEnd l D cI cJ cZ a hA nA gr li st sp n m nu ev od fp ti wc wu sc pv su sd t k1 (by first | assumption | omega) (by first | assumption | omega)) rfl rfl rfl (by decide +kernel) ⟨Nat.le_of_ble_eq_true rfl, Nat.le_of_ble_eq_true rfl⟩ rfl rfl (Nat.le_of_ble_eq_true rfl) FT_b FT_h ⟨Nat.le_of_ble_eq_true rfl, Nat.le_of_ble_eq_true rfl⟩ (q := 21) rfl (fun r_18 h_18 => ?_)
    subst h_18
    refine g_if_eq C (t := 27) dX6_stop_21 (by decide) (q := 24) rfl (fun c_21 => ?_) (fun c_21 => ?_)
    · replace c_21 := ite_e0 c_21
      refine g_aload_n C 0 dX6_stop_27 rfl rfl rfl (q := 28) ?_
      refine g_get C 0 0 dX6_stop_28 (Cn := RX6) (T := TX6) (N := 6) (fun _ h => List.mem_cons_of_mem _ (List.mem_append_left _ (List.mem_append_left _ (List.mem_append_left _ (List.mem_append_right _ h))))) rfl rfl (by decide) (List.mem_cons_of_mem _ (List.mem_append_left _ (List.mem_append_left _ (List.mem_append_left _ (List.mem_append_left _ (List.mem_of_getElem? (i := 0) rfl)))))) rfl (q := 31) rfl ?_
      refine g_iload_n C 1 dX6_stop_31 rfl rfl rfl (q := 32) ?_
      refine g_iload_n C 2 dX6_stop_32 rfl rfl rfl (q := 33) ?_
      refine gcV_qv C (n := 2) (As := [.int (nI k1), .int v]) (st := []) 1 (fun h => h) (fun _ h => h) dX6_stop_33 rfl rfl gX6_stop_X0_markStop (c_X0_markStop l D cI cJ cZ a hA nA gr li st sp n (nI m) nu ev od fp ti wc wu sc pv su sd t k1 v (by first | assumption | omega) (by first | assumption | omega) (by first | assumption | omega) (by first | assumption | omega) (by first | assumption | omega)) rfl rfl rfl (by decide +kernel) ⟨Nat.le_of_ble_eq_true rfl, Nat.le_of_ble_eq_true rfl⟩ rfl rfl (Nat.le_of_ble_eq_true rfl) FT_b FT_h ⟨Nat.le_of_ble_eq_true rfl, Nat.le_of_ble_eq_true rfl⟩ (q := 36) rfl (fun u_33 h_33 => ?_)
      have h_33 : ∀ p, p ≤ n → ¬ upd st k1 v p = 0 → u_33 (cnt (upd st k1 v) p) = nI p := h_33
      show G 0 0 (wC cI cJ cZ a hA nA gr li (upd st k1 v) u_33 (nI n) (nI (cnt (upd st k1 v) (n + 1) - 1)) nu ev od fp ti wc wu sc pv su sd (nI t)) [(0, .ref (a 0)), (1, .int (nI k1)), (2, .int v)] 36 []
      refine g_aload_n C 0 dX6_stop_36 rfl rfl rfl (q := 37) ?_
      refine gcV_qv C (n := 0) (As := []) (st := []) 0 (fun h => h) (fun _ h => h) dX6_stop_37 rfl rfl gX6_stop_X6_forgetChoices (c_X6_forgetChoices l D cI cJ cZ a hA nA gr li (upd st k1 v) u_33 n (cnt (upd st k1 v) (n + 1) - 1) nu ev od fp ti wc wu sc pv su sd t) rfl rfl rfl (by decide +kernel) ⟨Nat.le_of_ble_eq_true rfl, Nat.le_of_ble_eq_true rfl⟩ rfl rfl (Nat.le_of_ble_eq_true rfl) FT_b FT_h ⟨Nat.le_of_ble_eq_true rfl, Nat.le_of_ble_eq_true rfl⟩ (q := 40) rfl (fun u_37 h_37 => ?_)
      refine g_aload_n C 0 dX6_stop_40 rfl rfl rfl (q := 41) ?_
      refine g_get C 0 0 dX6_stop_41 (Cn := RX6) (T := TX6) (N := 6) (fun _ h => List.mem_cons_of_mem _ (List.mem_append_left _ (List.mem_append_left _ (List.mem_append_left _ (List.mem_append_right _ h))))) rfl rfl (by decide) (List.mem_cons_of_mem _ (List.mem_append_left _ (List.mem_append_left _ (List.mem_append_left _ (List.mem_append_left _ (List.mem_of_getElem? (i := 0) rfl)))))) rfl (q := 44) rfl ?_
      refine gcV_si C (n := 0) (As := []) (st := []) 1 (fun h => h) dX6_stop_44 rfl rfl gX6_stop_X0_legCount (c_X0_legCount l D cI cJ cZ a hA nA gr li (upd st k1 v) u_33 n (cnt (upd st k1 v) (n + 1) - 1) nu ev od fp ti wc (nI 0) sc pv (nI 0) sd t) rfl rfl rfl (by decide +kernel) ⟨Nat.le_of_ble_eq_true rfl, Nat.le_of_ble_eq_true rfl⟩ rfl rfl (Nat.le_of_ble_eq_true rfl) FT_b FT_h ⟨Nat.le_of_ble_eq_true rfl, Nat.le_of_ble_eq_true rfl⟩ (q := 47) rfl (fun r_44 h_44 => ?_)
      subst h_44
      exact hret _ (upd st k1 v, u_33, cnt (upd st k1 v) (n + 1) - 1, nI 0, nI 0) 47 _ dX6_stop_47 rfl (⟨by rw [aStop, if_pos c_8, if_neg (by rintro (q | q) <;> (rw [nI_eq (by omega) (by omega)] at q; omega)), nI_clamp (by omega)], LInv_of hL.1 hL.2.1 (upd_01 hst hv) (by show ¬ upd st k1 v 0 = 0; rw [pk_un (by omega)]; exact h0) (by show ¬ upd st k1 v n = 0; rw [pk_un (by omega)]; exact hL.2.2.2.2.1) rfl h_33, Or.inr rfl⟩)
    · replace c_21 := ite_n0 c_21
      refine g_bipush C (-3) dX6_stop_24 (by decide) (q := 26) rfl ?_
      exact hret _ (st, sp, m, wu, su) 26 _ dX6_stop_26 rfl (⟨by rw [aStop, if_pos c_8, if_pos (by rcases c_21 with q | q; (rw [q]; exact Or.inl rfl); (rw [q]; exact Or.inr rfl))], hL, Or.inl ⟨rfl, rfl, rfl, rfl⟩⟩)
  · replace c_8 := ite_e0 c_8
    refine g_iconst C (-1) dX6_stop_11 (by decide) (q := 12) rfl ?_
    exact hret _ (st, sp, m, wu, su) 12 _ dX6_stop_12 rfl (⟨by rw [aStop, if_neg c_8], hL, Or.inl ⟨rfl, rfl, rfl, rfl⟩⟩)
set_option maxHeartbeats 4000000 in
set_option maxRecDepth 100000 in
theorem c_X6_line (l : Launch) (D : va_G) (cI cJ cZ : ClassId) (a : Nat → Nat) (hA nA : Nat) (gr li st sp : Nat → Int32) (n m : Nat) (nu : Nat → Int32) (ev od : Nat → Int64) (fp ti : Nat → Int32) (wc : Nat → Int64) (wu : Int32) (sc pv : Nat → Int64) (su : Int32) (sd : Nat → Int32) (t : Nat) (k : Int32) : Met l yX6_line wsX6_line { frames := 2, cells := 0, slots := 0, locals := 44 } (gPc D (tyT cI cJ cZ) (wA a (a 11) (a 12)) FT (wC cI cJ cZ a hA nA gr li st sp (nI n) (nI m) nu ev od fp ti wc wu sc pv su sd (nI t)) [.ref (a 0), .int k]) (va_Qi (fun (r : Int32) (u : (Nat → Int32) × (Nat → Int32) × (Nat → Int32) × (Nat → Int32) × Nat × Nat × Int32 × Int32 × Nat) => (¬ lnP k → r = -2 ∧ u = (gr, li, st, sp, n, m, wu, su, t)) ∧ (lnP k → r = nI n ∧ ∃ (z z2 : Nat) (sp2 : Nat → Int32), k = nI z ∧ u = (fun _ => nI 0, fun _ => nI 6, stL z, sp2, z, z2, nI 0, nI 0, 0) ∧ LInv (stL z) sp2 z z2)) (fun u tS => va_P D vwCl ((fun (u : (Nat → Int32) × (Nat → Int32) × (Nat → Int32) × (Nat → Int32) × Nat × Nat × Int32 × Int32 × Nat) => wC cI cJ cZ a hA nA u.1 u.2.1 u.2.2.1 u.2.2.2.1 (nI u.2.2.2.2.1) (nI u.2.2.2.2.2.1) nu ev od fp ti wc u.2.2.2.2.2.2.1 sc pv u.2.2.2.2.2.2.2.1 sd (nI u.2.2.2.2.2.2.2.2)) u) tS.heap ∧ va_D (wA a (a 11) (a 12)) ((fun (u : (Nat → Int32) × (Nat → Int32) × (Nat → Int32) × (Nat → Int32) × Nat × Nat × Int32 × Int32 × Nat) => wC cI cJ cZ a hA nA u.1 u.2.1 u.2.2.1 u.2.2.2.1 (nI u.2.2.2.2.1) (nI u.2.2.2.2.2.1) nu ev od fp ti wc u.2.2.2.2.2.2.1 sc pv u.2.2.2.2.2.2.2.1 sd (nI u.2.2.2.2.2.2.2.2)) u)) (wA a (a 11) (a 12))) 0 0 (wA a (a 11) (a 12)) := by
  refine gs_qi (cc := cX6_line) (nL := 3) (ty := .int) (W' := fun (u : (Nat → Int32) × (Nat → Int32) × (Nat → Int32) × (Nat → Int32) × Nat × Nat × Int32 × Int32 × Nat) => wC cI cJ cZ a hA nA u.1 u.2.1 u.2.2.1 u.2.2.2.1 (nI u.2.2.2.2.1) (nI u.2.2.2.2.2.1) nu ev od fp ti wc u.2.2.2.2.2.2.1 sc pv u.2.2.2.2.2.2.2.1 sd (nI u.2.2.2.2.2.2.2.2)) (by decide) rfl (Nat.le_of_ble_eq_true rfl) (fun G C hret => ?_)
  show G 0 0 (wC cI cJ cZ a hA nA gr li st sp (nI n) (nI m) nu ev od fp ti wc wu sc pv su sd (nI t)) [(0, .ref (a 0)), (1, .int k)] 0 []
  refine g_iload_n C 1 dX6_line_0 rfl rfl rfl (q := 1) ?_
  refine g_iconst C (nI 1) dX6_line_1 (by decide) (q := 2) rfl ?_
  refine g_icmp_lt C (t := 11) dX6_line_2 (by decide) (q := 5) rfl (fun c_2 => ?_) (fun c_2 => ?_)
  · refine g_bipush C (-2) dX6_line_11 (by decide) (q := 13) rfl ?_
    exact hret _ (gr, li, st, sp, n, m, wu, su, t) 13 _ dX6_line_13 rfl (⟨fun _ => ⟨rfl, rfl⟩, fun h => by first | exact absurd c_2 h.1 | exact absurd (Int32.not_lt.mp h.2) c_8⟩)
  · refine g_iload_n C 1 dX6_line_5 rfl rfl rfl (q := 6) ?_
    refine g_bipush C (nI 16) dX6_line_6 (by decide) (q := 8) rfl ?_
    refine g_icmp_le C (t := 14) dX6_line_8 (by decide) (q := 11) rfl (fun c_8 => ?_) (fun c_8 => ?_)
    · have hln : lnP k := ⟨c_2, Int32.not_lt.mpr c_8⟩
      obtain ⟨z, hz1, hz2, rfl⟩ := lnP_of hln
      refine g_aload_n C 0 dX6_line_14 rfl rfl rfl (q := 15) ?_
      refine g_get C 0 0 dX6_line_15 (Cn := RX6) (T := TX6) (N := 6) (fun _ h => List.mem_cons_of_mem _ (List.mem_append_left _ (List.mem_append_left _ (List.mem_append_left _ (List.mem_append_left _ (List.mem_append_right _ h)))))) rfl rfl (by decide) (List.mem_cons_of_mem _ (List.mem_append_left _ (List.mem_append_left _ (List.mem_append_left _ (List.mem_append_left _ (List.mem_append_left _ (List.mem_of_getElem? (i := 0) rfl))))))) rfl (q := 18) rfl ?_
      refine gcV_si C (n := 0) (As := []) (st := []) 1 (fun h => h) dX6_line_18 rfl rfl gX6_line_X0_cellCount (c_X0_cellCount l D cI cJ cZ a hA nA gr li st sp n m nu ev od fp ti wc wu sc pv su sd t) rfl rfl rfl (by decide +kernel) ⟨Nat.le_of_ble_eq_true rfl, Nat.le_of_ble_eq_true rfl⟩ rfl rfl (Nat.le_of_ble_eq_true rfl) FT_b FT_h ⟨Nat.le_of_ble_eq_true rfl, Nat.le_of_ble_eq_true rfl⟩ (q := 21) rfl (fun r_18 h_18 => ?_)
      subst h_18
      refine g_istore_n C [(2, .int (nI n)), (0, .ref (a 0)), (1, .int (nI z))] dX6_line_21 rfl (by decide) rfl (q := 22) rfl ?_
      refine g_aload_n C 1 dX6_line_22 rfl rfl rfl (q := 23) ?_
      refine g_get C 0 0 dX6_line_23 (Cn := RX6) (T := TX6) (N := 6) (fun _ h => List.mem_cons_of_mem _ (List.mem_append_left _ (List.mem_append_left _ (List.mem_append_left _ (List.mem_append_left _ (List.mem_append_right _ h)))))) rfl rfl (by decide) (List.mem_cons_of_mem _ (List.mem_append_left _ (List.mem_append_left _ (List.mem_append_left _ (List.mem_append_left _ (List.mem_append_left _ (List.mem_of_getElem? (i := 0) rfl))))))) rfl (q := 26) rfl ?_
      refine g_iload_n C 2 dX6_line_26 rfl rfl rfl (q := 27) ?_
      refine gcV_qv C (n := 1) (As := [.int (nI z)]) (st := []) 1 (fun h => h) (fun _ h => h) dX6_line_27 rfl rfl gX6_line_X0_lay (c_X0_lay l D cI cJ cZ a hA nA gr li st sp (nI n) (nI m) nu ev od fp ti wc wu sc pv su sd t z (by first | assumption | omega) (by first | assumption | omega)) rfl rfl rfl (by decide +kernel) ⟨Nat.le_of_ble_eq_true rfl, Nat.le_of_ble_eq_true rfl⟩ rfl rfl (Nat.le_of_ble_eq_true rfl) FT_b FT_h ⟨Nat.le_of_ble_eq_true rfl, Nat.le_of_ble_eq_true rfl⟩ (q := 30) rfl (fun u_27 h_27 => ?_)
      have h_27 : ∀ p, p ≤ z → ¬ stL z p = 0 → u_27 (cnt (stL z) p) = nI p := h_27
      show G 0 0 (wC cI cJ cZ a hA nA (fun _ => nI 0) (fun _ => nI 6) (stL z) u_27 (nI z) (nI (cnt (stL z) (z + 1) - 1)) nu ev od fp ti wc wu sc pv su sd (nI t)) [(2, .int (nI n)), (0, .ref (a 0)), (1, .int (nI z))] 30 []
      refine g_aload_n C 1 dX6_line_30 rfl rfl rfl (q := 31) ?_
      refine g_get C 0 5 dX6_line_31 (Cn := RX6) (T := TX6) (N := 6) (fun _ h => List.mem_cons_of_mem _ (List.mem_append_left _ (List.mem_append_left _ (List.mem_append_left _ (List.mem_append_left _ (List.mem_append_right _ h)))))) rfl rfl (by decide) (List.mem_cons_of_mem _ (List.mem_append_left _ (List.mem_append_left _ (List.mem_append_left _ (List.mem_append_left _ (List.mem_append_left _ (List.mem_of_getElem? (i := 1) rfl))))))) rfl (q := 34) rfl ?_
      refine gcV_qv C (n := 0) (As := []) (st := []) 6 (fun h => h) (fun _ h => h) dX6_line_34 rfl rfl gX6_line_X1_wipe (c_X1_wipe l D cI cJ cZ a hA nA (fun _ => nI 0) (fun _ => nI 6) (stL z) u_27 z (cnt (stL z) (z + 1) - 1) nu ev od fp ti wc wu sc pv su sd t) rfl rfl rfl (by decide +kernel) ⟨Nat.le_of_ble_eq_true rfl, Nat.le_of_ble_eq_true rfl⟩ rfl rfl (Nat.le_of_ble_eq_true rfl) FT_b FT_h ⟨Nat.le_of_ble_eq_true rfl, Nat.le_of_ble_eq_true rfl⟩ (q := 37) rfl (fun u_34 h_34 => ?_)
      refine g_aload_n C 1 dX6_line_37 rfl rfl rfl (q := 38) ?_
      refine gcV_qv C (n := 0) (As := []) (st := []) 0 (fun h => h) (fun _ h => h) dX6_line_38 rfl rfl gX6_line_X6_forgetChoices (c_X6_forgetChoices l D cI cJ cZ a hA nA (fun _ => nI 0) (fun _ => nI 6) (stL z) u_27 z (cnt (stL z) (z + 1) - 1) nu ev od fp ti wc wu sc pv su sd 0) rfl rfl rfl (by decide +kernel) ⟨Nat.le_of_ble_eq_true rfl, Nat.le_of_ble_eq_true rfl⟩ rfl rfl (Nat.le_of_ble_eq_true rfl) FT_b FT_h ⟨Nat.le_of_ble_eq_true rfl, Nat.le_of_ble_eq_true rfl⟩ (q := 41) rfl (fun u_38 h_38 => ?_)
      refine g_iload_n C 0 dX6_line_41 rfl rfl rfl (q := 42) ?_
      exact hret _ (fun _ => nI 0, fun _ => nI 6, stL z, u_27, z, cnt (stL z) (z + 1) - 1, nI 0, nI 0, 0) 42 _ dX6_line_42 rfl (⟨fun h => absurd hln h, fun _ => ⟨rfl, z, _, u_27, rfl, rfl, stL_LInv hz1 hz2 rfl h_27⟩⟩)
    · refine g_bipush C (-2) dX6_line_11 (by decide) (q := 13) rfl ?_
      exact hret _ (gr, li, st, sp, n, m, wu, su, t) 13 _ dX6_line_13 rfl (⟨fun _ => ⟨rfl, rfl⟩, fun h => by first | exact absurd c_2 h.1 | exact absurd (Int32.not_lt.mp h.2) c_8⟩)
