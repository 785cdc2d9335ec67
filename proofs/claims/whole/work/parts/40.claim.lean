/-! THE CLAIM OUT OF ONE WALK OF THE LAW'S BODY. Your part is whole_start (and what it stands on); all else here is the same for every law, but numbers. -/
def R_law : String := "CoastPullLaw"
def lw_P (b : Addr) (xs : List Int32) (args : Array Value) (s : State) : Prop := args = #[.ref b] ∧ s.IntsAt b xs ∧ xs.length ≤ 2048 ∧ (Jvm.Cond.and given_1 narrow_1).before args s = true
def lw_Q (_ : Array Value) (s : State) (o : Outcome) (t : State) : Prop := o = .returned (some (.int 1)) ∧ Framed s o t [] 600000 7302249
def lw_Z (below : List Frame) (a : Array Value) (s : State) : State → Prop := fun t => ∃ o, t.status = .running ∧ Ended t below o ∧ lw_Q a s o t
/-- the law's own end, with 1 on the stack, nothing written that was there before, its room as the claim has it -/
theorem lw_ret {p : Program} {l : Launch} {e : Env} {s : State} {m : MethodId} {below : List Frame} {meth : Method} {c : Code} {b : Nat} (hx : p.tables.exec = Jvm.exec) (hb : c.code = code) (hr : meth.sig.returnType = ret) (hlocks : meth.locks = false) {pc : Nat} {H : Heap} {ls : Array Slot} (hdg : decode code pc = .ok (.ireturn, 1)) : W p l e room_1 s m #[Value.ref b] below meth c H [] 600000 7302249 (lw_Z below #[Value.ref b] s) (F0 m pc ls [.int 1]) := by
  intro T hT X
  obtain ⟨fs, hret, hrun, hended, hW, hframe⟩ := X.leave (v := some (.int 1)) (hlocks := hlocks) (fun h => by rw [hr] at h; cases h)
  have hmeth' : T.vm.method? m = some meth := X.method'
  refine ⟨T.setFrames fs, ?_, .returned (some (.int 1)), hrun, hended, rfl, ⟨_, rfl⟩, hW, hframe⟩
  jvm_step X.here [X.here.top, hx, hb, hdg, hmeth', hr, ret, narrow_b1]
  (try refine ⟨rfl, ?_⟩); (try refine ⟨rfl, ?_⟩)
  first | (intro acts; rw [hret _ acts rfl rfl rfl]) | rw [hret _ _ rfl rfl rfl]
  exact Steps.refl _
/-- what holds at the law's entry: the machine, the code, the tables' words (any of lw_tbl by 'hts w (by decide +kernel)'), the script of L ints xs at the cell b, what the Statement gives of the start (any of its parts by flat_of_before) -/
def lw_At (p : Program) (s : State) (m : MethodId) (meth : Method) (c : Code) (b L : Nat) (xs : Nat → Int32) : Prop :=
  p.tables.exec = Jvm.exec ∧ c.code = code ∧ meth.sig.returnType = ret ∧ c.maxLocals = 4 ∧ s.vm.findClass R_law = some m.cls ∧ (∀ w ∈ lw_tbl, w.before #[Value.ref b] s = true) ∧ va_X b L xs s s.heap ∧ b < s.heap.size ∧ meth.locks = false ∧ (Jvm.Cond.and given_1 narrow_1).before #[Value.ref b] s = true
theorem mem_law {x : Cond} (h : x ∈ wsL_law) : x ∈ wsL_law := h
theorem tq_of {args : Array Value} {s : State} {A : Nat → Prop} {cI : ClassId} (hc : s.vm.findClass "[I" = some cI) {f : Nat → Int32} {tm : Term} {N : Nat} (hN : N < 2 ^ 31) (harr : (Cond.arrayOf tm .int).before args s = true) (hex : (Cond.exactly tm "[I").before args s = true) (hlen : (Term.length tm).eval args s none [] s = some (.int (Int32.ofNat N))) (hel : ∀ j : Nat, j < N → (Term.elem tm (.int (Int32.ofNat j))).eval args s none [] s = some (.int (f j))) (hA : ∀ a : Nat, a < s.heap.size → ¬ A a) : ∃ t : Nat, tm.eval args s none [] s = some (.ref t) ∧ tqT cI t N f A s.heap := by
  obtain ⟨t, cell, ht, hat, hv⟩ := Term.length_spec hlen
  have hsz : cell.slots.size < 2 ^ 31 := by
    simp only [Term.eval, ht, hat, Option.bind_eq_bind, Option.bind_some] at hlen
    by_cases hlt : cell.slots.size < 2147483648
    · exact hlt
    · simp [hlt] at hlen
  obtain ⟨hcell, hkn, -, -⟩ := State.arrayAt?_spec hat
  obtain ⟨hof, -⟩ := Cond.arrayOf_spec harr ht hcell
  obtain ⟨a2, c2, cell2, k2, e1, e2, e3, e4, e5, e6, -⟩ := Cond.exactly_spec hex
  cases ht.symm.trans e1
  cases hcell.symm.trans e3
  cases hc.symm.trans e2
  have hN2 : cell.slots.size = N := by
    have h0 := Value.int.inj hv
    have h1 : (Int32.ofNat N).toInt = (N : Int) := nI_toInt hN
    have h2 : (cell.slots.size.toInt32).toInt = (cell.slots.size : Int) := nI_toInt hsz
    rw [h0] at h1
    omega
  have hsl : cell.slots = (vp_cell cI (N, .inl f)).slots := by
    apply Array.ext_getElem?
    intro i
    by_cases hi : i < N
    · obtain ⟨a, j, cell2, h1, h2, h3, h4, h5⟩ := Term.elem_spec (hel i hi)
      cases ht.symm.trans h1
      cases hat.symm.trans h3
      have hj : j = Int32.ofNat i := by
        have e : (Term.int (Int32.ofNat i)).eval args s none [] s = some (.int (Int32.ofNat i)) := rfl
        cases h2.symm.trans e
        rfl
      have hcl : j.toNatClampNeg = i := by rw [hj]; exact nI_clamp (by omega)
      rw [hcl] at h5
      rw [h5]
      exact (arrV_read cI (fun j => .int (f j)) hi).symm
    · rw [Array.getElem?_eq_none (by omega), Array.getElem?_eq_none (by rw [show (vp_cell cI (N, .inl f)).slots.size = N from arrV_size _ _ _]; omega)]
  exact ⟨t, ht, cell, hcell, hof.1, hkn, e6, hsl, hA t (Array.getElem?_eq_some_iff.mp hcell).1⟩
theorem ac_of {args : Array Value} {s : State} {ty : FieldType} (h : (Cond.arrayClass ty).before args s = true) : ∃ c : ClassId, ArrOfT s c ty ∧ s.vm.findClass ("[" ++ ty.toString) = some c := by
  obtain ⟨cA, kA, comp, h1, h2, h3⟩ := Cond.arrayClass_spec h
  exact ⟨cA, fun n z => ⟨fun k h => (by cases h), kA, h2, comp, h3⟩, h1⟩
set_option maxHeartbeats 4000000 in
set_option maxRecDepth 100000 in
theorem whole_start {p : Program} {e : Env} {s : State} {m : MethodId} {below : List Frame} {meth : Method} {c : Code} (l : Launch) (hflags : l.flags = flags0) {b L : Nat} {xs : Nat → Int32} (hL : L ≤ 2048) (C0 : lw_At p s m meth c b L xs) : W p l e room_1 s m #[Value.ref b] below meth c s.heap [] 0 0 (lw_Z below #[Value.ref b] s) (entryFrame m ([Value.ref b] : List Value).toArray 4) := by
  obtain ⟨hx, hb, hr, hml, hown, hts, hX, hbl, hlocks, hgv⟩ := id C0
  have hA0 : ∀ a : Nat, a < s.heap.size → ¬ (fun q : Nat => s.heap.size ≤ q) a := fun a h => Nat.not_le.mpr h
  have hs := flat_of_before _ hgv
  obtain ⟨c0, i0, k0⟩ := u_known (C := RX0) (T := TX0) (N := 6) (n := 6) hts inX0 (hts (.instantiable RX0 6) (wsL_law_in _ (mem_law (List.mem_of_getElem? (i := 13) (by decide +kernel)))))
  obtain ⟨c1, i1, k1⟩ := u_known (C := RX1) (T := TX1) (N := 4) (n := 4) hts inX1 (hts (.instantiable RX1 4) (wsL_law_in _ (mem_law (List.mem_of_getElem? (i := 33) (by decide +kernel)))))
  obtain ⟨c2, i2, k2⟩ := u_known (C := RX2) (T := TX2) (N := 5) (n := 5) hts inX2 (hts (.instantiable RX2 5) (wsL_law_in _ (mem_law (List.mem_of_getElem? (i := 29) (by decide +kernel)))))
  obtain ⟨c3, i3, k3⟩ := u_known (C := RX3) (T := TX3) (N := 2) (n := 2) hts inX3 (hts (.instantiable RX3 2) (wsL_law_in _ (mem_law (List.mem_of_getElem? (i := 21) (by decide +kernel)))))
  obtain ⟨c4, i4, k4⟩ := u_known (C := RX4) (T := TX4) (N := 1) (n := 1) hts inX4 (hts (.instantiable RX4 1) (wsL_law_in _ (mem_law (List.mem_of_getElem? (i := 17) (by decide +kernel)))))
  obtain ⟨c5, i5, k5⟩ := u_known (C := RX5) (T := TX5) (N := 8) (n := 8) hts inX5 (hts (.instantiable RX5 8) (wsL_law_in _ (mem_law (List.mem_of_getElem? (i := 25) (by decide +kernel)))))
  obtain ⟨c6, i6, k6⟩ := u_known (C := RX6) (T := TX6) (N := 6) (n := 6) hts inX6 (hts (.instantiable RX6 6) (wsL_law_in _ (mem_law (List.mem_of_getElem? (i := 1) (by decide +kernel)))))
  obtain ⟨c7, i7, k7⟩ := u_known (C := RX7) (T := TX7) (N := 14) (n := 14) hts inX7 (hts (.instantiable RX7 14) (wsL_law_in _ (mem_law (List.mem_of_getElem? (i := 4) (by decide +kernel)))))
  obtain ⟨D, hKc⟩ : ∃ D : va_G, ∀ (k : Nat) (q : vw_C), vwCl[k]? = some q → u_Kn s q.1 q.2.1 q.2.2 (D.1 k) (D.2 k) := by
    refine ⟨(fun k => match k with | 0 => c0 | 1 => c1 | 2 => c2 | 3 => c3 | 4 => c4 | 5 => c5 | 6 => c6 | _ => c7, fun k => match k with | 0 => i0 | 1 => i1 | 2 => i2 | 3 => i3 | 4 => i4 | 5 => i5 | 6 => i6 | _ => i7), ?_⟩
    intro k q hq
    match k, hq with
    | 0, hq => cases hq; exact k0
    | 1, hq => cases hq; exact k1
    | 2, hq => cases hq; exact k2
    | 3, hq => cases hq; exact k3
    | 4, hq => cases hq; exact k4
    | 5, hq => cases hq; exact k5
    | 6, hq => cases hq; exact k6
    | 7, hq => cases hq; exact k7
    | k + 8, hq => simp [vwCl] at hq
  obtain ⟨cI, aI, nI_⟩ := ac_of (hts (.arrayClass .int) (wsL_law_in _ (mem_law (List.mem_of_getElem? (i := 40) (by decide +kernel)))))
  obtain ⟨cJ, aJ, nJ⟩ := ac_of (hts (.arrayClass .long) (wsL_law_in _ (mem_law (List.mem_of_getElem? (i := 77) (by decide +kernel)))))
  obtain ⟨cZ, aZ, nZ⟩ := ac_of (hts (.arrayClass .boolean) (wsL_law_in _ (mem_law (List.mem_of_getElem? (i := 43) (by decide +kernel)))))
  have hK : va_K D vwCl (tyT cI cJ cZ) s := ⟨hKc, fun k q hq => by
    match k, hq with
    | 0, hq => cases hq; exact ⟨aI, nI_⟩
    | 1, hq => cases hq; exact ⟨aJ, nJ⟩
    | 2, hq => cases hq; exact ⟨aZ, nZ⟩
    | k + 3, hq => simp at hq⟩
  obtain ⟨rT, eT, hqT⟩ := tq_of (args := #[Value.ref b]) (s := s) (A := fun q : Nat => s.heap.size ≤ q) (f := tr0) (N := 5) (tm := (.static "CoastPull$Train" "AT_FIRST" "[I")) (by have h := nI_; rw [show ("[" ++ FieldType.int.toString : String) = "[I" from by decide +kernel] at h; exact h) (by decide) (hs _ (by decide +kernel)) (hs _ (by decide +kernel)) (va_eqt (z := 5) (hs (.eq (.length (.static "CoastPull$Train" "AT_FIRST" "[I")) (.int 5)) (by decide +kernel))) (fun j hj => by
      rcases (show j = 0 ∨ j = 1 ∨ j = 2 ∨ j = 3 ∨ j = 4 by omega) with rfl | rfl | rfl | rfl | rfl
      · exact va_eqt (z := 1) (hs (.eq (.elem (.static "CoastPull$Train" "AT_FIRST" "[I") (.int 0)) (.int 1)) (by decide +kernel))
      · exact va_eqt (z := 1) (hs (.eq (.elem (.static "CoastPull$Train" "AT_FIRST" "[I") (.int 1)) (.int 1)) (by decide +kernel))
      · exact va_eqt (z := 100) (hs (.eq (.elem (.static "CoastPull$Train" "AT_FIRST" "[I") (.int 2)) (.int 100)) (by decide +kernel))
      · exact va_eqt (z := 100) (hs (.eq (.elem (.static "CoastPull$Train" "AT_FIRST" "[I") (.int 3)) (.int 100)) (by decide +kernel))
      · exact va_eqt (z := 0) (hs (.eq (.elem (.static "CoastPull$Train" "AT_FIRST" "[I") (.int 4)) (.int 0)) (by decide +kernel))) hA0
  obtain ⟨rL, eL, hqL⟩ := va_Tof (args := #[Value.ref b]) (s := s) (A := fun q : Nat => s.heap.size ≤ q) (ty := .int) (f := fun j => .int (nI (trLo j))) (N := 5) (tm := (.static "CoastPull$Train" "LEAST" "[I")) (by decide) (hs _ (by decide +kernel)) (va_eqt (z := 5) (hs (.eq (.length (.static "CoastPull$Train" "LEAST" "[I")) (.int 5)) (by decide +kernel))) (fun j hj => by
      rcases (show j = 0 ∨ j = 1 ∨ j = 2 ∨ j = 3 ∨ j = 4 by omega) with rfl | rfl | rfl | rfl | rfl
      · exact va_eqt (z := 1) (hs (.eq (.elem (.static "CoastPull$Train" "LEAST" "[I") (.int 0)) (.int 1)) (by decide +kernel))
      · exact va_eqt (z := 0) (hs (.eq (.elem (.static "CoastPull$Train" "LEAST" "[I") (.int 1)) (.int 0)) (by decide +kernel))
      · exact va_eqt (z := 1) (hs (.eq (.elem (.static "CoastPull$Train" "LEAST" "[I") (.int 2)) (.int 1)) (by decide +kernel))
      · exact va_eqt (z := 1) (hs (.eq (.elem (.static "CoastPull$Train" "LEAST" "[I") (.int 3)) (.int 1)) (by decide +kernel))
      · exact va_eqt (z := 0) (hs (.eq (.elem (.static "CoastPull$Train" "LEAST" "[I") (.int 4)) (.int 0)) (by decide +kernel))) hA0
  obtain ⟨rM, eM, hqM⟩ := va_Tof (args := #[Value.ref b]) (s := s) (A := fun q : Nat => s.heap.size ≤ q) (ty := .int) (f := fun j => .int (nI (trHi j))) (N := 5) (tm := (.static "CoastPull$Train" "MOST" "[I")) (by decide) (hs _ (by decide +kernel)) (va_eqt (z := 5) (hs (.eq (.length (.static "CoastPull$Train" "MOST" "[I")) (.int 5)) (by decide +kernel))) (fun j hj => by
      rcases (show j = 0 ∨ j = 1 ∨ j = 2 ∨ j = 3 ∨ j = 4 by omega) with rfl | rfl | rfl | rfl | rfl
      · exact va_eqt (z := 20) (hs (.eq (.elem (.static "CoastPull$Train" "MOST" "[I") (.int 0)) (.int 20)) (by decide +kernel))
      · exact va_eqt (z := 20) (hs (.eq (.elem (.static "CoastPull$Train" "MOST" "[I") (.int 1)) (.int 20)) (by decide +kernel))
      · exact va_eqt (z := 400) (hs (.eq (.elem (.static "CoastPull$Train" "MOST" "[I") (.int 2)) (.int 400)) (by decide +kernel))
      · exact va_eqt (z := 400) (hs (.eq (.elem (.static "CoastPull$Train" "MOST" "[I") (.int 3)) (.int 400)) (by decide +kernel))
      · exact va_eqt (z := 10) (hs (.eq (.elem (.static "CoastPull$Train" "MOST" "[I") (.int 4)) (.int 10)) (by decide +kernel))) hA0
  have zz : ∀ (n : String) (r : Nat), Cond.laysStatic "CoastPull$Train" n "[I" ∈ lw_tbl → (Term.static "CoastPull$Train" n "[I").eval #[Value.ref b] s none [] s = some (.ref r) → va_Z "CoastPull$Train" n "[I" (.ref r) (fun q : Nat => s.heap.size ≤ q) s s.heap := fun n r h1 h2 => va_Zof (hts _ h1) (hts (.initialized RX4) (wsL_law_in _ (mem_law (List.mem_of_getElem? (i := 18) (by decide +kernel))))) h2 hA0
  have hF : FLw cI rT rL rM b L xs (fun q : Nat => s.heap.size ≤ q) s := ⟨⟨fun _ h => h, zz _ _ (by decide +kernel) eT, hqT, va_Nw.of rfl (hts (.castable "[I" "java/lang/Cloneable") (by decide +kernel)), va_Nw.of rfl (hts (.methodLinkNest RX6 18 yX4_init "CoastPull") (by decide +kernel))⟩, ⟨zz _ _ (by decide +kernel) eL, zz _ _ (by decide +kernel) eM, hqL, hqM⟩, hX, hbl, hA0 b hbl⟩
  have hl := lv_entry ([.ref b]) (n := 4) (Nat.le_of_ble_eq_true rfl)
  rw [lg_entry_eq]
  generalize (lg_sl ([.ref b]) ++ List.replicate (4 - (lg_sl ([.ref b])).length) Slot.unset).toArray = ls at hl ⊢
  have hl : lv_has ls 4 [(0, .ref b)] := hl
  have key := L_start (l := l) (D := D) (cI := cI) (cJ := cJ) (cZ := cZ) (A := fun q : Nat => s.heap.size ≤ q) (rT := rT) (rL := rL) (rM := rM) (scr := b) (Ls := L) (xs := xs) ⟨p, e, s, m, #[Value.ref b], below, meth, c, lw_Z below #[Value.ref b] s, rfl, hx, hb, hml, hown, fun w h => hts w (wsL_law_in w h), hK, hF, fun h => by cases h⟩ (fun w L2 H locs ls hI hl => by
    refine va_forget (fun q hq => hI.2.2.1.2.2 q hq) ?_
    refine W.widen (k := 600000) (n := 7302249) (Nat.le_of_ble_eq_true rfl) (Nat.le_of_ble_eq_true rfl) ?_
    exact lw_ret hx hb hr hlocks dL_law_914) hL
  exact key s.heap [] ls ⟨fun k q h => by simp at h, ⟨fun i j p q h => by simp at h, fun k q h => by simp at h⟩, va_S.rf, fun h => by cases h⟩ hl
set_option maxHeartbeats 4000000 in
theorem lw_walk (l : Launch) (hflags : l.flags = flags0) (b : Addr) (xs : List Int32) : MetFree l x (headSpec (Jvm.Cond.code x code maxLocals ret :: tables_1) room_1) (lw_P b xs) (fun _ _ _ _ _ => True) lw_Q := by
  refine MetFree.of_bodyS (code := code) (maxLocals := maxLocals) (ret := ret) (by decide) ?_ ?_
  · intro args s m h hn
    obtain ⟨meth, c, h1, h2, h3, h4, h5, h6, -, -⟩ := Cond.code_spec hn (atoms_spec (ws := Jvm.Cond.code x code maxLocals ret :: tables_1) h _ List.mem_cons_self)
    exact ⟨meth, c, h1, h2, h3, h4, h5, h6⟩
  · intro p e s m args below meth c s₁ B hml0 hP _
    obtain ⟨rfl, hx, hbd, hgv⟩ := hP
    obtain ⟨scr, harrAt, hlist, hof, hsmall⟩ := hx
    obtain ⟨hcb, hkn, -, -⟩ := State.arrayAt?_spec harrAt
    have hown : s.vm.findClass R_law = some m.cls := findClass_of_methodNamed B.named
    have hts0 : ∀ c ∈ (Jvm.Cond.code x code maxLocals ret :: tables_1), c.before #[Value.ref b] s = true := atoms_spec (ws := Jvm.Cond.code x code maxLocals ret :: tables_1) B.pre
    have hts : ∀ w ∈ lw_tbl, w.before #[Value.ref b] s = true := k2_hts_sels lw_privs (fun w hw => hts0 w (List.mem_cons_of_mem _ hw)) lw_privs_ok
    have hml : c.maxLocals = 4 := B.maxLocals_eq (hts0 _ List.mem_cons_self)
    have X₀ : Stand p l e room_1 s m #[Value.ref b] below meth c s₁ [] 0 0 := Stand.of_body B
    have hh0 : s₁.heap = s.heap := by rw [B.state]; rfl
    have hsz : scr.slots.size = xs.length := by rw [← Array.length_toList, hlist, List.length_map]
    have hval : ∀ j : Nat, j < xs.length → scr.slots[j]? = some (.int (xs.getD j 0)) := fun j hj => by
      rw [← Array.getElem?_toList, hlist]
      simp [hj]
    have hbl : b < s.heap.size := (Array.getElem?_eq_some_iff.mp hcb).1
    have hX : va_X b xs.length (fun j => xs.getD j 0) s s.heap := ⟨scr, hcb, hof, hkn, hsz, hval⟩
    have K : W p l e room_1 s m #[Value.ref b] below meth c s₁.heap [] 0 0 (lw_Z below #[Value.ref b] s) (entryFrame m ([Value.ref b] : List Value).toArray 4) := by
      rw [hh0]
      exact whole_start l hflags hbd ⟨B.exec, B.bytes, B.returns, hml, hown, hts, hX, hbl, B.notSynchronized, hgv⟩
    obtain ⟨t, a1, o, b1, b2, b3⟩ := K s₁ rfl X₀
    exact ⟨t, o, a1, b1, b2, b3⟩
theorem lw_pre_spec {args : Array Value} {s : State} (h : (Jvm.Cond.and given_1 narrow_1).before args s = true) (hr : rest_1_c.before args s = true) : ∃ (b : Addr) (xs : List Int32), lw_P b xs args s := by
  have hs := flat_of_before _ h
  have hq := flat_of_before _ hr
  have hc : (Cond.count 1).before args s = true := hs _ (by decide +kernel)
  have harr : (Cond.arrayOf (.arg 0) .int).before args s = true := hs _ (by decide +kernel)
  have hle : (Cond.le (.length (.arg 0)) (.int 2048)).before args s = true := hs _ (by decide +kernel)
  have hlen : (Cond.isInt (.length (.arg 0))).before args s = true := hq _ (by decide +kernel)
  have hall : (Cond.all (.arg 0) (.isInt (.elem (.arg 0) (.index 0)))).before args s = true := hq _ (by decide +kernel)
  obtain ⟨b, xs, hb, hx⟩ := State.ints_of_pre rfl harr hlen hall
  have hsm : xs.length < 2 ^ 31 := hx.choose_spec.2.2.2
  have hev : (Term.length (.arg 0)).eval args s none [] s = some (.int xs.length.toInt32) := hx.length_eval hb
  have hv := Cond.le_ints hev (show (Term.int 2048).eval args s none [] s = some (.int 2048) from rfl)
  have hd : xs.length.toInt32 ≤ 2048 := by
    simpa [Cond.before, Cond.holds, hv] using hle
  have hN : xs.length ≤ 2048 := (Int32.ofNat_le_ofNat hsm (by decide)).mp (show Int32.ofNat xs.length ≤ Int32.ofNat 2048 from hd)
  exact ⟨b, xs, Cond.one_arg hc (show args[0]? = some (.ref b) from hb), hx, hN, h⟩
theorem lw_comes (l : Launch) (hflags : l.flags = flags0) : Comes l x (Jvm.Cond.code x code maxLocals ret :: tables_1) room_1 (fun tb e args s => Calls_1 tb e args s ∧ rest_1 tb e args s ∧ Pre_1 tb e args s)
    (fun _ _ args s o t => lw_Q args s o t) := by
  intro p e ha hc hk s m args below hf hfit hheap happ hpre
  obtain ⟨b, xs, hP⟩ := lw_pre_spec hpre.2.2 hpre.2.1
  obtain ⟨k, o, h1, h2, h3, hQ⟩ := lw_walk l hflags b xs p e ha hc hk s m args below hf ((Spec.applies_iff_loose hf).mp happ).1 hP trivial
  exact ⟨k, o, h1, h2, h3, hQ⟩
theorem lw_frame {s t : State} {o : Outcome} {args : Array Value} (h : Framed s o t [] 600000 7302249) :
    Framed s o t (fieldLocs frame_1_writes args s ++ arrayLocs frame_1_arrays args s ++ staticLocs frame_1_statics s) 600000 7302249 := h
theorem lw_limb (L : Cond) (hL : ∀ (args : Array Value) (s t : State), L.after args s (.returned (some (.int 1))) t = true) :
    ArmFor flags0 classFile x code maxLocals ret World_1 tables_1 room_1 Calls_1 rest_1 Pre_1
      (fun tb e a s o t => postC L tb e a s o t ∧ Framed s o t (fieldLocs frame_1_writes a s ++ arrayLocs frame_1_arrays a s ++ staticLocs frame_1_statics s) 600000 7302249) := by
  intro l hflags _ _ p e ha hc hk s m args below hf hfit hheap happ hpre
  obtain ⟨k, o, h1, h2, h3, rfl, hF⟩ := lw_comes l hflags p e ha hc hk s m args below hf hfit hheap happ hpre
  exact ⟨k, _, h1, h2, h3, hL args s _, lw_frame hF⟩
theorem i_vc : Claimed_1_1 ∧ Claimed_1_2 := ⟨lw_limb limb_1_1 (fun args s t => by simp [limb_1_1, Cond.after, Cond.holds, Cond.value]), lw_limb limb_1_2 (fun args s t => Cond.after_iff.mpr (by
  first | (rw [show limb_1_2 = Cond.eq .result (.int 1) from rfl, Cond.eq_ints (x := 1) (y := 1) rfl rfl]; simp; done) | (simp [limb_1_2, Cond.value, Term.eval]; done)))⟩
