/-! rows for making: new, newarray, Object.<init>, a clone of a static table, constructors, calls of one half of a world -/
theorem va_split {D : va_G} {cl : List vw_C} {w1 w2 : va_W} {H : Heap} (h : va_P D cl (w1 ++ w2) H) : va_P D cl w1 H ∧ va_P D cl w2 H := by
  refine ⟨fun k q hk => h k q ?_, fun k q hk => h (w1.length + k) q ?_⟩
  · rw [List.getElem?_append_left (List.getElem?_eq_some_iff.mp hk).1]; exact hk
  · rw [List.getElem?_append_right (Nat.le_add_right _ _), Nat.add_sub_cancel_left]; exact hk
theorem va_dsplit {A : Nat → Prop} {w1 w2 : va_W} (h : va_D A (w1 ++ w2)) : va_D A w1 ∧ va_D A w2 ∧ ∀ (i j : Nat) (p q : Nat × va_E), w1[i]? = some p → w2[j]? = some q → p.1 ≠ q.1 := by
  have h1 : ∀ (k : Nat) (q : Nat × va_E), w1[k]? = some q → (w1 ++ w2)[k]? = some q := fun k q hk => by
    rw [List.getElem?_append_left (List.getElem?_eq_some_iff.mp hk).1]; exact hk
  have h2 : ∀ (k : Nat) (q : Nat × va_E), w2[k]? = some q → (w1 ++ w2)[w1.length + k]? = some q := fun k q hk => by
    rw [List.getElem?_append_right (Nat.le_add_right _ _), Nat.add_sub_cancel_left]; exact hk
  refine ⟨⟨fun i j p q hi hj e => h.1 i j p q (h1 i p hi) (h1 j q hj) e, fun k q hk => h.2 k q (h1 k q hk)⟩, ⟨fun i j p q hi hj e => ?_, fun k q hk => h.2 _ q (h2 k q hk)⟩, fun i j p q hi hj e => ?_⟩
  · have := h.1 _ _ p q (h2 i p hi) (h2 j q hj) e
    omega
  · have a := h.1 _ _ p q (h1 i p hi) (h2 j q hj) e
    have b := (List.getElem?_eq_some_iff.mp hi).1
    omega
theorem va_sfx {A0 A1 : Nat → Prop} {D : va_G} {cl : List vw_C} {wr wc w1 : va_W} {H H1 : Heap} (hP : va_P D cl (wr ++ wc) H) (hD : va_D A0 (wr ++ wc)) (hAA : ∀ x, A1 x → va_A wc H.size x) (hk : ∀ q : Nat, q < H.size → ¬ A1 q → H1[q]? = H[q]?) (hF : ∀ q, A1 q → A0 q) (hP1 : va_P D cl w1 H1) (hD1 : va_D A1 w1) : va_P D cl (wr ++ w1) H1 ∧ va_D A0 (wr ++ w1) := by
  obtain ⟨hPr, hPc⟩ := va_split hP
  obtain ⟨hDr, hDc, hx⟩ := va_dsplit hD
  have apart : ∀ (k : Nat) (q : Nat × va_E), wr[k]? = some q → q.1 < H.size ∧ ¬ A1 q.1 := by
    intro k q hq
    have hl := (hPr k q hq).lt
    refine ⟨hl, fun h => ?_⟩
    rcases hAA _ h with ⟨k2, e, h⟩ | h
    · exact hx k k2 q (q.1, e) hq h rfl
    · omega
  refine ⟨va_P.app (fun k q hq => (hPr k q hq).kept (hk q.1 (apart k q hq).1 (apart k q hq).2)) hP1, va_D.app hDr (hD1.weaken (fun k q _ h => hF q.1 h)) (fun i j x y hx1 hy hxy => ?_)⟩
  exact (apart i x hx1).2 (by rw [hxy]; exact hD1.2 j y hy)
theorem va_pfx {A0 A1 : Nat → Prop} {D : va_G} {cl : List vw_C} {wr wc w1 : va_W} {H H1 : Heap} (hP : va_P D cl (wc ++ wr) H) (hD : va_D A0 (wc ++ wr)) (hAA : ∀ x, A1 x → va_A wc H.size x) (hk : ∀ q : Nat, q < H.size → ¬ A1 q → H1[q]? = H[q]?) (hF : ∀ q, A1 q → A0 q) (hP1 : va_P D cl w1 H1) (hD1 : va_D A1 w1) : va_P D cl (w1 ++ wr) H1 ∧ va_D A0 (w1 ++ wr) := by
  obtain ⟨hPc, hPr⟩ := va_split hP
  obtain ⟨hDc, hDr, hx⟩ := va_dsplit hD
  have apart : ∀ (k : Nat) (q : Nat × va_E), wr[k]? = some q → q.1 < H.size ∧ ¬ A1 q.1 := by
    intro k q hq
    have hl := (hPr k q hq).lt
    refine ⟨hl, fun h => ?_⟩
    rcases hAA _ h with ⟨k2, e, h⟩ | h
    · exact hx k2 k (q.1, e) q h hq rfl
    · omega
  refine ⟨va_P.app hP1 (fun k q hq => (hPr k q hq).kept (hk q.1 (apart k q hq).1 (apart k q hq).2)), va_D.app (hD1.weaken (fun k q _ h => hF q.1 h)) hDr (fun i j x y hx1 hy hxy => ?_)⟩
  exact (apart j y hy).2 (by rw [← hxy]; exact hD1.2 i x hx1)
/-- a static table that is cloned: the cell is just so -/
def tqT (cI : ClassId) (t N : Nat) (f : Nat → Int32) (A : Nat → Prop) (H : Heap) : Prop := ∃ cell : Cell, H[t]? = some cell ∧ (∀ k, cell.vm ≠ .statics k) ∧ cell.vm ≠ .unknown ∧ cell.cls = cI ∧ cell.slots = (vp_cell cI (N, .inl f)).slots ∧ ¬ A t
theorem nw_alike {C T : String} {s U : State} (hW : s.vm.Alike U.vm) (hZ : va_Nw (.castable C T) s) : va_Nw (.castable C T) U := va_tabs rfl (rfl : (s.setVm U.vm).vm = U.vm) (by rw [Cond.castable_setVm hW]; exact hZ)
def tr0 : Nat → Int32 := upd (upd (upd (upd (fun _ => nI 0) 0 (nI 1)) 1 (nI 1)) 2 (nI 100)) 3 (nI 100)
/-- what a constructor needs: what is new is its own; the table of the train -/
def FK (cI : ClassId) (rT : Nat) (A : Nat → Prop) (s : State) : Prop := (∀ q, s.heap.size ≤ q → A q) ∧ va_Z "CoastPull$Train" "AT_FIRST" "[I" (.ref rT) A s s.heap ∧ tqT cI rT 5 tr0 A s.heap ∧ va_Nw (.castable "[I" "java/lang/Cloneable") s ∧ va_Nw (.methodLinkNest RX6 18 yX4_init "CoastPull") s
theorem FK_b {cI : ClassId} {rT : Nat} {A : Nat → Prop} : ∀ (U : State) (g : JFrame) (mk : MethodId) (a : Array Value), FK cI rT A U → FK cI rT A (U.calling g mk a) := fun U g mk a h => ⟨h.1, h.2.1, h.2.2.1, va_Nw.same rfl rfl h.2.2.2.1, va_Nw.same rfl rfl h.2.2.2.2⟩
theorem FK_h {ro : Bool} {D : va_G} {cI : ClassId} {rT : Nat} {A A1 : Nat → Prop} {w : va_W} {s : State} {H : Heap} {locs : List Loc} {U : State} (h : FK cI rT A s) (hI : gI ro D A s w H locs) (hH : U.heap = H) (hW : s.WarmedH U.vm) (h1 : ∀ x, A1 x → A x) (h2 : ∀ x : Nat, H.size ≤ x → A1 x) : FK cI rT A1 U := by
  obtain ⟨a1, a2, ⟨cell, b1, b2, b3, b4, b5, b6⟩, a4, a5⟩ := h
  have hv := hW.alike
  have hk := hI.2.2.1.2.1
  subst hH
  exact ⟨h2, ((a2.kept hk).moved hv).narrow h1, ⟨cell, by rw [hk rT (Array.getElem?_eq_some_iff.mp b1).1 b6]; exact b1, b2, b3, b4, b5, fun q => b6 (h1 _ q)⟩, nw_alike hv a4, va_Nw.warmM hW a5⟩
theorem ra_int (s : State) (c1 c2 : ClassId) (h1 : va_RA s c1 .int) (h2 : va_RA s c2 .int) : c1 = c2 := Option.some.inj ((va_nm_int h1).symm.trans (va_nm_int h2))
theorem ra_long (s : State) (c1 c2 : ClassId) (h1 : va_RA s c1 .long) (h2 : va_RA s c2 .long) : c1 = c2 := Option.some.inj ((va_nm_long h1).symm.trans (va_nm_long h2))
theorem ra_bool (s : State) (c1 c2 : ClassId) (h1 : va_RA s c1 .boolean) (h2 : va_RA s c2 .boolean) : c1 = c2 := Option.some.inj ((va_nm_boolean h1).symm.trans (va_nm_boolean h2))
section GMK
variable {l : Launch} {D : va_G} {tys : TT} {A A1 : Nat → Prop} {F F1 : State → Prop} {R : Room} {cc : ByteArray} {nL : Nat} {own : String} {Ts : List Cond} {ro ini : Bool} {G : Nat → Nat → va_W → LL → Nat → List Value → Prop}
variable {kc ks pc q : Nat} {w : va_W} {L : LL} {st : List Value}
theorem g_objInit (C : GB l D tys A F R cc nL own Ts ro ini G) {a i : Nat} (d : decode cc pc = .ok (.invokespecial i, 3)) (h1 : Cond.methodLink own i objectInit ∈ Ts) (h2 : Cond.instanceMethod objectInit ∈ Ts) (h3 : Cond.code objectInit ⟨#[0xb1]⟩ 1 none ∈ Ts) (hfr : 1 ≤ R.frames) (hlo : (st.map fun v => v.category).sum + 12 ≤ R.locals) (hn : pc + 3 = q) (k : G kc ks w L q st) : G kc ks w L pc (.ref a :: st) := by
  obtain ⟨p, e, s, m, args, below, meth, c, Q, rfl, hx, hb, hml, hown, hts, hK, hF, hi⟩ := C
  subst hn
  intro H locs ls hI hl
  refine W.objInit hx hb hown (hts _ h1) (hts _ h2) (hts _ h3) rfl (hl.1.trans hml.symm) rfl d hfr (by show 2 * 0 + _ + 12 ≤ _; omega) ?_
  exact W.eq (g2 := F0 m (pc + 3) ls st) rfl (k H locs ls hI hl)
theorem g_new (C : GB l D tys A F R cc nL own Ts false ini G) (hA : ∀ s, F s → ∀ q : Nat, s.heap.size ≤ q → A q) {Cn : String} {T : u_T} {N ci i : Nat} {ty0 : Nat → FieldType} (fs : List Value) (d : decode cc pc = .ok (.new i, 3)) (hin : ∀ x ∈ u_ws Cn T N, x ∈ Ts) (hty : ∀ k, k < N → parseFieldDescriptor (T k).2.2.1 = some (ty0 k)) (hcl : Cond.classLink own i Cn ∈ Ts) (hinst : Cond.instantiable Cn N ∈ Ts) (hini : Cond.initialized Cn ∈ Ts) (hc : vwCl[ci]? = some (Cn, T, N)) (hfs : ∀ j, j < N → defaultValue (ty0 j) = vp_V fs j) (hcells : kc + 1 ≤ R.cells) (hslots : ks + N ≤ R.slots) (hn : pc + 3 = q) (k : ∀ x : Nat, G (kc + 1) (ks + N) (w ++ [(x, .inr (ci, fs))]) L q (.ref x :: st)) : G kc ks w L pc st := by
  obtain ⟨p, e, s, m, args, below, meth, c, Q, rfl, hx, hb, hml, hown, hts, hK, hF, hi⟩ := C
  subst hn
  intro H locs ls hI hl
  exact va_new hx hb hts hin ty0 hty hown (hts _ hcl) (hts _ hinst) (hts _ hini) hK hI.1 hI.2.1 hI.2.2.1 (hA s hF) hc hfs hcells hslots d (fun x H1 hP hD hS => k x H1 locs ls ⟨hP, hD, hS, fun h => by cases h⟩ hl)
theorem g_newarr (C : GB l D tys A F R cc nL own Ts false ini G) (hA : ∀ s, F s → ∀ q : Nat, s.heap.size ≤ q → A q) {atype : ArrayType} {ty : FieldType} {cA : ClassId} {n : Int32} {N' : Nat} (x0 : vp_A) (t : Nat) (d : decode cc pc = .ok (.newarray atype, 2)) (harr : Cond.arrayClass (newarray.typeOf atype) ∈ Ts) (hty : newarray.typeOf atype = ty) (ht : tys[t]? = some (cA, ty)) (hra : ∀ (s : State) (c1 c2 : ClassId), va_RA s c1 ty → va_RA s c2 ty → c1 = c2) (ha : ∀ c : ClassId, vp_cell c x0 = arrV c N' (fun _ => defaultValue ty)) (hn0 : ¬ n < 0) (hN : n.toNatClampNeg = N') (hbytes : N' * componentBytes ty ≤ 536870912) (hcells : kc + 1 ≤ R.cells) (hslots : ks + N' ≤ R.slots) (hn : pc + 2 = q) (k : ∀ x : Nat, G (kc + 1) (ks + N') (w ++ [(x, .inl (cA, x0))]) L q (.ref x :: st)) : G kc ks w L pc (.int n :: st) := by
  obtain ⟨p, e, s, m, args, below, meth, c, Q, rfl, hx, hb, hml, hown, hts, hK, hF, hi⟩ := C
  subst hn
  intro H locs ls hI hl
  refine va_newa (a0 := x0) hx hb (hts _ harr) hty hK hI.1 hI.2.1 hI.2.2.1 (hA s hF) ha hn0 hN hbytes hcells hslots d (fun x cB H1 hK1 hP hD hS => ?_)
  have e1 : cB = cA := hra s cB cA (hK1.2 tys.length (cB, ty) (by rw [List.getElem?_append_right (Nat.le_refl _), Nat.sub_self]; rfl)).2 (hK.2 t (cA, ty) ht).2
  subst e1
  exact k x H1 locs ls ⟨hP, hD, hS, fun h => by cases h⟩ hl
theorem g_castA (C : GB l D tys A F R cc nL own Ts ro ini G) {i a : Nat} {cA : ClassId} {x : vp_A} {nm : String} (z : Nat) (he : w[z]? = some (a, .inl (cA, x))) (hnm : ∀ s, va_K D vwCl tys s → s.vm.findClass nm = some cA) (d : decode cc pc = .ok (.checkcast i, 3)) (hw : Cond.classLink own i nm ∈ Ts) (hn : pc + 3 = q) (k : G kc ks w L q (.ref a :: st)) : G kc ks w L pc (.ref a :: st) := by
  obtain ⟨p, e, s, m, args, below, meth, c, Q, rfl, hx, hb, hml, hown, hts, hK, hF, hi⟩ := C
  subst hn
  intro H locs ls hI hl
  exact va_castA hx hb hown (hts _ hw) hI.1 z he (hnm s hK) d (k H locs ls hI hl)
theorem g_cloneT (C : GB l D tys A F R cc nL own Ts false ini G) (hA : ∀ s, F s → ∀ q : Nat, s.heap.size ≤ q → A q) {cI : ClassId} {r N i : Nat} {f : Nat → Int32} (t0 : Nat) (hT : ∀ s, F s → tqT cI r N f A s.heap) (hc : ∀ s, F s → va_Nw (.castable "[I" "java/lang/Cloneable") s) (d : decode cc pc = .ok (.invokevirtual i, 3)) (h1 : Cond.methodLink own i ⟨"[I", "clone", "()Ljava/lang/Object;"⟩ ∈ Ts) (h2 : Cond.sameMethod "[I" "java/lang/Object" "clone" "()Ljava/lang/Object;" ∈ Ts) (h3 : Cond.native ⟨"java/lang/Object", "clone", "()Ljava/lang/Object;"⟩ ∈ Ts) (h4 : Cond.instanceMethod ⟨"java/lang/Object", "clone", "()Ljava/lang/Object;"⟩ ∈ Ts) (h5 : Cond.selects "[I" ⟨"[I", "clone", "()Ljava/lang/Object;"⟩ ⟨"java/lang/Object", "clone", "()Ljava/lang/Object;"⟩ ∈ Ts) (ht : tys[t0]? = some (cI, .int)) (hfr : 1 ≤ R.frames) (hlo : (st.map fun v => v.category).sum + 14 ≤ R.locals) (hcells : kc + 1 ≤ R.cells) (hslots : ks + N ≤ R.slots) (hn : pc + 3 = q) (k : ∀ x : Nat, G (kc + 1) (ks + N) (w ++ [(x, .inl (cI, N, .inl f))]) L q (.ref x :: st)) : G kc ks w L pc (.ref r :: st) := by
  obtain ⟨p, e, s, m, args, below, meth, c, Q, rfl, hx, hb, hml, hown, hts, hK, hF, hi⟩ := C
  subst hn
  intro H locs ls hI hl
  obtain ⟨cell, e1, e2, e3, e4, e5, e6⟩ := hT s hF
  obtain ⟨c0, t0', f1, f2, f3⟩ := Cond.castable_spec (va_Nw.use (A := args) rfl (hc s hF))
  have hnm : s.vm.findClass "[I" = some cI := va_nm_int (hK.2 t0 _ ht).2
  cases hnm.symm.trans f1
  intro T hT0 X
  have hsz : cell.slots.size = N := by rw [e5]; exact arrV_size _ _ _
  have hcellT : T.heap[r]? = some cell := by rw [hT0, hI.2.2.1.2.1 r (Array.getElem?_eq_some_iff.mp e1).1 e6]; exact e1
  obtain ⟨-, kA, hkA, comp, hkind⟩ := State.isArrayOf_alike X.warmed.alike ((hK.2 t0 _ ht).1 0 (fun _ => .null))
  obtain ⟨-, kS, hkS, compS, hkindS⟩ := (hK.2 t0 _ ht).1 0 (fun _ => .null)
  obtain ⟨vm', X', st'⟩ := X.cloneArray hx hown (hts _ h1) (hts _ h2) (hts _ h3) (hts _ h4) (hts _ h5) (a := r) (cell := cell) hcellT e2 e3 (by rw [e4]; exact hnm) f2 (by rw [e4]; exact f3)
    (fun i v hv => by
      rw [e4]
      have hk' : T.vm.classes[cI]? = some kA := hkA
      rw [e5] at hv
      simpa [State.fitsSlot, State.slotType?, hk', hkind] using (va_fit (cA := cI) (n := N) (F := fun j => .int (f j)) (ty := .int) (fun _ _ => rfl) i v hv))
    (g := F0 m pc ls (.ref r :: st)) rfl (hl.1.trans hml.symm) rfl (by rw [hb]; exact d) hfr (by show 2 * 0 + _ + 14 ≤ _; omega) hcells (by rw [hsz]; exact hslots) (hloader := by rw [e4]; exact Vm.clonesLoader_of_array hkS hkindS)
  have hcellE : ({ cls := cell.cls, slots := cell.slots } : Cell) = vp_cell cI (N, .inl f) := by rw [e4, e5]; rfl
  rw [hcellE, hsz] at X'
  generalize hH1 : H.push (vp_cell cI (N, .inl f)) = H1
  have z1 : H1.size = H.size + 1 := by rw [← hH1, Array.size_push]
  have k1 : H1[H.size]? = some (vp_cell cI (N, .inl f)) := by rw [← hH1, Array.getElem?_push_size]
  have o1 : ∀ q : Nat, q < H.size → H1[q]? = H[q]? := fun q hq => by rw [← hH1, Array.getElem?_push, if_neg (Nat.ne_of_lt hq)]
  have hk : ∀ (k : Nat) (y : Nat × va_E), w[k]? = some y → H1[y.1]? = H[y.1]? := fun k y hy => o1 y.1 ((hI.1 k y hy).lt)
  obtain ⟨t, b1, b2⟩ := k H.size H1 locs ls ⟨(hI.1.kept hk).app (fun k y hy => by
      have hz : k < 1 := (List.getElem?_eq_some_iff.mp hy).1
      rw [show k = 0 by omega] at hy
      cases hy
      exact k1), hI.2.1.push hI.1 rfl (hA s hF _ hI.2.2.1.1), ⟨Nat.le_trans hI.2.2.1.1 (by omega), fun y h1 h2 => (o1 y (Nat.lt_of_lt_of_le h1 hI.2.2.1.1)).trans (hI.2.2.1.2.1 y h1 h2), hI.2.2.1.2.2⟩, fun h => by cases h⟩ hl
    ((T.setVm vm').pushCell (vp_cell cI (N, .inl f))) (by rw [← hH1, ← hT0]; rfl) X'
  refine ⟨t, st' t ?_, b2⟩
  rw [hcellE, hT0]
  exact b1
end GMK
section GMC
variable {l : Launch} {D : va_G} {tys : TT} {A A1 : Nat → Prop} {F F1 : State → Prop} {R : Room} {cc : ByteArray} {nL : Nat} {own : String} {Ts : List Cond} {ro ini : Bool} {G : Nat → Nat → va_W → LL → Nat → List Value → Prop}
variable {kc ks pc q i n maxL : Nat} {w : va_W} {L : LL} {st st0 As : List Value} {y : MethodName} {ws ws' : List Cond} {rm : Room} {bytes : ByteArray} {ret : Option FieldType}
theorem gcI_sfx (C : GB l D tys A F R cc nL own Ts false ini G) (hA : ∀ s, F s → ∀ q : Nat, s.heap.size ≤ q → A q) {b : Nat} {S : Type} {post : S → Prop} {W' : S → va_W} {mc ms : Nat} {FF : (Nat → Prop) → State → Prop} (wr wc : va_W) (hw0 : w = wr ++ wc) (d : decode cc pc = .ok (.invokespecial i, 3)) (hG : GoodIn Ts ws) (hin : Cond.initialized y.cls ∈ Ts) (hli : Cond.methodLink own i y ∈ Ts) (hins : Cond.instanceMethod y ∈ Ts) (hy1 : y.name = "<init>") (hM : ∀ A1 : Nat → Prop, Met l y ws rm (gPc D tys A1 (FF A1) wc (.ref b :: As)) (va_Qv post (fun u t => va_P D vwCl (W' u) t.heap ∧ va_D A1 (W' u)) A1) mc ms A1) (hw : ws = Cond.code y bytes maxL none :: ws') (hrc : rm.cells = mc) (hrs : rm.slots = ms) (hd : y.cls ≠ "java/lang/invoke/MethodHandle" ∧ y.cls ≠ "java/lang/invoke/VarHandle" ∧ (parseMethodDescriptor y.desc).map (fun d => d.parameters.length) = some n) (hR : rm.frames + 1 ≤ R.frames ∧ 8 + (maxL + 11) + rm.locals ≤ R.locals) (hlen : As.length = n) (hst : st0 = As.reverse ++ .ref b :: st) (hcat : (st.map fun v => v.category).sum ≤ 8) (hFb : ∀ (A1 : Nat → Prop) (U : State) (g : JFrame) (mk : MethodId) (a : Array Value), FF A1 U → FF A1 (U.calling g mk a)) (hF1 : ∀ (A1 : Nat → Prop) (s : State) (H : Heap) (locs : List Loc) (U : State), F s → gI false D A s w H locs → U.heap = H → s.WarmedH U.vm → (∀ x, A1 x → A x) → (∀ x : Nat, H.size ≤ x → A1 x) → FF A1 U) (hf : kc + mc ≤ R.cells ∧ ks + ms ≤ R.slots) (hn : pc + 3 = q) (k : ∀ (u : S), post u → G (kc + mc) (ks + ms) (wr ++ W' u) L q st) : G kc ks w L pc st0 := by
  obtain ⟨p, e, s, m, args, below, meth, c, Q, rfl, hx, hb, hml, hown, hts, hK, hF, hi⟩ := C
  subst hn
  subst hst
  subst hw0
  intro H locs ls hI hl
  have hfr : ∀ x, va_A wc H.size x → A x := by
    rintro x (⟨k2, e, h⟩ | h)
    · exact (va_dsplit hI.2.1).2.1.2 k2 (x, e) h
    · exact hA s hF x (Nat.le_trans hI.2.2.1.1 h)
  refine va_callv (va_runI (As := As) (rest := st) ⟨hx, hb, hml, hown, hts⟩ (hM (va_A wc H.size)) (cwI n hts hG hw hrc hrs (hts _ hin) (hts _ hli) (hts _ hins) hy1 hd hR) ⟨gPc_blind (hFb _), fun U hU hW => ⟨rfl, by rw [hU]; exact (va_split hI.1).2, va_K.moved hW.alike hK, (va_dsplit hI.2.1).2.1.weaken (fun k x h _ => Or.inl ⟨k, x.2, h⟩), hF1 _ s H locs U hF hI hU hW hfr (fun x h => Or.inr h)⟩⟩ rfl hlen hl.1 rfl (lv_room hcat) d ⟨hf.1, hf.2⟩) hI.2.2.1 (fun x _ h => hfr x h) hfr (fun u t H1 locs1 ht hvm hp hB hz hkp hS => ?_)
  have hP1 : va_P D vwCl (W' u) H1 := by rw [← ht]; exact hB.1
  have hj2 := va_sfx hI.1 hI.2.1 (fun x h => h) hkp hfr hP1 hB.2
  exact k u hp H1 locs1 ls ⟨hj2.1, hj2.2, hS, fun h => by cases h⟩ hl
theorem gcI_sfxN (C : GB l D tys A F R cc nL own Ts false ini G) (hA : ∀ s, F s → ∀ q : Nat, s.heap.size ≤ q → A q) {b : Nat} {S : Type} {post : S → Prop} {W' : S → va_W} {mc ms : Nat} {FF : (Nat → Prop) → State → Prop} (wr wc : va_W) (hw0 : w = wr ++ wc) (d : decode cc pc = .ok (.invokespecial i, 3)) (hG : GoodIn Ts ws) (hin : Cond.initialized y.cls ∈ Ts) {host : String} (hli : ∀ s, F s → va_Nw (.methodLinkNest own i y host) s) (hins : Cond.instanceMethod y ∈ Ts) (hy1 : y.name = "<init>") (hM : ∀ A1 : Nat → Prop, Met l y ws rm (gPc D tys A1 (FF A1) wc (.ref b :: As)) (va_Qv post (fun u t => va_P D vwCl (W' u) t.heap ∧ va_D A1 (W' u)) A1) mc ms A1) (hw : ws = Cond.code y bytes maxL none :: ws') (hrc : rm.cells = mc) (hrs : rm.slots = ms) (hd : y.cls ≠ "java/lang/invoke/MethodHandle" ∧ y.cls ≠ "java/lang/invoke/VarHandle" ∧ (parseMethodDescriptor y.desc).map (fun d => d.parameters.length) = some n) (hR : rm.frames + 1 ≤ R.frames ∧ 8 + (maxL + 11) + rm.locals ≤ R.locals) (hlen : As.length = n) (hst : st0 = As.reverse ++ .ref b :: st) (hcat : (st.map fun v => v.category).sum ≤ 8) (hFb : ∀ (A1 : Nat → Prop) (U : State) (g : JFrame) (mk : MethodId) (a : Array Value), FF A1 U → FF A1 (U.calling g mk a)) (hF1 : ∀ (A1 : Nat → Prop) (s : State) (H : Heap) (locs : List Loc) (U : State), F s → gI false D A s w H locs → U.heap = H → s.WarmedH U.vm → (∀ x, A1 x → A x) → (∀ x : Nat, H.size ≤ x → A1 x) → FF A1 U) (hf : kc + mc ≤ R.cells ∧ ks + ms ≤ R.slots) (hn : pc + 3 = q) (k : ∀ (u : S), post u → G (kc + mc) (ks + ms) (wr ++ W' u) L q st) : G kc ks w L pc st0 := by
  obtain ⟨p, e, s, m, args, below, meth, c, Q, rfl, hx, hb, hml, hown, hts, hK, hF, hi⟩ := C
  subst hn
  subst hst
  subst hw0
  intro H locs ls hI hl
  have hfr : ∀ x, va_A wc H.size x → A x := by
    rintro x (⟨k2, e, h⟩ | h)
    · exact (va_dsplit hI.2.1).2.1.2 k2 (x, e) h
    · exact hA s hF x (Nat.le_trans hI.2.2.1.1 h)
  refine va_callv (va_runIN (As := As) (rest := st) ⟨hx, hb, hml, hown, hts⟩ (hM (va_A wc H.size)) ⟨va_cnB n hts hG hw hrc hrs (hli s hF) (hts _ hin) hd hR, hy1, hts _ hins⟩ ⟨gPc_blind (hFb _), fun U hU hW => ⟨rfl, by rw [hU]; exact (va_split hI.1).2, va_K.moved hW.alike hK, (va_dsplit hI.2.1).2.1.weaken (fun k x h _ => Or.inl ⟨k, x.2, h⟩), hF1 _ s H locs U hF hI hU hW hfr (fun x h => Or.inr h)⟩⟩ rfl hlen hl.1 rfl (lv_room hcat) d ⟨hf.1, hf.2⟩) hI.2.2.1 (fun x _ h => hfr x h) hfr (fun u t H1 locs1 ht hvm hp hB hz hkp hS => ?_)
  have hP1 : va_P D vwCl (W' u) H1 := by rw [← ht]; exact hB.1
  have hj2 := va_sfx hI.1 hI.2.1 (fun x h => h) hkp hfr hP1 hB.2
  exact k u hp H1 locs1 ls ⟨hj2.1, hj2.2, hS, fun h => by cases h⟩ hl
/-- a call over the whole world, whose cells are named by a set -/
theorem gcV_qvA (C : GB l D tys A F R cc nL own Ts false ini G) {Cn : String} {T : u_T} {N ci b : Nat} {fs : List Value} (z : Nat) {S : Type} {post : S → Prop} {W' : S → va_W} {mc ms : Nat} (hDD : ∀ (k : Nat) (x : Nat × va_E), w[k]? = some x → A1 x.1) (hAw : ∀ x : Nat, A1 x → ∃ (k : Nat) (e : va_E), w[k]? = some (x, e)) (d : decode cc pc = .ok (.invokevirtual i, 3)) (hc : vwCl[ci]? = some (Cn, T, N)) (he : w[z]? = some (b, .inr (ci, fs))) (hG : GoodIn Ts (wsV own i Cn y ws)) (hM : Met l y ws rm (gPc D tys A1 F1 w (.ref b :: As)) (va_Qv post (fun u t => va_P D vwCl (W' u) t.heap ∧ va_D A1 (W' u)) A1) mc ms A1) (hw : ws = Cond.code y bytes maxL ret :: ws') (hrc : rm.cells = mc) (hrs : rm.slots = ms) (hd : y.cls = Cn ∧ y.cls ≠ "java/lang/invoke/MethodHandle" ∧ y.cls ≠ "java/lang/invoke/VarHandle" ∧ (parseMethodDescriptor y.desc).map (fun d => d.parameters.length) = some n) (hR : rm.frames + 1 ≤ R.frames ∧ 8 + (maxL + 11) + rm.locals ≤ R.locals) (hlen : As.length = n) (hst : st0 = As.reverse ++ .ref b :: st) (hcat : (st.map fun v => v.category).sum ≤ 8) (hFb : ∀ (U : State) (g : JFrame) (mk : MethodId) (a : Array Value), F1 U → F1 (U.calling g mk a)) (hF1 : ∀ (s : State) (H : Heap) (locs : List Loc) (U : State), F s → gI false D A s w H locs → U.heap = H → s.vm.Alike U.vm → F1 U) (hf : kc + mc ≤ R.cells ∧ ks + ms ≤ R.slots) (hn : pc + 3 = q) (k : ∀ (u : S), post u → G (kc + mc) (ks + ms) (W' u) L q st) : G kc ks w L pc st0 := by
  obtain ⟨p, e, s, m, args, below, meth, c, Q, rfl, hx, hb, hml, hown, hts, hK, hF, hi⟩ := C
  subst hn
  subst hst
  intro H locs ls hI hl
  have hfr : ∀ x, A1 x → A x := fun x h => by
    obtain ⟨k2, e, h⟩ := hAw x h
    exact hI.2.1.2 k2 (x, e) h
  refine va_callv (va_runV (As := As) (rest := st) ⟨hx, hb, hml, hown, hts⟩ hM (cwV n hts hG hw hrc hrs hd hR) ⟨gPc_blind hFb, va_recv hK hI.1 hc he, fun U hU hW => ⟨rfl, by rw [hU]; exact hI.1, va_K.moved hW.alike hK, hI.2.1.weaken (fun k x h _ => hDD k x h), hF1 s H locs U hF hI hU hW.alike⟩⟩ rfl hlen hl.1 rfl (lv_room hcat) d ⟨hf.1, hf.2⟩) hI.2.2.1 (fun x _ h => hfr x h) hfr (fun u t H1 locs1 ht hvm hp hB hz hkp hS => ?_)
  exact k u hp H1 locs1 ls ⟨by rw [← ht]; exact hB.1, hB.2.weaken (fun _ x _ h => hfr x.1 h), hS, fun h => by cases h⟩ hl
end GMC
