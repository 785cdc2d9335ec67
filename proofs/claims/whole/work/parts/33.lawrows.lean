/-! what the law's walk needs -/
def LWI (a : Nat → Nat) (hA nA : Nat) (gr li st sp : Nat → Int32) (n m : Nat) (nu fp ti : Nat → Int32) (wc : Nat → Int64) (wu : Int32) (sc pv : Nat → Int64) (su : Int32) (sd : Nat → Int32) (t : Nat) (su2 : Int32) (sh tt : Nat → Int32) : Prop :=
  LInv st sp n m ∧ TrOK nu ∧ ((hA = a 11 ∧ nA = a 12) ∨ (hA = a 12 ∧ nA = a 11)) ∧ (wu = nI 0 ∨ (wu = nI 1 ∧ WOK gr li nu st n m fp ti wc)) ∧ (su = nI 0 ∨ (su = nI 1 ∧ SCOK gr li nu st n m sc pv)) ∧ t ≤ n + 1 ∧ (∃ s : Nat → Nat, ∀ j, sd j = nI (s j) ∧ s j ≤ 6) ∧ (su2 = nI 0 ∨ (su2 = nI 1 ∧ SHOK (mL gr li nu st n) m sh tt))
def FLw (cI : ClassId) (rT rL rM scr Ls : Nat) (xs : Nat → Int32) (A : Nat → Prop) (s : State) : Prop := FK cI rT A s ∧ FZr A (fun j => nI (trLo j)) (fun j => nI (trHi j)) rL rM s ∧ va_X scr Ls xs s s.heap ∧ scr < s.heap.size ∧ ¬ A scr
theorem FZr_n {ro : Bool} {D : va_G} {A A1 : Nat → Prop} {w : va_W} {gL gM : Nat → Int32} {rL rM : Nat} {s : State} {H : Heap} {locs : List Loc} {U : State} (h : FZr A gL gM rL rM s) (hI : gI ro D A s w H locs) (hH : U.heap = H) (hv : s.vm.Alike U.vm) (hs : ∀ x, A1 x → A x) : FZr A1 gL gM rL rM U := by
  obtain ⟨h1, h2, h3, h4⟩ := FZr_h s H locs U h hI hH hv
  exact ⟨h1.narrow hs, h2.narrow hs, h3.narrow hs, h4.narrow hs⟩
theorem wA_sw {a : Nat → Nat} {hA nA : Nat} (hp : (hA = a 11 ∧ nA = a 12) ∨ (hA = a 12 ∧ nA = a 11)) (q : Nat) : wA a hA nA q ↔ wA a (a 11) (a 12) q := by
  rcases hp with ⟨rfl, rfl⟩ | ⟨rfl, rfl⟩
  · exact Iff.rfl
  · show q ∈ [a 0, a 1, a 2, a 3, a 4, a 5, a 6, a 7, a 8, a 9, a 10, a 12, a 11, a 13, a 14, a 15, a 16, a 17, a 18, a 19] ↔ q ∈ [a 0, a 1, a 2, a 3, a 4, a 5, a 6, a 7, a 8, a 9, a 10, a 11, a 12, a 13, a 14, a 15, a 16, a 17, a 18, a 19]
    refine List.Perm.mem_iff ?_
    refine List.Perm.cons _ ?_
    refine List.Perm.cons _ ?_
    refine List.Perm.cons _ ?_
    refine List.Perm.cons _ ?_
    refine List.Perm.cons _ ?_
    refine List.Perm.cons _ ?_
    refine List.Perm.cons _ ?_
    refine List.Perm.cons _ ?_
    refine List.Perm.cons _ ?_
    refine List.Perm.cons _ ?_
    refine List.Perm.cons _ ?_
    exact List.Perm.swap _ _ _
theorem wC_in {cI cJ cZ : ClassId} {a : Nat → Nat} {hA nA : Nat} {gr li st sp : Nat → Int32} {ce le : Int32} {nu : Nat → Int32} {ev od : Nat → Int64} {fp ti : Nat → Int32} {wc : Nat → Int64} {wu : Int32} {sc pv : Nat → Int64} {su : Int32} {sd : Nat → Int32} {tl : Int32} (hp : (hA = a 11 ∧ nA = a 12) ∨ (hA = a 12 ∧ nA = a 11)) (k : Nat) (x : Nat × va_E) (h : (wC cI cJ cZ a hA nA gr li st sp ce le nu ev od fp ti wc wu sc pv su sd tl)[k]? = some x) : wA a (a 11) (a 12) x.1 := by
  have h1 := List.mem_map_of_mem (f := Prod.fst) (List.mem_of_getElem? h)
  have h2 : wA a hA nA x.1 := h1
  exact (wA_sw hp _).mp h2
theorem wC_of {cI cJ cZ : ClassId} {a : Nat → Nat} {hA nA : Nat} {gr li st sp : Nat → Int32} {ce le : Int32} {nu : Nat → Int32} {ev od : Nat → Int64} {fp ti : Nat → Int32} {wc : Nat → Int64} {wu : Int32} {sc pv : Nat → Int64} {su : Int32} {sd : Nat → Int32} {tl : Int32} (hp : (hA = a 11 ∧ nA = a 12) ∨ (hA = a 12 ∧ nA = a 11)) (q : Nat) (h : wA a (a 11) (a 12) q) : ∃ (k : Nat) (e : va_E), (wC cI cJ cZ a hA nA gr li st sp ce le nu ev od fp ti wc wu sc pv su sd tl)[k]? = some (q, e) := by
  have h1 : q ∈ (wC cI cJ cZ a hA nA gr li st sp ce le nu ev od fp ti wc wu sc pv su sd tl).map Prod.fst := (wA_sw hp q).mpr h
  obtain ⟨x, hx, rfl⟩ := List.mem_map.mp h1
  obtain ⟨k, hk⟩ := List.getElem?_of_mem hx
  exact ⟨k, x.2, hk⟩
section GLW
variable {l : Launch} {D : va_G} {tys : TT} {A A1 : Nat → Prop} {F F1 : State → Prop} {R : Room} {cc : ByteArray} {nL : Nat} {own : String} {Ts : List Cond} {ro ini : Bool} {G : Nat → Nat → va_W → LL → Nat → List Value → Prop}
variable {kc ks pc q i n maxL : Nat} {w : va_W} {L : LL} {st st0 As : List Value} {y : MethodName} {ws ws' : List Cond} {rm : Room} {bytes : ByteArray} {ret : Option FieldType}
theorem g_sld (C : GB l D tys A F R cc nL own Ts ro ini G) {scr Ls : Nat} {xs : Nat → Int32} (hX : ∀ s, F s → va_X scr Ls xs s s.heap ∧ scr < s.heap.size ∧ ¬ A scr) {x : Int32} (hi0 : vp_in x Ls) (d : decode cc pc = .ok (.iaload, 1)) (hn : pc + 1 = q) (k : G kc ks w L q (.int (xs x.toNatClampNeg) :: st)) : G kc ks w L pc (.int x :: .ref scr :: st) := by
  obtain ⟨p, e, s, m, args, below, meth, c, Q, rfl, hx, hb, hml, hown, hts, hK, hF, hi⟩ := C
  subst hn
  intro H locs ls hI hl
  obtain ⟨h1, h2, h3⟩ := hX s hF
  exact va_sld hx hb h1 h2 h3 hI.2.2.1 hi0 d (k H locs ls hI hl)
theorem g_slen (C : GB l D tys A F R cc nL own Ts ro ini G) {scr Ls : Nat} {xs : Nat → Int32} (hX : ∀ s, F s → va_X scr Ls xs s s.heap ∧ scr < s.heap.size ∧ ¬ A scr) (d : decode cc pc = .ok (.arraylength, 1)) (hn : pc + 1 = q) (k : G kc ks w L q (.int (nI Ls) :: st)) : G kc ks w L pc (.ref scr :: st) := by
  obtain ⟨p, e, s, m, args, below, meth, c, Q, rfl, hx, hb, hml, hown, hts, hK, hF, hi⟩ := C
  subst hn
  intro H locs ls hI hl
  obtain ⟨h1, h2, h3⟩ := hX s hF
  exact va_slen hx hb h1 h2 h3 hI.2.2.1 d (k H locs ls hI hl)
theorem gcV_siP (C : GB l D tys A F R cc nL own Ts false ini G) {post : Int32 → Prop} {Cn : String} {T : u_T} {N ci b : Nat} {fs : List Value} (z : Nat) {wc wr : va_W} (hw0 : w = wc ++ wr) (hm1 : ∀ (k : Nat) (x : Nat × va_E), wc[k]? = some x → A1 x.1) (hm2 : ∀ x : Nat, A1 x → ∃ (k : Nat) (e : va_E), wc[k]? = some (x, e)) (d : decode cc pc = .ok (.invokevirtual i, 3)) (hc : vwCl[ci]? = some (Cn, T, N)) (he : wc[z]? = some (b, .inr (ci, fs))) (hG : GoodIn Ts (wsV own i Cn y ws)) (hM : Met l y ws rm (gPc D tys A1 F1 wc (.ref b :: As)) (vp_Si post) 0 0 (fun _ => False)) (hw : ws = Cond.code y bytes maxL ret :: ws') (hrc : rm.cells = 0) (hrs : rm.slots = 0) (hd : y.cls = Cn ∧ y.cls ≠ "java/lang/invoke/MethodHandle" ∧ y.cls ≠ "java/lang/invoke/VarHandle" ∧ (parseMethodDescriptor y.desc).map (fun d => d.parameters.length) = some n) (hR : rm.frames + 1 ≤ R.frames ∧ 8 + (maxL + 11) + rm.locals ≤ R.locals) (hlen : As.length = n) (hst : st0 = As.reverse ++ .ref b :: st) (hcat : (st.map fun v => v.category).sum ≤ 8) (hFb : ∀ (U : State) (g : JFrame) (mk : MethodId) (a : Array Value), F1 U → F1 (U.calling g mk a)) (hF1 : ∀ (s : State) (H : Heap) (locs : List Loc) (U : State), F s → gI false D A s w H locs → U.heap = H → s.vm.Alike U.vm → (∀ x, A1 x → A x) → F1 U) (hf : kc ≤ R.cells ∧ ks ≤ R.slots) (hn : pc + 3 = q) (k : ∀ r : Int32, post r → G kc ks (wc ++ wr) L q (.int r :: st)) : G kc ks w L pc st0 := by
  obtain ⟨p, e, s, m, args, below, meth, c, Q, rfl, hx, hb, hml, hown, hts, hK, hF, hi⟩ := C
  subst hn
  subst hst
  subst hw0
  intro H locs ls hI hl
  have hfr : ∀ x, A1 x → A x := fun x h => by
    obtain ⟨k2, e, h⟩ := hm2 x h
    exact (va_dsplit hI.2.1).1.2 k2 (x, e) h
  have he2 := va_recv hK (va_split hI.1).1 hc he
  exact vp_callSi (va_runV (As := As) (rest := st) ⟨hx, hb, hml, hown, hts⟩ hM (cwV n hts hG hw hrc hrs hd hR) ⟨gPc_blind hFb, he2, fun U hU hW => ⟨rfl, by rw [hU]; exact (va_split hI.1).1, va_K.moved hW.alike hK, (va_dsplit hI.2.1).1.weaken (fun k x h _ => hm1 k x h), hF1 s H locs U hF hI hU hW.alike hfr⟩⟩ rfl hlen hl.1 rfl (lv_room hcat) d ⟨hf.1, hf.2⟩).run (fun r hr => k r hr H locs ls hI hl)
theorem gcV_siS (C : GB l D tys A F R cc nL own Ts false ini G) {post : Int32 → Prop} {Cn : String} {T : u_T} {N ci b : Nat} {fs : List Value} (z : Nat) {wc wr : va_W} (hw0 : w = wr ++ wc) (hm1 : ∀ (k : Nat) (x : Nat × va_E), wc[k]? = some x → A1 x.1) (hm2 : ∀ x : Nat, A1 x → ∃ (k : Nat) (e : va_E), wc[k]? = some (x, e)) (d : decode cc pc = .ok (.invokevirtual i, 3)) (hc : vwCl[ci]? = some (Cn, T, N)) (he : wc[z]? = some (b, .inr (ci, fs))) (hG : GoodIn Ts (wsV own i Cn y ws)) (hM : Met l y ws rm (gPc D tys A1 F1 wc (.ref b :: As)) (vp_Si post) 0 0 (fun _ => False)) (hw : ws = Cond.code y bytes maxL ret :: ws') (hrc : rm.cells = 0) (hrs : rm.slots = 0) (hd : y.cls = Cn ∧ y.cls ≠ "java/lang/invoke/MethodHandle" ∧ y.cls ≠ "java/lang/invoke/VarHandle" ∧ (parseMethodDescriptor y.desc).map (fun d => d.parameters.length) = some n) (hR : rm.frames + 1 ≤ R.frames ∧ 8 + (maxL + 11) + rm.locals ≤ R.locals) (hlen : As.length = n) (hst : st0 = As.reverse ++ .ref b :: st) (hcat : (st.map fun v => v.category).sum ≤ 8) (hFb : ∀ (U : State) (g : JFrame) (mk : MethodId) (a : Array Value), F1 U → F1 (U.calling g mk a)) (hF1 : ∀ (s : State) (H : Heap) (locs : List Loc) (U : State), F s → gI false D A s w H locs → U.heap = H → s.vm.Alike U.vm → (∀ x, A1 x → A x) → F1 U) (hf : kc ≤ R.cells ∧ ks ≤ R.slots) (hn : pc + 3 = q) (k : ∀ r : Int32, post r → G kc ks (wr ++ wc) L q (.int r :: st)) : G kc ks w L pc st0 := by
  obtain ⟨p, e, s, m, args, below, meth, c, Q, rfl, hx, hb, hml, hown, hts, hK, hF, hi⟩ := C
  subst hn
  subst hst
  subst hw0
  intro H locs ls hI hl
  have hfr : ∀ x, A1 x → A x := fun x h => by
    obtain ⟨k2, e, h⟩ := hm2 x h
    exact (va_dsplit hI.2.1).2.1.2 k2 (x, e) h
  have he2 := va_recv hK (va_split hI.1).2 hc he
  exact vp_callSi (va_runV (As := As) (rest := st) ⟨hx, hb, hml, hown, hts⟩ hM (cwV n hts hG hw hrc hrs hd hR) ⟨gPc_blind hFb, he2, fun U hU hW => ⟨rfl, by rw [hU]; exact (va_split hI.1).2, va_K.moved hW.alike hK, (va_dsplit hI.2.1).2.1.weaken (fun k x h _ => hm1 k x h), hF1 s H locs U hF hI hU hW.alike hfr⟩⟩ rfl hlen hl.1 rfl (lv_room hcat) d ⟨hf.1, hf.2⟩).run (fun r hr => k r hr H locs ls hI hl)
theorem gcV_qiP (C : GB l D tys A F R cc nL own Ts false ini G) {S : Type} {post : Int32 → S → Prop} {W' : S → va_W} {Cn : String} {T : u_T} {N ci b : Nat} {fs : List Value} (z : Nat) {wc wr : va_W} (hw0 : w = wc ++ wr) (hm1 : ∀ (k : Nat) (x : Nat × va_E), wc[k]? = some x → A1 x.1) (hm2 : ∀ x : Nat, A1 x → ∃ (k : Nat) (e : va_E), wc[k]? = some (x, e)) (d : decode cc pc = .ok (.invokevirtual i, 3)) (hc : vwCl[ci]? = some (Cn, T, N)) (he : wc[z]? = some (b, .inr (ci, fs))) (hG : GoodIn Ts (wsV own i Cn y ws)) (hM : Met l y ws rm (gPc D tys A1 F1 wc (.ref b :: As)) (va_Qi post (fun u t => va_P D vwCl (W' u) t.heap ∧ va_D A1 (W' u)) A1) 0 0 A1) (hw : ws = Cond.code y bytes maxL ret :: ws') (hrc : rm.cells = 0) (hrs : rm.slots = 0) (hd : y.cls = Cn ∧ y.cls ≠ "java/lang/invoke/MethodHandle" ∧ y.cls ≠ "java/lang/invoke/VarHandle" ∧ (parseMethodDescriptor y.desc).map (fun d => d.parameters.length) = some n) (hR : rm.frames + 1 ≤ R.frames ∧ 8 + (maxL + 11) + rm.locals ≤ R.locals) (hlen : As.length = n) (hst : st0 = As.reverse ++ .ref b :: st) (hcat : (st.map fun v => v.category).sum ≤ 8) (hFb : ∀ (U : State) (g : JFrame) (mk : MethodId) (a : Array Value), F1 U → F1 (U.calling g mk a)) (hF1 : ∀ (s : State) (H : Heap) (locs : List Loc) (U : State), F s → gI false D A s w H locs → U.heap = H → s.vm.Alike U.vm → (∀ x, A1 x → A x) → F1 U) (hf : kc ≤ R.cells ∧ ks ≤ R.slots) (hn : pc + 3 = q) (k : ∀ (r : Int32) (u : S), post r u → G kc ks (W' u ++ wr) L q (.int r :: st)) : G kc ks w L pc st0 := by
  obtain ⟨p, e, s, m, args, below, meth, c, Q, rfl, hx, hb, hml, hown, hts, hK, hF, hi⟩ := C
  subst hn
  subst hst
  subst hw0
  intro H locs ls hI hl
  have hfr : ∀ x, A1 x → A x := fun x h => by
    obtain ⟨k2, e, h⟩ := hm2 x h
    exact (va_dsplit hI.2.1).1.2 k2 (x, e) h
  have he2 := va_recv hK (va_split hI.1).1 hc he
  refine va_calli (va_runV (As := As) (rest := st) ⟨hx, hb, hml, hown, hts⟩ hM (cwV n hts hG hw hrc hrs hd hR) ⟨gPc_blind hFb, he2, fun U hU hW => ⟨rfl, by rw [hU]; exact (va_split hI.1).1, va_K.moved hW.alike hK, (va_dsplit hI.2.1).1.weaken (fun k x h _ => hm1 k x h), hF1 s H locs U hF hI hU hW.alike hfr⟩⟩ rfl hlen hl.1 rfl (lv_room hcat) d ⟨hf.1, hf.2⟩) hI.2.2.1 (fun x _ h => hfr x h) hfr (fun r u t H1 locs1 ht hvm hp hB hz hkp hS => ?_)
  have hP1 : va_P D vwCl (W' u) H1 := by rw [← ht]; exact hB.1
  have hj2 := va_pfx hI.1 hI.2.1 (fun x h => Or.inl (hm2 x h)) hkp hfr hP1 hB.2
  exact k r u hp H1 locs1 ls ⟨hj2.1, hj2.2, hS, fun h => by cases h⟩ hl
theorem gcV_qiS (C : GB l D tys A F R cc nL own Ts false ini G) {S : Type} {post : Int32 → S → Prop} {W' : S → va_W} {Cn : String} {T : u_T} {N ci b : Nat} {fs : List Value} (z : Nat) {wc wr : va_W} (hw0 : w = wr ++ wc) (hm1 : ∀ (k : Nat) (x : Nat × va_E), wc[k]? = some x → A1 x.1) (hm2 : ∀ x : Nat, A1 x → ∃ (k : Nat) (e : va_E), wc[k]? = some (x, e)) (d : decode cc pc = .ok (.invokevirtual i, 3)) (hc : vwCl[ci]? = some (Cn, T, N)) (he : wc[z]? = some (b, .inr (ci, fs))) (hG : GoodIn Ts (wsV own i Cn y ws)) (hM : Met l y ws rm (gPc D tys A1 F1 wc (.ref b :: As)) (va_Qi post (fun u t => va_P D vwCl (W' u) t.heap ∧ va_D A1 (W' u)) A1) 0 0 A1) (hw : ws = Cond.code y bytes maxL ret :: ws') (hrc : rm.cells = 0) (hrs : rm.slots = 0) (hd : y.cls = Cn ∧ y.cls ≠ "java/lang/invoke/MethodHandle" ∧ y.cls ≠ "java/lang/invoke/VarHandle" ∧ (parseMethodDescriptor y.desc).map (fun d => d.parameters.length) = some n) (hR : rm.frames + 1 ≤ R.frames ∧ 8 + (maxL + 11) + rm.locals ≤ R.locals) (hlen : As.length = n) (hst : st0 = As.reverse ++ .ref b :: st) (hcat : (st.map fun v => v.category).sum ≤ 8) (hFb : ∀ (U : State) (g : JFrame) (mk : MethodId) (a : Array Value), F1 U → F1 (U.calling g mk a)) (hF1 : ∀ (s : State) (H : Heap) (locs : List Loc) (U : State), F s → gI false D A s w H locs → U.heap = H → s.vm.Alike U.vm → (∀ x, A1 x → A x) → F1 U) (hf : kc ≤ R.cells ∧ ks ≤ R.slots) (hn : pc + 3 = q) (k : ∀ (r : Int32) (u : S), post r u → G kc ks (wr ++ W' u) L q (.int r :: st)) : G kc ks w L pc st0 := by
  obtain ⟨p, e, s, m, args, below, meth, c, Q, rfl, hx, hb, hml, hown, hts, hK, hF, hi⟩ := C
  subst hn
  subst hst
  subst hw0
  intro H locs ls hI hl
  have hfr : ∀ x, A1 x → A x := fun x h => by
    obtain ⟨k2, e, h⟩ := hm2 x h
    exact (va_dsplit hI.2.1).2.1.2 k2 (x, e) h
  have he2 := va_recv hK (va_split hI.1).2 hc he
  refine va_calli (va_runV (As := As) (rest := st) ⟨hx, hb, hml, hown, hts⟩ hM (cwV n hts hG hw hrc hrs hd hR) ⟨gPc_blind hFb, he2, fun U hU hW => ⟨rfl, by rw [hU]; exact (va_split hI.1).2, va_K.moved hW.alike hK, (va_dsplit hI.2.1).2.1.weaken (fun k x h _ => hm1 k x h), hF1 s H locs U hF hI hU hW.alike hfr⟩⟩ rfl hlen hl.1 rfl (lv_room hcat) d ⟨hf.1, hf.2⟩) hI.2.2.1 (fun x _ h => hfr x h) hfr (fun r u t H1 locs1 ht hvm hp hB hz hkp hS => ?_)
  have hP1 : va_P D vwCl (W' u) H1 := by rw [← ht]; exact hB.1
  have hj2 := va_sfx hI.1 hI.2.1 (fun x h => Or.inl (hm2 x h)) hkp hfr hP1 hB.2
  exact k r u hp H1 locs1 ls ⟨hj2.1, hj2.2, hS, fun h => by cases h⟩ hl
end GLW
theorem log_inv {n t : Nat} {sd sd2 : Nat → Int32} {v r : Int32} {t2 : Nat} (h : (r, sd2, t2) = aLog n t sd v) (ht : t ≤ n + 1) (hs : ∃ s : Nat → Nat, ∀ j, sd j = nI (s j) ∧ s j ≤ 6) : t2 ≤ n + 1 ∧ ∃ s : Nat → Nat, ∀ j, sd2 j = nI (s j) ∧ s j ≤ 6 := by
  unfold aLog at h
  by_cases c : spP v
  · rw [if_pos c] at h
    by_cases c2 : n < t
    · rw [if_pos c2] at h
      simp only [Prod.mk.injEq] at h
      obtain ⟨-, rfl, rfl⟩ := h
      exact ⟨ht, hs⟩
    · rw [if_neg c2] at h
      simp only [Prod.mk.injEq] at h
      obtain ⟨-, rfl, rfl⟩ := h
      obtain ⟨s, hs⟩ := hs
      obtain ⟨z, hz, rfl⟩ := spP_of c
      refine ⟨by omega, fun j => if j = t then z else s j, fun j => ?_⟩
      by_cases e : j = t
      · show upd sd t (nI z) j = nI (if j = t then z else s j) ∧ (if j = t then z else s j) ≤ 6
        rw [if_pos e, e, pk_us]; exact ⟨rfl, hz⟩
      · show upd sd t (nI z) j = nI (if j = t then z else s j) ∧ (if j = t then z else s j) ≤ 6
        rw [if_neg e, pk_un e]; exact hs j
  · rw [if_neg c] at h
    simp only [Prod.mk.injEq] at h
    obtain ⟨-, rfl, rfl⟩ := h
    exact ⟨ht, hs⟩
theorem trP_of {k : Nat} {v : Int32} (h : trP k v) (hk : k < 5) : ∃ z : Nat, trLo k ≤ z ∧ z ≤ trHi k ∧ v = nI z := by
  have hh : trHi k < 2 ^ 31 := by
    unfold trHi
    split
    · omega
    · split <;> omega
  have hl : trLo k < 2 ^ 31 := by unfold trLo; split <;> omega
  obtain ⟨z, hz, e⟩ := nI_of2 (x := v) (M := nI (trHi k)) (n := trHi k) (nI_toInt hh) (fun q => h.1 (Int32.lt_of_lt_of_le q (nI_pos' hl))) (Int32.not_lt.mp h.2)
  refine ⟨z, ?_, hz, e⟩
  have h1 := h.1
  rw [e, nI_ltI (by omega) hl] at h1
  omega
theorem train_inv {nu nu2 : Nat → Int32} {k v r : Int32} (h : (r, nu2) = aTrain nu k v) (ht : TrOK nu) : TrOK nu2 := by
  unfold aTrain at h
  by_cases c : hcP 5 k
  · rw [if_pos c] at h
    obtain ⟨j, hj, rfl⟩ := hcP_of c (by decide)
    rw [nI_clamp (by omega)] at h
    by_cases c2 : trP j v
    · rw [if_pos c2] at h
      simp only [Prod.mk.injEq] at h
      obtain ⟨-, rfl⟩ := h
      obtain ⟨z, h1, h2, rfl⟩ := trP_of c2 hj
      obtain ⟨t0, t1, t2, t3, t4⟩ := ht
      unfold trLo at h1
      unfold trHi at h2
      rcases (show j = 0 ∨ j = 1 ∨ j = 2 ∨ j = 3 ∨ j = 4 by omega) with rfl | rfl | rfl | rfl | rfl
      · exact ⟨⟨z, by simpa using h1, by simpa using h2, pk_us⟩, by rw [pk_un (by decide)]; exact t1, by rw [pk_un (by decide)]; exact t2, by rw [pk_un (by decide)]; exact t3, by rw [pk_un (by decide)]; exact t4⟩
      · exact ⟨by rw [pk_un (by decide)]; exact t0, ⟨z, by simpa using h2, pk_us⟩, by rw [pk_un (by decide)]; exact t2, by rw [pk_un (by decide)]; exact t3, by rw [pk_un (by decide)]; exact t4⟩
      · exact ⟨by rw [pk_un (by decide)]; exact t0, by rw [pk_un (by decide)]; exact t1, ⟨z, by simpa using h1, by simpa using h2, pk_us⟩, by rw [pk_un (by decide)]; exact t3, by rw [pk_un (by decide)]; exact t4⟩
      · exact ⟨by rw [pk_un (by decide)]; exact t0, by rw [pk_un (by decide)]; exact t1, by rw [pk_un (by decide)]; exact t2, ⟨z, by simpa using h1, by simpa using h2, pk_us⟩, by rw [pk_un (by decide)]; exact t4⟩
      · exact ⟨by rw [pk_un (by decide)]; exact t0, by rw [pk_un (by decide)]; exact t1, by rw [pk_un (by decide)]; exact t2, by rw [pk_un (by decide)]; exact t3, ⟨z, by simpa using h2, pk_us⟩⟩
    · rw [if_neg c2] at h
      simp only [Prod.mk.injEq] at h
      obtain ⟨-, rfl⟩ := h
      exact ht
  · rw [if_neg c] at h
    simp only [Prod.mk.injEq] at h
    obtain ⟨-, rfl⟩ := h
    exact ht
theorem tr0_ok : TrOK tr0 := ⟨⟨1, by decide, by decide, rfl⟩, ⟨1, by decide, rfl⟩, ⟨100, by decide, by decide, rfl⟩, ⟨100, by decide, by decide, rfl⟩, ⟨0, by decide, rfl⟩⟩
theorem LInv.m_uq {st sp sp2 : Nat → Int32} {n m m2 : Nat} (h : LInv st sp n m) (h2 : LInv st sp2 n m2) : m = m2 := by
  have a := h.2.2.2.2.2.1
  have b := h2.2.2.2.2.2.1
  omega
