/-! static tables that nobody writes -/
def FZr (A : Nat → Prop) (gL gM : Nat → Int32) (rL rM : Nat) (s : State) : Prop := va_Z "CoastPull$Train" "LEAST" "[I" (.ref rL) A s s.heap ∧ va_Z "CoastPull$Train" "MOST" "[I" (.ref rM) A s s.heap ∧ va_T .int rL 5 (fun j => .int (gL j)) A s s.heap ∧ va_T .int rM 5 (fun j => .int (gM j)) A s s.heap
theorem FZr_b {A : Nat → Prop} {gL gM : Nat → Int32} {rL rM : Nat} : ∀ (U : State) (g : JFrame) (mk : MethodId) (a : Array Value), FZr A gL gM rL rM U → FZr A gL gM rL rM (U.calling g mk a) := fun _ _ _ _ h => h
theorem FZr_h {ro : Bool} {D : va_G} {A : Nat → Prop} {w : va_W} {gL gM : Nat → Int32} {rL rM : Nat} : ∀ (s : State) (H : Heap) (locs : List Loc) (U : State), FZr A gL gM rL rM s → gI ro D A s w H locs → U.heap = H → s.vm.Alike U.vm → FZr A gL gM rL rM U := fun s H locs U h hI hH hv => by
  obtain ⟨h1, h2, h3, h4⟩ := h
  have hk := hI.2.2.1.2.1
  subst hH
  exact ⟨(h1.kept hk).moved hv, (h2.kept hk).moved hv, (h3.kept hk).moved hv, (h4.kept hk).moved hv⟩
section GZ
variable {l : Launch} {D : va_G} {tys : TT} {A : Nat → Prop} {F : State → Prop} {R : Room} {cc : ByteArray} {nL : Nat} {own : String} {Ts : List Cond} {ro ini : Bool} {G : Nat → Nat → va_W → LL → Nat → List Value → Prop}
variable {kc ks pc q : Nat} {w : va_W} {L : LL} {st : List Value}
theorem g_gets (C : GB l D tys A F R cc nL own Ts ro ini G) {Cn n d : String} {v : Value} {i : Nat} (hZ : ∀ s, F s → va_Z Cn n d v A s s.heap) (dd : decode cc pc = .ok (.getstatic i, 3)) (hw : Cond.fieldLink own i Cn n d ∈ Ts) (hn : pc + 3 = q) (k : G kc ks w L q (v :: st)) : G kc ks w L pc st := by
  obtain ⟨p, e, s, m, args, below, meth, c, Q, rfl, hx, hb, hml, hown, hts, hK, hF, hi⟩ := C
  subst hn
  intro H locs ls hI hl
  exact va_gets hx hb (hZ s hF) hI.2.2.1 hown (hts _ hw) (fun _ h => h) dd (k H locs ls hI hl)
theorem g_ti (C : GB l D tys A F R cc nL own Ts ro ini G) {t N : Nat} {f : Nat → Int32} {i : Int32} (hT : ∀ s, F s → va_T .int t N (fun j => .int (f j)) A s s.heap) (dd : decode cc pc = .ok (.iaload, 1)) (hi0 : vp_in i N) (hn : pc + 1 = q) (k : G kc ks w L q (.int (f i.toNatClampNeg) :: st)) : G kc ks w L pc (.int i :: .ref t :: st) := by
  obtain ⟨p, e, s, m, args, below, meth, c, Q, rfl, hx, hb, hml, hown, hts, hK, hF, hi⟩ := C
  subst hn
  intro H locs ls hI hl
  exact va_ti hx hb (hT s hF) hI.2.2.1 hi0 rfl dd (k H locs ls hI hl)
end GZ
