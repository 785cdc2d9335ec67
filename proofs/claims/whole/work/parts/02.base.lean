/-! THE JUDGEMENT G: a walk of one method, its context packed into one hypothesis C : GB .. G. Worlds, locals and stack are what a row speaks of. -/
abbrev LL : Type := List (Nat × Value)
abbrev TT : Type := List (ClassId × FieldType)
def gPc (D : va_G) (tys : TT) (A : Nat → Prop) (F : State → Prop) (w : va_W) (avs : List Value) : Array Value → State → Prop := va_Pc avs (fun U => va_P D vwCl w U.heap ∧ va_K D vwCl tys U ∧ va_D A w ∧ F U)
def gI (ro : Bool) (D : va_G) (A : Nat → Prop) (s : State) (w : va_W) (H : Heap) (locs : List Loc) : Prop := va_P D vwCl w H ∧ va_D A w ∧ va_S A s.heap H locs ∧ (ro = true → H = s.heap ∧ locs = [])
def GB (l : Launch) (D : va_G) (tys : TT) (A : Nat → Prop) (F : State → Prop) (R : Room) (cc : ByteArray) (nL : Nat) (own : String) (Ts : List Cond) (ro ini : Bool) (G : Nat → Nat → va_W → LL → Nat → List Value → Prop) : Prop :=
  ∃ (p : Program) (e : Env) (s : State) (m : MethodId) (args : Array Value) (below : List Frame) (meth : Method) (c : Code) (Q : State → Prop),
    G = (fun cells slots w L pc st => ∀ (H : Heap) (locs : List Loc) (ls : Array Slot), gI ro D A s w H locs → lv_has ls nL L → W p l e R s m args below meth c H locs cells slots Q (F0 m pc ls st)) ∧
    p.tables.exec = Jvm.exec ∧ c.code = cc ∧ c.maxLocals = nL ∧ s.vm.findClass own = some m.cls ∧ (∀ x ∈ Ts, x.before args s = true) ∧ va_K D vwCl tys s ∧ F s ∧ (ini = true → meth.name = "<init>")
theorem lset_self {α : Type} : ∀ {l : List α} {z : Nat} {a : α}, l[z]? = some a → l.set z a = l
  | [], _, _, _ => rfl
  | b :: l, 0, a, h => by simp at h; rw [h]; rfl
  | b :: l, z + 1, a, h => by
    rw [List.set_cons_succ, lset_self (l := l) (z := z) (by simpa using h)]
theorem map_fm0 {α β : Type} {f : α → Option β} : ∀ {l : List α} {r : List β}, l.map f = r.map some → l.filterMap f = r
  | [], [], _ => rfl
  | [], _ :: _, h => by simp at h
  | a :: l, [], h => by simp at h
  | a :: l, b :: r, h => by
    simp only [List.map_cons, List.cons.injEq] at h
    rw [List.filterMap_cons, h.1, map_fm0 h.2]
section GR
variable {l : Launch} {D : va_G} {tys : TT} {A : Nat → Prop} {F : State → Prop} {R : Room} {cc : ByteArray} {nL : Nat} {own : String} {Ts : List Cond} {ro ini : Bool} {G : Nat → Nat → va_W → LL → Nat → List Value → Prop}
variable {kc ks pc q : Nat} {w : va_W} {L : LL} {st : List Value}
theorem g_iadd (C : GB l D tys A F R cc nL own Ts ro ini G) {x y : Int32} (d : decode cc pc = .ok (.iadd, 1))  (hn : pc + 1 = q) (k : G kc ks w L q (.int (x + y) :: st)) : G kc ks w L pc (.int y :: .int x :: st) := by
  obtain ⟨p, e, s, m, args, below, meth, c, Q, rfl, hx, hb, hml, hown, hts, hK, hF, hi⟩ := C
  subst hn
  intro H locs ls hI hl
  exact lv_iadd hx hb d  (k H locs ls hI hl)
theorem g_isub (C : GB l D tys A F R cc nL own Ts ro ini G) {x y : Int32} (d : decode cc pc = .ok (.isub, 1))  (hn : pc + 1 = q) (k : G kc ks w L q (.int (x - y) :: st)) : G kc ks w L pc (.int y :: .int x :: st) := by
  obtain ⟨p, e, s, m, args, below, meth, c, Q, rfl, hx, hb, hml, hown, hts, hK, hF, hi⟩ := C
  subst hn
  intro H locs ls hI hl
  exact lv_isub hx hb d  (k H locs ls hI hl)
theorem g_imul (C : GB l D tys A F R cc nL own Ts ro ini G) {x y : Int32} (d : decode cc pc = .ok (.imul, 1))  (hn : pc + 1 = q) (k : G kc ks w L q (.int (x * y) :: st)) : G kc ks w L pc (.int y :: .int x :: st) := by
  obtain ⟨p, e, s, m, args, below, meth, c, Q, rfl, hx, hb, hml, hown, hts, hK, hF, hi⟩ := C
  subst hn
  intro H locs ls hI hl
  exact lv_imul hx hb d  (k H locs ls hI hl)
theorem g_iand (C : GB l D tys A F R cc nL own Ts ro ini G) {x y : Int32} (d : decode cc pc = .ok (.iand, 1))  (hn : pc + 1 = q) (k : G kc ks w L q (.int (x &&& y) :: st)) : G kc ks w L pc (.int y :: .int x :: st) := by
  obtain ⟨p, e, s, m, args, below, meth, c, Q, rfl, hx, hb, hml, hown, hts, hK, hF, hi⟩ := C
  subst hn
  intro H locs ls hI hl
  exact lv_iand hx hb d  (k H locs ls hI hl)
theorem g_idiv (C : GB l D tys A F R cc nL own Ts ro ini G) {x y : Int32} (d : decode cc pc = .ok (.idiv, 1)) (hne : ¬ y = 0) (hn : pc + 1 = q) (k : G kc ks w L q (.int (x / y) :: st)) : G kc ks w L pc (.int y :: .int x :: st) := by
  obtain ⟨p, e, s, m, args, below, meth, c, Q, rfl, hx, hb, hml, hown, hts, hK, hF, hi⟩ := C
  subst hn
  intro H locs ls hI hl
  exact lv_idiv hx hb d hne (k H locs ls hI hl)
theorem g_ineg (C : GB l D tys A F R cc nL own Ts ro ini G) {x : Int32} (d : decode cc pc = .ok (.ineg, 1))  (hn : pc + 1 = q) (k : G kc ks w L q (.int (-x) :: st)) : G kc ks w L pc (.int x :: st) := by
  obtain ⟨p, e, s, m, args, below, meth, c, Q, rfl, hx, hb, hml, hown, hts, hK, hF, hi⟩ := C
  subst hn
  intro H locs ls hI hl
  exact lv_ineg hx hb d  (k H locs ls hI hl)
theorem g_ladd (C : GB l D tys A F R cc nL own Ts ro ini G) {x y : Int64} (d : decode cc pc = .ok (.ladd, 1))  (hn : pc + 1 = q) (k : G kc ks w L q (.long (x + y) :: st)) : G kc ks w L pc (.long y :: .long x :: st) := by
  obtain ⟨p, e, s, m, args, below, meth, c, Q, rfl, hx, hb, hml, hown, hts, hK, hF, hi⟩ := C
  subst hn
  intro H locs ls hI hl
  exact lv_ladd hx hb d  (k H locs ls hI hl)
theorem g_lmul (C : GB l D tys A F R cc nL own Ts ro ini G) {x y : Int64} (d : decode cc pc = .ok (.lmul, 1))  (hn : pc + 1 = q) (k : G kc ks w L q (.long (x * y) :: st)) : G kc ks w L pc (.long y :: .long x :: st) := by
  obtain ⟨p, e, s, m, args, below, meth, c, Q, rfl, hx, hb, hml, hown, hts, hK, hF, hi⟩ := C
  subst hn
  intro H locs ls hI hl
  exact lv_lmul hx hb d  (k H locs ls hI hl)
theorem g_land (C : GB l D tys A F R cc nL own Ts ro ini G) {x y : Int64} (d : decode cc pc = .ok (.land, 1))  (hn : pc + 1 = q) (k : G kc ks w L q (.long (x &&& y) :: st)) : G kc ks w L pc (.long y :: .long x :: st) := by
  obtain ⟨p, e, s, m, args, below, meth, c, Q, rfl, hx, hb, hml, hown, hts, hK, hF, hi⟩ := C
  subst hn
  intro H locs ls hI hl
  exact lv_land hx hb d  (k H locs ls hI hl)
theorem g_ldiv (C : GB l D tys A F R cc nL own Ts ro ini G) {x y : Int64} (d : decode cc pc = .ok (.ldiv, 1)) (hne : ¬ y = 0) (hn : pc + 1 = q) (k : G kc ks w L q (.long (x / y) :: st)) : G kc ks w L pc (.long y :: .long x :: st) := by
  obtain ⟨p, e, s, m, args, below, meth, c, Q, rfl, hx, hb, hml, hown, hts, hK, hF, hi⟩ := C
  subst hn
  intro H locs ls hI hl
  exact lv_ldiv hx hb d hne (k H locs ls hI hl)
theorem g_lrem (C : GB l D tys A F R cc nL own Ts ro ini G) {x y : Int64} (d : decode cc pc = .ok (.lrem, 1)) (hne : ¬ y = 0) (hn : pc + 1 = q) (k : G kc ks w L q (.long (x - x / y * y) :: st)) : G kc ks w L pc (.long y :: .long x :: st) := by
  obtain ⟨p, e, s, m, args, below, meth, c, Q, rfl, hx, hb, hml, hown, hts, hK, hF, hi⟩ := C
  subst hn
  intro H locs ls hI hl
  exact lv_lrem hx hb d hne (k H locs ls hI hl)
theorem g_lshl (C : GB l D tys A F R cc nL own Ts ro ini G) {x : Int64} {y : Int32} (d : decode cc pc = .ok (.lshl, 1))  (hn : pc + 1 = q) (k : G kc ks w L q (.long (x <<< (y.toInt64 &&& 63)) :: st)) : G kc ks w L pc (.int y :: .long x :: st) := by
  obtain ⟨p, e, s, m, args, below, meth, c, Q, rfl, hx, hb, hml, hown, hts, hK, hF, hi⟩ := C
  subst hn
  intro H locs ls hI hl
  exact lv_lshl hx hb d rfl (k H locs ls hI hl)
theorem g_lshr (C : GB l D tys A F R cc nL own Ts ro ini G) {x : Int64} {y : Int32} (d : decode cc pc = .ok (.lshr, 1))  (hn : pc + 1 = q) (k : G kc ks w L q (.long (x >>> (y.toInt64 &&& 63)) :: st)) : G kc ks w L pc (.int y :: .long x :: st) := by
  obtain ⟨p, e, s, m, args, below, meth, c, Q, rfl, hx, hb, hml, hown, hts, hK, hF, hi⟩ := C
  subst hn
  intro H locs ls hI hl
  exact lv_lshr hx hb d rfl (k H locs ls hI hl)
theorem g_i2l (C : GB l D tys A F R cc nL own Ts ro ini G) {x : Int32} (d : decode cc pc = .ok (.i2l, 1))  (hn : pc + 1 = q) (k : G kc ks w L q (.long x.toInt64 :: st)) : G kc ks w L pc (.int x :: st) := by
  obtain ⟨p, e, s, m, args, below, meth, c, Q, rfl, hx, hb, hml, hown, hts, hK, hF, hi⟩ := C
  subst hn
  intro H locs ls hI hl
  exact lv_i2l hx hb d rfl (k H locs ls hI hl)
theorem g_l2i (C : GB l D tys A F R cc nL own Ts ro ini G) {x : Int64} (d : decode cc pc = .ok (.l2i, 1))  (hn : pc + 1 = q) (k : G kc ks w L q (.int x.toInt32 :: st)) : G kc ks w L pc (.long x :: st) := by
  obtain ⟨p, e, s, m, args, below, meth, c, Q, rfl, hx, hb, hml, hown, hts, hK, hF, hi⟩ := C
  subst hn
  intro H locs ls hI hl
  exact lv_l2i hx hb d rfl (k H locs ls hI hl)
theorem g_dup (C : GB l D tys A F R cc nL own Ts ro ini G) {v : Value} (d : decode cc pc = .ok (.dup, 1)) (hv : v.category = 1) (hn : pc + 1 = q) (k : G kc ks w L q (v :: v :: st)) : G kc ks w L pc (v :: st) := by
  obtain ⟨p, e, s, m, args, below, meth, c, Q, rfl, hx, hb, hml, hown, hts, hK, hF, hi⟩ := C
  subst hn
  intro H locs ls hI hl
  exact lv_dup hx hb d hv (k H locs ls hI hl)
theorem g_lcmp (C : GB l D tys A F R cc nL own Ts ro ini G) {x y : Int64} (d : decode cc pc = .ok (.lcmp, 1)) (hn : pc + 1 = q) (k : G kc ks w L q (.int (lg_cmp x y) :: st)) : G kc ks w L pc (.long y :: .long x :: st) := by
  obtain ⟨p, e, s, m, args, below, meth, c, Q, rfl, hx, hb, hml, hown, hts, hK, hF, hi⟩ := C
  subst hn
  intro H locs ls hI hl
  exact W.lcmp hx hb d (k H locs ls hI hl)
theorem g_iconst (C : GB l D tys A F R cc nL own Ts ro ini G) {n : Int} (v : Int32) (d : decode cc pc = .ok (.iconst n, 1)) (hv : Int32.ofInt n = v) (hn : pc + 1 = q) (k : G kc ks w L q (.int v :: st)) : G kc ks w L pc st := by
  obtain ⟨p, e, s, m, args, below, meth, c, Q, rfl, hx, hb, hml, hown, hts, hK, hF, hi⟩ := C
  subst hn
  intro H locs ls hI hl
  exact lv_iconst hx hb d hv (k H locs ls hI hl)
theorem g_bipush (C : GB l D tys A F R cc nL own Ts ro ini G) {n : Int} (v : Int32) (d : decode cc pc = .ok (.bipush n, 2)) (hv : (Int8.ofInt n).toInt32 = v) (hn : pc + 2 = q) (k : G kc ks w L q (.int v :: st)) : G kc ks w L pc st := by
  obtain ⟨p, e, s, m, args, below, meth, c, Q, rfl, hx, hb, hml, hown, hts, hK, hF, hi⟩ := C
  subst hn
  intro H locs ls hI hl
  exact lv_bipush hx hb d hv (k H locs ls hI hl)
theorem g_sipush (C : GB l D tys A F R cc nL own Ts ro ini G) {n : Int} (v : Int32) (d : decode cc pc = .ok (.sipush n, 3)) (hv : (Int16.ofInt n).toInt32 = v) (hn : pc + 3 = q) (k : G kc ks w L q (.int v :: st)) : G kc ks w L pc st := by
  obtain ⟨p, e, s, m, args, below, meth, c, Q, rfl, hx, hb, hml, hown, hts, hK, hF, hi⟩ := C
  subst hn
  intro H locs ls hI hl
  exact lv_sipush hx hb d hv (k H locs ls hI hl)
theorem g_lconst (C : GB l D tys A F R cc nL own Ts ro ini G) {n : Fin 2} (v : Int64) (d : decode cc pc = .ok (.lconst n, 1)) (hv : Int64.ofNat (n : Nat) = v) (hn : pc + 1 = q) (k : G kc ks w L q (.long v :: st)) : G kc ks w L pc st := by
  obtain ⟨p, e, s, m, args, below, meth, c, Q, rfl, hx, hb, hml, hown, hts, hK, hF, hi⟩ := C
  subst hn
  intro H locs ls hI hl
  exact lv_lconst hx hb d hv (k H locs ls hI hl)
theorem g_ldc (C : GB l D tys A F R cc nL own Ts ro ini G) {i : Nat} {v : Int32} (d : decode cc pc = .ok (.ldc i, 2)) (hw : Cond.constant own i v ∈ Ts) (hn : pc + 2 = q) (k : G kc ks w L q (.int v :: st)) : G kc ks w L pc st := by
  obtain ⟨p, e, s, m, args, below, meth, c, Q, rfl, hx, hb, hml, hown, hts, hK, hF, hi⟩ := C
  subst hn
  intro H locs ls hI hl
  exact lv_ldc hx hb hown (hts _ hw) d (k H locs ls hI hl)
theorem g_ldc2 (C : GB l D tys A F R cc nL own Ts ro ini G) {i : Nat} {v : Int64} (d : decode cc pc = .ok (.ldc2_w i, 3)) (hw : Cond.constantLong own i v ∈ Ts) (hn : pc + 3 = q) (k : G kc ks w L q (.long v :: st)) : G kc ks w L pc st := by
  obtain ⟨p, e, s, m, args, below, meth, c, Q, rfl, hx, hb, hml, hown, hts, hK, hF, hi⟩ := C
  subst hn
  intro H locs ls hI hl
  exact lv_ldc2 hx hb hown (hts _ hw) d (k H locs ls hI hl)
theorem g_iload_n (C : GB l D tys A F R cc nL own Ts ro ini G) {i : Nat} {j : Fin 4} {x : Int32} (z : Nat) (d : decode cc pc = .ok (.iload_n j, 1)) (hj : (j : Nat) = i) (h : L[z]? = some (i, .int x)) (hn : pc + 1 = q) (k : G kc ks w L q (.int x :: st)) : G kc ks w L pc st := by
  obtain ⟨p, e, s, m, args, below, meth, c, Q, rfl, hx, hb, hml, hown, hts, hK, hF, hi⟩ := C
  subst hn
  intro H locs ls hI hl
  exact lv_iload_n hx hb d hj (lv_at hl z h) (k H locs ls hI hl)
theorem g_iload (C : GB l D tys A F R cc nL own Ts ro ini G) {i : Nat} {x : Int32} (z : Nat) (d : decode cc pc = .ok (.iload i, 2)) (h : L[z]? = some (i, .int x)) (hn : pc + 2 = q) (k : G kc ks w L q (.int x :: st)) : G kc ks w L pc st := by
  obtain ⟨p, e, s, m, args, below, meth, c, Q, rfl, hx, hb, hml, hown, hts, hK, hF, hi⟩ := C
  subst hn
  intro H locs ls hI hl
  exact lv_iload hx hb d (lv_at hl z h) (k H locs ls hI hl)
theorem g_istore_n (C : GB l D tys A F R cc nL own Ts ro ini G) {i : Nat} {j : Fin 4} {x : Int32} (L' : LL) (d : decode cc pc = .ok (.istore_n j, 1)) (hj : (j : Nat) = i) (hnl : i < nL) (h : (i, Value.int x) :: L.filter (fun q => !(q.1 == i) && !(q.1 + 1 == i && q.2.category == 2)) = L') (hn : pc + 1 = q) (k : G kc ks w L' q st) : G kc ks w L pc (.int x :: st) := by
  obtain ⟨p, e, s, m, args, below, meth, c, Q, rfl, hx, hb, hml, hown, hts, hK, hF, hi⟩ := C
  subst hn
  intro H locs ls hI hl
  exact lv_istore_n hx hb d hj hl hnl h (fun ls hl => k H locs ls hI hl)
theorem g_istore (C : GB l D tys A F R cc nL own Ts ro ini G) {i : Nat} {x : Int32} (L' : LL) (d : decode cc pc = .ok (.istore i, 2)) (hnl : i < nL) (h : (i, Value.int x) :: L.filter (fun q => !(q.1 == i) && !(q.1 + 1 == i && q.2.category == 2)) = L') (hn : pc + 2 = q) (k : G kc ks w L' q st) : G kc ks w L pc (.int x :: st) := by
  obtain ⟨p, e, s, m, args, below, meth, c, Q, rfl, hx, hb, hml, hown, hts, hK, hF, hi⟩ := C
  subst hn
  intro H locs ls hI hl
  exact lv_istore hx hb d hl hnl h (fun ls hl => k H locs ls hI hl)
theorem g_lload_n (C : GB l D tys A F R cc nL own Ts ro ini G) {i : Nat} {j : Fin 4} {x : Int64} (z : Nat) (d : decode cc pc = .ok (.lload_n j, 1)) (hj : (j : Nat) = i) (h : L[z]? = some (i, .long x)) (hn : pc + 1 = q) (k : G kc ks w L q (.long x :: st)) : G kc ks w L pc st := by
  obtain ⟨p, e, s, m, args, below, meth, c, Q, rfl, hx, hb, hml, hown, hts, hK, hF, hi⟩ := C
  subst hn
  intro H locs ls hI hl
  exact lv_lload_n hx hb d hj (lv_at hl z h) (k H locs ls hI hl)
theorem g_lload (C : GB l D tys A F R cc nL own Ts ro ini G) {i : Nat} {x : Int64} (z : Nat) (d : decode cc pc = .ok (.lload i, 2)) (h : L[z]? = some (i, .long x)) (hn : pc + 2 = q) (k : G kc ks w L q (.long x :: st)) : G kc ks w L pc st := by
  obtain ⟨p, e, s, m, args, below, meth, c, Q, rfl, hx, hb, hml, hown, hts, hK, hF, hi⟩ := C
  subst hn
  intro H locs ls hI hl
  exact lv_lload hx hb d (lv_at hl z h) (k H locs ls hI hl)
theorem g_lstore_n (C : GB l D tys A F R cc nL own Ts ro ini G) {i : Nat} {j : Fin 4} {x : Int64} (L' : LL) (d : decode cc pc = .ok (.lstore_n j, 1)) (hj : (j : Nat) = i) (hnl : i + 1 < nL) (h : (i, Value.long x) :: L.filter (fun q => !(q.1 == i) && (!(q.1 == i + 1) && !(q.1 + 1 == i && q.2.category == 2))) = L') (hn : pc + 1 = q) (k : G kc ks w L' q st) : G kc ks w L pc (.long x :: st) := by
  obtain ⟨p, e, s, m, args, below, meth, c, Q, rfl, hx, hb, hml, hown, hts, hK, hF, hi⟩ := C
  subst hn
  intro H locs ls hI hl
  exact lv_lstore_n hx hb d hj hl hnl h (fun ls hl => k H locs ls hI hl)
theorem g_lstore (C : GB l D tys A F R cc nL own Ts ro ini G) {i : Nat} {x : Int64} (L' : LL) (d : decode cc pc = .ok (.lstore i, 2)) (hnl : i + 1 < nL) (h : (i, Value.long x) :: L.filter (fun q => !(q.1 == i) && (!(q.1 == i + 1) && !(q.1 + 1 == i && q.2.category == 2))) = L') (hn : pc + 2 = q) (k : G kc ks w L' q st) : G kc ks w L pc (.long x :: st) := by
  obtain ⟨p, e, s, m, args, below, meth, c, Q, rfl, hx, hb, hml, hown, hts, hK, hF, hi⟩ := C
  subst hn
  intro H locs ls hI hl
  exact lv_lstore hx hb d hl hnl h (fun ls hl => k H locs ls hI hl)
theorem g_aload_n (C : GB l D tys A F R cc nL own Ts ro ini G) {i : Nat} {j : Fin 4} {x : Nat} (z : Nat) (d : decode cc pc = .ok (.aload_n j, 1)) (hj : (j : Nat) = i) (h : L[z]? = some (i, .ref x)) (hn : pc + 1 = q) (k : G kc ks w L q (.ref x :: st)) : G kc ks w L pc st := by
  obtain ⟨p, e, s, m, args, below, meth, c, Q, rfl, hx, hb, hml, hown, hts, hK, hF, hi⟩ := C
  subst hn
  intro H locs ls hI hl
  exact lv_aload_n hx hb d hj (lv_at hl z h) (k H locs ls hI hl)
theorem g_aload (C : GB l D tys A F R cc nL own Ts ro ini G) {i : Nat} {x : Nat} (z : Nat) (d : decode cc pc = .ok (.aload i, 2)) (h : L[z]? = some (i, .ref x)) (hn : pc + 2 = q) (k : G kc ks w L q (.ref x :: st)) : G kc ks w L pc st := by
  obtain ⟨p, e, s, m, args, below, meth, c, Q, rfl, hx, hb, hml, hown, hts, hK, hF, hi⟩ := C
  subst hn
  intro H locs ls hI hl
  exact lv_aload hx hb d (lv_at hl z h) (k H locs ls hI hl)
theorem g_astore_n (C : GB l D tys A F R cc nL own Ts ro ini G) {i : Nat} {j : Fin 4} {x : Nat} (L' : LL) (d : decode cc pc = .ok (.astore_n j, 1)) (hj : (j : Nat) = i) (hnl : i < nL) (h : (i, Value.ref x) :: L.filter (fun q => !(q.1 == i) && !(q.1 + 1 == i && q.2.category == 2)) = L') (hn : pc + 1 = q) (k : G kc ks w L' q st) : G kc ks w L pc (.ref x :: st) := by
  obtain ⟨p, e, s, m, args, below, meth, c, Q, rfl, hx, hb, hml, hown, hts, hK, hF, hi⟩ := C
  subst hn
  intro H locs ls hI hl
  exact lv_astore_n hx hb d hj hl hnl h (fun ls hl => k H locs ls hI hl)
theorem g_astore (C : GB l D tys A F R cc nL own Ts ro ini G) {i : Nat} {x : Nat} (L' : LL) (d : decode cc pc = .ok (.astore i, 2)) (hnl : i < nL) (h : (i, Value.ref x) :: L.filter (fun q => !(q.1 == i) && !(q.1 + 1 == i && q.2.category == 2)) = L') (hn : pc + 2 = q) (k : G kc ks w L' q st) : G kc ks w L pc (.ref x :: st) := by
  obtain ⟨p, e, s, m, args, below, meth, c, Q, rfl, hx, hb, hml, hown, hts, hK, hF, hi⟩ := C
  subst hn
  intro H locs ls hI hl
  exact lv_astore hx hb d hl hnl h (fun ls hl => k H locs ls hI hl)
theorem g_iinc (C : GB l D tys A F R cc nL own Ts ro ini G) {i z : Nat} {n : Int} {x : Int32} (v : Int32) (L' : LL) (d : decode cc pc = .ok (.iinc i n, 3)) (hz : L[z]? = some (i, .int x)) (hv : x + Int32.ofInt n = v) (hnl : i < nL) (h : (i, Value.int v) :: L.filter (fun q => !(q.1 == i) && !(q.1 + 1 == i && q.2.category == 2)) = L') (hn : pc + 3 = q) (k : G kc ks w L' q st) : G kc ks w L pc st := by
  obtain ⟨p, e, s, m, args, below, meth, c, Q, rfl, hx, hb, hml, hown, hts, hK, hF, hi⟩ := C
  subst hn
  intro H locs ls hI hl
  exact lv_iinc hx hb d hl hz hv hnl h (fun ls hl => k H locs ls hI hl)
theorem g_locs (C : GB l D tys A F R cc nL own Ts ro ini G) (L' : LL) (zs : List Nat) (h : lv_pick L zs = L') (k : G kc ks w L' pc st) : G kc ks w L pc st := by
  obtain ⟨p, e, s, m, args, below, meth, c, Q, rfl, hx, hb, hml, hown, hts, hK, hF, hi⟩ := C
  intro H locs ls hI hl
  exact k H locs ls hI (lv_sub hl zs h)
theorem g_perm (C : GB l D tys A F R cc nL own Ts ro ini G) (w' : va_W) (zs : List Nat) (h : zs.map (fun i => w[i]?) = w'.map some) (hn : va_nd zs = true) (k : G kc ks w' L pc st) : G kc ks w L pc st := by
  obtain ⟨p, e, s, m, args, below, meth, c, Q, rfl, hx, hb, hml, hown, hts, hK, hF, hi⟩ := C
  intro H locs ls hI hl
  exact k H locs ls ⟨hI.1.sub zs (map_fm0 h), hI.2.1.sub zs hn h, hI.2.2⟩ hl
theorem g_lset (C : GB l D tys A F R cc nL own Ts ro ini G) {i z : Nat} {x y : Int32} (L' : LL) (hz : L[z]? = some (i, .int x)) (h : x = y) (hs : L.set z (i, .int y) = L') (k : G kc ks w L' pc st) : G kc ks w L pc st := by
  obtain ⟨p, e, s, m, args, below, meth, c, Q, rfl, hx, hb, hml, hown, hts, hK, hF, hi⟩ := C
  intro H locs ls hI hl
  subst h; rw [lset_self hz] at hs; subst hs; exact k H locs ls hI hl
theorem g_eqi (C : GB l D tys A F R cc nL own Ts ro ini G) {x y : Int32} (h : x = y) (k : G kc ks w L pc (.int y :: st)) : G kc ks w L pc (.int x :: st) := by
  obtain ⟨p, e, s, m, args, below, meth, c, Q, rfl, hx, hb, hml, hown, hts, hK, hF, hi⟩ := C
  intro H locs ls hI hl
  rw [h]; exact k H locs ls hI hl
theorem g_eql (C : GB l D tys A F R cc nL own Ts ro ini G) {x y : Int64} (h : x = y) (k : G kc ks w L pc (.long y :: st)) : G kc ks w L pc (.long x :: st) := by
  obtain ⟨p, e, s, m, args, below, meth, c, Q, rfl, hx, hb, hml, hown, hts, hK, hF, hi⟩ := C
  intro H locs ls hI hl
  rw [h]; exact k H locs ls hI hl
theorem g_goto (C : GB l D tys A F R cc nL own Ts ro ini G) {off : Int} (d : decode cc pc = .ok (.goto off, 3)) (ht : (pc : Int) + off = (q : Int)) (k : G kc ks w L q st) : G kc ks w L pc st := by
  obtain ⟨p, e, s, m, args, below, meth, c, Q, rfl, hx, hb, hml, hown, hts, hK, hF, hi⟩ := C
  intro H locs ls hI hl
  exact lv_goto hx hb d ht (k H locs ls hI hl)
theorem g_if_eq (C : GB l D tys A F R cc nL own Ts ro ini G) {x : Int32} {off : Int} {t : Nat} (d : decode cc pc = .ok (.ifCond .eq off, 3)) (ht : (pc : Int) + off = (t : Int)) (hn : pc + 3 = q) (kt : x = 0 → G kc ks w L t st) (kf : ¬ x = 0 → G kc ks w L q st) : G kc ks w L pc (.int x :: st) := by
  obtain ⟨p, e, s, m, args, below, meth, c, Q, rfl, hx, hb, hml, hown, hts, hK, hF, hi⟩ := C
  subst hn
  intro H locs ls hI hl
  exact lv_if_eq hx hb d ht (fun h => kt h H locs ls hI hl) (fun h => kf h H locs ls hI hl)
theorem g_if_ne (C : GB l D tys A F R cc nL own Ts ro ini G) {x : Int32} {off : Int} {t : Nat} (d : decode cc pc = .ok (.ifCond .ne off, 3)) (ht : (pc : Int) + off = (t : Int)) (hn : pc + 3 = q) (kt : ¬ x = 0 → G kc ks w L t st) (kf : x = 0 → G kc ks w L q st) : G kc ks w L pc (.int x :: st) := by
  obtain ⟨p, e, s, m, args, below, meth, c, Q, rfl, hx, hb, hml, hown, hts, hK, hF, hi⟩ := C
  subst hn
  intro H locs ls hI hl
  exact lv_if_ne hx hb d ht (fun h => kt h H locs ls hI hl) (fun h => kf h H locs ls hI hl)
theorem g_if_lt (C : GB l D tys A F R cc nL own Ts ro ini G) {x : Int32} {off : Int} {t : Nat} (d : decode cc pc = .ok (.ifCond .lt off, 3)) (ht : (pc : Int) + off = (t : Int)) (hn : pc + 3 = q) (kt : x < 0 → G kc ks w L t st) (kf : ¬ x < 0 → G kc ks w L q st) : G kc ks w L pc (.int x :: st) := by
  obtain ⟨p, e, s, m, args, below, meth, c, Q, rfl, hx, hb, hml, hown, hts, hK, hF, hi⟩ := C
  subst hn
  intro H locs ls hI hl
  exact lv_if_lt hx hb d ht (fun h => kt h H locs ls hI hl) (fun h => kf h H locs ls hI hl)
theorem g_if_ge (C : GB l D tys A F R cc nL own Ts ro ini G) {x : Int32} {off : Int} {t : Nat} (d : decode cc pc = .ok (.ifCond .ge off, 3)) (ht : (pc : Int) + off = (t : Int)) (hn : pc + 3 = q) (kt : 0 ≤ x → G kc ks w L t st) (kf : ¬ 0 ≤ x → G kc ks w L q st) : G kc ks w L pc (.int x :: st) := by
  obtain ⟨p, e, s, m, args, below, meth, c, Q, rfl, hx, hb, hml, hown, hts, hK, hF, hi⟩ := C
  subst hn
  intro H locs ls hI hl
  exact lv_if_ge hx hb d ht (fun h => kt h H locs ls hI hl) (fun h => kf h H locs ls hI hl)
theorem g_if_gt (C : GB l D tys A F R cc nL own Ts ro ini G) {x : Int32} {off : Int} {t : Nat} (d : decode cc pc = .ok (.ifCond .gt off, 3)) (ht : (pc : Int) + off = (t : Int)) (hn : pc + 3 = q) (kt : 0 < x → G kc ks w L t st) (kf : ¬ 0 < x → G kc ks w L q st) : G kc ks w L pc (.int x :: st) := by
  obtain ⟨p, e, s, m, args, below, meth, c, Q, rfl, hx, hb, hml, hown, hts, hK, hF, hi⟩ := C
  subst hn
  intro H locs ls hI hl
  exact lv_if_gt hx hb d ht (fun h => kt h H locs ls hI hl) (fun h => kf h H locs ls hI hl)
theorem g_if_le (C : GB l D tys A F R cc nL own Ts ro ini G) {x : Int32} {off : Int} {t : Nat} (d : decode cc pc = .ok (.ifCond .le off, 3)) (ht : (pc : Int) + off = (t : Int)) (hn : pc + 3 = q) (kt : x ≤ 0 → G kc ks w L t st) (kf : ¬ x ≤ 0 → G kc ks w L q st) : G kc ks w L pc (.int x :: st) := by
  obtain ⟨p, e, s, m, args, below, meth, c, Q, rfl, hx, hb, hml, hown, hts, hK, hF, hi⟩ := C
  subst hn
  intro H locs ls hI hl
  exact lv_if_le hx hb d ht (fun h => kt h H locs ls hI hl) (fun h => kf h H locs ls hI hl)
theorem g_icmp_eq (C : GB l D tys A F R cc nL own Ts ro ini G) {x y : Int32} {off : Int} {t : Nat} (d : decode cc pc = .ok (.if_icmp .eq off, 3)) (ht : (pc : Int) + off = (t : Int)) (hn : pc + 3 = q) (kt : x = y → G kc ks w L t st) (kf : ¬ x = y → G kc ks w L q st) : G kc ks w L pc (.int y :: .int x :: st) := by
  obtain ⟨p, e, s, m, args, below, meth, c, Q, rfl, hx, hb, hml, hown, hts, hK, hF, hi⟩ := C
  subst hn
  intro H locs ls hI hl
  exact lv_icmp_eq hx hb d ht (fun h => kt h H locs ls hI hl) (fun h => kf h H locs ls hI hl)
theorem g_icmp_ne (C : GB l D tys A F R cc nL own Ts ro ini G) {x y : Int32} {off : Int} {t : Nat} (d : decode cc pc = .ok (.if_icmp .ne off, 3)) (ht : (pc : Int) + off = (t : Int)) (hn : pc + 3 = q) (kt : ¬ x = y → G kc ks w L t st) (kf : x = y → G kc ks w L q st) : G kc ks w L pc (.int y :: .int x :: st) := by
  obtain ⟨p, e, s, m, args, below, meth, c, Q, rfl, hx, hb, hml, hown, hts, hK, hF, hi⟩ := C
  subst hn
  intro H locs ls hI hl
  exact lv_icmp_ne hx hb d ht (fun h => kt h H locs ls hI hl) (fun h => kf h H locs ls hI hl)
theorem g_icmp_lt (C : GB l D tys A F R cc nL own Ts ro ini G) {x y : Int32} {off : Int} {t : Nat} (d : decode cc pc = .ok (.if_icmp .lt off, 3)) (ht : (pc : Int) + off = (t : Int)) (hn : pc + 3 = q) (kt : x < y → G kc ks w L t st) (kf : ¬ x < y → G kc ks w L q st) : G kc ks w L pc (.int y :: .int x :: st) := by
  obtain ⟨p, e, s, m, args, below, meth, c, Q, rfl, hx, hb, hml, hown, hts, hK, hF, hi⟩ := C
  subst hn
  intro H locs ls hI hl
  exact lv_icmp_lt hx hb d ht (fun h => kt h H locs ls hI hl) (fun h => kf h H locs ls hI hl)
theorem g_icmp_ge (C : GB l D tys A F R cc nL own Ts ro ini G) {x y : Int32} {off : Int} {t : Nat} (d : decode cc pc = .ok (.if_icmp .ge off, 3)) (ht : (pc : Int) + off = (t : Int)) (hn : pc + 3 = q) (kt : y ≤ x → G kc ks w L t st) (kf : ¬ y ≤ x → G kc ks w L q st) : G kc ks w L pc (.int y :: .int x :: st) := by
  obtain ⟨p, e, s, m, args, below, meth, c, Q, rfl, hx, hb, hml, hown, hts, hK, hF, hi⟩ := C
  subst hn
  intro H locs ls hI hl
  exact lv_icmp_ge hx hb d ht (fun h => kt h H locs ls hI hl) (fun h => kf h H locs ls hI hl)
theorem g_icmp_gt (C : GB l D tys A F R cc nL own Ts ro ini G) {x y : Int32} {off : Int} {t : Nat} (d : decode cc pc = .ok (.if_icmp .gt off, 3)) (ht : (pc : Int) + off = (t : Int)) (hn : pc + 3 = q) (kt : y < x → G kc ks w L t st) (kf : ¬ y < x → G kc ks w L q st) : G kc ks w L pc (.int y :: .int x :: st) := by
  obtain ⟨p, e, s, m, args, below, meth, c, Q, rfl, hx, hb, hml, hown, hts, hK, hF, hi⟩ := C
  subst hn
  intro H locs ls hI hl
  exact lv_icmp_gt hx hb d ht (fun h => kt h H locs ls hI hl) (fun h => kf h H locs ls hI hl)
theorem g_icmp_le (C : GB l D tys A F R cc nL own Ts ro ini G) {x y : Int32} {off : Int} {t : Nat} (d : decode cc pc = .ok (.if_icmp .le off, 3)) (ht : (pc : Int) + off = (t : Int)) (hn : pc + 3 = q) (kt : x ≤ y → G kc ks w L t st) (kf : ¬ x ≤ y → G kc ks w L q st) : G kc ks w L pc (.int y :: .int x :: st) := by
  obtain ⟨p, e, s, m, args, below, meth, c, Q, rfl, hx, hb, hml, hown, hts, hK, hF, hi⟩ := C
  subst hn
  intro H locs ls hI hl
  exact lv_icmp_le hx hb d ht (fun h => kt h H locs ls hI hl) (fun h => kf h H locs ls hI hl)
theorem g_tableOut (C : GB l D tys A F R cc nL own Ts ro ini G) {dflt lo hi : Int} {offs : Array Int} {len : Nat} {x : Int32} (d : decode cc pc = .ok (.tableswitch dflt lo hi offs, len)) (h : x.toInt < lo ∨ hi < x.toInt) (ht : (pc : Int) + dflt = (q : Int)) (k : G kc ks w L q st) : G kc ks w L pc (.int x :: st) := by
  obtain ⟨p, e, s, m, args, below, meth, c, Q, rfl, hx, hb, hml, hown, hts, hK, hF, hi⟩ := C
  intro H locs ls hI hl
  exact lv_tableOut hx hb d h ht (k H locs ls hI hl)
theorem g_tableIn (C : GB l D tys A F R cc nL own Ts ro ini G) {dflt lo hi off : Int} {offs : Array Int} {len : Nat} {x : Int32} (d : decode cc pc = .ok (.tableswitch dflt lo hi offs, len)) (h1 : ¬ x.toInt < lo) (h2 : ¬ hi < x.toInt) (ho : offs[(x.toInt - lo).toNat]? = some off) (ht : (pc : Int) + off = (q : Int)) (k : G kc ks w L q st) : G kc ks w L pc (.int x :: st) := by
  obtain ⟨p, e, s, m, args, below, meth, c, Q, rfl, hx, hb, hml, hown, hts, hK, hF, hi⟩ := C
  intro H locs ls hI hl
  exact lv_tableIn hx hb d h1 h2 ho ht (k H locs ls hI hl)
theorem g_get (C : GB l D tys A F R cc nL own Ts ro ini G) {Cn : String} {T : u_T} {N ci i a : Nat} {fs : List Value} {v : Value} (z : Nat) (f : Nat) (d : decode cc pc = .ok (.getfield i, 3)) (hin : ∀ x ∈ u_ws Cn T N, x ∈ Ts) (he : w[z]? = some (a, .inr (ci, fs))) (hc : vwCl[ci]? = some (Cn, T, N)) (hk : f < N) (hw : Cond.fieldLink own i (T f).1 (T f).2.1 (T f).2.2.1 ∈ Ts) (hv : fs[f]? = some v) (hn : pc + 3 = q) (k : G kc ks w L q (v :: st)) : G kc ks w L pc (.ref a :: st) := by
  obtain ⟨p, e, s, m, args, below, meth, c, Q, rfl, hx, hb, hml, hown, hts, hK, hF, hi⟩ := C
  subst hn
  intro H locs ls hI hl
  exact va_get hx hb hts hin hown hK hI.1 z he hc f hk (hts _ hw) (fun _ h9 => h9) hv d (k H locs ls hI hl)
theorem g_put (C : GB l D tys A F R cc nL own Ts false ini G) {Cn : String} {T : u_T} {N ci i a : Nat} {fs : List Value} {v : Value} {ty0 : Nat → FieldType} (z : Nat) (f : Nat) (w' : va_W) (d : decode cc pc = .ok (.putfield i, 3)) (hin : ∀ x ∈ u_ws Cn T N, x ∈ Ts) (hty : ∀ k, k < N → parseFieldDescriptor (T k).2.2.1 = some (ty0 k)) (hnm : ∀ a, a < N → ∀ b, b < N → a ≠ b → (T a).2.1 ≠ (T b).2.1) (he : w[z]? = some (a, .inr (ci, fs))) (hc : vwCl[ci]? = some (Cn, T, N)) (hk : f < N) (hw : Cond.fieldLink own i (T f).1 (T f).2.1 (T f).2.2.1 ∈ Ts) (hfin : (T f).2.2.2 = false) {ty : FieldType} (hd : parseFieldDescriptor (T f).2.2.1 = some ty) (hnv : narrow ty v = v) (hfit : fits ty v = true) (hfl : f < fs.length) (hs : w.set z (a, .inr (ci, fs.set f v)) = w') (hn : pc + 3 = q) (k : G kc ks w' L q st) : G kc ks w L pc (v :: .ref a :: st) := by
  obtain ⟨p, e, s, m, args, below, meth, c, Q, rfl, hx, hb, hml, hown, hts, hK, hF, hi⟩ := C
  subst hn
  subst hs
  intro H locs ls hI hl
  exact va_put hx hb hts hin ty0 hty hnm hown hK hI.1 hI.2.1 hI.2.2.1 z he hc f hk (hts _ hw) (fun _ h9 => h9) hfin hd hnv hfit hfl d (fun H1 locs1 h1 h2 h3 => k H1 locs1 ls ⟨h1, h2, h3, fun h => by cases h⟩ hl)
theorem g_putF (C : GB l D tys A F R cc nL own Ts false true G) {Cn : String} {T : u_T} {N ci i a : Nat} {fs : List Value} {v : Value} {ty0 : Nat → FieldType} (z : Nat) (f : Nat) (w' : va_W) (d : decode cc pc = .ok (.putfield i, 3)) (hin : ∀ x ∈ u_ws Cn T N, x ∈ Ts) (hty : ∀ k, k < N → parseFieldDescriptor (T k).2.2.1 = some (ty0 k)) (hnm : ∀ a, a < N → ∀ b, b < N → a ≠ b → (T a).2.1 ≠ (T b).2.1) (he : w[z]? = some (a, .inr (ci, fs))) (hc : vwCl[ci]? = some (Cn, T, N)) (hk : f < N) (hw : Cond.fieldLink own i (T f).1 (T f).2.1 (T f).2.2.1 ∈ Ts) (hfin : (T f).2.2.2 = true) (hdc : (T f).1 = own) {ty : FieldType} (hd : parseFieldDescriptor (T f).2.2.1 = some ty) (hnv : narrow ty v = v) (hfit : fits ty v = true) (hfl : f < fs.length) (hs : w.set z (a, .inr (ci, fs.set f v)) = w') (hn : pc + 3 = q) (k : G kc ks w' L q st) : G kc ks w L pc (v :: .ref a :: st) := by
  obtain ⟨p, e, s, m, args, below, meth, c, Q, rfl, hx, hb, hml, hown, hts, hK, hF, hi⟩ := C
  subst hn
  subst hs
  intro H locs ls hI hl
  exact va_putF hx hb hts hin ty0 hty hnm hown hK hI.1 hI.2.1 hI.2.2.1 z he hc f hk (hts _ hw) (fun _ h9 => h9) hfin (hi rfl) hdc hd hnv hfit hfl d (fun H1 locs1 h1 h2 h3 => k H1 locs1 ls ⟨h1, h2, h3, fun h => by cases h⟩ hl)
theorem g_iald (C : GB l D tys A F R cc nL own Ts ro ini G) {cA : ClassId} {a n : Nat} {f : Nat → Int32} {i : Int32} (z t : Nat) (d : decode cc pc = .ok (.iaload, 1)) (he : w[z]? = some (a, .inl (cA, n, .inl f))) (ht : tys[t]? = some (cA, .int)) (hi0 : vp_in i n) (hn : pc + 1 = q) (k : G kc ks w L q (.int (f i.toNatClampNeg) :: st)) : G kc ks w L pc (.int i :: .ref a :: st) := by
  obtain ⟨p, e, s, m, args, below, meth, c, Q, rfl, hx, hb, hml, hown, hts, hK, hF, hi⟩ := C
  subst hn
  intro H locs ls hI hl
  exact va_iald hx hb hK hI.1 z t he ht hi0 d (k H locs ls hI hl)
theorem g_zald (C : GB l D tys A F R cc nL own Ts ro ini G) {cA : ClassId} {a n : Nat} {f : Nat → Int32} {i : Int32} (z t : Nat) (d : decode cc pc = .ok (.baload, 1)) (he : w[z]? = some (a, .inl (cA, n, .inl f))) (ht : tys[t]? = some (cA, .boolean)) (hi0 : vp_in i n) (hn : pc + 1 = q) (k : G kc ks w L q (.int (f i.toNatClampNeg) :: st)) : G kc ks w L pc (.int i :: .ref a :: st) := by
  obtain ⟨p, e, s, m, args, below, meth, c, Q, rfl, hx, hb, hml, hown, hts, hK, hF, hi⟩ := C
  subst hn
  intro H locs ls hI hl
  exact va_zald hx hb hK hI.1 z t he ht hi0 d (k H locs ls hI hl)
theorem g_lald (C : GB l D tys A F R cc nL own Ts ro ini G) {cA : ClassId} {a n : Nat} {f : Nat → Int64} {i : Int32} (z t : Nat) (d : decode cc pc = .ok (.laload, 1)) (he : w[z]? = some (a, .inl (cA, n, .inr (.inl f)))) (ht : tys[t]? = some (cA, .long)) (hi0 : vp_in i n) (hn : pc + 1 = q) (k : G kc ks w L q (.long (f i.toNatClampNeg) :: st)) : G kc ks w L pc (.int i :: .ref a :: st) := by
  obtain ⟨p, e, s, m, args, below, meth, c, Q, rfl, hx, hb, hml, hown, hts, hK, hF, hi⟩ := C
  subst hn
  intro H locs ls hI hl
  exact va_lald hx hb hK hI.1 z t he ht hi0 d (k H locs ls hI hl)
theorem g_iast (C : GB l D tys A F R cc nL own Ts false ini G) {cA : ClassId} {a n : Nat} {f : Nat → Int32} {i : Int32} {x : Int32} (z t : Nat) (w' : va_W) (d : decode cc pc = .ok (.iastore, 1)) (he : w[z]? = some (a, .inl (cA, n, .inl f))) (ht : tys[t]? = some (cA, .int)) (hi0 : vp_in i n) (hs : w.set z (a, .inl (cA, n, .inl (upd f i.toNatClampNeg x))) = w') (hn : pc + 1 = q) (k : G kc ks w' L q st) : G kc ks w L pc (.int x :: .int i :: .ref a :: st) := by
  obtain ⟨p, e, s, m, args, below, meth, c, Q, rfl, hx, hb, hml, hown, hts, hK, hF, hi⟩ := C
  subst hn
  subst hs
  intro H locs ls hI hl
  exact va_iast hx hb hK hI.1 hI.2.1 hI.2.2.1 z t he ht hi0 d (fun H1 locs1 h1 h2 h3 => k H1 locs1 ls ⟨h1, h2, h3, fun h => by cases h⟩ hl)
theorem g_zast (C : GB l D tys A F R cc nL own Ts false ini G) {cA : ClassId} {a n : Nat} {f : Nat → Int32} {i : Int32} {x : Int32} (z t : Nat) (w' : va_W) (d : decode cc pc = .ok (.bastore, 1)) (he : w[z]? = some (a, .inl (cA, n, .inl f))) (ht : tys[t]? = some (cA, .boolean)) (hi0 : vp_in i n) (hs : w.set z (a, .inl (cA, n, .inl (upd f i.toNatClampNeg (vp_nar .boolean x)))) = w') (hn : pc + 1 = q) (k : G kc ks w' L q st) : G kc ks w L pc (.int x :: .int i :: .ref a :: st) := by
  obtain ⟨p, e, s, m, args, below, meth, c, Q, rfl, hx, hb, hml, hown, hts, hK, hF, hi⟩ := C
  subst hn
  subst hs
  intro H locs ls hI hl
  exact va_zast hx hb hK hI.1 hI.2.1 hI.2.2.1 z t he ht hi0 d (fun H1 locs1 h1 h2 h3 => k H1 locs1 ls ⟨h1, h2, h3, fun h => by cases h⟩ hl)
theorem g_last (C : GB l D tys A F R cc nL own Ts false ini G) {cA : ClassId} {a n : Nat} {f : Nat → Int64} {i : Int32} {x : Int64} (z t : Nat) (w' : va_W) (d : decode cc pc = .ok (.lastore, 1)) (he : w[z]? = some (a, .inl (cA, n, .inr (.inl f)))) (ht : tys[t]? = some (cA, .long)) (hi0 : vp_in i n) (hs : w.set z (a, .inl (cA, n, .inr (.inl (vp_updL f i.toNatClampNeg x)))) = w') (hn : pc + 1 = q) (k : G kc ks w' L q st) : G kc ks w L pc (.long x :: .int i :: .ref a :: st) := by
  obtain ⟨p, e, s, m, args, below, meth, c, Q, rfl, hx, hb, hml, hown, hts, hK, hF, hi⟩ := C
  subst hn
  subst hs
  intro H locs ls hI hl
  exact va_last hx hb hK hI.1 hI.2.1 hI.2.2.1 z t he ht hi0 d (fun H1 locs1 h1 h2 h3 => k H1 locs1 ls ⟨h1, h2, h3, fun h => by cases h⟩ hl)
theorem g_alen (C : GB l D tys A F R cc nL own Ts ro ini G) {cA : ClassId} {a : Nat} {x : vp_A} {ty : FieldType} {v : Int32} (z t : Nat) (d : decode cc pc = .ok (.arraylength, 1)) (he : w[z]? = some (a, .inl (cA, x))) (ht : tys[t]? = some (cA, ty)) (hv : Int32.ofNat x.1 = v) (hn : pc + 1 = q) (k : G kc ks w L q (.int v :: st)) : G kc ks w L pc (.ref a :: st) := by
  obtain ⟨p, e, s, m, args, below, meth, c, Q, rfl, hx, hb, hml, hown, hts, hK, hF, hi⟩ := C
  subst hn
  intro H locs ls hI hl
  exact va_alen hx hb hK hI.1 z t he ht hv d (k H locs ls hI hl)
theorem g_arrI (C : GB l D tys A F R cc nL own Ts false ini G) {cA : ClassId} {a n : Nat} {f : Nat → Int32} (f2 : Nat → Int32) (z : Nat) (w' : va_W) (he : w[z]? = some (a, .inl (cA, n, .inl f))) (hf : ∀ j, j < n → f j = f2 j) (hs : w.set z (a, .inl (cA, n, .inl f2)) = w') (k : G kc ks w' L pc st) : G kc ks w L pc st := by
  obtain ⟨p, e, s, m, args, below, meth, c, Q, rfl, hx, hb, hml, hown, hts, hK, hF, hi⟩ := C
  subst hs
  intro H locs ls hI hl
  refine k H locs ls ⟨hI.1.set hI.2.1 he ?_ (fun _ _ => rfl), hI.2.1.set he, hI.2.2.1, hI.2.2.2⟩ hl
  have h0 : H[a]? = some (vp_cell cA (n, .inl f)) := hI.1 z _ he
  have h1 : vp_cell cA (n, .inl f) = vp_cell cA (n, .inl f2) := by
    show arrV cA n (fun j => .int (f j)) = arrV cA n (fun j => .int (f2 j))
    unfold arrV
    congr 2
    funext j
    exact congrArg _ (hf j.val j.isLt)
  exact h0.trans (congrArg some h1)
theorem g_arrJ (C : GB l D tys A F R cc nL own Ts false ini G) {cA : ClassId} {a n : Nat} {f : Nat → Int64} (f2 : Nat → Int64) (z : Nat) (w' : va_W) (he : w[z]? = some (a, .inl (cA, n, .inr (.inl f)))) (hf : ∀ j, j < n → f j = f2 j) (hs : w.set z (a, .inl (cA, n, .inr (.inl f2))) = w') (k : G kc ks w' L pc st) : G kc ks w L pc st := by
  obtain ⟨p, e, s, m, args, below, meth, c, Q, rfl, hx, hb, hml, hown, hts, hK, hF, hi⟩ := C
  subst hs
  intro H locs ls hI hl
  refine k H locs ls ⟨hI.1.set hI.2.1 he ?_ (fun _ _ => rfl), hI.2.1.set he, hI.2.2.1, hI.2.2.2⟩ hl
  have h0 : H[a]? = some (vp_cell cA (n, .inr (.inl f))) := hI.1 z _ he
  have h1 : vp_cell cA (n, .inr (.inl f)) = vp_cell cA (n, .inr (.inl f2)) := by
    show arrV cA n (fun j => .long (f j)) = arrV cA n (fun j => .long (f2 j))
    unfold arrV
    congr 2
    funext j
    exact congrArg _ (hf j.val j.isLt)
  exact h0.trans (congrArg some h1)
theorem g_mmax (C : GB l D tys A F R cc nL own Ts ro ini G) {x y : Int32} {i : Nat} (d : decode cc pc = .ok (.invokestatic i, 3)) (HL : Cond.methodLink own i Lib.Math.max.name ∈ Ts) (hs0 : Cond.static Lib.Math.max.name ∈ Ts) (hin : Cond.initialized "java/lang/Math" ∈ Ts) (hcd : Cond.code Lib.Math.max.name Lib.Math.max.code 2 (some .int) ∈ Ts) (hfr : 1 ≤ R.frames) (hlo : (st.map fun v => v.category).sum + 13 ≤ R.locals) (hc : kc ≤ R.cells) (hs : ks ≤ R.slots) (hn : pc + 3 = q) (k : G kc ks w L q (.int (if x < y then y else x) :: st)) : G kc ks w L pc (.int y :: .int x :: st) := by
  obtain ⟨p, e, s, m, args, below, meth, c, Q, rfl, hx, hb, hml, hown, hts, hK, hF, hi⟩ := C
  subst hn
  intro H locs ls hI LS
  exact va_mmax hx hb (hml.trans LS.1.symm) hown (hts _ HL) (hts _ hs0) (hts _ hin) (hts _ hcd) hfr hlo hc hs d (k H locs ls hI LS)
theorem g_mminl (C : GB l D tys A F R cc nL own Ts ro ini G) {x y : Int64} {i : Nat} (d : decode cc pc = .ok (.invokestatic i, 3)) (HL : Cond.methodLink own i Lib.MathLoose.min_long.x ∈ Ts) (hs0 : Cond.static Lib.MathLoose.min_long.x ∈ Ts) (hin : Cond.initialized "java/lang/Math" ∈ Ts) (hcd : Cond.code Lib.MathLoose.min_long.x Lib.MathLoose.min_long.code 4 (some .long) ∈ Ts) (hfr : 1 ≤ R.frames) (hlo : (st.map fun v => v.category).sum + 15 ≤ R.locals) (hc : kc ≤ R.cells) (hs : ks ≤ R.slots) (hn : pc + 3 = q) (k : G kc ks w L q (.long (if y < x then y else x) :: st)) : G kc ks w L pc (.long y :: .long x :: st) := by
  obtain ⟨p, e, s, m, args, below, meth, c, Q, rfl, hx, hb, hml, hown, hts, hK, hF, hi⟩ := C
  subst hn
  intro H locs ls hI LS
  exact va_mmin_long hx hb (hml.trans LS.1.symm) hown (hts _ HL) (hts _ hs0) (hts _ hin) (hts _ hcd) hfr hlo hc hs d (k H locs ls hI LS)
theorem g_mabs (C : GB l D tys A F R cc nL own Ts ro ini G) {x : Int32} {i : Nat} (d : decode cc pc = .ok (.invokestatic i, 3)) (HL : Cond.methodLink own i Lib.Math.abs.name ∈ Ts) (hs0 : Cond.static Lib.Math.abs.name ∈ Ts) (hin : Cond.initialized "java/lang/Math" ∈ Ts) (hcd : Cond.code Lib.Math.abs.name Lib.Math.abs.code 1 (some .int) ∈ Ts) (hfr : 1 ≤ R.frames) (hlo : (st.map fun v => v.category).sum + 13 ≤ R.locals) (hc : kc ≤ R.cells) (hs : ks ≤ R.slots) (hn : pc + 3 = q) (k : G kc ks w L q (.int (if 0 ≤ x then x else 0 - x) :: st)) : G kc ks w L pc (.int x :: st) := by
  obtain ⟨p, e, s, m, args, below, meth, c, Q, rfl, hx, hb, hml, hown, hts, hK, hF, hi⟩ := C
  subst hn
  intro H locs ls hI LS
  exact va_mabs hx hb (hml.trans LS.1.symm) hown (hts _ HL) (hts _ hs0) (hts _ hin) (hts _ hcd) hfr hlo hc hs d (k H locs ls hI LS)
end GR
def FT : State → Prop := fun _ => True
theorem FT_b : ∀ (U : State) (g : JFrame) (mk : MethodId) (a : Array Value), FT U → FT (U.calling g mk a) := fun _ _ _ _ _ => trivial
theorem FT_h {ro : Bool} {D : va_G} {A : Nat → Prop} {w : va_W} {F : State → Prop} : ∀ (s : State) (H : Heap) (locs : List Loc) (U : State), F s → gI ro D A s w H locs → U.heap = H → s.vm.Alike U.vm → FT U := fun _ _ _ _ _ _ _ _ => trivial
theorem gPc_blind {D : va_G} {tys : TT} {A : Nat → Prop} {F : State → Prop} {w : va_W} {avs : List Value} (hFb : ∀ (U : State) (g : JFrame) (mk : MethodId) (a : Array Value), F U → F (U.calling g mk a)) : FrameBlind (gPc D tys A F w avs) := fun a U g mk q => by
  obtain ⟨q1, qP, qK, qD, qF⟩ := q
  exact ⟨q1, qP, va_K.moved (u := U) (U := U.calling g mk a) (Vm.Alike.refl U.vm) qK, qD, hFb _ _ _ _ qF⟩
theorem map_fm {α β : Type} {f : α → Option β} : ∀ {l : List α} {r : List β}, l.map f = r.map some → l.filterMap f = r
  | [], [], _ => rfl
  | [], _ :: _, h => by simp at h
  | a :: l, [], h => by simp at h
  | a :: l, b :: r, h => by
    simp only [List.map_cons, List.cons.injEq] at h
    rw [List.filterMap_cons, h.1, map_fm h.2]
section GS
variable {l : Launch} {D : va_G} {tys : TT} {A : Nat → Prop} {F : State → Prop} {cc : ByteArray} {nL : Nat} {y : MethodName} {ws ws' : List Cond} {rm : Room} {w0 : va_W} {avs : List Value}
theorem gs_si {ty : FieldType} {post : Int32 → Prop} (hy : plainName y.cls = true) (hw : ws = Cond.code y cc nL (some ty) :: ws') (hle : (lg_sl avs).length ≤ nL)
    (body : ∀ G, GB l D tys A F rm cc nL y.cls ws true false G → (∀ (v : Int32) (pc : Nat) (w : va_W) (L : LL), decode cc pc = .ok (.ireturn, 1) → narrow ty (.int v) = .int v → post v → G 0 0 w L pc [.int v]) → G 0 0 w0 (lv_args 0 avs) 0 []) : Met l y ws rm (gPc D tys A F w0 avs) (vp_Si post) 0 0 (fun _ => False) := by
  refine Met.ofW hy hw ?_
  intro p e s m args below meth c s₁ B hml hv
  obtain ⟨rfl, hP, hK, hD, hF⟩ := hv
  have hts := atoms_spec (ws := ws) B.pre
  have hown : s.vm.findClass y.cls = some m.cls := findClass_of_methodNamed B.named
  have hr := B.returns
  have hlk := B.notSynchronized
  have hx := B.exec
  have hb := B.bytes
  have hl := lv_entry avs hle
  rw [lg_entry_eq]
  generalize (lg_sl avs ++ List.replicate (nL - (lg_sl avs).length) Slot.unset).toArray = ls at hl ⊢
  have key := body _ ⟨p, e, s, m, avs.toArray, below, meth, c, MQ below (vp_Si post) avs.toArray s 0 0 (fun _ => False), rfl, hx, hb, hml, hown, hts, hK, hF, fun h => by cases h⟩ ?_
  · exact key s.heap [] ls ⟨hP, hD, va_S.rf, fun _ => ⟨rfl, rfl⟩⟩ hl
  · intro v pc w L hd hn hp H locs ls hI hl
    obtain ⟨-, -, -, h4⟩ := hI
    obtain ⟨rfl, rfl⟩ := h4 rfl
    exact W.zret hx hb hr hn (fun t ht hW => ⟨v, rfl, hp, ht⟩) (fun q hq => by cases hq) hd hlk
theorem gs_sl {post : Int64 → Prop} (hy : plainName y.cls = true) (hw : ws = Cond.code y cc nL (some .long) :: ws') (hle : (lg_sl avs).length ≤ nL)
    (body : ∀ G, GB l D tys A F rm cc nL y.cls ws true false G → (∀ (v : Int64) (pc : Nat) (w : va_W) (L : LL), decode cc pc = .ok (.lreturn, 1) → post v → G 0 0 w L pc [.long v]) → G 0 0 w0 (lv_args 0 avs) 0 []) : Met l y ws rm (gPc D tys A F w0 avs) (vp_Sl post) 0 0 (fun _ => False) := by
  refine Met.ofW hy hw ?_
  intro p e s m args below meth c s₁ B hml hv
  obtain ⟨rfl, hP, hK, hD, hF⟩ := hv
  have hts := atoms_spec (ws := ws) B.pre
  have hown : s.vm.findClass y.cls = some m.cls := findClass_of_methodNamed B.named
  have hr := B.returns
  have hlk := B.notSynchronized
  have hx := B.exec
  have hb := B.bytes
  have hl := lv_entry avs hle
  rw [lg_entry_eq]
  generalize (lg_sl avs ++ List.replicate (nL - (lg_sl avs).length) Slot.unset).toArray = ls at hl ⊢
  have key := body _ ⟨p, e, s, m, avs.toArray, below, meth, c, MQ below (vp_Sl post) avs.toArray s 0 0 (fun _ => False), rfl, hx, hb, hml, hown, hts, hK, hF, fun h => by cases h⟩ ?_
  · exact key s.heap [] ls ⟨hP, hD, va_S.rf, fun _ => ⟨rfl, rfl⟩⟩ hl
  · intro v pc w L hd hp H locs ls hI hl
    obtain ⟨-, -, -, h4⟩ := hI
    obtain ⟨rfl, rfl⟩ := h4 rfl
    exact W.lret hx hb hr (fun t ht hW => ⟨v, rfl, hp, ht⟩) (fun q hq => by cases hq) hd hlk
theorem gs_qv {S : Type} {post : S → Prop} {W' : S → va_W} {mc ms : Nat} (hy : plainName y.cls = true) (hw : ws = Cond.code y cc nL none :: ws') (hle : (lg_sl avs).length ≤ nL)
    (body : ∀ G, GB l D tys A F rm cc nL y.cls ws false false G → (∀ (u : S) (pc : Nat) (L : LL), decode cc pc = .ok (.return_, 1) → post u → G mc ms (W' u) L pc []) → G 0 0 w0 (lv_args 0 avs) 0 []) : Met l y ws rm (gPc D tys A F w0 avs) (va_Qv post (fun u t => va_P D vwCl (W' u) t.heap ∧ va_D A (W' u)) A) mc ms (A) := by
  refine Met.ofW hy hw ?_
  intro p e s m args below meth c s₁ B hml hv
  obtain ⟨rfl, hP, hK, hD, hF⟩ := hv
  have hts := atoms_spec (ws := ws) B.pre
  have hown : s.vm.findClass y.cls = some m.cls := findClass_of_methodNamed B.named
  have hr := B.returns
  have hlk := B.notSynchronized
  have hx := B.exec
  have hb := B.bytes
  have hl := lv_entry avs hle
  rw [lg_entry_eq]
  generalize (lg_sl avs ++ List.replicate (nL - (lg_sl avs).length) Slot.unset).toArray = ls at hl ⊢
  have key := body _ ⟨p, e, s, m, avs.toArray, below, meth, c, MQ below (va_Qv post (fun u t => va_P D vwCl (W' u) t.heap ∧ va_D A (W' u)) A) avs.toArray s mc ms (A), rfl, hx, hb, hml, hown, hts, hK, hF, fun h => by cases h⟩ ?_
  · exact key s.heap [] ls ⟨hP, hD, va_S.rf, fun _ => ⟨rfl, rfl⟩⟩ hl
  · intro u pc L hd hp H locs ls hI hl
    exact W.vret hx hb hr (fun t ht hW => ⟨⟨u, rfl, hp, by rw [ht]; exact hI.1, hI.2.1⟩, hI.2.2.1.F ht⟩) hI.2.2.1.2.2 hd hlk
theorem gs_qvI {S : Type} {post : S → Prop} {W' : S → va_W} {mc ms : Nat} (hy : plainName y.cls = true) (hw : ws = Cond.code y cc nL none :: ws') (hle : (lg_sl avs).length ≤ nL) (hini : y.name = "<init>")
    (body : ∀ G, GB l D tys A F rm cc nL y.cls ws false true G → (∀ (u : S) (pc : Nat) (L : LL), decode cc pc = .ok (.return_, 1) → post u → G mc ms (W' u) L pc []) → G 0 0 w0 (lv_args 0 avs) 0 []) : Met l y ws rm (gPc D tys A F w0 avs) (va_Qv post (fun u t => va_P D vwCl (W' u) t.heap ∧ va_D A (W' u)) A) mc ms (A) := by
  refine Met.ofW hy hw ?_
  intro p e s m args below meth c s₁ B hml hv
  obtain ⟨rfl, hP, hK, hD, hF⟩ := hv
  have hts := atoms_spec (ws := ws) B.pre
  have hown : s.vm.findClass y.cls = some m.cls := findClass_of_methodNamed B.named
  have hr := B.returns
  have hlk := B.notSynchronized
  have hx := B.exec
  have hb := B.bytes
  have hl := lv_entry avs hle
  rw [lg_entry_eq]
  generalize (lg_sl avs ++ List.replicate (nL - (lg_sl avs).length) Slot.unset).toArray = ls at hl ⊢
  have key := body _ ⟨p, e, s, m, avs.toArray, below, meth, c, MQ below (va_Qv post (fun u t => va_P D vwCl (W' u) t.heap ∧ va_D A (W' u)) A) avs.toArray s mc ms (A), rfl, hx, hb, hml, hown, hts, hK, hF, fun h => ((name_of_methodNamed B.named B.method).1).trans hini⟩ ?_
  · exact key s.heap [] ls ⟨hP, hD, va_S.rf, fun _ => ⟨rfl, rfl⟩⟩ hl
  · intro u pc L hd hp H locs ls hI hl
    exact W.vret hx hb hr (fun t ht hW => ⟨⟨u, rfl, hp, by rw [ht]; exact hI.1, hI.2.1⟩, hI.2.2.1.F ht⟩) hI.2.2.1.2.2 hd hlk
theorem gs_qi {S : Type} {ty : FieldType} {post : Int32 → S → Prop} {W' : S → va_W} {mc ms : Nat} (hy : plainName y.cls = true) (hw : ws = Cond.code y cc nL (some ty) :: ws') (hle : (lg_sl avs).length ≤ nL)
    (body : ∀ G, GB l D tys A F rm cc nL y.cls ws false false G → (∀ (v : Int32) (u : S) (pc : Nat) (L : LL), decode cc pc = .ok (.ireturn, 1) → narrow ty (.int v) = .int v → post v u → G mc ms (W' u) L pc [.int v]) → G 0 0 w0 (lv_args 0 avs) 0 []) : Met l y ws rm (gPc D tys A F w0 avs) (va_Qi post (fun u t => va_P D vwCl (W' u) t.heap ∧ va_D A (W' u)) A) mc ms (A) := by
  refine Met.ofW hy hw ?_
  intro p e s m args below meth c s₁ B hml hv
  obtain ⟨rfl, hP, hK, hD, hF⟩ := hv
  have hts := atoms_spec (ws := ws) B.pre
  have hown : s.vm.findClass y.cls = some m.cls := findClass_of_methodNamed B.named
  have hr := B.returns
  have hlk := B.notSynchronized
  have hx := B.exec
  have hb := B.bytes
  have hl := lv_entry avs hle
  rw [lg_entry_eq]
  generalize (lg_sl avs ++ List.replicate (nL - (lg_sl avs).length) Slot.unset).toArray = ls at hl ⊢
  have key := body _ ⟨p, e, s, m, avs.toArray, below, meth, c, MQ below (va_Qi post (fun u t => va_P D vwCl (W' u) t.heap ∧ va_D A (W' u)) A) avs.toArray s mc ms (A), rfl, hx, hb, hml, hown, hts, hK, hF, fun h => by cases h⟩ ?_
  · exact key s.heap [] ls ⟨hP, hD, va_S.rf, fun _ => ⟨rfl, rfl⟩⟩ hl
  · intro v u pc L hd hn hp H locs ls hI hl
    exact W.zret hx hb hr hn (fun t ht hW => ⟨⟨v, u, rfl, hp, by rw [ht]; exact hI.1, hI.2.1⟩, hI.2.2.1.F ht⟩) hI.2.2.1.2.2 hd hlk
theorem gs_qr {S : Type} {rt : FieldType} {post : S → Prop} {Ra : S → Nat → Prop} {W' : S → va_W} {mc ms : Nat} (hrt : (∃ n, rt = .object n) ∨ ∃ t, rt = .array t) (hy : plainName y.cls = true) (hw : ws = Cond.code y cc nL (some rt) :: ws') (hle : (lg_sl avs).length ≤ nL)
    (body : ∀ G, GB l D tys A F rm cc nL y.cls ws false false G → (∀ (a : Nat) (u : S) (pc : Nat) (L : LL), decode cc pc = .ok (.areturn, 1) → post u → Ra u a → G mc ms (W' u) L pc [.ref a]) → G 0 0 w0 (lv_args 0 avs) 0 []) : Met l y ws rm (gPc D tys A F w0 avs) (va_Qr post (fun u a t => Ra u a ∧ va_P D vwCl (W' u) t.heap ∧ va_D A (W' u)) A) mc ms (A) := by
  refine Met.ofW hy hw ?_
  intro p e s m args below meth c s₁ B hml hv
  obtain ⟨rfl, hP, hK, hD, hF⟩ := hv
  have hts := atoms_spec (ws := ws) B.pre
  have hown : s.vm.findClass y.cls = some m.cls := findClass_of_methodNamed B.named
  have hr := B.returns
  have hlk := B.notSynchronized
  have hx := B.exec
  have hb := B.bytes
  have hl := lv_entry avs hle
  rw [lg_entry_eq]
  generalize (lg_sl avs ++ List.replicate (nL - (lg_sl avs).length) Slot.unset).toArray = ls at hl ⊢
  have key := body _ ⟨p, e, s, m, avs.toArray, below, meth, c, MQ below (va_Qr post (fun u a t => Ra u a ∧ va_P D vwCl (W' u) t.heap ∧ va_D A (W' u)) A) avs.toArray s mc ms (A), rfl, hx, hb, hml, hown, hts, hK, hF, fun h => by cases h⟩ ?_
  · exact key s.heap [] ls ⟨hP, hD, va_S.rf, fun _ => ⟨rfl, rfl⟩⟩ hl
  · intro a u pc L hd hp ha H locs ls hI hl
    exact W.aret hx hb hr hrt (Or.inr ⟨a, rfl⟩) (fun t ht hW => ⟨⟨u, a, rfl, hp, ha, by rw [ht]; exact hI.1, hI.2.1⟩, hI.2.2.1.F ht⟩) hI.2.2.1.2.2 hd hlk
end GS
section GCALL
variable {l : Launch} {D : va_G} {tys : TT} {A A1 : Nat → Prop} {F F1 : State → Prop} {R : Room} {cc : ByteArray} {nL : Nat} {own : String} {Ts : List Cond} {ro ini : Bool} {G : Nat → Nat → va_W → LL → Nat → List Value → Prop}
variable {kc ks pc q i n maxL : Nat} {w : va_W} {L : LL} {st st0 As : List Value} {y : MethodName} {ws ws' : List Cond} {rm : Room} {bytes : ByteArray} {ret : Option FieldType}
theorem va_joinA {A0 A1 : Nat → Prop} {D : va_G} {cl : List vw_C} {ws wc wr w1 : va_W} {H H1 : Heap} (hP : va_P D cl ws H) (hD : va_D A0 ws) (isC isR : List Nat) (hC : isC.map (fun i => ws[i]?) = wc.map some) (hR : isR.map (fun i => ws[i]?) = wr.map some) (hn : va_nd isR = true) (hdis : ∀ i ∈ isR, i ∉ isC)
    (hAA : ∀ x, A1 x → va_A wc H.size x) (hk : ∀ q : Nat, q < H.size → ¬ A1 q → H1[q]? = H[q]?) (hF : ∀ q, A1 q → A0 q) (hP1 : va_P D cl w1 H1) (hD1 : va_D A1 w1) : va_P D cl (wr ++ w1) H1 ∧ va_D A0 (wr ++ w1) := by
  have at' : ∀ {is : List Nat} {w : va_W}, is.map (fun i => ws[i]?) = w.map some → ∀ (k : Nat) (q : Nat × va_E), w[k]? = some q → ∃ i, is[k]? = some i ∧ ws[i]? = some q := by
    intro is w hs k q hq
    have h1 : (is.map (fun i => ws[i]?))[k]? = some (some q) := by rw [hs, List.getElem?_map, hq]; rfl
    rw [List.getElem?_map] at h1
    cases hi : is[k]? with
    | none => rw [hi] at h1; simp at h1
    | some i => rw [hi] at h1; exact ⟨i, rfl, by simpa using h1⟩
  have apart : ∀ (k : Nat) (q : Nat × va_E), wr[k]? = some q → q.1 < H.size ∧ ¬ A1 q.1 := by
    intro k q hq
    obtain ⟨i, h1, h2⟩ := at' hR k q hq
    have hl := (hP i q h2).lt
    refine ⟨hl, fun h => ?_⟩
    rcases hAA _ h with ⟨k2, e, h⟩ | h
    · obtain ⟨j, h3, h4⟩ := at' hC k2 (q.1, e) h
      have hij := hD.1 i j q (q.1, e) h2 h4 rfl
      subst hij
      exact hdis i (List.mem_of_getElem? h1) (List.mem_of_getElem? h3)
    · omega
  refine ⟨va_P.app (fun k q hq => ?_) hP1, va_D.app (hD.sub isR hn hR) (hD1.weaken (fun k q _ h => hF q.1 h)) (fun i j x y hx hy hxy => ?_)⟩
  · obtain ⟨i, h1, h2⟩ := at' hR k q hq
    obtain ⟨g1, g2⟩ := apart k q hq
    exact (hP i q h2).kept (hk q.1 g1 g2)
  · exact (apart i x hx).2 (by rw [hxy]; exact hD1.2 j y hy)
theorem gcV_si (C : GB l D tys A F R cc nL own Ts ro ini G) {Cn : String} {T : u_T} {N ci b : Nat} {fs : List Value} (z : Nat) {post : Int32 → Prop} (hDD : va_D A w → va_D A1 w) (d : decode cc pc = .ok (.invokevirtual i, 3)) (hc : vwCl[ci]? = some (Cn, T, N)) (he : w[z]? = some (b, .inr (ci, fs))) (hG : GoodIn Ts (wsV own i Cn y ws)) (hM : Met l y ws rm (gPc D tys A1 F1 w (.ref b :: As)) (vp_Si post) 0 0 (fun _ => False)) (hw : ws = Cond.code y bytes maxL ret :: ws') (hrc : rm.cells = 0) (hrs : rm.slots = 0) (hd : y.cls = Cn ∧ y.cls ≠ "java/lang/invoke/MethodHandle" ∧ y.cls ≠ "java/lang/invoke/VarHandle" ∧ (parseMethodDescriptor y.desc).map (fun d => d.parameters.length) = some n) (hR : rm.frames + 1 ≤ R.frames ∧ 8 + (maxL + 11) + rm.locals ≤ R.locals) (hlen : As.length = n) (hst : st0 = As.reverse ++ .ref b :: st) (hcat : (st.map fun v => v.category).sum ≤ 8) (hFb : ∀ (U : State) (g : JFrame) (mk : MethodId) (a : Array Value), F1 U → F1 (U.calling g mk a)) (hF1 : ∀ (s : State) (H : Heap) (locs : List Loc) (U : State), F s → gI ro D A s w H locs → U.heap = H → s.vm.Alike U.vm → F1 U) (hf : kc ≤ R.cells ∧ ks ≤ R.slots) (hn : pc + 3 = q) (k : ∀ r : Int32, post r → G kc ks w L q (.int r :: st)) : G kc ks w L pc st0 := by
  obtain ⟨p, e, s, m, args, below, meth, c, Q, rfl, hx, hb, hml, hown, hts, hK, hF, hi⟩ := C
  subst hn
  subst hst
  intro H locs ls hI hl
  exact vp_callSi (va_runV (As := As) (rest := st) ⟨hx, hb, hml, hown, hts⟩ hM (cwV n hts hG hw hrc hrs hd hR) ⟨gPc_blind hFb, va_recv hK hI.1 hc he, fun U hU hW => ⟨rfl, by rw [hU]; exact hI.1, va_K.moved hW.alike hK, hDD hI.2.1, hF1 s H locs U hF hI hU hW.alike⟩⟩ rfl hlen hl.1 rfl (lv_room hcat) d ⟨hf.1, hf.2⟩).run (fun r hr => k r hr H locs ls hI hl)
theorem gcV_sif (C : GB l D tys A F R cc nL own Ts ro ini G) {Cn : String} {T : u_T} {N ci b : Nat} {fs : List Value} (z : Nat) {post : Int32 → Prop} {wc wr : va_W} (isC isR : List Nat) (hC : isC.map (fun i => w[i]?) = wc.map some) (hnC : va_nd isC = true) (hm : ∀ (k : Nat) (x : Nat × va_E), wc[k]? = some x → A1 x.1) (d : decode cc pc = .ok (.invokevirtual i, 3)) (hc : vwCl[ci]? = some (Cn, T, N)) (he : w[z]? = some (b, .inr (ci, fs))) (hG : GoodIn Ts (wsV own i Cn y ws)) (hM : Met l y ws rm (gPc D tys A1 F1 wc (.ref b :: As)) (vp_Si post) 0 0 (fun _ => False)) (hw : ws = Cond.code y bytes maxL ret :: ws') (hrc : rm.cells = 0) (hrs : rm.slots = 0) (hd : y.cls = Cn ∧ y.cls ≠ "java/lang/invoke/MethodHandle" ∧ y.cls ≠ "java/lang/invoke/VarHandle" ∧ (parseMethodDescriptor y.desc).map (fun d => d.parameters.length) = some n) (hR : rm.frames + 1 ≤ R.frames ∧ 8 + (maxL + 11) + rm.locals ≤ R.locals) (hlen : As.length = n) (hst : st0 = As.reverse ++ .ref b :: st) (hcat : (st.map fun v => v.category).sum ≤ 8) (hFb : ∀ (U : State) (g : JFrame) (mk : MethodId) (a : Array Value), F1 U → F1 (U.calling g mk a)) (hF1 : ∀ (s : State) (H : Heap) (locs : List Loc) (U : State), F s → gI ro D A s w H locs → U.heap = H → s.vm.Alike U.vm → F1 U) (hf : kc ≤ R.cells ∧ ks ≤ R.slots) (hn : pc + 3 = q) (k : ∀ r : Int32, post r → G kc ks w L q (.int r :: st)) : G kc ks w L pc st0 := by
  obtain ⟨p, e, s, m, args, below, meth, c, Q, rfl, hx, hb, hml, hown, hts, hK, hF, hi⟩ := C
  subst hn
  subst hst
  intro H locs ls hI hl
  exact vp_callSi (va_runV (As := As) (rest := st) ⟨hx, hb, hml, hown, hts⟩ hM (cwV n hts hG hw hrc hrs hd hR) ⟨gPc_blind hFb, va_recv hK hI.1 hc he, fun U hU hW => ⟨rfl, by rw [hU]; exact hI.1.sub isC (map_fm hC), va_K.moved hW.alike hK, (hI.2.1.sub isC hnC hC).weaken (fun k x h _ => hm k x h), hF1 s H locs U hF hI hU hW.alike⟩⟩ rfl hlen hl.1 rfl (lv_room hcat) d ⟨hf.1, hf.2⟩).run (fun r hr => k r hr H locs ls hI hl)
theorem gcV_sl (C : GB l D tys A F R cc nL own Ts ro ini G) {Cn : String} {T : u_T} {N ci b : Nat} {fs : List Value} (z : Nat) {post : Int64 → Prop} (hDD : va_D A w → va_D A1 w) (d : decode cc pc = .ok (.invokevirtual i, 3)) (hc : vwCl[ci]? = some (Cn, T, N)) (he : w[z]? = some (b, .inr (ci, fs))) (hG : GoodIn Ts (wsV own i Cn y ws)) (hM : Met l y ws rm (gPc D tys A1 F1 w (.ref b :: As)) (vp_Sl post) 0 0 (fun _ => False)) (hw : ws = Cond.code y bytes maxL ret :: ws') (hrc : rm.cells = 0) (hrs : rm.slots = 0) (hd : y.cls = Cn ∧ y.cls ≠ "java/lang/invoke/MethodHandle" ∧ y.cls ≠ "java/lang/invoke/VarHandle" ∧ (parseMethodDescriptor y.desc).map (fun d => d.parameters.length) = some n) (hR : rm.frames + 1 ≤ R.frames ∧ 8 + (maxL + 11) + rm.locals ≤ R.locals) (hlen : As.length = n) (hst : st0 = As.reverse ++ .ref b :: st) (hcat : (st.map fun v => v.category).sum ≤ 8) (hFb : ∀ (U : State) (g : JFrame) (mk : MethodId) (a : Array Value), F1 U → F1 (U.calling g mk a)) (hF1 : ∀ (s : State) (H : Heap) (locs : List Loc) (U : State), F s → gI ro D A s w H locs → U.heap = H → s.vm.Alike U.vm → F1 U) (hf : kc ≤ R.cells ∧ ks ≤ R.slots) (hn : pc + 3 = q) (k : ∀ r : Int64, post r → G kc ks w L q (.long r :: st)) : G kc ks w L pc st0 := by
  obtain ⟨p, e, s, m, args, below, meth, c, Q, rfl, hx, hb, hml, hown, hts, hK, hF, hi⟩ := C
  subst hn
  subst hst
  intro H locs ls hI hl
  exact vp_callSl (va_runV (As := As) (rest := st) ⟨hx, hb, hml, hown, hts⟩ hM (cwV n hts hG hw hrc hrs hd hR) ⟨gPc_blind hFb, va_recv hK hI.1 hc he, fun U hU hW => ⟨rfl, by rw [hU]; exact hI.1, va_K.moved hW.alike hK, hDD hI.2.1, hF1 s H locs U hF hI hU hW.alike⟩⟩ rfl hlen hl.1 rfl (lv_room hcat) d ⟨hf.1, hf.2⟩).run (fun r hr => k r hr H locs ls hI hl)
theorem gcV_slf (C : GB l D tys A F R cc nL own Ts ro ini G) {Cn : String} {T : u_T} {N ci b : Nat} {fs : List Value} (z : Nat) {post : Int64 → Prop} {wc wr : va_W} (isC isR : List Nat) (hC : isC.map (fun i => w[i]?) = wc.map some) (hnC : va_nd isC = true) (hm : ∀ (k : Nat) (x : Nat × va_E), wc[k]? = some x → A1 x.1) (d : decode cc pc = .ok (.invokevirtual i, 3)) (hc : vwCl[ci]? = some (Cn, T, N)) (he : w[z]? = some (b, .inr (ci, fs))) (hG : GoodIn Ts (wsV own i Cn y ws)) (hM : Met l y ws rm (gPc D tys A1 F1 wc (.ref b :: As)) (vp_Sl post) 0 0 (fun _ => False)) (hw : ws = Cond.code y bytes maxL ret :: ws') (hrc : rm.cells = 0) (hrs : rm.slots = 0) (hd : y.cls = Cn ∧ y.cls ≠ "java/lang/invoke/MethodHandle" ∧ y.cls ≠ "java/lang/invoke/VarHandle" ∧ (parseMethodDescriptor y.desc).map (fun d => d.parameters.length) = some n) (hR : rm.frames + 1 ≤ R.frames ∧ 8 + (maxL + 11) + rm.locals ≤ R.locals) (hlen : As.length = n) (hst : st0 = As.reverse ++ .ref b :: st) (hcat : (st.map fun v => v.category).sum ≤ 8) (hFb : ∀ (U : State) (g : JFrame) (mk : MethodId) (a : Array Value), F1 U → F1 (U.calling g mk a)) (hF1 : ∀ (s : State) (H : Heap) (locs : List Loc) (U : State), F s → gI ro D A s w H locs → U.heap = H → s.vm.Alike U.vm → F1 U) (hf : kc ≤ R.cells ∧ ks ≤ R.slots) (hn : pc + 3 = q) (k : ∀ r : Int64, post r → G kc ks w L q (.long r :: st)) : G kc ks w L pc st0 := by
  obtain ⟨p, e, s, m, args, below, meth, c, Q, rfl, hx, hb, hml, hown, hts, hK, hF, hi⟩ := C
  subst hn
  subst hst
  intro H locs ls hI hl
  exact vp_callSl (va_runV (As := As) (rest := st) ⟨hx, hb, hml, hown, hts⟩ hM (cwV n hts hG hw hrc hrs hd hR) ⟨gPc_blind hFb, va_recv hK hI.1 hc he, fun U hU hW => ⟨rfl, by rw [hU]; exact hI.1.sub isC (map_fm hC), va_K.moved hW.alike hK, (hI.2.1.sub isC hnC hC).weaken (fun k x h _ => hm k x h), hF1 s H locs U hF hI hU hW.alike⟩⟩ rfl hlen hl.1 rfl (lv_room hcat) d ⟨hf.1, hf.2⟩).run (fun r hr => k r hr H locs ls hI hl)
theorem gcV_qi (C : GB l D tys A F R cc nL own Ts false ini G) {Cn : String} {T : u_T} {N ci b : Nat} {fs : List Value} (z : Nat) {S : Type} {post : Int32 → S → Prop} {W' : S → va_W} {mc ms : Nat} (hDD : va_D A w → va_D A1 w) (hfr : ∀ x : Nat, A1 x → A x) (d : decode cc pc = .ok (.invokevirtual i, 3)) (hc : vwCl[ci]? = some (Cn, T, N)) (he : w[z]? = some (b, .inr (ci, fs))) (hG : GoodIn Ts (wsV own i Cn y ws)) (hM : Met l y ws rm (gPc D tys A1 F1 w (.ref b :: As)) (va_Qi post (fun u t => va_P D vwCl (W' u) t.heap ∧ va_D A1 (W' u)) A1) mc ms A1) (hw : ws = Cond.code y bytes maxL ret :: ws') (hrc : rm.cells = mc) (hrs : rm.slots = ms) (hd : y.cls = Cn ∧ y.cls ≠ "java/lang/invoke/MethodHandle" ∧ y.cls ≠ "java/lang/invoke/VarHandle" ∧ (parseMethodDescriptor y.desc).map (fun d => d.parameters.length) = some n) (hR : rm.frames + 1 ≤ R.frames ∧ 8 + (maxL + 11) + rm.locals ≤ R.locals) (hlen : As.length = n) (hst : st0 = As.reverse ++ .ref b :: st) (hcat : (st.map fun v => v.category).sum ≤ 8) (hFb : ∀ (U : State) (g : JFrame) (mk : MethodId) (a : Array Value), F1 U → F1 (U.calling g mk a)) (hF1 : ∀ (s : State) (H : Heap) (locs : List Loc) (U : State), F s → gI false D A s w H locs → U.heap = H → s.vm.Alike U.vm → F1 U) (hf : kc + mc ≤ R.cells ∧ ks + ms ≤ R.slots) (hn : pc + 3 = q) (k : ∀ (r : Int32) (u : S), post r u → G (kc + mc) (ks + ms) (W' u) L q (.int r :: st)) : G kc ks w L pc st0 := by
  obtain ⟨p, e, s, m, args, below, meth, c, Q, rfl, hx, hb, hml, hown, hts, hK, hF, hi⟩ := C
  subst hn
  subst hst
  intro H locs ls hI hl
  refine va_calli (va_runV (As := As) (rest := st) ⟨hx, hb, hml, hown, hts⟩ hM (cwV n hts hG hw hrc hrs hd hR) ⟨gPc_blind hFb, va_recv hK hI.1 hc he, fun U hU hW => ⟨rfl, by rw [hU]; exact hI.1, va_K.moved hW.alike hK, hDD hI.2.1, hF1 s H locs U hF hI hU hW.alike⟩⟩ rfl hlen hl.1 rfl (lv_room hcat) d ⟨hf.1, hf.2⟩) hI.2.2.1 (fun x _ h => hfr x h) hfr (fun r u t H1 locs1 ht hvm hp hB hz hkp hS => ?_)
  exact k r u hp H1 locs1 ls ⟨by rw [← ht]; exact hB.1, hB.2.weaken (fun _ x _ h => hfr x.1 h), hS, fun h => by cases h⟩ hl
theorem gcV_qif (C : GB l D tys A F R cc nL own Ts false ini G) {Cn : String} {T : u_T} {N ci b : Nat} {fs : List Value} (z : Nat) {S : Type} {post : Int32 → S → Prop} {W' : S → va_W} {mc ms : Nat} {wc wr : va_W} (isC isR : List Nat) (hC : isC.map (fun i => w[i]?) = wc.map some) (hnC : va_nd isC = true) (hm : ∀ (k : Nat) (x : Nat × va_E), wc[k]? = some x → A1 x.1) (w' : S → va_W) (hR0 : isR.map (fun i => w[i]?) = wr.map some) (hnR : va_nd isR = true) (hdis : ∀ i ∈ isR, i ∉ isC) (hAA : ∀ (sz x : Nat), A1 x → va_A wc sz x) (hfr : ∀ x : Nat, A1 x → A x) (js : List Nat) (hnj : va_nd js = true) (hj : ∀ u, js.map (fun i => (wr ++ W' u)[i]?) = (w' u).map some) (d : decode cc pc = .ok (.invokevirtual i, 3)) (hc : vwCl[ci]? = some (Cn, T, N)) (he : w[z]? = some (b, .inr (ci, fs))) (hG : GoodIn Ts (wsV own i Cn y ws)) (hM : Met l y ws rm (gPc D tys A1 F1 wc (.ref b :: As)) (va_Qi post (fun u t => va_P D vwCl (W' u) t.heap ∧ va_D A1 (W' u)) A1) mc ms A1) (hw : ws = Cond.code y bytes maxL ret :: ws') (hrc : rm.cells = mc) (hrs : rm.slots = ms) (hd : y.cls = Cn ∧ y.cls ≠ "java/lang/invoke/MethodHandle" ∧ y.cls ≠ "java/lang/invoke/VarHandle" ∧ (parseMethodDescriptor y.desc).map (fun d => d.parameters.length) = some n) (hR : rm.frames + 1 ≤ R.frames ∧ 8 + (maxL + 11) + rm.locals ≤ R.locals) (hlen : As.length = n) (hst : st0 = As.reverse ++ .ref b :: st) (hcat : (st.map fun v => v.category).sum ≤ 8) (hFb : ∀ (U : State) (g : JFrame) (mk : MethodId) (a : Array Value), F1 U → F1 (U.calling g mk a)) (hF1 : ∀ (s : State) (H : Heap) (locs : List Loc) (U : State), F s → gI false D A s w H locs → U.heap = H → s.vm.Alike U.vm → F1 U) (hf : kc + mc ≤ R.cells ∧ ks + ms ≤ R.slots) (hn : pc + 3 = q) (k : ∀ (r : Int32) (u : S), post r u → G (kc + mc) (ks + ms) (w' u) L q (.int r :: st)) : G kc ks w L pc st0 := by
  obtain ⟨p, e, s, m, args, below, meth, c, Q, rfl, hx, hb, hml, hown, hts, hK, hF, hi⟩ := C
  subst hn
  subst hst
  intro H locs ls hI hl
  refine va_calli (va_runV (As := As) (rest := st) ⟨hx, hb, hml, hown, hts⟩ hM (cwV n hts hG hw hrc hrs hd hR) ⟨gPc_blind hFb, va_recv hK hI.1 hc he, fun U hU hW => ⟨rfl, by rw [hU]; exact hI.1.sub isC (map_fm hC), va_K.moved hW.alike hK, (hI.2.1.sub isC hnC hC).weaken (fun k x h _ => hm k x h), hF1 s H locs U hF hI hU hW.alike⟩⟩ rfl hlen hl.1 rfl (lv_room hcat) d ⟨hf.1, hf.2⟩) hI.2.2.1 (fun x _ h => hfr x h) hfr (fun r u t H1 locs1 ht hvm hp hB hz hkp hS => ?_)
  have hP1 : va_P D vwCl (W' u) H1 := by rw [← ht]; exact hB.1
  have hj2 := va_joinA hI.1 hI.2.1 isC isR hC hR0 hnR hdis (hAA H.size) hkp hfr hP1 hB.2
  exact k r u hp H1 locs1 ls ⟨hj2.1.sub js (map_fm (hj u)), hj2.2.sub js hnj (hj u), hS, fun h => by cases h⟩ hl
theorem gcV_qv (C : GB l D tys A F R cc nL own Ts false ini G) {Cn : String} {T : u_T} {N ci b : Nat} {fs : List Value} (z : Nat) {S : Type} {post : S → Prop} {W' : S → va_W} {mc ms : Nat} (hDD : va_D A w → va_D A1 w) (hfr : ∀ x : Nat, A1 x → A x) (d : decode cc pc = .ok (.invokevirtual i, 3)) (hc : vwCl[ci]? = some (Cn, T, N)) (he : w[z]? = some (b, .inr (ci, fs))) (hG : GoodIn Ts (wsV own i Cn y ws)) (hM : Met l y ws rm (gPc D tys A1 F1 w (.ref b :: As)) (va_Qv post (fun u t => va_P D vwCl (W' u) t.heap ∧ va_D A1 (W' u)) A1) mc ms A1) (hw : ws = Cond.code y bytes maxL ret :: ws') (hrc : rm.cells = mc) (hrs : rm.slots = ms) (hd : y.cls = Cn ∧ y.cls ≠ "java/lang/invoke/MethodHandle" ∧ y.cls ≠ "java/lang/invoke/VarHandle" ∧ (parseMethodDescriptor y.desc).map (fun d => d.parameters.length) = some n) (hR : rm.frames + 1 ≤ R.frames ∧ 8 + (maxL + 11) + rm.locals ≤ R.locals) (hlen : As.length = n) (hst : st0 = As.reverse ++ .ref b :: st) (hcat : (st.map fun v => v.category).sum ≤ 8) (hFb : ∀ (U : State) (g : JFrame) (mk : MethodId) (a : Array Value), F1 U → F1 (U.calling g mk a)) (hF1 : ∀ (s : State) (H : Heap) (locs : List Loc) (U : State), F s → gI false D A s w H locs → U.heap = H → s.vm.Alike U.vm → F1 U) (hf : kc + mc ≤ R.cells ∧ ks + ms ≤ R.slots) (hn : pc + 3 = q) (k : ∀ (u : S), post u → G (kc + mc) (ks + ms) (W' u) L q st) : G kc ks w L pc st0 := by
  obtain ⟨p, e, s, m, args, below, meth, c, Q, rfl, hx, hb, hml, hown, hts, hK, hF, hi⟩ := C
  subst hn
  subst hst
  intro H locs ls hI hl
  refine va_callv (va_runV (As := As) (rest := st) ⟨hx, hb, hml, hown, hts⟩ hM (cwV n hts hG hw hrc hrs hd hR) ⟨gPc_blind hFb, va_recv hK hI.1 hc he, fun U hU hW => ⟨rfl, by rw [hU]; exact hI.1, va_K.moved hW.alike hK, hDD hI.2.1, hF1 s H locs U hF hI hU hW.alike⟩⟩ rfl hlen hl.1 rfl (lv_room hcat) d ⟨hf.1, hf.2⟩) hI.2.2.1 (fun x _ h => hfr x h) hfr (fun u t H1 locs1 ht hvm hp hB hz hkp hS => ?_)
  exact k u hp H1 locs1 ls ⟨by rw [← ht]; exact hB.1, hB.2.weaken (fun _ x _ h => hfr x.1 h), hS, fun h => by cases h⟩ hl
theorem gcV_qvf (C : GB l D tys A F R cc nL own Ts false ini G) {Cn : String} {T : u_T} {N ci b : Nat} {fs : List Value} (z : Nat) {S : Type} {post : S → Prop} {W' : S → va_W} {mc ms : Nat} {wc wr : va_W} (isC isR : List Nat) (hC : isC.map (fun i => w[i]?) = wc.map some) (hnC : va_nd isC = true) (hm : ∀ (k : Nat) (x : Nat × va_E), wc[k]? = some x → A1 x.1) (w' : S → va_W) (hR0 : isR.map (fun i => w[i]?) = wr.map some) (hnR : va_nd isR = true) (hdis : ∀ i ∈ isR, i ∉ isC) (hAA : ∀ (sz x : Nat), A1 x → va_A wc sz x) (hfr : ∀ x : Nat, A1 x → A x) (js : List Nat) (hnj : va_nd js = true) (hj : ∀ u, js.map (fun i => (wr ++ W' u)[i]?) = (w' u).map some) (d : decode cc pc = .ok (.invokevirtual i, 3)) (hc : vwCl[ci]? = some (Cn, T, N)) (he : w[z]? = some (b, .inr (ci, fs))) (hG : GoodIn Ts (wsV own i Cn y ws)) (hM : Met l y ws rm (gPc D tys A1 F1 wc (.ref b :: As)) (va_Qv post (fun u t => va_P D vwCl (W' u) t.heap ∧ va_D A1 (W' u)) A1) mc ms A1) (hw : ws = Cond.code y bytes maxL ret :: ws') (hrc : rm.cells = mc) (hrs : rm.slots = ms) (hd : y.cls = Cn ∧ y.cls ≠ "java/lang/invoke/MethodHandle" ∧ y.cls ≠ "java/lang/invoke/VarHandle" ∧ (parseMethodDescriptor y.desc).map (fun d => d.parameters.length) = some n) (hR : rm.frames + 1 ≤ R.frames ∧ 8 + (maxL + 11) + rm.locals ≤ R.locals) (hlen : As.length = n) (hst : st0 = As.reverse ++ .ref b :: st) (hcat : (st.map fun v => v.category).sum ≤ 8) (hFb : ∀ (U : State) (g : JFrame) (mk : MethodId) (a : Array Value), F1 U → F1 (U.calling g mk a)) (hF1 : ∀ (s : State) (H : Heap) (locs : List Loc) (U : State), F s → gI false D A s w H locs → U.heap = H → s.vm.Alike U.vm → F1 U) (hf : kc + mc ≤ R.cells ∧ ks + ms ≤ R.slots) (hn : pc + 3 = q) (k : ∀ (u : S), post u → G (kc + mc) (ks + ms) (w' u) L q st) : G kc ks w L pc st0 := by
  obtain ⟨p, e, s, m, args, below, meth, c, Q, rfl, hx, hb, hml, hown, hts, hK, hF, hi⟩ := C
  subst hn
  subst hst
  intro H locs ls hI hl
  refine va_callv (va_runV (As := As) (rest := st) ⟨hx, hb, hml, hown, hts⟩ hM (cwV n hts hG hw hrc hrs hd hR) ⟨gPc_blind hFb, va_recv hK hI.1 hc he, fun U hU hW => ⟨rfl, by rw [hU]; exact hI.1.sub isC (map_fm hC), va_K.moved hW.alike hK, (hI.2.1.sub isC hnC hC).weaken (fun k x h _ => hm k x h), hF1 s H locs U hF hI hU hW.alike⟩⟩ rfl hlen hl.1 rfl (lv_room hcat) d ⟨hf.1, hf.2⟩) hI.2.2.1 (fun x _ h => hfr x h) hfr (fun u t H1 locs1 ht hvm hp hB hz hkp hS => ?_)
  have hP1 : va_P D vwCl (W' u) H1 := by rw [← ht]; exact hB.1
  have hj2 := va_joinA hI.1 hI.2.1 isC isR hC hR0 hnR hdis (hAA H.size) hkp hfr hP1 hB.2
  exact k u hp H1 locs1 ls ⟨hj2.1.sub js (map_fm (hj u)), hj2.2.sub js hnj (hj u), hS, fun h => by cases h⟩ hl
theorem gcV_qr (C : GB l D tys A F R cc nL own Ts false ini G) {Cn : String} {T : u_T} {N ci b : Nat} {fs : List Value} (z : Nat) {S : Type} {post : S → Prop} {Ra : S → Nat → Prop} {W' : S → va_W} {mc ms : Nat} (hDD : va_D A w → va_D A1 w) (hfr : ∀ x : Nat, A1 x → A x) (d : decode cc pc = .ok (.invokevirtual i, 3)) (hc : vwCl[ci]? = some (Cn, T, N)) (he : w[z]? = some (b, .inr (ci, fs))) (hG : GoodIn Ts (wsV own i Cn y ws)) (hM : Met l y ws rm (gPc D tys A1 F1 w (.ref b :: As)) (va_Qr post (fun u a t => Ra u a ∧ va_P D vwCl (W' u) t.heap ∧ va_D A1 (W' u)) A1) mc ms A1) (hw : ws = Cond.code y bytes maxL ret :: ws') (hrc : rm.cells = mc) (hrs : rm.slots = ms) (hd : y.cls = Cn ∧ y.cls ≠ "java/lang/invoke/MethodHandle" ∧ y.cls ≠ "java/lang/invoke/VarHandle" ∧ (parseMethodDescriptor y.desc).map (fun d => d.parameters.length) = some n) (hR : rm.frames + 1 ≤ R.frames ∧ 8 + (maxL + 11) + rm.locals ≤ R.locals) (hlen : As.length = n) (hst : st0 = As.reverse ++ .ref b :: st) (hcat : (st.map fun v => v.category).sum ≤ 8) (hFb : ∀ (U : State) (g : JFrame) (mk : MethodId) (a : Array Value), F1 U → F1 (U.calling g mk a)) (hF1 : ∀ (s : State) (H : Heap) (locs : List Loc) (U : State), F s → gI false D A s w H locs → U.heap = H → s.vm.Alike U.vm → F1 U) (hf : kc + mc ≤ R.cells ∧ ks + ms ≤ R.slots) (hn : pc + 3 = q) (k : ∀ (u : S) (a : Nat), post u → Ra u a → G (kc + mc) (ks + ms) (W' u) L q (.ref a :: st)) : G kc ks w L pc st0 := by
  obtain ⟨p, e, s, m, args, below, meth, c, Q, rfl, hx, hb, hml, hown, hts, hK, hF, hi⟩ := C
  subst hn
  subst hst
  intro H locs ls hI hl
  refine va_callr (va_runV (As := As) (rest := st) ⟨hx, hb, hml, hown, hts⟩ hM (cwV n hts hG hw hrc hrs hd hR) ⟨gPc_blind hFb, va_recv hK hI.1 hc he, fun U hU hW => ⟨rfl, by rw [hU]; exact hI.1, va_K.moved hW.alike hK, hDD hI.2.1, hF1 s H locs U hF hI hU hW.alike⟩⟩ rfl hlen hl.1 rfl (lv_room hcat) d ⟨hf.1, hf.2⟩) hI.2.2.1 (fun x _ h => hfr x h) hfr (fun u a t H1 locs1 ht hvm hp hB hz hkp hS => ?_)
  exact k u a hp hB.1 H1 locs1 ls ⟨by rw [← ht]; exact hB.2.1, hB.2.2.weaken (fun _ x _ h => hfr x.1 h), hS, fun h => by cases h⟩ hl
theorem gcS_si (C : GB l D tys A F R cc nL own Ts ro ini G)  {post : Int32 → Prop} (hDD : va_D A w → va_D A1 w) (d : decode cc pc = .ok (.invokestatic i, 3)) (hG : GoodIn Ts (va_wsS own i y ws)) (hM : Met l y ws rm (gPc D tys A1 F1 w (As)) (vp_Si post) 0 0 (fun _ => False)) (hw : ws = Cond.code y bytes maxL ret :: ws') (hrc : rm.cells = 0) (hrs : rm.slots = 0) (hd : y.cls ≠ "java/lang/invoke/MethodHandle" ∧ y.cls ≠ "java/lang/invoke/VarHandle" ∧ (parseMethodDescriptor y.desc).map (fun d => d.parameters.length) = some n) (hR : rm.frames + 1 ≤ R.frames ∧ 8 + (maxL + 11) + rm.locals ≤ R.locals) (hlen : As.length = n) (hst : st0 = As.reverse ++ st) (hcat : (st.map fun v => v.category).sum ≤ 8) (hFb : ∀ (U : State) (g : JFrame) (mk : MethodId) (a : Array Value), F1 U → F1 (U.calling g mk a)) (hF1 : ∀ (s : State) (H : Heap) (locs : List Loc) (U : State), F s → gI ro D A s w H locs → U.heap = H → s.vm.Alike U.vm → F1 U) (hf : kc ≤ R.cells ∧ ks ≤ R.slots) (hn : pc + 3 = q) (k : ∀ r : Int32, post r → G kc ks w L q (.int r :: st)) : G kc ks w L pc st0 := by
  obtain ⟨p, e, s, m, args, below, meth, c, Q, rfl, hx, hb, hml, hown, hts, hK, hF, hi⟩ := C
  subst hn
  subst hst
  intro H locs ls hI hl
  exact vp_callSi (va_runS (As := As) (rest := st) ⟨hx, hb, hml, hown, hts⟩ hM (va_cwS n hts hG hw hrc hrs hd hR) ⟨gPc_blind hFb, fun U hU hW => ⟨rfl, by rw [hU]; exact hI.1, va_K.moved hW.alike hK, hDD hI.2.1, hF1 s H locs U hF hI hU hW.alike⟩⟩ rfl hlen hl.1 rfl (lv_room hcat) d ⟨hf.1, hf.2⟩).run (fun r hr => k r hr H locs ls hI hl)
theorem gcS_sif (C : GB l D tys A F R cc nL own Ts ro ini G)  {post : Int32 → Prop} {wc wr : va_W} (isC isR : List Nat) (hC : isC.map (fun i => w[i]?) = wc.map some) (hnC : va_nd isC = true) (hm : ∀ (k : Nat) (x : Nat × va_E), wc[k]? = some x → A1 x.1) (d : decode cc pc = .ok (.invokestatic i, 3)) (hG : GoodIn Ts (va_wsS own i y ws)) (hM : Met l y ws rm (gPc D tys A1 F1 wc (As)) (vp_Si post) 0 0 (fun _ => False)) (hw : ws = Cond.code y bytes maxL ret :: ws') (hrc : rm.cells = 0) (hrs : rm.slots = 0) (hd : y.cls ≠ "java/lang/invoke/MethodHandle" ∧ y.cls ≠ "java/lang/invoke/VarHandle" ∧ (parseMethodDescriptor y.desc).map (fun d => d.parameters.length) = some n) (hR : rm.frames + 1 ≤ R.frames ∧ 8 + (maxL + 11) + rm.locals ≤ R.locals) (hlen : As.length = n) (hst : st0 = As.reverse ++ st) (hcat : (st.map fun v => v.category).sum ≤ 8) (hFb : ∀ (U : State) (g : JFrame) (mk : MethodId) (a : Array Value), F1 U → F1 (U.calling g mk a)) (hF1 : ∀ (s : State) (H : Heap) (locs : List Loc) (U : State), F s → gI ro D A s w H locs → U.heap = H → s.vm.Alike U.vm → F1 U) (hf : kc ≤ R.cells ∧ ks ≤ R.slots) (hn : pc + 3 = q) (k : ∀ r : Int32, post r → G kc ks w L q (.int r :: st)) : G kc ks w L pc st0 := by
  obtain ⟨p, e, s, m, args, below, meth, c, Q, rfl, hx, hb, hml, hown, hts, hK, hF, hi⟩ := C
  subst hn
  subst hst
  intro H locs ls hI hl
  exact vp_callSi (va_runS (As := As) (rest := st) ⟨hx, hb, hml, hown, hts⟩ hM (va_cwS n hts hG hw hrc hrs hd hR) ⟨gPc_blind hFb, fun U hU hW => ⟨rfl, by rw [hU]; exact hI.1.sub isC (map_fm hC), va_K.moved hW.alike hK, (hI.2.1.sub isC hnC hC).weaken (fun k x h _ => hm k x h), hF1 s H locs U hF hI hU hW.alike⟩⟩ rfl hlen hl.1 rfl (lv_room hcat) d ⟨hf.1, hf.2⟩).run (fun r hr => k r hr H locs ls hI hl)
theorem gcS_sl (C : GB l D tys A F R cc nL own Ts ro ini G)  {post : Int64 → Prop} (hDD : va_D A w → va_D A1 w) (d : decode cc pc = .ok (.invokestatic i, 3)) (hG : GoodIn Ts (va_wsS own i y ws)) (hM : Met l y ws rm (gPc D tys A1 F1 w (As)) (vp_Sl post) 0 0 (fun _ => False)) (hw : ws = Cond.code y bytes maxL ret :: ws') (hrc : rm.cells = 0) (hrs : rm.slots = 0) (hd : y.cls ≠ "java/lang/invoke/MethodHandle" ∧ y.cls ≠ "java/lang/invoke/VarHandle" ∧ (parseMethodDescriptor y.desc).map (fun d => d.parameters.length) = some n) (hR : rm.frames + 1 ≤ R.frames ∧ 8 + (maxL + 11) + rm.locals ≤ R.locals) (hlen : As.length = n) (hst : st0 = As.reverse ++ st) (hcat : (st.map fun v => v.category).sum ≤ 8) (hFb : ∀ (U : State) (g : JFrame) (mk : MethodId) (a : Array Value), F1 U → F1 (U.calling g mk a)) (hF1 : ∀ (s : State) (H : Heap) (locs : List Loc) (U : State), F s → gI ro D A s w H locs → U.heap = H → s.vm.Alike U.vm → F1 U) (hf : kc ≤ R.cells ∧ ks ≤ R.slots) (hn : pc + 3 = q) (k : ∀ r : Int64, post r → G kc ks w L q (.long r :: st)) : G kc ks w L pc st0 := by
  obtain ⟨p, e, s, m, args, below, meth, c, Q, rfl, hx, hb, hml, hown, hts, hK, hF, hi⟩ := C
  subst hn
  subst hst
  intro H locs ls hI hl
  exact vp_callSl (va_runS (As := As) (rest := st) ⟨hx, hb, hml, hown, hts⟩ hM (va_cwS n hts hG hw hrc hrs hd hR) ⟨gPc_blind hFb, fun U hU hW => ⟨rfl, by rw [hU]; exact hI.1, va_K.moved hW.alike hK, hDD hI.2.1, hF1 s H locs U hF hI hU hW.alike⟩⟩ rfl hlen hl.1 rfl (lv_room hcat) d ⟨hf.1, hf.2⟩).run (fun r hr => k r hr H locs ls hI hl)
theorem gcS_slf (C : GB l D tys A F R cc nL own Ts ro ini G)  {post : Int64 → Prop} {wc wr : va_W} (isC isR : List Nat) (hC : isC.map (fun i => w[i]?) = wc.map some) (hnC : va_nd isC = true) (hm : ∀ (k : Nat) (x : Nat × va_E), wc[k]? = some x → A1 x.1) (d : decode cc pc = .ok (.invokestatic i, 3)) (hG : GoodIn Ts (va_wsS own i y ws)) (hM : Met l y ws rm (gPc D tys A1 F1 wc (As)) (vp_Sl post) 0 0 (fun _ => False)) (hw : ws = Cond.code y bytes maxL ret :: ws') (hrc : rm.cells = 0) (hrs : rm.slots = 0) (hd : y.cls ≠ "java/lang/invoke/MethodHandle" ∧ y.cls ≠ "java/lang/invoke/VarHandle" ∧ (parseMethodDescriptor y.desc).map (fun d => d.parameters.length) = some n) (hR : rm.frames + 1 ≤ R.frames ∧ 8 + (maxL + 11) + rm.locals ≤ R.locals) (hlen : As.length = n) (hst : st0 = As.reverse ++ st) (hcat : (st.map fun v => v.category).sum ≤ 8) (hFb : ∀ (U : State) (g : JFrame) (mk : MethodId) (a : Array Value), F1 U → F1 (U.calling g mk a)) (hF1 : ∀ (s : State) (H : Heap) (locs : List Loc) (U : State), F s → gI ro D A s w H locs → U.heap = H → s.vm.Alike U.vm → F1 U) (hf : kc ≤ R.cells ∧ ks ≤ R.slots) (hn : pc + 3 = q) (k : ∀ r : Int64, post r → G kc ks w L q (.long r :: st)) : G kc ks w L pc st0 := by
  obtain ⟨p, e, s, m, args, below, meth, c, Q, rfl, hx, hb, hml, hown, hts, hK, hF, hi⟩ := C
  subst hn
  subst hst
  intro H locs ls hI hl
  exact vp_callSl (va_runS (As := As) (rest := st) ⟨hx, hb, hml, hown, hts⟩ hM (va_cwS n hts hG hw hrc hrs hd hR) ⟨gPc_blind hFb, fun U hU hW => ⟨rfl, by rw [hU]; exact hI.1.sub isC (map_fm hC), va_K.moved hW.alike hK, (hI.2.1.sub isC hnC hC).weaken (fun k x h _ => hm k x h), hF1 s H locs U hF hI hU hW.alike⟩⟩ rfl hlen hl.1 rfl (lv_room hcat) d ⟨hf.1, hf.2⟩).run (fun r hr => k r hr H locs ls hI hl)
theorem gcS_qv (C : GB l D tys A F R cc nL own Ts false ini G)  {S : Type} {post : S → Prop} {W' : S → va_W} {mc ms : Nat} (hDD : va_D A w → va_D A1 w) (hfr : ∀ x : Nat, A1 x → A x) (d : decode cc pc = .ok (.invokestatic i, 3)) (hG : GoodIn Ts (va_wsS own i y ws)) (hM : Met l y ws rm (gPc D tys A1 F1 w (As)) (va_Qv post (fun u t => va_P D vwCl (W' u) t.heap ∧ va_D A1 (W' u)) A1) mc ms A1) (hw : ws = Cond.code y bytes maxL ret :: ws') (hrc : rm.cells = mc) (hrs : rm.slots = ms) (hd : y.cls ≠ "java/lang/invoke/MethodHandle" ∧ y.cls ≠ "java/lang/invoke/VarHandle" ∧ (parseMethodDescriptor y.desc).map (fun d => d.parameters.length) = some n) (hR : rm.frames + 1 ≤ R.frames ∧ 8 + (maxL + 11) + rm.locals ≤ R.locals) (hlen : As.length = n) (hst : st0 = As.reverse ++ st) (hcat : (st.map fun v => v.category).sum ≤ 8) (hFb : ∀ (U : State) (g : JFrame) (mk : MethodId) (a : Array Value), F1 U → F1 (U.calling g mk a)) (hF1 : ∀ (s : State) (H : Heap) (locs : List Loc) (U : State), F s → gI false D A s w H locs → U.heap = H → s.vm.Alike U.vm → F1 U) (hf : kc + mc ≤ R.cells ∧ ks + ms ≤ R.slots) (hn : pc + 3 = q) (k : ∀ (u : S), post u → G (kc + mc) (ks + ms) (W' u) L q st) : G kc ks w L pc st0 := by
  obtain ⟨p, e, s, m, args, below, meth, c, Q, rfl, hx, hb, hml, hown, hts, hK, hF, hi⟩ := C
  subst hn
  subst hst
  intro H locs ls hI hl
  refine va_callv (va_runS (As := As) (rest := st) ⟨hx, hb, hml, hown, hts⟩ hM (va_cwS n hts hG hw hrc hrs hd hR) ⟨gPc_blind hFb, fun U hU hW => ⟨rfl, by rw [hU]; exact hI.1, va_K.moved hW.alike hK, hDD hI.2.1, hF1 s H locs U hF hI hU hW.alike⟩⟩ rfl hlen hl.1 rfl (lv_room hcat) d ⟨hf.1, hf.2⟩) hI.2.2.1 (fun x _ h => hfr x h) hfr (fun u t H1 locs1 ht hvm hp hB hz hkp hS => ?_)
  exact k u hp H1 locs1 ls ⟨by rw [← ht]; exact hB.1, hB.2.weaken (fun _ x _ h => hfr x.1 h), hS, fun h => by cases h⟩ hl
theorem gcS_qvf (C : GB l D tys A F R cc nL own Ts false ini G)  {S : Type} {post : S → Prop} {W' : S → va_W} {mc ms : Nat} {wc wr : va_W} (isC isR : List Nat) (hC : isC.map (fun i => w[i]?) = wc.map some) (hnC : va_nd isC = true) (hm : ∀ (k : Nat) (x : Nat × va_E), wc[k]? = some x → A1 x.1) (w' : S → va_W) (hR0 : isR.map (fun i => w[i]?) = wr.map some) (hnR : va_nd isR = true) (hdis : ∀ i ∈ isR, i ∉ isC) (hAA : ∀ (sz x : Nat), A1 x → va_A wc sz x) (hfr : ∀ x : Nat, A1 x → A x) (js : List Nat) (hnj : va_nd js = true) (hj : ∀ u, js.map (fun i => (wr ++ W' u)[i]?) = (w' u).map some) (d : decode cc pc = .ok (.invokestatic i, 3)) (hG : GoodIn Ts (va_wsS own i y ws)) (hM : Met l y ws rm (gPc D tys A1 F1 wc (As)) (va_Qv post (fun u t => va_P D vwCl (W' u) t.heap ∧ va_D A1 (W' u)) A1) mc ms A1) (hw : ws = Cond.code y bytes maxL ret :: ws') (hrc : rm.cells = mc) (hrs : rm.slots = ms) (hd : y.cls ≠ "java/lang/invoke/MethodHandle" ∧ y.cls ≠ "java/lang/invoke/VarHandle" ∧ (parseMethodDescriptor y.desc).map (fun d => d.parameters.length) = some n) (hR : rm.frames + 1 ≤ R.frames ∧ 8 + (maxL + 11) + rm.locals ≤ R.locals) (hlen : As.length = n) (hst : st0 = As.reverse ++ st) (hcat : (st.map fun v => v.category).sum ≤ 8) (hFb : ∀ (U : State) (g : JFrame) (mk : MethodId) (a : Array Value), F1 U → F1 (U.calling g mk a)) (hF1 : ∀ (s : State) (H : Heap) (locs : List Loc) (U : State), F s → gI false D A s w H locs → U.heap = H → s.vm.Alike U.vm → F1 U) (hf : kc + mc ≤ R.cells ∧ ks + ms ≤ R.slots) (hn : pc + 3 = q) (k : ∀ (u : S), post u → G (kc + mc) (ks + ms) (w' u) L q st) : G kc ks w L pc st0 := by
  obtain ⟨p, e, s, m, args, below, meth, c, Q, rfl, hx, hb, hml, hown, hts, hK, hF, hi⟩ := C
  subst hn
  subst hst
  intro H locs ls hI hl
  refine va_callv (va_runS (As := As) (rest := st) ⟨hx, hb, hml, hown, hts⟩ hM (va_cwS n hts hG hw hrc hrs hd hR) ⟨gPc_blind hFb, fun U hU hW => ⟨rfl, by rw [hU]; exact hI.1.sub isC (map_fm hC), va_K.moved hW.alike hK, (hI.2.1.sub isC hnC hC).weaken (fun k x h _ => hm k x h), hF1 s H locs U hF hI hU hW.alike⟩⟩ rfl hlen hl.1 rfl (lv_room hcat) d ⟨hf.1, hf.2⟩) hI.2.2.1 (fun x _ h => hfr x h) hfr (fun u t H1 locs1 ht hvm hp hB hz hkp hS => ?_)
  have hP1 : va_P D vwCl (W' u) H1 := by rw [← ht]; exact hB.1
  have hj2 := va_joinA hI.1 hI.2.1 isC isR hC hR0 hnR hdis (hAA H.size) hkp hfr hP1 hB.2
  exact k u hp H1 locs1 ls ⟨hj2.1.sub js (map_fm (hj u)), hj2.2.sub js hnj (hj u), hS, fun h => by cases h⟩ hl
theorem gcI_qvf (C : GB l D tys A F R cc nL own Ts false ini G) {b : Nat} {S : Type} {post : S → Prop} {W' : S → va_W} {mc ms : Nat} {wc wr : va_W} (isC isR : List Nat) (hC : isC.map (fun i => w[i]?) = wc.map some) (hnC : va_nd isC = true) (hm : ∀ (k : Nat) (x : Nat × va_E), wc[k]? = some x → A1 x.1) (w' : S → va_W) (hR0 : isR.map (fun i => w[i]?) = wr.map some) (hnR : va_nd isR = true) (hdis : ∀ i ∈ isR, i ∉ isC) (hAA : ∀ (sz x : Nat), A1 x → va_A wc sz x) (hfr : ∀ x : Nat, A1 x → A x) (js : List Nat) (hnj : va_nd js = true) (hj : ∀ u, js.map (fun i => (wr ++ W' u)[i]?) = (w' u).map some) (d : decode cc pc = .ok (.invokespecial i, 3)) (hG : GoodIn Ts ws) (hin : Cond.initialized y.cls ∈ Ts) (hli : Cond.methodLink own i y ∈ Ts) (hins : Cond.instanceMethod y ∈ Ts) (hy1 : y.name = "<init>") (hM : Met l y ws rm (gPc D tys A1 F1 wc (.ref b :: As)) (va_Qv post (fun u t => va_P D vwCl (W' u) t.heap ∧ va_D A1 (W' u)) A1) mc ms A1) (hw : ws = Cond.code y bytes maxL none :: ws') (hrc : rm.cells = mc) (hrs : rm.slots = ms) (hd : y.cls ≠ "java/lang/invoke/MethodHandle" ∧ y.cls ≠ "java/lang/invoke/VarHandle" ∧ (parseMethodDescriptor y.desc).map (fun d => d.parameters.length) = some n) (hR : rm.frames + 1 ≤ R.frames ∧ 8 + (maxL + 11) + rm.locals ≤ R.locals) (hlen : As.length = n) (hst : st0 = As.reverse ++ .ref b :: st) (hcat : (st.map fun v => v.category).sum ≤ 8) (hFb : ∀ (U : State) (g : JFrame) (mk : MethodId) (a : Array Value), F1 U → F1 (U.calling g mk a)) (hF1 : ∀ (s : State) (H : Heap) (locs : List Loc) (U : State), F s → gI false D A s w H locs → U.heap = H → s.vm.Alike U.vm → F1 U) (hf : kc + mc ≤ R.cells ∧ ks + ms ≤ R.slots) (hn : pc + 3 = q) (k : ∀ (u : S), post u → G (kc + mc) (ks + ms) (w' u) L q st) : G kc ks w L pc st0 := by
  obtain ⟨p, e, s, m, args, below, meth, c, Q, rfl, hx, hb, hml, hown, hts, hK, hF, hi⟩ := C
  subst hn
  subst hst
  intro H locs ls hI hl
  refine va_callv (va_runI (As := As) (rest := st) ⟨hx, hb, hml, hown, hts⟩ hM (cwI n hts hG hw hrc hrs (hts _ hin) (hts _ hli) (hts _ hins) hy1 hd hR) ⟨gPc_blind hFb, fun U hU hW => ⟨rfl, by rw [hU]; exact hI.1.sub isC (map_fm hC), va_K.moved hW.alike hK, (hI.2.1.sub isC hnC hC).weaken (fun k x h _ => hm k x h), hF1 s H locs U hF hI hU hW.alike⟩⟩ rfl hlen hl.1 rfl (lv_room hcat) d ⟨hf.1, hf.2⟩) hI.2.2.1 (fun x _ h => hfr x h) hfr (fun u t H1 locs1 ht hvm hp hB hz hkp hS => ?_)
  have hP1 : va_P D vwCl (W' u) H1 := by rw [← ht]; exact hB.1
  have hj2 := va_joinA hI.1 hI.2.1 isC isR hC hR0 hnR hdis (hAA H.size) hkp hfr hP1 hB.2
  exact k u hp H1 locs1 ls ⟨hj2.1.sub js (map_fm (hj u)), hj2.2.sub js hnj (hj u), hS, fun h => by cases h⟩ hl
end GCALL
