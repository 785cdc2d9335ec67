/-! whole numbers in an int; the table of least powers -/
def jN (z : Int) : Int32 := Int32.ofInt z
theorem jN_toInt {z : Int} (h1 : -2147483648 ≤ z) (h2 : z < 2147483648) : (jN z).toInt = z := Int32.toInt_ofInt_of_le h1 h2
theorem jN_add (a b : Int) : jN a + jN b = jN (a + b) := (Int32.ofInt_add a b).symm
theorem jN_of (x : Int32) : jN x.toInt = x := Int32.ofInt_toInt x
theorem jN_lt {a b : Int} (ha : -2147483648 ≤ a ∧ a < 2147483648) (hb : -2147483648 ≤ b ∧ b < 2147483648) : jN a < jN b ↔ a < b := by
  rw [Int32.lt_iff_toInt_lt, jN_toInt ha.1 ha.2, jN_toInt hb.1 hb.2]
theorem jN_le {a b : Int} (ha : -2147483648 ≤ a ∧ a < 2147483648) (hb : -2147483648 ≤ b ∧ b < 2147483648) : jN a ≤ jN b ↔ a ≤ b := by
  rw [Int32.le_iff_toInt_le, jN_toInt ha.1 ha.2, jN_toInt hb.1 hb.2]
theorem jN_eq {a b : Int} (ha : -2147483648 ≤ a ∧ a < 2147483648) (hb : -2147483648 ≤ b ∧ b < 2147483648) : jN a = jN b ↔ a = b := by
  rw [← Int32.toInt_inj, jN_toInt ha.1 ha.2, jN_toInt hb.1 hb.2]
theorem jN_nI (n : Nat) : nI n = jN (n : Int) := rfl
theorem jN_big : jN BIG = 100000000 := by decide
def okM (gr li nu : Nat → Int32) (k u v : Nat) : Bool := decide (flN gr li nu k u v = 0)
def pwM (gr nu : Nat → Int32) (k u v : Nat) : Int := (pwN gr nu k u v).toInt
theorem okM_t {gr li nu : Nat → Int32} {k u v : Nat} (h : flN gr li nu k u v = 0) : okM gr li nu k u v = true := decide_eq_true h
theorem okM_f {gr li nu : Nat → Int32} {k u v : Nat} (h : ¬ flN gr li nu k u v = 0) : ¬ okM gr li nu k u v = true := fun q => h (of_decide_eq_true q)
/-- the train's numbers -/
def TrOK (nu : Nat → Int32) : Prop := (∃ x : Nat, 1 ≤ x ∧ x ≤ 20 ∧ nu 0 = nI x) ∧ (∃ x : Nat, x ≤ 20 ∧ nu 1 = nI x) ∧ (∃ x : Nat, 1 ≤ x ∧ x ≤ 400 ∧ nu 2 = nI x) ∧ (∃ x : Nat, 1 ≤ x ∧ x ≤ 400 ∧ nu 3 = nI x) ∧ (∃ x : Nat, x ≤ 10 ∧ nu 4 = nI x)
theorem neg_jN (z : Int) : -(jN z) = jN (-z) := (Int32.ofInt_neg z).symm
theorem mul_jN (a b : Int) : jN a * jN b = jN (a * b) := (Int32.ofInt_mul a b).symm
theorem SB_M {gr li nu : Nat → Int32} (h : TrOK nu) : SB (okM gr li nu) (pwM gr nu) := by
  intro k u v hok
  have hf := of_decide_eq_true hok
  refine ⟨?_, fl_nz hf⟩
  obtain ⟨-, -, ⟨p, p1, p2, p3⟩, ⟨b, b1, b2, b3⟩, q, q1, q2⟩ := h
  unfold flN fltE at hf
  split at hf
  · exact absurd hf (by decide)
  · split at hf
    · exact absurd hf (by decide)
    · split at hf
      · exact absurd hf (by decide)
      · split at hf
        · exact absurd hf (by decide)
        · rename_i h4
          split at hf
          · exact absurd hf (by decide)
          · rename_i h5
            have h4 := Classical.not_not.mp h4
            have h5 := Classical.not_not.mp h5
            unfold pwM pwN pwE
            generalize fcN gr nu k u v = f at h4 h5 ⊢
            rw [p3, Int32.le_iff_toInt_le, nI_toInt (by omega)] at h4
            rw [b3, jN_nI, neg_jN, Int32.le_iff_toInt_le, jN_toInt (by omega) (by omega)] at h5
            by_cases hz : f ≤ 0
            · rw [if_neg (not_not_intro hz)]
              have hz' : f.toInt ≤ 0 := by
                have := Int32.le_iff_toInt_le.mp hz
                simpa using this
              obtain ⟨y, hy⟩ : ∃ y : Nat, f.toInt = -(y : Int) := ⟨(-f.toInt).toNat, by omega⟩
              have e1 : -f = nI y := by
                rw [← jN_of f, hy, neg_jN, jN_nI]; congr 1; omega
              have e2 : nu 4 * -f / nI 10 = nI (q * y / 10) := by
                rw [e1, q2, pk_mul]
                exact pk_div (Nat.lt_of_le_of_lt (Nat.mul_le_mul q1 (show y ≤ 400 by omega)) (by decide)) (by decide) (by decide)
              have e3 : q * y ≤ 10 * 400 := Nat.mul_le_mul q1 (by omega)
              rw [e2, jN_nI, neg_jN, jN_toInt (by omega) (by omega)]
              omega
            · rw [if_pos hz]
              have hz' : 0 < f.toInt := by
                have := Int32.lt_iff_toInt_lt.mp (Int32.not_le.mp hz)
                simpa using this
              omega
def cryV (f : Nat → Int32) (own next tm : Nat) (pw : Int32) (t : Nat) : Int32 := if tm ≤ t ∧ f (next + t - tm) < 100000000 ∧ pw + f (next + t - tm) < f (own + t) then pw + f (next + t - tm) else f (own + t)
theorem cry_a {f : Nat → Int32} {own next tm t : Nat} {pw : Int32} (h : 100000000 ≤ f (next + t - tm)) : cryV f own next tm pw t = f (own + t) := if_neg (fun q => absurd q.2.1 (Int32.not_lt.mpr h))
theorem cry_b {f : Nat → Int32} {own next tm t : Nat} {pw : Int32} (h : f (own + t) ≤ pw + f (next + t - tm)) : cryV f own next tm pw t = f (own + t) := if_neg (fun q => absurd q.2.2 (Int32.not_lt.mpr h))
theorem cry_c {f : Nat → Int32} {own next tm t : Nat} {pw : Int32} (h1 : ¬ 100000000 ≤ f (next + t - tm)) (h2 : ¬ f (own + t) ≤ pw + f (next + t - tm)) (h3 : tm ≤ t) : cryV f own next tm pw t = pw + f (next + t - tm) := if_pos ⟨h3, Int32.not_le.mp h1, Int32.not_le.mp h2⟩
theorem cry_d {f : Nat → Int32} {own next tm t : Nat} {pw : Int32} (h : t < tm) : cryV f own next tm pw t = f (own + t) := if_neg (fun q => by have := q.1; omega)
theorem cry_keep {C : Nat → Int32} {f g : Nat → Int32} {own k : Nat} (hg : ∀ t, t < 1001 → g (own + t) = if t < k then C t else f (own + t)) (e : C k = f (own + k)) : ∀ t, t < 1001 → g (own + t) = if t < k + 1 then C t else f (own + t) := by
  intro x hx
  rw [hg x hx]
  by_cases q : x < k
  · rw [if_pos q, if_pos (by omega)]
  · rw [if_neg q]
    by_cases q2 : x = k
    · subst q2; rw [if_pos (by omega), e]
    · rw [if_neg (by omega)]
theorem cry_set {C : Nat → Int32} {f g : Nat → Int32} {own k : Nat} {y : Int32} (hg : ∀ t, t < 1001 → g (own + t) = if t < k then C t else f (own + t)) (e : C k = y) : ∀ t, t < 1001 → upd g (own + k) y (own + t) = if t < k + 1 then C t else f (own + t) := by
  intro x hx
  by_cases q2 : x = k
  · subst q2; rw [pk_us, if_pos (by omega), e]
  · rw [pk_un (by omega), hg x hx]
    by_cases q : x < k
    · rw [if_pos q, if_pos (by omega)]
    · rw [if_neg q, if_neg (by omega)]
def inR (z : Int) : Prop := z = BIG ∨ (-6400 ≤ z ∧ z ≤ 6400)
theorem cry_fold {gr li nu : Nat → Int32} (hT : TrOK nu) {f : Nat → Int32} {own next k u v t : Nat} {x : Int} {b : Nat → Int} (h : okM gr li nu k u v = true) (ht : t ≤ 1000) (ho : f (own + t) = jN x) (hx : -10000 ≤ x ∧ x ≤ BIG) (hn : ∀ s, s ≤ 1000 → f (next + s) = jN (b s)) (hb : ∀ s, inR (b s)) : cryV f own next (tmN u v) (pwN gr nu k u v) t = jN (mnI x (candB (okM gr li nu) (pwM gr nu) k u v t b)) := by
  have hp := (SB_M hT k u v h).1
  have hpe : pwN gr nu k u v = jN (pwM gr nu k u v) := (jN_of _).symm
  have hB : BIG = 100000000 := rfl
  by_cases h1 : tmN u v ≤ t
  · have hnx := hn (t - tmN u v) (by omega)
    rw [show next + (t - tmN u v) = next + t - tmN u v by omega] at hnx
    rcases hb (t - tmN u v) with hbb | hbb
    · have hc : candB (okM gr li nu) (pwM gr nu) k u v t b = BIG := if_neg (fun q => by have := q.2.2; omega)
      rw [cry_a (by rw [hnx, hbb, jN_big]; exact Int32.le_refl _), ho, hc]
      congr 1; unfold mnI; rw [if_neg (by omega)]
    · have hc : candB (okM gr li nu) (pwM gr nu) k u v t b = pwM gr nu k u v + b (t - tmN u v) := if_pos ⟨h, h1, by omega⟩
      have h2 : ¬ (100000000 : Int32) ≤ f (next + t - tmN u v) := by
        rw [hnx, ← jN_big, jN_le (by omega) (by omega)]; omega
      rw [hc]
      unfold mnI
      by_cases h3 : pwM gr nu k u v + b (t - tmN u v) < x
      · rw [if_pos h3, cry_c h2 (by rw [hnx, ho, hpe, jN_add, jN_le (by omega) (by omega)]; omega) h1, hnx, hpe, jN_add]
      · rw [if_neg h3, cry_b (by rw [hnx, ho, hpe, jN_add, jN_le (by omega) (by omega)]; omega), ho]
  · have hc : candB (okM gr li nu) (pwM gr nu) k u v t b = BIG := if_neg (fun q => h1 q.2.1)
    rw [cry_d (by omega), ho, hc]
    congr 1; unfold mnI; rw [if_neg (by omega)]
/-- what the table holds for the leg from P to Q -/
def TB (ok : Nat → Nat → Nat → Bool) (pw : Nat → Nat → Nat → Int) (P Q j u t : Nat) : Int := if u = 0 ∧ P < j ∧ j < Q then BIG else BB ok pw (Q - j) j u t
theorem TB_rg {ok : Nat → Nat → Nat → Bool} {pw : Nat → Nat → Nat → Int} (h : SB ok pw) {P Q j u t : Nat} (hQ : Q ≤ 16) : inR (TB ok pw P Q j u t) := by
  unfold TB
  split
  · exact Or.inl rfl
  · exact BB_rg h (by omega)
/-- behind the rows from k on; the row of k up to u -/
def WIa (ok : Nat → Nat → Nat → Bool) (pw : Nat → Nat → Nat → Int) (P Q k : Nat) (g : Nat → Int32) : Prop := ∀ j, k ≤ j → j ≤ Q → P < j → ∀ u, u ≤ 6 → ∀ t, t ≤ 1000 → g (1001 * (7 * j + u) + t) = jN (TB ok pw P Q j u t)
def WIb (P k : Nat) (g : Nat → Int32) : Prop := ∀ j, P ≤ j → j < k → ∀ u, u ≤ 6 → ∀ t, t ≤ 1000 → g (1001 * (7 * j + u) + t) = 100000000
def WIc (ok : Nat → Nat → Nat → Bool) (pw : Nat → Nat → Nat → Int) (P Q : Nat) (g : Nat → Int32) : Prop := ∀ t, t ≤ 1000 → g (1001 * (7 * P + 0) + t) = jN (BB ok pw (Q - P) P 0 t)
/-- the row of k: speeds from lo on below u0 are done -/
def WR (ok : Nat → Nat → Nat → Bool) (pw : Nat → Nat → Nat → Int) (Q k lo u0 : Nat) (g : Nat → Int32) : Prop := ∀ u, u ≤ 6 → ∀ t, t ≤ 1000 → g (1001 * (7 * k + u) + t) = jN (if lo ≤ u ∧ u < u0 then BB ok pw (Q - k) k u t else BIG)
/-- in the row of k, speed u: the steps to speeds from lv on, i of them -/
def WX (ok : Nat → Nat → Nat → Bool) (pw : Nat → Nat → Nat → Int) (Q k lo u lv i : Nat) (g : Nat → Int32) : Prop := ∀ u', u' ≤ 6 → ∀ t, t ≤ 1000 → g (1001 * (7 * k + u') + t) = jN (if u' = u then foldV (fun v => candB ok pw k u v t (fun s => BB ok pw (Q - k - 1) (k + 1) v s)) lv i else if lo ≤ u' ∧ u' < u then BB ok pw (Q - k) k u' t else BIG)
theorem WR_WX {ok : Nat → Nat → Nat → Bool} {pw : Nat → Nat → Nat → Int} {Q k lo u lv : Nat} {g : Nat → Int32} (h : WR ok pw Q k lo u g) : WX ok pw Q k lo u lv 0 g := by
  intro u' hu' t ht
  rw [h u' hu' t ht]
  by_cases e : u' = u
  · rw [if_pos e, if_neg (by omega)]; rfl
  · rw [if_neg e]
theorem WX_WR {ok : Nat → Nat → Nat → Bool} {pw : Nat → Nat → Nat → Int} {Q k lo u : Nat} {g : Nat → Int32} (hk : k < Q) (hlo : lo ≤ u) (h : WX ok pw Q k lo u (if k + 1 = Q then 0 else 1) (if k + 1 = Q then 1 else 6) g) : WR ok pw Q k lo (u + 1) g := by
  intro u' hu' t ht
  obtain ⟨n, hn⟩ : ∃ n, Q - k = n + 1 := ⟨Q - k - 1, by omega⟩
  by_cases q : k + 1 = Q
  · rw [if_pos q, if_pos q] at h
    rw [h u' hu' t ht]
    by_cases e : u' = u
    · subst e
      rw [if_pos rfl, if_pos (show lo ≤ u' ∧ u' < u' + 1 by omega), hn, BB, if_pos (show n = 0 by omega), if_pos (show n = 0 by omega), show n + 1 - 1 = n by omega]
    · rw [if_neg e]
      by_cases q : lo ≤ u' ∧ u' < u
      · rw [if_pos q, if_pos (by omega)]
      · rw [if_neg q, if_neg (by omega)]
  · rw [if_neg q, if_neg q] at h
    rw [h u' hu' t ht]
    by_cases e : u' = u
    · subst e
      rw [if_pos rfl, if_pos (show lo ≤ u' ∧ u' < u' + 1 by omega), hn, BB, if_neg (show ¬ n = 0 by omega), if_neg (show ¬ n = 0 by omega), show n + 1 - 1 = n by omega]
    · rw [if_neg e]
      by_cases q : lo ≤ u' ∧ u' < u
      · rw [if_pos q, if_pos (by omega)]
      · rw [if_neg q, if_neg (by omega)]
theorem foldV_rg {ok : Nat → Nat → Nat → Bool} {pw : Nat → Nat → Nat → Int} (h : SB ok pw) {k u t : Nat} {b : Nat → Nat → Int} (hb : ∀ v s, inR (b v s)) (lo : Nat) : ∀ n, -10000 ≤ foldV (fun v => candB ok pw k u v t (b v)) lo n ∧ foldV (fun v => candB ok pw k u v t (b v)) lo n ≤ BIG
  | 0 => by simp [foldV, BIG]
  | n + 1 => by
    have ih := foldV_rg h hb lo n (k := k) (u := u) (t := t)
    have hB : BIG = 100000000 := rfl
    have hc : -10000 ≤ candB ok pw k u (lo + n) t (b (lo + n)) := by
      unfold candB
      split
      · rename_i q
        have := (h _ _ _ q.1).1
        rcases hb (lo + n) (t - tmN u (lo + n)) with e | e <;> omega
      · omega
    unfold foldV mnI
    split <;> omega
theorem WX_no {ok : Nat → Nat → Nat → Bool} {pw : Nat → Nat → Nat → Int} {Q k lo u lv i : Nat} {g : Nat → Int32} (hn : ¬ ok k u (lv + i) = true) (h : WX ok pw Q k lo u lv i g) : WX ok pw Q k lo u lv (i + 1) g := by
  intro u' hu' t ht
  rw [h u' hu' t ht]
  by_cases e : u' = u
  · rw [if_pos e, if_pos e]
    have hc : candB ok pw k u (lv + i) t (fun s => BB ok pw (Q - k - 1) (k + 1) (lv + i) s) = BIG := if_neg (fun q => hn q.1)
    have hc2 : foldV (fun v => candB ok pw k u v t (fun s => BB ok pw (Q - k - 1) (k + 1) v s)) lv (i + 1) = mnI (foldV (fun v => candB ok pw k u v t (fun s => BB ok pw (Q - k - 1) (k + 1) v s)) lv i) BIG := by rw [foldV]; exact congrArg _ hc
    have := foldV_le (fun v => candB ok pw k u v t (fun s => BB ok pw (Q - k - 1) (k + 1) v s)) lv i
    rw [hc2, mnI, if_neg (by omega)]
  · rw [if_neg e, if_neg e]
theorem WX_yes {gr li nu : Nat → Int32} (hT : TrOK nu) {P Q k lo u lv i : Nat} {g g2 : Nat → Int32} (hQ : Q ≤ 16) (hPk : P ≤ k) (hk : k < Q) (hu : u ≤ 6) (hv : lv + i ≤ 6) (hlv : k + 1 = Q ∨ 1 ≤ lv) (hok : okM gr li nu k u (lv + i) = true) (ha : WIa (okM gr li nu) (pwM gr nu) P Q (k + 1) g) (h : WX (okM gr li nu) (pwM gr nu) Q k lo u lv i g)
    (h1 : ∀ t, t < 1001 → g2 (1001 * (7 * k + u) + t) = cryV g (1001 * (7 * k + u)) (1001 * (7 * (k + 1) + (lv + i))) (tmN u (lv + i)) (pwN gr nu k u (lv + i)) t) (h2 : ∀ j, (j < 1001 * (7 * k + u) ∨ 1001 * (7 * k + u) + 1001 ≤ j) → g2 j = g j) : WX (okM gr li nu) (pwM gr nu) Q k lo u lv (i + 1) g2 := by
  intro u' hu' t ht
  by_cases e : u' = u
  · subst e
    rw [if_pos rfl, h1 t (by omega)]
    have ho := h u' hu' t ht
    rw [if_pos rfl] at ho
    have hb : ∀ v s, inR (BB (okM gr li nu) (pwM gr nu) (Q - k - 1) (k + 1) v s) := fun v s => BB_rg (SB_M hT) (by omega)
    refine cry_fold hT hok ht ho (foldV_rg (SB_M hT) (b := fun v s => BB (okM gr li nu) (pwM gr nu) (Q - k - 1) (k + 1) v s) hb lv i) (fun s hs => ?_) (fun s => hb _ s)
    have := ha (k + 1) (Nat.le_refl _) (by omega) (by omega) (lv + i) hv s hs
    rw [this, TB, if_neg (by omega), show Q - (k + 1) = Q - k - 1 by omega]
  · rw [h2 _ (by rcases Nat.lt_or_ge u' u with q | q <;> omega), h u' hu' t ht, if_neg e, if_neg e]
theorem WIa_keep {ok : Nat → Nat → Nat → Bool} {pw : Nat → Nat → Nat → Int} {P Q k u : Nat} {g g2 : Nat → Int32} (hu : u ≤ 6) (h : WIa ok pw P Q (k + 1) g) (h2 : ∀ j, (j < 1001 * (7 * k + u) ∨ 1001 * (7 * k + u) + 1001 ≤ j) → g2 j = g j) : WIa ok pw P Q (k + 1) g2 := fun j h3 h4 h5 u' hu' t ht => by
  rw [h2 _ (by omega)]; exact h j h3 h4 h5 u' hu' t ht
theorem WIb_keep {P k u : Nat} {g g2 : Nat → Int32} (h : WIb P k g) (h2 : ∀ j, (j < 1001 * (7 * k + u) ∨ 1001 * (7 * k + u) + 1001 ≤ j) → g2 j = g j) : WIb P k g2 := fun j h3 h4 u' hu' t ht => by
  rw [h2 _ (by omega)]; exact h j h3 h4 u' hu' t ht
theorem WR_of {ok : Nat → Nat → Nat → Bool} {pw : Nat → Nat → Nat → Int} {P Q k lo : Nat} {g : Nat → Int32} (hP : P ≤ k) (h : WIb P (k + 1) g) : WR ok pw Q k lo lo g := fun u hu t ht => by
  rw [h k hP (by omega) u hu t ht, if_neg (by omega), jN_big]
theorem WIb_less {P k : Nat} {g : Nat → Int32} (h : WIb P (k + 1) g) : WIb P k g := fun j h3 h4 => h j h3 (by omega)
theorem WIa_next {ok : Nat → Nat → Nat → Bool} {pw : Nat → Nat → Nat → Int} {P Q k : Nat} {g : Nat → Int32} (hk : k < Q) (ha : WIa ok pw P Q (k + 1) g) (hr : P < k → WR ok pw Q k 1 7 g) : WIa ok pw P Q k g := fun j h3 h4 h5 u hu t ht => by
  by_cases e : j = k
  · subst e
    rw [hr h5 u hu t ht, TB]
    by_cases q : u = 0
    · rw [if_neg (show ¬ (1 ≤ u ∧ u < 7) by omega), if_pos ⟨q, h5, hk⟩]
    · rw [if_pos (show 1 ≤ u ∧ u < 7 by omega), if_neg (by omega)]
  · exact ha j (by omega) h4 h5 u hu t ht
theorem WIc_of {ok : Nat → Nat → Nat → Bool} {pw : Nat → Nat → Nat → Int} {P Q : Nat} {g : Nat → Int32} (h : WR ok pw Q P 0 1 g) : WIc ok pw P Q g := fun t ht => by
  rw [h 0 (by omega) t ht, if_pos (by omega)]
theorem dn_iff {a r : Nat} (h : a + r < 2 ^ 30) : nI (a + r) + (-1) < nI a ↔ r = 0 := by
  have e : nI (a + r) + (-1) = jN ((a + r : Nat) - 1) := by
    rw [jN_nI, show (-1 : Int32) = jN (-1) from by decide, jN_add]; rfl
  rw [e, jN_nI a, jN_lt (by omega) (by omega)]
  omega
