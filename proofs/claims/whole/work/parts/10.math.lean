/-! pure: ways over a leg, the least power from a post on, the numbers by which ways are ordered -/
def BIG : Int := 100000000
def mnI (a b : Int) : Int := if b < a then b else a
def foldV (c : Nat → Int) (lo : Nat) : Nat → Int | 0 => BIG | i + 1 => mnI (foldV c lo i) (c (lo + i))
def candB (ok : Nat → Nat → Nat → Bool) (pw : Nat → Nat → Nat → Int) (k u v t : Nat) (nx : Nat → Int) : Int := if ok k u v = true ∧ tmN u v ≤ t ∧ nx (t - tmN u v) < BIG then pw k u v + nx (t - tmN u v) else BIG
def BB (ok : Nat → Nat → Nat → Bool) (pw : Nat → Nat → Nat → Int) : Nat → Nat → Nat → Nat → Int
  | 0, _, u, t => if u = 0 ∧ t = 0 then 0 else BIG
  | n + 1, k, u, t => foldV (fun v => candB ok pw k u v t (fun s => BB ok pw n (k + 1) v s)) (if n = 0 then 0 else 1) (if n = 0 then 1 else 6)
def PO (ok : Nat → Nat → Nat → Bool) : Nat → Nat → List Nat → Prop
  | _, u, [] => u = 0
  | k, u, v :: l => ok k u v = true ∧ v ≤ 6 ∧ (l ≠ [] → 1 ≤ v) ∧ PO ok (k + 1) v l
def PT : Nat → List Nat → Nat | _, [] => 0 | u, v :: l => tmN u v + PT v l
def PP (pw : Nat → Nat → Nat → Int) : Nat → Nat → List Nat → Int | _, _, [] => 0 | k, u, v :: l => pw k u v + PP pw (k + 1) v l
def WY (ok : Nat → Nat → Nat → Bool) (n k u t : Nat) (l : List Nat) : Prop := l.length = n ∧ PO ok k u l ∧ PT u l = t
/-- the steps' bounds -/
def SB (ok : Nat → Nat → Nat → Bool) (pw : Nat → Nat → Nat → Int) : Prop := ∀ k u v, ok k u v = true → (-400 ≤ pw k u v ∧ pw k u v ≤ 400) ∧ 0 < u + v
theorem mnI_le (a b : Int) : mnI a b ≤ a ∧ mnI a b ≤ b ∧ (mnI a b = a ∨ mnI a b = b) := by
  unfold mnI; split <;> omega
theorem foldV_le (c : Nat → Int) (lo : Nat) : ∀ n, foldV c lo n ≤ BIG
  | 0 => Int.le_refl _
  | n + 1 => Int.le_trans (mnI_le _ _).1 (foldV_le c lo n)
theorem foldV_lb (c : Nat → Int) (lo : Nat) : ∀ n i, i < n → foldV c lo n ≤ c (lo + i)
  | n + 1, i, h => by
    by_cases e : i = n
    · subst e; exact (mnI_le _ _).2.1
    · exact Int.le_trans (mnI_le _ _).1 (foldV_lb c lo n i (by omega))
theorem foldV_at (c : Nat → Int) (lo : Nat) : ∀ n, foldV c lo n = BIG ∨ ∃ i, i < n ∧ foldV c lo n = c (lo + i)
  | 0 => Or.inl rfl
  | n + 1 => by
    rcases (mnI_le (foldV c lo n) (c (lo + n))).2.2 with e | e
    · rcases foldV_at c lo n with h | ⟨i, h1, h2⟩
      · exact Or.inl (by rw [foldV, e, h])
      · exact Or.inr ⟨i, by omega, by rw [foldV, e, h2]⟩
    · exact Or.inr ⟨n, by omega, by rw [foldV, e]⟩
theorem PP_bd {ok : Nat → Nat → Nat → Bool} {pw : Nat → Nat → Nat → Int} (h : SB ok pw) : ∀ (l : List Nat) (k u : Nat), PO ok k u l → -400 * (l.length : Int) ≤ PP pw k u l ∧ PP pw k u l ≤ 400 * (l.length : Int)
  | [], _, _, _ => by simp [PP]
  | v :: l, k, u, hp => by
    obtain ⟨h1, h2, h3, h4⟩ := hp
    have a := PP_bd h l (k + 1) v h4
    have b := (h k u v h1).1
    simp only [PP, List.length_cons]
    omega
theorem BB_spec {ok : Nat → Nat → Nat → Bool} {pw : Nat → Nat → Nat → Int} (h : SB ok pw) : ∀ (n k u t : Nat), n ≤ 16 → (BB ok pw n k u t = BIG ∧ ∀ l, ¬ WY ok n k u t l) ∨ (∃ l, WY ok n k u t l ∧ BB ok pw n k u t = PP pw k u l ∧ ∀ l', WY ok n k u t l' → PP pw k u l ≤ PP pw k u l')
  | 0, k, u, t, _ => by
    rw [BB]
    by_cases e : u = 0 ∧ t = 0
    · rw [if_pos e]
      refine Or.inr ⟨[], ⟨rfl, e.1, e.2.symm⟩, rfl, fun l' hl => ?_⟩
      have := List.length_eq_zero_iff.mp hl.1
      rw [this]; exact Int.le_refl _
    · rw [if_neg e]
      refine Or.inl ⟨rfl, fun l hl => e ?_⟩
      have := List.length_eq_zero_iff.mp hl.1
      subst this
      exact ⟨hl.2.1, hl.2.2.symm⟩
  | n + 1, k, u, t, hn => by
    -- a way v :: l gives a candidate
    have hc : ∀ v l, WY ok (n + 1) k u t (v :: l) → foldV (fun v => candB ok pw k u v t (fun s => BB ok pw n (k + 1) v s)) (if n = 0 then 0 else 1) (if n = 0 then 1 else 6) ≤ PP pw k u (v :: l) ∧ PP pw k u (v :: l) < BIG := by
      intro v l hl
      obtain ⟨h1, ⟨a1, a2, a3, a4⟩, h3⟩ := hl
      have hlen : l.length = n := by simpa using h1
      have hb := PP_bd h l (k + 1) v a4
      have hp := (h k u v a1).1
      have h3' : tmN u v + PT v l = t := h3
      have hlt : PP pw k u (v :: l) < BIG := by
        simp only [PP, BIG]
        have : (l.length : Int) ≤ 15 := by omega
        omega
      refine ⟨?_, hlt⟩
      have hw : WY ok n (k + 1) v (t - tmN u v) l := ⟨hlen, a4, by omega⟩
      rcases BB_spec h n (k + 1) v (t - tmN u v) (by omega) with ⟨_, g⟩ | ⟨l2, g1, g2, g3⟩
      · exact absurd hw (g l)
      · have hle := g3 l hw
        have hcand : candB ok pw k u v t (fun s => BB ok pw n (k + 1) v s) = pw k u v + BB ok pw n (k + 1) v (t - tmN u v) := by
          unfold candB
          rw [if_pos ⟨a1, by omega, by
            show BB ok pw n (k + 1) v (t - tmN u v) < BIG
            rw [g2]
            have := PP_bd h l (k + 1) v a4
            simp only [BIG]
            have : (l.length : Int) ≤ 15 := by omega
            omega⟩]
        have hlo : ∃ i, i < (if n = 0 then 1 else 6) ∧ (if n = 0 then 0 else 1) + i = v := by
          by_cases e : n = 0
          · rw [if_pos e, if_pos e]
            have hz : l = [] := List.length_eq_zero_iff.mp (by omega)
            subst hz
            exact ⟨0, by omega, by have : v = 0 := a4; omega⟩
          · rw [if_neg e, if_neg e]
            have : 1 ≤ v := a3 (fun z => by rw [z] at hlen; simp at hlen; omega)
            exact ⟨v - 1, by omega, by omega⟩
        obtain ⟨i, i1, i2⟩ := hlo
        have := foldV_lb (fun v => candB ok pw k u v t (fun s => BB ok pw n (k + 1) v s)) (if n = 0 then 0 else 1) (if n = 0 then 1 else 6) i i1
        rw [i2] at this
        simp only [PP]
        rw [hcand, g2] at this
        omega
    rw [BB]
    rcases foldV_at (fun v => candB ok pw k u v t (fun s => BB ok pw n (k + 1) v s)) (if n = 0 then 0 else 1) (if n = 0 then 1 else 6) with e | ⟨i, hi, e⟩
    · refine Or.inl ⟨e, fun l hl => ?_⟩
      cases l with
      | nil => have := hl.1; simp at this
      | cons v l =>
        have := hc v l hl
        rw [e] at this
        omega
    · generalize hv : (if n = 0 then 0 else 1) + i = v at e
      by_cases hbig : candB ok pw k u v t (fun s => BB ok pw n (k + 1) v s) = BIG
      · refine Or.inl ⟨e.trans hbig, fun l hl => ?_⟩
        cases l with
        | nil => have := hl.1; simp at this
        | cons v l =>
          have := hc v l hl
          rw [e, hbig] at this
          omega
      · have hcnd : ok k u v = true ∧ tmN u v ≤ t ∧ BB ok pw n (k + 1) v (t - tmN u v) < BIG := by
          refine Classical.byContradiction fun hx => hbig ?_
          unfold candB
          rw [if_neg hx]
        have hval : candB ok pw k u v t (fun s => BB ok pw n (k + 1) v s) = pw k u v + BB ok pw n (k + 1) v (t - tmN u v) := by
          unfold candB; rw [if_pos hcnd]
        rcases BB_spec h n (k + 1) v (t - tmN u v) (by omega) with ⟨g, _⟩ | ⟨l2, g1, g2, g3⟩
        · have := hcnd.2.2; omega
        · have hv6 : v ≤ 6 ∧ (n ≠ 0 → 1 ≤ v) := by
            by_cases q : n = 0
            · rw [if_pos q] at hv hi; omega
            · rw [if_neg q] at hv hi; omega
          refine Or.inr ⟨v :: l2, ⟨by simp [g1.1], ⟨hcnd.1, hv6.1, fun q => hv6.2 (fun z => q (List.length_eq_zero_iff.mp (by rw [g1.1]; exact z))), g1.2.1⟩, ?_⟩, ?_, ?_⟩
          · show tmN u v + PT v l2 = t
            have := g1.2.2; have := hcnd.2.1; omega
          · rw [e, hval, g2]; rfl
          · intro l' hl'
            cases l' with
            | nil => have := hl'.1; simp at this
            | cons v' l' =>
              have := (hc v' l' hl').1
              rw [e, hval, g2] at this
              exact this
theorem BB_le (ok : Nat → Nat → Nat → Bool) (pw : Nat → Nat → Nat → Int) : ∀ n k u t, BB ok pw n k u t ≤ BIG
  | 0, k, u, t => by rw [BB]; split <;> simp [BIG]
  | n + 1, k, u, t => by rw [BB]; exact foldV_le _ _ _
theorem BB_rg {ok : Nat → Nat → Nat → Bool} {pw : Nat → Nat → Nat → Int} (h : SB ok pw) {n k u t : Nat} (hn : n ≤ 16) : BB ok pw n k u t = BIG ∨ (-6400 ≤ BB ok pw n k u t ∧ BB ok pw n k u t ≤ 6400) := by
  rcases BB_spec h n k u t hn with ⟨e, _⟩ | ⟨l, h1, h2, _⟩
  · exact Or.inl e
  · have := PP_bd h l k u h1.2.1
    rw [h1.1] at this
    rw [h2]
    have : (n : Int) ≤ 16 := by omega
    exact Or.inr (by omega)
/-! forward: the ways up to a post -/
def QO (ok : Nat → Nat → Nat → Bool) : Nat → Nat → List Nat → Prop
  | _, _, [] => True
  | k, u, v :: l => ok k u v = true ∧ v ≤ 6 ∧ 1 ≤ v ∧ QO ok (k + 1) v l
def lastS : Nat → List Nat → Nat | u, [] => u | _, v :: l => lastS v l
def EN : Nat → List Nat → Nat | _, [] => 0 | i, v :: l => v * 8 ^ (15 - i) + EN (i + 1) l
theorem QO_snoc {ok : Nat → Nat → Nat → Bool} : ∀ (l : List Nat) (k u v : Nat), QO ok k u (l ++ [v]) ↔ QO ok k u l ∧ ok (k + l.length) (lastS u l) v = true ∧ v ≤ 6 ∧ 1 ≤ v
  | [], k, u, v => by simp [QO, lastS]
  | w :: l, k, u, v => by
    have := QO_snoc (ok := ok) l (k + 1) w v
    simp only [List.cons_append, QO, lastS, List.length_cons, this, show k + (l.length + 1) = k + 1 + l.length by omega]
    exact ⟨fun ⟨a, b, c, d, e⟩ => ⟨⟨a, b, c, d⟩, e⟩, fun ⟨⟨a, b, c, d⟩, e⟩ => ⟨a, b, c, d, e⟩⟩
theorem PO_snoc {ok : Nat → Nat → Nat → Bool} : ∀ (l : List Nat) (k u : Nat), PO ok k u (l ++ [0]) ↔ QO ok k u l ∧ ok (k + l.length) (lastS u l) 0 = true
  | [], k, u => by simp [PO, QO, lastS]
  | w :: l, k, u => by
    have := PO_snoc (ok := ok) l (k + 1) w
    simp only [List.cons_append, PO, QO, lastS, List.length_cons, this, show k + (l.length + 1) = k + 1 + l.length by omega]
    exact ⟨fun ⟨a, b, c, d, e⟩ => ⟨⟨a, b, c (by simp), d⟩, e⟩, fun ⟨⟨a, b, c, d⟩, e⟩ => ⟨a, b, fun _ => c, d, e⟩⟩
theorem PO_form {ok : Nat → Nat → Nat → Bool} : ∀ (l : List Nat) (k u : Nat), PO ok k u l → l ≠ [] → ∃ l', l = l' ++ [0]
  | [v], k, u, h, _ => by
    obtain ⟨_, _, _, h4⟩ := h
    have : v = 0 := h4
    subst this
    exact ⟨[], rfl⟩
  | v :: w :: l, k, u, h, _ => by
    obtain ⟨_, _, _, h4⟩ := h
    obtain ⟨l', e⟩ := PO_form (w :: l) (k + 1) v h4 (by simp)
    exact ⟨v :: l', by rw [e]; rfl⟩
theorem PT_snoc : ∀ (l : List Nat) (u v : Nat), PT u (l ++ [v]) = PT u l + tmN (lastS u l) v
  | [], u, v => by simp [PT, lastS]
  | w :: l, u, v => by simp only [List.cons_append, PT, lastS, PT_snoc l w v]; omega
theorem PP_snoc (pw : Nat → Nat → Nat → Int) : ∀ (l : List Nat) (k u v : Nat), PP pw k u (l ++ [v]) = PP pw k u l + pw (k + l.length) (lastS u l) v
  | [], k, u, v => by simp [PP, lastS]
  | w :: l, k, u, v => by
    simp only [List.cons_append, PP, lastS, PP_snoc pw l (k + 1) w v, List.length_cons, show k + (l.length + 1) = k + 1 + l.length by omega]; omega
theorem EN_snoc : ∀ (l : List Nat) (i v : Nat), EN i (l ++ [v]) = EN i l + v * 8 ^ (15 - (i + l.length))
  | [], i, v => by simp [EN]
  | w :: l, i, v => by
    simp only [List.cons_append, EN, EN_snoc l (i + 1) v, List.length_cons, show i + (l.length + 1) = i + 1 + l.length by omega]; omega
theorem tm_le {u v : Nat} (h : 0 < u + v) : tmN u v ≤ 60 := Nat.div_le_self _ _
theorem tm_le2 {u v : Nat} (hu : 1 ≤ u) (hv : 1 ≤ v) : tmN u v ≤ 30 := by
  unfold tmN
  have h1 : 60 / (u + v) * (u + v) ≤ 60 := Nat.div_mul_le_self 60 (u + v)
  rcases Nat.lt_or_ge 30 (60 / (u + v)) with q | q
  · have h2 : 31 * 2 ≤ 60 / (u + v) * (u + v) := Nat.mul_le_mul q (by omega)
    omega
  · exact q
theorem QO_t {ok : Nat → Nat → Nat → Bool} : ∀ (l : List Nat) (k u : Nat), 1 ≤ u → QO ok k u l → PT u l ≤ 30 * l.length
  | [], _, _, _, _ => Nat.zero_le _
  | v :: l, k, u, hu, h => by
    obtain ⟨h1, h2, h3, h4⟩ := h
    have := QO_t l (k + 1) v h3 h4
    have := tm_le2 hu h3
    simp only [PT, List.length_cons]
    omega
theorem QO_t0 {ok : Nat → Nat → Nat → Bool} {l : List Nat} {k : Nat} (h : QO ok k 0 l) : PT 0 l ≤ 30 * (l.length + 1) := by
  cases l with
  | nil => simp [PT]
  | cons v l =>
    obtain ⟨h1, h2, h3, h4⟩ := h
    have := QO_t l (k + 1) v h3 h4
    have := tm_le (show 0 < 0 + v by omega)
    simp only [PT, List.length_cons]
    omega
theorem QO_last {ok : Nat → Nat → Nat → Bool} : ∀ (l : List Nat) (k u : Nat), u ≤ 6 → QO ok k u l → lastS u l ≤ 6
  | [], _, _, hu, _ => hu
  | v :: l, k, u, _, h => QO_last l (k + 1) v h.2.1 h.2.2.2
theorem EN_lt : ∀ (l : List Nat) (i : Nat), (∀ x ∈ l, x ≤ 7) → i + l.length ≤ 16 → EN i l < 8 ^ (16 - i)
  | [], i, _, _ => Nat.pow_pos (by decide)
  | v :: l, i, h, hl => by
    simp only [List.length_cons] at hl
    have a := EN_lt l (i + 1) (fun x hx => h x (List.mem_cons_of_mem _ hx)) (by omega)
    have b := h v List.mem_cons_self
    simp only [EN]
    rw [show 16 - i = (15 - i) + 1 by omega, Nat.pow_succ]
    rw [show 16 - (i + 1) = 15 - i by omega] at a
    have c : v * 8 ^ (15 - i) ≤ 7 * 8 ^ (15 - i) := Nat.mul_le_mul_right _ b
    omega
theorem QO_7 {ok : Nat → Nat → Nat → Bool} : ∀ (l : List Nat) (k u : Nat), QO ok k u l → ∀ x ∈ l, x ≤ 7
  | [], _, _, _, x, hx => by simp at hx
  | v :: l, k, u, h, x, hx => by
    rcases List.mem_cons.mp hx with e | e
    · have := h.2.1; omega
    · exact QO_7 l (k + 1) v h.2.2.2 x e
theorem PO_7 {ok : Nat → Nat → Nat → Bool} : ∀ (l : List Nat) (k u : Nat), PO ok k u l → ∀ x ∈ l, x ≤ 7
  | [], _, _, _, x, hx => by simp at hx
  | v :: l, k, u, h, x, hx => by
    rcases List.mem_cons.mp hx with e | e
    · have := h.2.1; omega
    · exact PO_7 l (k + 1) v h.2.2.2 x e
/-- the number by which a way is ordered: power, then speeds -/
def CO (pw : Nat → Nat → Nat → Int) (p : Nat) (l : List Nat) : Int := PP pw p 0 l * 281474976710656 + (EN 0 l : Int)
