set_option maxHeartbeats 4000000 in
set_option maxRecDepth 100000 in
theorem L_line {l : Launch} {D : va_G} {cI cJ cZ : ClassId} {A : Nat → Prop} {rT rL rM scr Ls : Nat} {xs : Nat → Int32} {G : Nat → Nat → va_W → LL → Nat → List Value → Prop} (C : GB l D (tyT cI cJ cZ) A (FLw cI rT rL rM scr Ls xs A) room_1 cL_law 4 RL wsL_law false false G) {a b : Nat → Nat} {hA nA : Nat} {gr li st sp : Nat → Int32} {n m : Nat} {nu : Nat → Int32} {ev od : Nat → Int64} {fp ti : Nat → Int32} {wc : Nat → Int64} {wu : Int32} {sc pv : Nat → Int64} {su : Int32} {sd : Nat → Int32} {t : Nat} {lea : Nat → Int32} {pa : Int32} {pt pp : Nat → Int32} {su2 : Int32} {sh tt : Nat → Int32} (I : LWI a hA nA gr li st sp n m nu fp ti wc wu sc pv su sd t su2 sh tt) {i : Nat} (hi : i + 4 ≤ Ls) (hLs : Ls ≤ 2048) (k : ∀ (hA nA : Nat) (gr li st sp : Nat → Int32) (n m : Nat) (nu : Nat → Int32) (ev od : Nat → Int64) (fp ti : Nat → Int32) (wc : Nat → Int64) (wu : Int32) (sc pv : Nat → Int64) (su : Int32) (sd : Nat → Int32) (t : Nat) (lea : Nat → Int32) (pa : Int32) (pt pp : Nat → Int32) (su2 : Int32) (sh tt : Nat → Int32), LWI a hA nA gr li st sp n m nu fp ti wc wu sc pv su sd t su2 sh tt → G 31 165904 (wC cI cJ cZ a hA nA gr li st sp (nI n) (nI m) nu ev od fp ti wc wu sc pv su sd (nI t) ++ wM cI cJ cZ b (nI n) gr li st nu (nI t) sd lea pa pt pp su2 sh tt) [(0, .ref scr), (1, .ref (a 0)), (2, .ref (b 0)), (3, .int (nI i))] 907 []) : G 31 165904 (wC cI cJ cZ a hA nA gr li st sp (nI n) (nI m) nu ev od fp ti wc wu sc pv su sd (nI t) ++ wM cI cJ cZ b (nI n) gr li st nu (nI t) sd lea pa pt pp su2 sh tt) [(0, .ref scr), (1, .ref (a 0)), (2, .ref (b 0)), (3, .int (nI i))] 140 [] := by
  obtain ⟨hL, hT, hp, hW, hS, ht, hs, hM⟩ := I
  have hn := hL.2.1
  have hn1 := hL.1
  have hst := hL.2.2.1
  have hsu := hM
  by_cases hln : lnP (xs (i + 1))
  · refine g_aload_n C 1 dL_law_140 rfl rfl rfl (q := 141) ?_
    refine g_aload_n C 0 dL_law_141 rfl rfl rfl (q := 142) ?_
    refine g_iload_n C 3 dL_law_142 rfl rfl rfl (q := 143) ?_
    refine g_iconst C (nI 1) dL_law_143 (by decide) (q := 144) rfl ?_
    refine g_iadd C dL_law_144 (q := 145) rfl ?_
    refine g_eqi C (y := nI (i + 1)) (nI_add i 1) ?_
    refine g_sld C (fun s h => h.2.2) (vp_in_nI (by omega) (by omega)) dL_law_145 (q := 146) rfl ?_
    refine g_eqi C (y := xs (i + 1)) (by rw [nI_clamp (by omega)]) ?_
    refine gcV_qiP C (n := 1) (As := [.int (xs (i + 1))]) (st := []) 0 (wc := wC cI cJ cZ a hA nA gr li st sp (nI n) (nI m) nu ev od fp ti wc wu sc pv su sd (nI t)) (wr := wM cI cJ cZ b (nI n) gr li st nu (nI t) sd lea pa pt pp su2 sh tt) rfl (wC_in hp) (wC_of hp) dL_law_146 rfl rfl gL_law_X6_line (c_X6_line l D cI cJ cZ a hA nA gr li st sp n m nu ev od fp ti wc wu sc pv su sd t (xs (i + 1))) rfl rfl rfl (by decide +kernel) ⟨Nat.le_of_ble_eq_true rfl, Nat.le_of_ble_eq_true rfl⟩ rfl rfl (Nat.le_of_ble_eq_true rfl) FT_b (fun _ _ _ _ _ _ _ _ _ => trivial) ⟨Nat.le_of_ble_eq_true rfl, Nat.le_of_ble_eq_true rfl⟩ (q := 149) rfl (fun r_146 u_146 h_146 => ?_)
    obtain ⟨e_c, z, z2, sp2, hz, hu, hLI⟩ := h_146.2 hln
    subst hu
    show G 31 165904 (wC cI cJ cZ a hA nA (fun _ => nI 0) (fun _ => nI 6) (stL z) sp2 (nI z) (nI z2) nu ev od fp ti wc (nI 0) sc pv (nI 0) sd (nI 0) ++ wM cI cJ cZ b (nI n) gr li st nu (nI t) sd lea pa pt pp su2 sh tt) [(0, .ref scr), (1, .ref (a 0)), (2, .ref (b 0)), (3, .int (nI i))] 149 [.int r_146]
    refine g_aload_n C 2 dL_law_149 rfl rfl rfl (q := 150) ?_
    refine g_aload_n C 0 dL_law_150 rfl rfl rfl (q := 151) ?_
    refine g_iload_n C 3 dL_law_151 rfl rfl rfl (q := 152) ?_
    refine g_iconst C (nI 1) dL_law_152 (by decide) (q := 153) rfl ?_
    refine g_iadd C dL_law_153 (q := 154) rfl ?_
    refine g_eqi C (y := nI (i + 1)) (nI_add i 1) ?_
    refine g_sld C (fun s h => h.2.2) (vp_in_nI (by omega) (by omega)) dL_law_154 (q := 155) rfl ?_
    refine g_eqi C (y := xs (i + 1)) (by rw [nI_clamp (by omega)]) ?_
    refine gcV_qiS C (n := 1) (As := [.int (xs (i + 1))]) (st := [.int r_146]) 0 (wc := wM cI cJ cZ b (nI n) gr li st nu (nI t) sd lea pa pt pp su2 sh tt) (wr := wC cI cJ cZ a hA nA (fun _ => nI 0) (fun _ => nI 6) (stL z) sp2 (nI z) (nI z2) nu ev od fp ti wc (nI 0) sc pv (nI 0) sd (nI 0)) rfl wM_in wM_of dL_law_155 rfl rfl gL_law_X7_line (c_X7_line2 l D cI cJ cZ b n gr li st nu t sd lea pa pt pp su2 sh tt (xs (i + 1))) rfl rfl rfl (by decide +kernel) ⟨Nat.le_of_ble_eq_true rfl, Nat.le_of_ble_eq_true rfl⟩ rfl rfl (Nat.le_of_ble_eq_true rfl) FT_b (fun _ _ _ _ _ _ _ _ _ => trivial) ⟨Nat.le_of_ble_eq_true rfl, Nat.le_of_ble_eq_true rfl⟩ (q := 158) rfl (fun r_155 u_155 h_155 => ?_)
    obtain ⟨e_m, z3, hz3b, hz3, hu3⟩ := h_155.2 hln
    subst hu3
    have ez : z = z3 := (nI_eq (by have := hLI.2.1; omega) (by omega)).mp (hz.symm.trans hz3)
    subst ez
    show G 31 165904 (wC cI cJ cZ a hA nA (fun _ => nI 0) (fun _ => nI 6) (stL z) sp2 (nI z) (nI z2) nu ev od fp ti wc (nI 0) sc pv (nI 0) sd (nI 0) ++ wM cI cJ cZ b (nI z) (fun _ => nI 0) (fun _ => nI 6) (stL z) nu (nI 0) sd lea pa pt pp (nI 0) sh tt) [(0, .ref scr), (1, .ref (a 0)), (2, .ref (b 0)), (3, .int (nI i))] 158 [.int r_155, .int r_146]
    refine g_icmp_eq C (t := 907) dL_law_158 (by decide) (q := 161) rfl (fun c_158 => ?_) (fun c_158 => absurd (e_c.trans e_m.symm) c_158)
    exact k hA nA (fun _ => nI 0) (fun _ => nI 6) (stL z) sp2 z z2 nu ev od fp ti wc (nI 0) sc pv (nI 0) sd 0 lea pa pt pp (nI 0) sh tt ⟨hLI, hT, hp, Or.inl rfl, Or.inl rfl, Nat.zero_le _, hs, Or.inl rfl⟩
  · refine g_aload_n C 1 dL_law_140 rfl rfl rfl (q := 141) ?_
    refine g_aload_n C 0 dL_law_141 rfl rfl rfl (q := 142) ?_
    refine g_iload_n C 3 dL_law_142 rfl rfl rfl (q := 143) ?_
    refine g_iconst C (nI 1) dL_law_143 (by decide) (q := 144) rfl ?_
    refine g_iadd C dL_law_144 (q := 145) rfl ?_
    refine g_eqi C (y := nI (i + 1)) (nI_add i 1) ?_
    refine g_sld C (fun s h => h.2.2) (vp_in_nI (by omega) (by omega)) dL_law_145 (q := 146) rfl ?_
    refine g_eqi C (y := xs (i + 1)) (by rw [nI_clamp (by omega)]) ?_
    refine gcV_qiP C (n := 1) (As := [.int (xs (i + 1))]) (st := []) 0 (wc := wC cI cJ cZ a hA nA gr li st sp (nI n) (nI m) nu ev od fp ti wc wu sc pv su sd (nI t)) (wr := wM cI cJ cZ b (nI n) gr li st nu (nI t) sd lea pa pt pp su2 sh tt) rfl (wC_in hp) (wC_of hp) dL_law_146 rfl rfl gL_law_X6_line (c_X6_line l D cI cJ cZ a hA nA gr li st sp n m nu ev od fp ti wc wu sc pv su sd t (xs (i + 1))) rfl rfl rfl (by decide +kernel) ⟨Nat.le_of_ble_eq_true rfl, Nat.le_of_ble_eq_true rfl⟩ rfl rfl (Nat.le_of_ble_eq_true rfl) FT_b (fun _ _ _ _ _ _ _ _ _ => trivial) ⟨Nat.le_of_ble_eq_true rfl, Nat.le_of_ble_eq_true rfl⟩ (q := 149) rfl (fun r_146 u_146 h_146 => ?_)
    obtain ⟨e_c, hu⟩ := h_146.1 hln
    subst hu
    show G 31 165904 (wC cI cJ cZ a hA nA gr li st sp (nI n) (nI m) nu ev od fp ti wc wu sc pv su sd (nI t) ++ wM cI cJ cZ b (nI n) gr li st nu (nI t) sd lea pa pt pp su2 sh tt) [(0, .ref scr), (1, .ref (a 0)), (2, .ref (b 0)), (3, .int (nI i))] 149 [.int r_146]
    refine g_aload_n C 2 dL_law_149 rfl rfl rfl (q := 150) ?_
    refine g_aload_n C 0 dL_law_150 rfl rfl rfl (q := 151) ?_
    refine g_iload_n C 3 dL_law_151 rfl rfl rfl (q := 152) ?_
    refine g_iconst C (nI 1) dL_law_152 (by decide) (q := 153) rfl ?_
    refine g_iadd C dL_law_153 (q := 154) rfl ?_
    refine g_eqi C (y := nI (i + 1)) (nI_add i 1) ?_
    refine g_sld C (fun s h => h.2.2) (vp_in_nI (by omega) (by omega)) dL_law_154 (q := 155) rfl ?_
    refine g_eqi C (y := xs (i + 1)) (by rw [nI_clamp (by omega)]) ?_
    refine gcV_qiS C (n := 1) (As := [.int (xs (i + 1))]) (st := [.int r_146]) 0 (wc := wM cI cJ cZ b (nI n) gr li st nu (nI t) sd lea pa pt pp su2 sh tt) (wr := wC cI cJ cZ a hA nA gr li st sp (nI n) (nI m) nu ev od fp ti wc wu sc pv su sd (nI t)) rfl wM_in wM_of dL_law_155 rfl rfl gL_law_X7_line (c_X7_line2 l D cI cJ cZ b n gr li st nu t sd lea pa pt pp su2 sh tt (xs (i + 1))) rfl rfl rfl (by decide +kernel) ⟨Nat.le_of_ble_eq_true rfl, Nat.le_of_ble_eq_true rfl⟩ rfl rfl (Nat.le_of_ble_eq_true rfl) FT_b (fun _ _ _ _ _ _ _ _ _ => trivial) ⟨Nat.le_of_ble_eq_true rfl, Nat.le_of_ble_eq_true rfl⟩ (q := 158) rfl (fun r_155 u_155 h_155 => ?_)
    obtain ⟨e_m, hu3⟩ := h_155.1 hln
    subst hu3
    show G 31 165904 (wC cI cJ cZ a hA nA gr li st sp (nI n) (nI m) nu ev od fp ti wc wu sc pv su sd (nI t) ++ wM cI cJ cZ b (nI n) gr li st nu (nI t) sd lea pa pt pp su2 sh tt) [(0, .ref scr), (1, .ref (a 0)), (2, .ref (b 0)), (3, .int (nI i))] 158 [.int r_155, .int r_146]
    refine g_icmp_eq C (t := 907) dL_law_158 (by decide) (q := 161) rfl (fun c_158 => ?_) (fun c_158 => absurd (e_c.trans e_m.symm) c_158)
    exact k hA nA gr li st sp n m nu ev od fp ti wc wu sc pv su sd t lea pa pt pp su2 sh tt ⟨hL, hT, hp, hW, hS, ht, hs, hM⟩
set_option maxHeartbeats 4000000 in
set_option maxRecDepth 100000 in
theorem L_cell {l : Launch} {D : va_G} {cI cJ cZ : ClassId} {A : Nat → Prop} {rT rL rM scr Ls : Nat} {xs : Nat → Int32} {G : Nat → Nat → va_W → LL → Nat → List Value → Prop} (C : GB l D (tyT cI cJ cZ) A (FLw cI rT rL rM scr Ls xs A) room_1 cL_law 4 RL wsL_law false false G) {a b : Nat → Nat} {hA nA : Nat} {gr li st sp : Nat → Int32} {n m : Nat} {nu : Nat → Int32} {ev od : Nat → Int64} {fp ti : Nat → Int32} {wc : Nat → Int64} {wu : Int32} {sc pv : Nat → Int64} {su : Int32} {sd : Nat → Int32} {t : Nat} {lea : Nat → Int32} {pa : Int32} {pt pp : Nat → Int32} {su2 : Int32} {sh tt : Nat → Int32} (I : LWI a hA nA gr li st sp n m nu fp ti wc wu sc pv su sd t su2 sh tt) {i : Nat} (hi : i + 4 ≤ Ls) (hLs : Ls ≤ 2048) (k : ∀ (hA nA : Nat) (gr li st sp : Nat → Int32) (n m : Nat) (nu : Nat → Int32) (ev od : Nat → Int64) (fp ti : Nat → Int32) (wc : Nat → Int64) (wu : Int32) (sc pv : Nat → Int64) (su : Int32) (sd : Nat → Int32) (t : Nat) (lea : Nat → Int32) (pa : Int32) (pt pp : Nat → Int32) (su2 : Int32) (sh tt : Nat → Int32), LWI a hA nA gr li st sp n m nu fp ti wc wu sc pv su sd t su2 sh tt → G 31 165904 (wC cI cJ cZ a hA nA gr li st sp (nI n) (nI m) nu ev od fp ti wc wu sc pv su sd (nI t) ++ wM cI cJ cZ b (nI n) gr li st nu (nI t) sd lea pa pt pp su2 sh tt) [(0, .ref scr), (1, .ref (a 0)), (2, .ref (b 0)), (3, .int (nI i))] 907 []) : G 31 165904 (wC cI cJ cZ a hA nA gr li st sp (nI n) (nI m) nu ev od fp ti wc wu sc pv su sd (nI t) ++ wM cI cJ cZ b (nI n) gr li st nu (nI t) sd lea pa pt pp su2 sh tt) [(0, .ref scr), (1, .ref (a 0)), (2, .ref (b 0)), (3, .int (nI i))] 163 [] := by
  obtain ⟨hL, hT, hp, hW, hS, ht, hs, hM⟩ := I
  have hn := hL.2.1
  have hn1 := hL.1
  have hst := hL.2.2.1
  have hsu := hM
  refine g_aload_n C 1 dL_law_163 rfl rfl rfl (q := 164) ?_
  refine g_aload_n C 0 dL_law_164 rfl rfl rfl (q := 165) ?_
  refine g_iload_n C 3 dL_law_165 rfl rfl rfl (q := 166) ?_
  refine g_iconst C (nI 1) dL_law_166 (by decide) (q := 167) rfl ?_
  refine g_iadd C dL_law_167 (q := 168) rfl ?_
  refine g_eqi C (y := nI (i + 1)) (nI_add i 1) ?_
  refine g_sld C (fun s h => h.2.2) (vp_in_nI (by omega) (by omega)) dL_law_168 (q := 169) rfl ?_
  refine g_eqi C (y := xs (i + 1)) (by rw [nI_clamp (by omega)]) ?_
  refine g_aload_n C 0 dL_law_169 rfl rfl rfl (q := 170) ?_
  refine g_iload_n C 3 dL_law_170 rfl rfl rfl (q := 171) ?_
  refine g_iconst C (nI 2) dL_law_171 (by decide) (q := 172) rfl ?_
  refine g_iadd C dL_law_172 (q := 173) rfl ?_
  refine g_eqi C (y := nI (i + 2)) (nI_add i 2) ?_
  refine g_sld C (fun s h => h.2.2) (vp_in_nI (by omega) (by omega)) dL_law_173 (q := 174) rfl ?_
  refine g_eqi C (y := xs (i + 2)) (by rw [nI_clamp (by omega)]) ?_
  refine g_aload_n C 0 dL_law_174 rfl rfl rfl (q := 175) ?_
  refine g_iload_n C 3 dL_law_175 rfl rfl rfl (q := 176) ?_
  refine g_iconst C (nI 3) dL_law_176 (by decide) (q := 177) rfl ?_
  refine g_iadd C dL_law_177 (q := 178) rfl ?_
  refine g_eqi C (y := nI (i + 3)) (nI_add i 3) ?_
  refine g_sld C (fun s h => h.2.2) (vp_in_nI (by omega) (by omega)) dL_law_178 (q := 179) rfl ?_
  refine g_eqi C (y := xs (i + 3)) (by rw [nI_clamp (by omega)]) ?_
  refine gcV_qiP C (n := 3) (As := [.int (xs (i + 1)), .int (xs (i + 2)), .int (xs (i + 3))]) (st := []) 0 (wc := wC cI cJ cZ a hA nA gr li st sp (nI n) (nI m) nu ev od fp ti wc wu sc pv su sd (nI t)) (wr := wM cI cJ cZ b (nI n) gr li st nu (nI t) sd lea pa pt pp su2 sh tt) rfl (wC_in hp) (wC_of hp) dL_law_179 rfl rfl gL_law_X6_cell (c_X6_cell l D cI cJ cZ a hA nA gr li st sp n m nu ev od fp ti wc wu sc pv su sd t (xs (i + 1)) (xs (i + 2)) (xs (i + 3)) (by first | assumption | omega)) rfl rfl rfl (by decide +kernel) ⟨Nat.le_of_ble_eq_true rfl, Nat.le_of_ble_eq_true rfl⟩ rfl rfl (Nat.le_of_ble_eq_true rfl) FT_b (fun _ _ _ _ _ _ _ _ _ => trivial) ⟨Nat.le_of_ble_eq_true rfl, Nat.le_of_ble_eq_true rfl⟩ (q := 182) rfl (fun r_179 u_179 h_179 => ?_)
  obtain ⟨gr2, li2, wu2, su2x⟩ := u_179
  show G 31 165904 (wC cI cJ cZ a hA nA gr2 li2 st sp (nI n) (nI m) nu ev od fp ti wc wu2 sc pv su2x sd (nI t) ++ wM cI cJ cZ b (nI n) gr li st nu (nI t) sd lea pa pt pp su2 sh tt) [(0, .ref scr), (1, .ref (a 0)), (2, .ref (b 0)), (3, .int (nI i))] 182 [.int r_179]
  refine g_aload_n C 2 dL_law_182 rfl rfl rfl (q := 183) ?_
  refine g_aload_n C 0 dL_law_183 rfl rfl rfl (q := 184) ?_
  refine g_iload_n C 3 dL_law_184 rfl rfl rfl (q := 185) ?_
  refine g_iconst C (nI 1) dL_law_185 (by decide) (q := 186) rfl ?_
  refine g_iadd C dL_law_186 (q := 187) rfl ?_
  refine g_eqi C (y := nI (i + 1)) (nI_add i 1) ?_
  refine g_sld C (fun s h => h.2.2) (vp_in_nI (by omega) (by omega)) dL_law_187 (q := 188) rfl ?_
  refine g_eqi C (y := xs (i + 1)) (by rw [nI_clamp (by omega)]) ?_
  refine g_aload_n C 0 dL_law_188 rfl rfl rfl (q := 189) ?_
  refine g_iload_n C 3 dL_law_189 rfl rfl rfl (q := 190) ?_
  refine g_iconst C (nI 2) dL_law_190 (by decide) (q := 191) rfl ?_
  refine g_iadd C dL_law_191 (q := 192) rfl ?_
  refine g_eqi C (y := nI (i + 2)) (nI_add i 2) ?_
  refine g_sld C (fun s h => h.2.2) (vp_in_nI (by omega) (by omega)) dL_law_192 (q := 193) rfl ?_
  refine g_eqi C (y := xs (i + 2)) (by rw [nI_clamp (by omega)]) ?_
  refine g_aload_n C 0 dL_law_193 rfl rfl rfl (q := 194) ?_
  refine g_iload_n C 3 dL_law_194 rfl rfl rfl (q := 195) ?_
  refine g_iconst C (nI 3) dL_law_195 (by decide) (q := 196) rfl ?_
  refine g_iadd C dL_law_196 (q := 197) rfl ?_
  refine g_eqi C (y := nI (i + 3)) (nI_add i 3) ?_
  refine g_sld C (fun s h => h.2.2) (vp_in_nI (by omega) (by omega)) dL_law_197 (q := 198) rfl ?_
  refine g_eqi C (y := xs (i + 3)) (by rw [nI_clamp (by omega)]) ?_
  refine gcV_qiS C (n := 3) (As := [.int (xs (i + 1)), .int (xs (i + 2)), .int (xs (i + 3))]) (st := [.int r_179]) 0 (wc := wM cI cJ cZ b (nI n) gr li st nu (nI t) sd lea pa pt pp su2 sh tt) (wr := wC cI cJ cZ a hA nA gr2 li2 st sp (nI n) (nI m) nu ev od fp ti wc wu2 sc pv su2x sd (nI t)) rfl wM_in wM_of dL_law_198 rfl rfl gL_law_X7_cell (c_X7_cell l D cI cJ cZ b n gr li st nu t sd lea pa pt pp su2 sh tt (xs (i + 1)) (xs (i + 2)) (xs (i + 3)) (by first | assumption | omega) (by first | assumption | omega)) rfl rfl rfl (by decide +kernel) ⟨Nat.le_of_ble_eq_true rfl, Nat.le_of_ble_eq_true rfl⟩ rfl rfl (Nat.le_of_ble_eq_true rfl) FT_b (fun _ _ _ _ _ _ _ _ _ => trivial) ⟨Nat.le_of_ble_eq_true rfl, Nat.le_of_ble_eq_true rfl⟩ (q := 201) rfl (fun r_198 u_198 h_198 => ?_)
  obtain ⟨gr3, li3, su3⟩ := u_198
  have ee : (r_179, gr2, li2) = (r_198, gr3, li3) := Eq.trans h_179.1 (Eq.symm h_198.1)
  simp only [Prod.mk.injEq] at ee
  obtain ⟨er, q_gr, q_li⟩ := ee
  subst q_gr
  subst q_li
  show G 31 165904 (wC cI cJ cZ a hA nA gr2 li2 st sp (nI n) (nI m) nu ev od fp ti wc wu2 sc pv su2x sd (nI t) ++ wM cI cJ cZ b (nI n) gr2 li2 st nu (nI t) sd lea pa pt pp su3 sh tt) [(0, .ref scr), (1, .ref (a 0)), (2, .ref (b 0)), (3, .int (nI i))] 201 [.int r_198, .int r_179]
  refine g_icmp_eq C (t := 907) dL_law_201 (by decide) (q := 204) rfl (fun c_201 => ?_) (fun c_201 => absurd er c_201)
  have hW2 : wu2 = nI 0 ∨ (wu2 = nI 1 ∧ WOK gr2 li2 nu st n m fp ti wc) := by
    rcases h_179.2 with ⟨q1, q2, q3⟩ | q3
    · have q4 : wu2 = wu ∧ su2x = su := Prod.mk.inj q3
      subst q1; subst q2; rw [q4.1]; exact hW
    · exact Or.inl (Prod.mk.inj q3).1
  have hS2 : su2x = nI 0 ∨ (su2x = nI 1 ∧ SCOK gr2 li2 nu st n m sc pv) := by
    rcases h_179.2 with ⟨q1, q2, q3⟩ | q3
    · have q4 : wu2 = wu ∧ su2x = su := Prod.mk.inj q3
      subst q1; subst q2; rw [q4.2]; exact hS
    · exact Or.inl (Prod.mk.inj q3).2
  have hM2 : su3 = nI 0 ∨ (su3 = nI 1 ∧ SHOK (mL gr2 li2 nu st n) m sh tt) := by
    rcases h_198.2 with ⟨q1, q2, q3⟩ | q3
    · have q4 : su3 = su2 := q3
      subst q1; subst q2; rw [q4]; exact hM
    · exact Or.inl q3
  exact k hA nA gr2 li2 st sp n m nu ev od fp ti wc wu2 sc pv su2x sd t lea pa pt pp su3 sh tt ⟨hL, hT, hp, hW2, hS2, ht, hs, hM2⟩
set_option maxHeartbeats 4000000 in
set_option maxRecDepth 100000 in
theorem L_stop {l : Launch} {D : va_G} {cI cJ cZ : ClassId} {A : Nat → Prop} {rT rL rM scr Ls : Nat} {xs : Nat → Int32} {G : Nat → Nat → va_W → LL → Nat → List Value → Prop} (C : GB l D (tyT cI cJ cZ) A (FLw cI rT rL rM scr Ls xs A) room_1 cL_law 4 RL wsL_law false false G) {a b : Nat → Nat} {hA nA : Nat} {gr li st sp : Nat → Int32} {n m : Nat} {nu : Nat → Int32} {ev od : Nat → Int64} {fp ti : Nat → Int32} {wc : Nat → Int64} {wu : Int32} {sc pv : Nat → Int64} {su : Int32} {sd : Nat → Int32} {t : Nat} {lea : Nat → Int32} {pa : Int32} {pt pp : Nat → Int32} {su2 : Int32} {sh tt : Nat → Int32} (I : LWI a hA nA gr li st sp n m nu fp ti wc wu sc pv su sd t su2 sh tt) {i : Nat} (hi : i + 4 ≤ Ls) (hLs : Ls ≤ 2048) (k : ∀ (hA nA : Nat) (gr li st sp : Nat → Int32) (n m : Nat) (nu : Nat → Int32) (ev od : Nat → Int64) (fp ti : Nat → Int32) (wc : Nat → Int64) (wu : Int32) (sc pv : Nat → Int64) (su : Int32) (sd : Nat → Int32) (t : Nat) (lea : Nat → Int32) (pa : Int32) (pt pp : Nat → Int32) (su2 : Int32) (sh tt : Nat → Int32), LWI a hA nA gr li st sp n m nu fp ti wc wu sc pv su sd t su2 sh tt → G 31 165904 (wC cI cJ cZ a hA nA gr li st sp (nI n) (nI m) nu ev od fp ti wc wu sc pv su sd (nI t) ++ wM cI cJ cZ b (nI n) gr li st nu (nI t) sd lea pa pt pp su2 sh tt) [(0, .ref scr), (1, .ref (a 0)), (2, .ref (b 0)), (3, .int (nI i))] 907 []) : G 31 165904 (wC cI cJ cZ a hA nA gr li st sp (nI n) (nI m) nu ev od fp ti wc wu sc pv su sd (nI t) ++ wM cI cJ cZ b (nI n) gr li st nu (nI t) sd lea pa pt pp su2 sh tt) [(0, .ref scr), (1, .ref (a 0)), (2, .ref (b 0)), (3, .int (nI i))] 206 [] := by
  obtain ⟨hL, hT, hp, hW, hS, ht, hs, hM⟩ := I
  have hn := hL.2.1
  have hn1 := hL.1
  have hst := hL.2.2.1
  have hsu := hM
  refine g_aload_n C 1 dL_law_206 rfl rfl rfl (q := 207) ?_
  refine g_aload_n C 0 dL_law_207 rfl rfl rfl (q := 208) ?_
  refine g_iload_n C 3 dL_law_208 rfl rfl rfl (q := 209) ?_
  refine g_iconst C (nI 1) dL_law_209 (by decide) (q := 210) rfl ?_
  refine g_iadd C dL_law_210 (q := 211) rfl ?_
  refine g_eqi C (y := nI (i + 1)) (nI_add i 1) ?_
  refine g_sld C (fun s h => h.2.2) (vp_in_nI (by omega) (by omega)) dL_law_211 (q := 212) rfl ?_
  refine g_eqi C (y := xs (i + 1)) (by rw [nI_clamp (by omega)]) ?_
  refine g_aload_n C 0 dL_law_212 rfl rfl rfl (q := 213) ?_
  refine g_iload_n C 3 dL_law_213 rfl rfl rfl (q := 214) ?_
  refine g_iconst C (nI 2) dL_law_214 (by decide) (q := 215) rfl ?_
  refine g_iadd C dL_law_215 (q := 216) rfl ?_
  refine g_eqi C (y := nI (i + 2)) (nI_add i 2) ?_
  refine g_sld C (fun s h => h.2.2) (vp_in_nI (by omega) (by omega)) dL_law_216 (q := 217) rfl ?_
  refine g_eqi C (y := xs (i + 2)) (by rw [nI_clamp (by omega)]) ?_
  refine g_if_eq C (t := 224) dL_law_217 (by decide) (q := 220) rfl (fun c_217 => ?_) (fun c_217 => ?_)
  · refine g_iconst C (nI 0) dL_law_224 (by decide) (q := 225) rfl ?_
    refine gcV_qiP C (n := 2) (As := [.int (xs (i + 1)), .int (nI 0)]) (st := []) 0 (wc := wC cI cJ cZ a hA nA gr li st sp (nI n) (nI m) nu ev od fp ti wc wu sc pv su sd (nI t)) (wr := wM cI cJ cZ b (nI n) gr li st nu (nI t) sd lea pa pt pp su2 sh tt) rfl (wC_in hp) (wC_of hp) dL_law_225 rfl rfl gL_law_X6_stop (c_X6_stop l D cI cJ cZ a hA nA gr li st sp n m nu ev od fp ti wc wu sc pv su sd t (xs (i + 1)) (nI 0) hL (by first | exact Or.inl rfl | exact Or.inr rfl)) rfl rfl rfl (by decide +kernel) ⟨Nat.le_of_ble_eq_true rfl, Nat.le_of_ble_eq_true rfl⟩ rfl rfl (Nat.le_of_ble_eq_true rfl) FT_b (fun _ _ _ _ _ _ _ _ _ => trivial) ⟨Nat.le_of_ble_eq_true rfl, Nat.le_of_ble_eq_true rfl⟩ (q := 228) rfl (fun r_225 u_225 h_225 => ?_)
    obtain ⟨st2, sp2, m2, wu2, su2x⟩ := u_225
    show G 31 165904 (wC cI cJ cZ a hA nA gr li st2 sp2 (nI n) (nI m2) nu ev od fp ti wc wu2 sc pv su2x sd (nI t) ++ wM cI cJ cZ b (nI n) gr li st nu (nI t) sd lea pa pt pp su2 sh tt) [(0, .ref scr), (1, .ref (a 0)), (2, .ref (b 0)), (3, .int (nI i))] 228 [.int r_225]
    refine g_aload_n C 2 dL_law_228 rfl rfl rfl (q := 229) ?_
    refine g_aload_n C 0 dL_law_229 rfl rfl rfl (q := 230) ?_
    refine g_iload_n C 3 dL_law_230 rfl rfl rfl (q := 231) ?_
    refine g_iconst C (nI 1) dL_law_231 (by decide) (q := 232) rfl ?_
    refine g_iadd C dL_law_232 (q := 233) rfl ?_
    refine g_eqi C (y := nI (i + 1)) (nI_add i 1) ?_
    refine g_sld C (fun s h => h.2.2) (vp_in_nI (by omega) (by omega)) dL_law_233 (q := 234) rfl ?_
    refine g_eqi C (y := xs (i + 1)) (by rw [nI_clamp (by omega)]) ?_
    refine g_aload_n C 0 dL_law_234 rfl rfl rfl (q := 235) ?_
    refine g_iload_n C 3 dL_law_235 rfl rfl rfl (q := 236) ?_
    refine g_iconst C (nI 2) dL_law_236 (by decide) (q := 237) rfl ?_
    refine g_iadd C dL_law_237 (q := 238) rfl ?_
    refine g_eqi C (y := nI (i + 2)) (nI_add i 2) ?_
    refine g_sld C (fun s h => h.2.2) (vp_in_nI (by omega) (by omega)) dL_law_238 (q := 239) rfl ?_
    refine g_eqi C (y := xs (i + 2)) (by rw [nI_clamp (by omega)]) ?_
    refine g_if_eq C (t := 246) dL_law_239 (by decide) (q := 242) rfl (fun c_239 => ?_) (fun c_239 => absurd c_217 c_239)
    refine g_iconst C (nI 0) dL_law_246 (by decide) (q := 247) rfl ?_
    refine gcV_qiS C (n := 2) (As := [.int (xs (i + 1)), .int (nI 0)]) (st := [.int r_225]) 0 (wc := wM cI cJ cZ b (nI n) gr li st nu (nI t) sd lea pa pt pp su2 sh tt) (wr := wC cI cJ cZ a hA nA gr li st2 sp2 (nI n) (nI m2) nu ev od fp ti wc wu2 sc pv su2x sd (nI t)) rfl wM_in wM_of dL_law_247 rfl rfl gL_law_X7_stop (c_X7_stop l D cI cJ cZ b n gr li st nu t sd lea pa pt pp su2 sh tt (xs (i + 1)) (nI 0) sp m hL (by first | exact Or.inl rfl | exact Or.inr rfl)) rfl rfl rfl (by decide +kernel) ⟨Nat.le_of_ble_eq_true rfl, Nat.le_of_ble_eq_true rfl⟩ rfl rfl (Nat.le_of_ble_eq_true rfl) FT_b (fun _ _ _ _ _ _ _ _ _ => trivial) ⟨Nat.le_of_ble_eq_true rfl, Nat.le_of_ble_eq_true rfl⟩ (q := 250) rfl (fun r_247 u_247 h_247 => ?_)
    obtain ⟨st3, su3⟩ := u_247
    have ee : (r_225, st2) = (r_247, st3) := Eq.trans h_225.1 (Eq.symm h_247.1)
    simp only [Prod.mk.injEq] at ee
    obtain ⟨er, q_st⟩ := ee
    subst q_st
    show G 31 165904 (wC cI cJ cZ a hA nA gr li st2 sp2 (nI n) (nI m2) nu ev od fp ti wc wu2 sc pv su2x sd (nI t) ++ wM cI cJ cZ b (nI n) gr li st2 nu (nI t) sd lea pa pt pp su3 sh tt) [(0, .ref scr), (1, .ref (a 0)), (2, .ref (b 0)), (3, .int (nI i))] 250 [.int r_247, .int r_225]
    refine g_icmp_eq C (t := 907) dL_law_250 (by decide) (q := 253) rfl (fun c_250 => ?_) (fun c_250 => absurd er c_250)
    have hW2 : wu2 = nI 0 ∨ (wu2 = nI 1 ∧ WOK gr li nu st2 n m2 fp ti wc) := by
      rcases h_225.2.2 with ⟨q1, q2, q5, q3⟩ | q3
      · have q4 : wu2 = wu ∧ su2x = su := Prod.mk.inj q3
        have q1 : st2 = st := q1
        have q5 : m2 = m := q5
        rw [q1, q5, q4.1]; exact hW
      · exact Or.inl (Prod.mk.inj q3).1
    have hS2 : su2x = nI 0 ∨ (su2x = nI 1 ∧ SCOK gr li nu st2 n m2 sc pv) := by
      rcases h_225.2.2 with ⟨q1, q2, q5, q3⟩ | q3
      · have q4 : wu2 = wu ∧ su2x = su := Prod.mk.inj q3
        have q1 : st2 = st := q1
        have q5 : m2 = m := q5
        rw [q1, q5, q4.2]; exact hS
      · exact Or.inl (Prod.mk.inj q3).2
    have hL2 : LInv st2 sp2 n m2 := h_225.2.1
    have hM2 : su3 = nI 0 ∨ (su3 = nI 1 ∧ SHOK (mL gr li nu st2 n) m2 sh tt) := by
      rcases h_247.2 with ⟨q1, q3⟩ | q3
      · have q1 : st2 = st := q1
        have q3 : su3 = su2 := q3
        have q5 : m2 = m := by rw [q1] at hL2; exact hL2.m_uq hL
        rw [q1, q5, q3]; exact hM
      · exact Or.inl q3
    exact k hA nA gr li st2 sp2 n m2 nu ev od fp ti wc wu2 sc pv su2x sd t lea pa pt pp su3 sh tt ⟨hL2, hT, hp, hW2, hS2, ht, hs, hM2⟩
  · refine g_iconst C (nI 1) dL_law_220 (by decide) (q := 221) rfl ?_
    refine g_goto C (q := 225) dL_law_221 (by decide) ?_
    refine gcV_qiP C (n := 2) (As := [.int (xs (i + 1)), .int (nI 1)]) (st := []) 0 (wc := wC cI cJ cZ a hA nA gr li st sp (nI n) (nI m) nu ev od fp ti wc wu sc pv su sd (nI t)) (wr := wM cI cJ cZ b (nI n) gr li st nu (nI t) sd lea pa pt pp su2 sh tt) rfl (wC_in hp) (wC_of hp) dL_law_225 rfl rfl gL_law_X6_stop (c_X6_stop l D cI cJ cZ a hA nA gr li st sp n m nu ev od fp ti wc wu sc pv su sd t (xs (i + 1)) (nI 1) hL (by first | exact Or.inl rfl | exact Or.inr rfl)) rfl rfl rfl (by decide +kernel) ⟨Nat.le_of_ble_eq_true rfl, Nat.le_of_ble_eq_true rfl⟩ rfl rfl (Nat.le_of_ble_eq_true rfl) FT_b (fun _ _ _ _ _ _ _ _ _ => trivial) ⟨Nat.le_of_ble_eq_true rfl, Nat.le_of_ble_eq_true rfl⟩ (q := 228) rfl (fun r_225 u_225 h_225 => ?_)
    obtain ⟨st2, sp2, m2, wu2, su2x⟩ := u_225
    show G 31 165904 (wC cI cJ cZ a hA nA gr li st2 sp2 (nI n) (nI m2) nu ev od fp ti wc wu2 sc pv su2x sd (nI t) ++ wM cI cJ cZ b (nI n) gr li st nu (nI t) sd lea pa pt pp su2 sh tt) [(0, .ref scr), (1, .ref (a 0)), (2, .ref (b 0)), (3, .int (nI i))] 228 [.int r_225]
    refine g_aload_n C 2 dL_law_228 rfl rfl rfl (q := 229) ?_
    refine g_aload_n C 0 dL_law_229 rfl rfl rfl (q := 230) ?_
    refine g_iload_n C 3 dL_law_230 rfl rfl rfl (q := 231) ?_
    refine g_iconst C (nI 1) dL_law_231 (by decide) (q := 232) rfl ?_
    refine g_iadd C dL_law_232 (q := 233) rfl ?_
    refine g_eqi C (y := nI (i + 1)) (nI_add i 1) ?_
    refine g_sld C (fun s h => h.2.2) (vp_in_nI (by omega) (by omega)) dL_law_233 (q := 234) rfl ?_
    refine g_eqi C (y := xs (i + 1)) (by rw [nI_clamp (by omega)]) ?_
    refine g_aload_n C 0 dL_law_234 rfl rfl rfl (q := 235) ?_
    refine g_iload_n C 3 dL_law_235 rfl rfl rfl (q := 236) ?_
    refine g_iconst C (nI 2) dL_law_236 (by decide) (q := 237) rfl ?_
    refine g_iadd C dL_law_237 (q := 238) rfl ?_
    refine g_eqi C (y := nI (i + 2)) (nI_add i 2) ?_
    refine g_sld C (fun s h => h.2.2) (vp_in_nI (by omega) (by omega)) dL_law_238 (q := 239) rfl ?_
    refine g_eqi C (y := xs (i + 2)) (by rw [nI_clamp (by omega)]) ?_
    refine g_if_eq C (t := 246) dL_law_239 (by decide) (q := 242) rfl (fun c_239 => absurd c_239 c_217) (fun c_239 => ?_)
    refine g_iconst C (nI 1) dL_law_242 (by decide) (q := 243) rfl ?_
    refine g_goto C (q := 247) dL_law_243 (by decide) ?_
    refine gcV_qiS C (n := 2) (As := [.int (xs (i + 1)), .int (nI 1)]) (st := [.int r_225]) 0 (wc := wM cI cJ cZ b (nI n) gr li st nu (nI t) sd lea pa pt pp su2 sh tt) (wr := wC cI cJ cZ a hA nA gr li st2 sp2 (nI n) (nI m2) nu ev od fp ti wc wu2 sc pv su2x sd (nI t)) rfl wM_in wM_of dL_law_247 rfl rfl gL_law_X7_stop (c_X7_stop l D cI cJ cZ b n gr li st nu t sd lea pa pt pp su2 sh tt (xs (i + 1)) (nI 1) sp m hL (by first | exact Or.inl rfl | exact Or.inr rfl)) rfl rfl rfl (by decide +kernel) ⟨Nat.le_of_ble_eq_true rfl, Nat.le_of_ble_eq_true rfl⟩ rfl rfl (Nat.le_of_ble_eq_true rfl) FT_b (fun _ _ _ _ _ _ _ _ _ => trivial) ⟨Nat.le_of_ble_eq_true rfl, Nat.le_of_ble_eq_true rfl⟩ (q := 250) rfl (fun r_247 u_247 h_247 => ?_)
    obtain ⟨st3, su3⟩ := u_247
    have ee : (r_225, st2) = (r_247, st3) := Eq.trans h_225.1 (Eq.symm h_247.1)
    simp only [Prod.mk.injEq] at ee
    obtain ⟨er, q_st⟩ := ee
    subst q_st
    show G 31 165904 (wC cI cJ cZ a hA nA gr li st2 sp2 (nI n) (nI m2) nu ev od fp ti wc wu2 sc pv su2x sd (nI t) ++ wM cI cJ cZ b (nI n) gr li st2 nu (nI t) sd lea pa pt pp su3 sh tt) [(0, .ref scr), (1, .ref (a 0)), (2, .ref (b 0)), (3, .int (nI i))] 250 [.int r_247, .int r_225]
    refine g_icmp_eq C (t := 907) dL_law_250 (by decide) (q := 253) rfl (fun c_250 => ?_) (fun c_250 => absurd er c_250)
    have hW2 : wu2 = nI 0 ∨ (wu2 = nI 1 ∧ WOK gr li nu st2 n m2 fp ti wc) := by
      rcases h_225.2.2 with ⟨q1, q2, q5, q3⟩ | q3
      · have q4 : wu2 = wu ∧ su2x = su := Prod.mk.inj q3
        have q1 : st2 = st := q1
        have q5 : m2 = m := q5
        rw [q1, q5, q4.1]; exact hW
      · exact Or.inl (Prod.mk.inj q3).1
    have hS2 : su2x = nI 0 ∨ (su2x = nI 1 ∧ SCOK gr li nu st2 n m2 sc pv) := by
      rcases h_225.2.2 with ⟨q1, q2, q5, q3⟩ | q3
      · have q4 : wu2 = wu ∧ su2x = su := Prod.mk.inj q3
        have q1 : st2 = st := q1
        have q5 : m2 = m := q5
        rw [q1, q5, q4.2]; exact hS
      · exact Or.inl (Prod.mk.inj q3).2
    have hL2 : LInv st2 sp2 n m2 := h_225.2.1
    have hM2 : su3 = nI 0 ∨ (su3 = nI 1 ∧ SHOK (mL gr li nu st2 n) m2 sh tt) := by
      rcases h_247.2 with ⟨q1, q3⟩ | q3
      · have q1 : st2 = st := q1
        have q3 : su3 = su2 := q3
        have q5 : m2 = m := by rw [q1] at hL2; exact hL2.m_uq hL
        rw [q1, q5, q3]; exact hM
      · exact Or.inl q3
    exact k hA nA gr li st2 sp2 n m2 nu ev od fp ti wc wu2 sc pv su2x sd t lea pa pt pp su3 sh tt ⟨hL2, hT, hp, hW2, hS2, ht, hs, hM2⟩
set_option maxHeartbeats 4000000 in
set_option maxRecDepth 100000 in
theorem L_train {l : Launch} {D : va_G} {cI cJ cZ : ClassId} {A : Nat → Prop} {rT rL rM scr Ls : Nat} {xs : Nat → Int32} {G : Nat → Nat → va_W → LL → Nat → List Value → Prop} (C : GB l D (tyT cI cJ cZ) A (FLw cI rT rL rM scr Ls xs A) room_1 cL_law 4 RL wsL_law false false G) {a b : Nat → Nat} {hA nA : Nat} {gr li st sp : Nat → Int32} {n m : Nat} {nu : Nat → Int32} {ev od : Nat → Int64} {fp ti : Nat → Int32} {wc : Nat → Int64} {wu : Int32} {sc pv : Nat → Int64} {su : Int32} {sd : Nat → Int32} {t : Nat} {lea : Nat → Int32} {pa : Int32} {pt pp : Nat → Int32} {su2 : Int32} {sh tt : Nat → Int32} (I : LWI a hA nA gr li st sp n m nu fp ti wc wu sc pv su sd t su2 sh tt) {i : Nat} (hi : i + 4 ≤ Ls) (hLs : Ls ≤ 2048) (k : ∀ (hA nA : Nat) (gr li st sp : Nat → Int32) (n m : Nat) (nu : Nat → Int32) (ev od : Nat → Int64) (fp ti : Nat → Int32) (wc : Nat → Int64) (wu : Int32) (sc pv : Nat → Int64) (su : Int32) (sd : Nat → Int32) (t : Nat) (lea : Nat → Int32) (pa : Int32) (pt pp : Nat → Int32) (su2 : Int32) (sh tt : Nat → Int32), LWI a hA nA gr li st sp n m nu fp ti wc wu sc pv su sd t su2 sh tt → G 31 165904 (wC cI cJ cZ a hA nA gr li st sp (nI n) (nI m) nu ev od fp ti wc wu sc pv su sd (nI t) ++ wM cI cJ cZ b (nI n) gr li st nu (nI t) sd lea pa pt pp su2 sh tt) [(0, .ref scr), (1, .ref (a 0)), (2, .ref (b 0)), (3, .int (nI i))] 907 []) : G 31 165904 (wC cI cJ cZ a hA nA gr li st sp (nI n) (nI m) nu ev od fp ti wc wu sc pv su sd (nI t) ++ wM cI cJ cZ b (nI n) gr li st nu (nI t) sd lea pa pt pp su2 sh tt) [(0, .ref scr), (1, .ref (a 0)), (2, .ref (b 0)), (3, .int (nI i))] 255 [] := by
  obtain ⟨hL, hT, hp, hW, hS, ht, hs, hM⟩ := I
  have hn := hL.2.1
  have hn1 := hL.1
  have hst := hL.2.2.1
  have hsu := hM
  refine g_aload_n C 1 dL_law_255 rfl rfl rfl (q := 256) ?_
  refine g_aload_n C 0 dL_law_256 rfl rfl rfl (q := 257) ?_
  refine g_iload_n C 3 dL_law_257 rfl rfl rfl (q := 258) ?_
  refine g_iconst C (nI 1) dL_law_258 (by decide) (q := 259) rfl ?_
  refine g_iadd C dL_law_259 (q := 260) rfl ?_
  refine g_eqi C (y := nI (i + 1)) (nI_add i 1) ?_
  refine g_sld C (fun s h => h.2.2) (vp_in_nI (by omega) (by omega)) dL_law_260 (q := 261) rfl ?_
  refine g_eqi C (y := xs (i + 1)) (by rw [nI_clamp (by omega)]) ?_
  refine g_aload_n C 0 dL_law_261 rfl rfl rfl (q := 262) ?_
  refine g_iload_n C 3 dL_law_262 rfl rfl rfl (q := 263) ?_
  refine g_iconst C (nI 2) dL_law_263 (by decide) (q := 264) rfl ?_
  refine g_iadd C dL_law_264 (q := 265) rfl ?_
  refine g_eqi C (y := nI (i + 2)) (nI_add i 2) ?_
  refine g_sld C (fun s h => h.2.2) (vp_in_nI (by omega) (by omega)) dL_law_265 (q := 266) rfl ?_
  refine g_eqi C (y := xs (i + 2)) (by rw [nI_clamp (by omega)]) ?_
  refine gcV_qiP C (n := 2) (As := [.int (xs (i + 1)), .int (xs (i + 2))]) (st := []) 0 (wc := wC cI cJ cZ a hA nA gr li st sp (nI n) (nI m) nu ev od fp ti wc wu sc pv su sd (nI t)) (wr := wM cI cJ cZ b (nI n) gr li st nu (nI t) sd lea pa pt pp su2 sh tt) rfl (wC_in hp) (wC_of hp) dL_law_266 rfl rfl gL_law_X6_train (c_X6_train l D cI cJ cZ a hA nA gr li st sp n m nu ev od fp ti wc wu sc pv su sd t (xs (i + 1)) (xs (i + 2)) rL rM) rfl rfl rfl (by decide +kernel) ⟨Nat.le_of_ble_eq_true rfl, Nat.le_of_ble_eq_true rfl⟩ rfl rfl (Nat.le_of_ble_eq_true rfl) FZr_b (fun _ _ _ _ h hI hH hv hs => FZr_n h.2.1 hI hH hv hs) ⟨Nat.le_of_ble_eq_true rfl, Nat.le_of_ble_eq_true rfl⟩ (q := 269) rfl (fun r_266 u_266 h_266 => ?_)
  obtain ⟨nu2, wu2, su2x⟩ := u_266
  show G 31 165904 (wC cI cJ cZ a hA nA gr li st sp (nI n) (nI m) nu2 ev od fp ti wc wu2 sc pv su2x sd (nI t) ++ wM cI cJ cZ b (nI n) gr li st nu (nI t) sd lea pa pt pp su2 sh tt) [(0, .ref scr), (1, .ref (a 0)), (2, .ref (b 0)), (3, .int (nI i))] 269 [.int r_266]
  refine g_aload_n C 2 dL_law_269 rfl rfl rfl (q := 270) ?_
  refine g_aload_n C 0 dL_law_270 rfl rfl rfl (q := 271) ?_
  refine g_iload_n C 3 dL_law_271 rfl rfl rfl (q := 272) ?_
  refine g_iconst C (nI 1) dL_law_272 (by decide) (q := 273) rfl ?_
  refine g_iadd C dL_law_273 (q := 274) rfl ?_
  refine g_eqi C (y := nI (i + 1)) (nI_add i 1) ?_
  refine g_sld C (fun s h => h.2.2) (vp_in_nI (by omega) (by omega)) dL_law_274 (q := 275) rfl ?_
  refine g_eqi C (y := xs (i + 1)) (by rw [nI_clamp (by omega)]) ?_
  refine g_aload_n C 0 dL_law_275 rfl rfl rfl (q := 276) ?_
  refine g_iload_n C 3 dL_law_276 rfl rfl rfl (q := 277) ?_
  refine g_iconst C (nI 2) dL_law_277 (by decide) (q := 278) rfl ?_
  refine g_iadd C dL_law_278 (q := 279) rfl ?_
  refine g_eqi C (y := nI (i + 2)) (nI_add i 2) ?_
  refine g_sld C (fun s h => h.2.2) (vp_in_nI (by omega) (by omega)) dL_law_279 (q := 280) rfl ?_
  refine g_eqi C (y := xs (i + 2)) (by rw [nI_clamp (by omega)]) ?_
  refine gcV_qiS C (n := 2) (As := [.int (xs (i + 1)), .int (xs (i + 2))]) (st := [.int r_266]) 0 (wc := wM cI cJ cZ b (nI n) gr li st nu (nI t) sd lea pa pt pp su2 sh tt) (wr := wC cI cJ cZ a hA nA gr li st sp (nI n) (nI m) nu2 ev od fp ti wc wu2 sc pv su2x sd (nI t)) rfl wM_in wM_of dL_law_280 rfl rfl gL_law_X7_train (c_X7_train l D cI cJ cZ b n gr li st nu t sd lea pa pt pp su2 sh tt (xs (i + 1)) (xs (i + 2))) rfl rfl rfl (by decide +kernel) ⟨Nat.le_of_ble_eq_true rfl, Nat.le_of_ble_eq_true rfl⟩ rfl rfl (Nat.le_of_ble_eq_true rfl) FT_b (fun _ _ _ _ _ _ _ _ _ => trivial) ⟨Nat.le_of_ble_eq_true rfl, Nat.le_of_ble_eq_true rfl⟩ (q := 283) rfl (fun r_280 u_280 h_280 => ?_)
  obtain ⟨nu3, su3⟩ := u_280
  have ee : (r_266, nu2) = (r_280, nu3) := Eq.trans h_266.1 (Eq.symm h_280.1)
  simp only [Prod.mk.injEq] at ee
  obtain ⟨er, q_nu⟩ := ee
  subst q_nu
  show G 31 165904 (wC cI cJ cZ a hA nA gr li st sp (nI n) (nI m) nu2 ev od fp ti wc wu2 sc pv su2x sd (nI t) ++ wM cI cJ cZ b (nI n) gr li st nu2 (nI t) sd lea pa pt pp su3 sh tt) [(0, .ref scr), (1, .ref (a 0)), (2, .ref (b 0)), (3, .int (nI i))] 283 [.int r_280, .int r_266]
  refine g_icmp_eq C (t := 907) dL_law_283 (by decide) (q := 286) rfl (fun c_283 => ?_) (fun c_283 => absurd er c_283)
  have hW2 : wu2 = nI 0 ∨ (wu2 = nI 1 ∧ WOK gr li nu2 st n m fp ti wc) := by
    rcases h_266.2 with ⟨q1, q3⟩ | q3
    · have q4 : wu2 = wu ∧ su2x = su := Prod.mk.inj q3
      subst q1; rw [q4.1]; exact hW
    · exact Or.inl (Prod.mk.inj q3).1
  have hS2 : su2x = nI 0 ∨ (su2x = nI 1 ∧ SCOK gr li nu2 st n m sc pv) := by
    rcases h_266.2 with ⟨q1, q3⟩ | q3
    · have q4 : wu2 = wu ∧ su2x = su := Prod.mk.inj q3
      subst q1; rw [q4.2]; exact hS
    · exact Or.inl (Prod.mk.inj q3).2
  have hM2 : su3 = nI 0 ∨ (su3 = nI 1 ∧ SHOK (mL gr li nu2 st n) m sh tt) := by
    rcases h_280.2 with ⟨q1, q3⟩ | q3
    · have q4 : su3 = su2 := q3
      subst q1; rw [q4]; exact hM
    · exact Or.inl q3
  exact k hA nA gr li st sp n m nu2 ev od fp ti wc wu2 sc pv su2x sd t lea pa pt pp su3 sh tt ⟨hL, (train_inv h_266.1 hT), hp, hW2, hS2, ht, hs, hM2⟩
set_option maxHeartbeats 4000000 in
set_option maxRecDepth 100000 in
theorem L_has {l : Launch} {D : va_G} {cI cJ cZ : ClassId} {A : Nat → Prop} {rT rL rM scr Ls : Nat} {xs : Nat → Int32} {G : Nat → Nat → va_W → LL → Nat → List Value → Prop} (C : GB l D (tyT cI cJ cZ) A (FLw cI rT rL rM scr Ls xs A) room_1 cL_law 4 RL wsL_law false false G) {a b : Nat → Nat} {hA nA : Nat} {gr li st sp : Nat → Int32} {n m : Nat} {nu : Nat → Int32} {ev od : Nat → Int64} {fp ti : Nat → Int32} {wc : Nat → Int64} {wu : Int32} {sc pv : Nat → Int64} {su : Int32} {sd : Nat → Int32} {t : Nat} {lea : Nat → Int32} {pa : Int32} {pt pp : Nat → Int32} {su2 : Int32} {sh tt : Nat → Int32} (I : LWI a hA nA gr li st sp n m nu fp ti wc wu sc pv su sd t su2 sh tt) {i : Nat} (hi : i + 4 ≤ Ls) (hLs : Ls ≤ 2048) (k : ∀ (hA nA : Nat) (gr li st sp : Nat → Int32) (n m : Nat) (nu : Nat → Int32) (ev od : Nat → Int64) (fp ti : Nat → Int32) (wc : Nat → Int64) (wu : Int32) (sc pv : Nat → Int64) (su : Int32) (sd : Nat → Int32) (t : Nat) (lea : Nat → Int32) (pa : Int32) (pt pp : Nat → Int32) (su2 : Int32) (sh tt : Nat → Int32), LWI a hA nA gr li st sp n m nu fp ti wc wu sc pv su sd t su2 sh tt → G 31 165904 (wC cI cJ cZ a hA nA gr li st sp (nI n) (nI m) nu ev od fp ti wc wu sc pv su sd (nI t) ++ wM cI cJ cZ b (nI n) gr li st nu (nI t) sd lea pa pt pp su2 sh tt) [(0, .ref scr), (1, .ref (a 0)), (2, .ref (b 0)), (3, .int (nI i))] 907 []) : G 31 165904 (wC cI cJ cZ a hA nA gr li st sp (nI n) (nI m) nu ev od fp ti wc wu sc pv su sd (nI t) ++ wM cI cJ cZ b (nI n) gr li st nu (nI t) sd lea pa pt pp su2 sh tt) [(0, .ref scr), (1, .ref (a 0)), (2, .ref (b 0)), (3, .int (nI i))] 288 [] := by
  obtain ⟨hL, hT, hp, hW, hS, ht, hs, hM⟩ := I
  have hn := hL.2.1
  have hn1 := hL.1
  have hst := hL.2.2.1
  have hsu := hM
  refine g_aload_n C 1 dL_law_288 rfl rfl rfl (q := 289) ?_
  refine g_aload_n C 0 dL_law_289 rfl rfl rfl (q := 290) ?_
  refine g_iload_n C 3 dL_law_290 rfl rfl rfl (q := 291) ?_
  refine g_iconst C (nI 1) dL_law_291 (by decide) (q := 292) rfl ?_
  refine g_iadd C dL_law_292 (q := 293) rfl ?_
  refine g_eqi C (y := nI (i + 1)) (nI_add i 1) ?_
  refine g_sld C (fun s h => h.2.2) (vp_in_nI (by omega) (by omega)) dL_law_293 (q := 294) rfl ?_
  refine g_eqi C (y := xs (i + 1)) (by rw [nI_clamp (by omega)]) ?_
  refine gcV_siP C (n := 1) (As := [.int (xs (i + 1))]) (st := []) 0 (wc := wC cI cJ cZ a hA nA gr li st sp (nI n) (nI m) nu ev od fp ti wc wu sc pv su sd (nI t)) (wr := wM cI cJ cZ b (nI n) gr li st nu (nI t) sd lea pa pt pp su2 sh tt) rfl (wC_in hp) (wC_of hp) dL_law_294 rfl rfl gL_law_X6_has (c_X6_has l D cI cJ cZ a hA nA gr li st sp n m nu ev od fp ti wc wu sc pv su sd t (xs (i + 1))) rfl rfl rfl (by decide +kernel) ⟨Nat.le_of_ble_eq_true rfl, Nat.le_of_ble_eq_true rfl⟩ rfl rfl (Nat.le_of_ble_eq_true rfl) FT_b (fun _ _ _ _ _ _ _ _ _ => trivial) ⟨Nat.le_of_ble_eq_true rfl, Nat.le_of_ble_eq_true rfl⟩ (q := 297) rfl (fun r_294 h_294 => ?_)
  show G 31 165904 (wC cI cJ cZ a hA nA gr li st sp (nI n) (nI m) nu ev od fp ti wc wu sc pv su sd (nI t) ++ wM cI cJ cZ b (nI n) gr li st nu (nI t) sd lea pa pt pp su2 sh tt) [(0, .ref scr), (1, .ref (a 0)), (2, .ref (b 0)), (3, .int (nI i))] 297 [.int r_294]
  refine g_aload_n C 2 dL_law_297 rfl rfl rfl (q := 298) ?_
  refine g_aload_n C 0 dL_law_298 rfl rfl rfl (q := 299) ?_
  refine g_iload_n C 3 dL_law_299 rfl rfl rfl (q := 300) ?_
  refine g_iconst C (nI 1) dL_law_300 (by decide) (q := 301) rfl ?_
  refine g_iadd C dL_law_301 (q := 302) rfl ?_
  refine g_eqi C (y := nI (i + 1)) (nI_add i 1) ?_
  refine g_sld C (fun s h => h.2.2) (vp_in_nI (by omega) (by omega)) dL_law_302 (q := 303) rfl ?_
  refine g_eqi C (y := xs (i + 1)) (by rw [nI_clamp (by omega)]) ?_
  refine gcV_siS C (n := 1) (As := [.int (xs (i + 1))]) (st := [.int r_294]) 0 (wc := wM cI cJ cZ b (nI n) gr li st nu (nI t) sd lea pa pt pp su2 sh tt) (wr := wC cI cJ cZ a hA nA gr li st sp (nI n) (nI m) nu ev od fp ti wc wu sc pv su sd (nI t)) rfl wM_in wM_of dL_law_303 rfl rfl gL_law_X7_has (c_X7_has l D cI cJ cZ b n gr li st nu t sd lea pa pt pp su2 sh tt (xs (i + 1))) rfl rfl rfl (by decide +kernel) ⟨Nat.le_of_ble_eq_true rfl, Nat.le_of_ble_eq_true rfl⟩ rfl rfl (Nat.le_of_ble_eq_true rfl) FT_b (fun _ _ _ _ _ _ _ _ _ => trivial) ⟨Nat.le_of_ble_eq_true rfl, Nat.le_of_ble_eq_true rfl⟩ (q := 306) rfl (fun r_303 h_303 => ?_)
  show G 31 165904 (wC cI cJ cZ a hA nA gr li st sp (nI n) (nI m) nu ev od fp ti wc wu sc pv su sd (nI t) ++ wM cI cJ cZ b (nI n) gr li st nu (nI t) sd lea pa pt pp su2 sh tt) [(0, .ref scr), (1, .ref (a 0)), (2, .ref (b 0)), (3, .int (nI i))] 306 [.int r_303, .int r_294]
  refine g_icmp_eq C (t := 907) dL_law_306 (by decide) (q := 309) rfl (fun c_306 => ?_) (fun c_306 => absurd (h_294.trans h_303.symm) c_306)
  exact k hA nA gr li st sp n m nu ev od fp ti wc wu sc pv su sd t lea pa pt pp su2 sh tt ⟨hL, hT, hp, hW, hS, ht, hs, hM⟩
set_option maxHeartbeats 4000000 in
set_option maxRecDepth 100000 in
theorem L_leg {l : Launch} {D : va_G} {cI cJ cZ : ClassId} {A : Nat → Prop} {rT rL rM scr Ls : Nat} {xs : Nat → Int32} {G : Nat → Nat → va_W → LL → Nat → List Value → Prop} (C : GB l D (tyT cI cJ cZ) A (FLw cI rT rL rM scr Ls xs A) room_1 cL_law 4 RL wsL_law false false G) {a b : Nat → Nat} {hA nA : Nat} {gr li st sp : Nat → Int32} {n m : Nat} {nu : Nat → Int32} {ev od : Nat → Int64} {fp ti : Nat → Int32} {wc : Nat → Int64} {wu : Int32} {sc pv : Nat → Int64} {su : Int32} {sd : Nat → Int32} {t : Nat} {lea : Nat → Int32} {pa : Int32} {pt pp : Nat → Int32} {su2 : Int32} {sh tt : Nat → Int32} (I : LWI a hA nA gr li st sp n m nu fp ti wc wu sc pv su sd t su2 sh tt) {i : Nat} (hi : i + 4 ≤ Ls) (hLs : Ls ≤ 2048) (k : ∀ (hA nA : Nat) (gr li st sp : Nat → Int32) (n m : Nat) (nu : Nat → Int32) (ev od : Nat → Int64) (fp ti : Nat → Int32) (wc : Nat → Int64) (wu : Int32) (sc pv : Nat → Int64) (su : Int32) (sd : Nat → Int32) (t : Nat) (lea : Nat → Int32) (pa : Int32) (pt pp : Nat → Int32) (su2 : Int32) (sh tt : Nat → Int32), LWI a hA nA gr li st sp n m nu fp ti wc wu sc pv su sd t su2 sh tt → G 31 165904 (wC cI cJ cZ a hA nA gr li st sp (nI n) (nI m) nu ev od fp ti wc wu sc pv su sd (nI t) ++ wM cI cJ cZ b (nI n) gr li st nu (nI t) sd lea pa pt pp su2 sh tt) [(0, .ref scr), (1, .ref (a 0)), (2, .ref (b 0)), (3, .int (nI i))] 907 []) : G 31 165904 (wC cI cJ cZ a hA nA gr li st sp (nI n) (nI m) nu ev od fp ti wc wu sc pv su sd (nI t) ++ wM cI cJ cZ b (nI n) gr li st nu (nI t) sd lea pa pt pp su2 sh tt) [(0, .ref scr), (1, .ref (a 0)), (2, .ref (b 0)), (3, .int (nI i))] 311 [] := by
  obtain ⟨hL, hT, hp, hW, hS, ht, hs, hM⟩ := I
  have hn := hL.2.1
  have hn1 := hL.1
  have hst := hL.2.2.1
  have hsu := hM
  refine g_aload_n C 1 dL_law_311 rfl rfl rfl (q := 312) ?_
  refine g_aload_n C 0 dL_law_312 rfl rfl rfl (q := 313) ?_
  refine g_iload_n C 3 dL_law_313 rfl rfl rfl (q := 314) ?_
  refine g_iconst C (nI 1) dL_law_314 (by decide) (q := 315) rfl ?_
  refine g_iadd C dL_law_315 (q := 316) rfl ?_
  refine g_eqi C (y := nI (i + 1)) (nI_add i 1) ?_
  refine g_sld C (fun s h => h.2.2) (vp_in_nI (by omega) (by omega)) dL_law_316 (q := 317) rfl ?_
  refine g_eqi C (y := xs (i + 1)) (by rw [nI_clamp (by omega)]) ?_
  refine g_aload_n C 0 dL_law_317 rfl rfl rfl (q := 318) ?_
  refine g_iload_n C 3 dL_law_318 rfl rfl rfl (q := 319) ?_
  refine g_iconst C (nI 2) dL_law_319 (by decide) (q := 320) rfl ?_
  refine g_iadd C dL_law_320 (q := 321) rfl ?_
  refine g_eqi C (y := nI (i + 2)) (nI_add i 2) ?_
  refine g_sld C (fun s h => h.2.2) (vp_in_nI (by omega) (by omega)) dL_law_321 (q := 322) rfl ?_
  refine g_eqi C (y := xs (i + 2)) (by rw [nI_clamp (by omega)]) ?_
  refine g_if_eq C (t := 329) dL_law_322 (by decide) (q := 325) rfl (fun c_322 => ?_) (fun c_322 => ?_)
  · refine g_iconst C (nI 0) dL_law_329 (by decide) (q := 330) rfl ?_
    refine gcV_siP C (n := 2) (As := [.int (xs (i + 1)), .int (nI 0)]) (st := []) 0 (wc := wC cI cJ cZ a hA nA gr li st sp (nI n) (nI m) nu ev od fp ti wc wu sc pv su sd (nI t)) (wr := wM cI cJ cZ b (nI n) gr li st nu (nI t) sd lea pa pt pp su2 sh tt) rfl (wC_in hp) (wC_of hp) dL_law_330 rfl rfl gL_law_X6_leg (c_X6_leg l D cI cJ cZ a hA nA gr li st sp n m nu ev od fp ti wc wu sc pv su sd t (xs (i + 1)) (nI 0) (by first | assumption | omega)) rfl rfl rfl (by decide +kernel) ⟨Nat.le_of_ble_eq_true rfl, Nat.le_of_ble_eq_true rfl⟩ rfl rfl (Nat.le_of_ble_eq_true rfl) FT_b (fun _ _ _ _ _ _ _ _ _ => trivial) ⟨Nat.le_of_ble_eq_true rfl, Nat.le_of_ble_eq_true rfl⟩ (q := 333) rfl (fun r_330 h_330 => ?_)
    show G 31 165904 (wC cI cJ cZ a hA nA gr li st sp (nI n) (nI m) nu ev od fp ti wc wu sc pv su sd (nI t) ++ wM cI cJ cZ b (nI n) gr li st nu (nI t) sd lea pa pt pp su2 sh tt) [(0, .ref scr), (1, .ref (a 0)), (2, .ref (b 0)), (3, .int (nI i))] 333 [.int r_330]
    refine g_aload_n C 2 dL_law_333 rfl rfl rfl (q := 334) ?_
    refine g_aload_n C 0 dL_law_334 rfl rfl rfl (q := 335) ?_
    refine g_iload_n C 3 dL_law_335 rfl rfl rfl (q := 336) ?_
    refine g_iconst C (nI 1) dL_law_336 (by decide) (q := 337) rfl ?_
    refine g_iadd C dL_law_337 (q := 338) rfl ?_
    refine g_eqi C (y := nI (i + 1)) (nI_add i 1) ?_
    refine g_sld C (fun s h => h.2.2) (vp_in_nI (by omega) (by omega)) dL_law_338 (q := 339) rfl ?_
    refine g_eqi C (y := xs (i + 1)) (by rw [nI_clamp (by omega)]) ?_
    refine g_aload_n C 0 dL_law_339 rfl rfl rfl (q := 340) ?_
    refine g_iload_n C 3 dL_law_340 rfl rfl rfl (q := 341) ?_
    refine g_iconst C (nI 2) dL_law_341 (by decide) (q := 342) rfl ?_
    refine g_iadd C dL_law_342 (q := 343) rfl ?_
    refine g_eqi C (y := nI (i + 2)) (nI_add i 2) ?_
    refine g_sld C (fun s h => h.2.2) (vp_in_nI (by omega) (by omega)) dL_law_343 (q := 344) rfl ?_
    refine g_eqi C (y := xs (i + 2)) (by rw [nI_clamp (by omega)]) ?_
    refine g_if_eq C (t := 351) dL_law_344 (by decide) (q := 347) rfl (fun c_344 => ?_) (fun c_344 => absurd c_322 c_344)
    refine g_iconst C (nI 0) dL_law_351 (by decide) (q := 352) rfl ?_
    refine gcV_siS C (n := 2) (As := [.int (xs (i + 1)), .int (nI 0)]) (st := [.int r_330]) 0 (wc := wM cI cJ cZ b (nI n) gr li st nu (nI t) sd lea pa pt pp su2 sh tt) (wr := wC cI cJ cZ a hA nA gr li st sp (nI n) (nI m) nu ev od fp ti wc wu sc pv su sd (nI t)) rfl wM_in wM_of dL_law_352 rfl rfl gL_law_X7_leg (c_X7_leg l D cI cJ cZ b n gr li st nu t sd lea pa pt pp su2 sh tt (xs (i + 1)) (nI 0) sp m (by first | assumption | omega)) rfl rfl rfl (by decide +kernel) ⟨Nat.le_of_ble_eq_true rfl, Nat.le_of_ble_eq_true rfl⟩ rfl rfl (Nat.le_of_ble_eq_true rfl) FT_b (fun _ _ _ _ _ _ _ _ _ => trivial) ⟨Nat.le_of_ble_eq_true rfl, Nat.le_of_ble_eq_true rfl⟩ (q := 355) rfl (fun r_352 h_352 => ?_)
    show G 31 165904 (wC cI cJ cZ a hA nA gr li st sp (nI n) (nI m) nu ev od fp ti wc wu sc pv su sd (nI t) ++ wM cI cJ cZ b (nI n) gr li st nu (nI t) sd lea pa pt pp su2 sh tt) [(0, .ref scr), (1, .ref (a 0)), (2, .ref (b 0)), (3, .int (nI i))] 355 [.int r_352, .int r_330]
    refine g_icmp_eq C (t := 907) dL_law_355 (by decide) (q := 358) rfl (fun c_355 => ?_) (fun c_355 => absurd (h_330.trans h_352.symm) c_355)
    exact k hA nA gr li st sp n m nu ev od fp ti wc wu sc pv su sd t lea pa pt pp su2 sh tt ⟨hL, hT, hp, hW, hS, ht, hs, hM⟩
  · refine g_iconst C (nI 1) dL_law_325 (by decide) (q := 326) rfl ?_
    refine g_goto C (q := 330) dL_law_326 (by decide) ?_
    refine gcV_siP C (n := 2) (As := [.int (xs (i + 1)), .int (nI 1)]) (st := []) 0 (wc := wC cI cJ cZ a hA nA gr li st sp (nI n) (nI m) nu ev od fp ti wc wu sc pv su sd (nI t)) (wr := wM cI cJ cZ b (nI n) gr li st nu (nI t) sd lea pa pt pp su2 sh tt) rfl (wC_in hp) (wC_of hp) dL_law_330 rfl rfl gL_law_X6_leg (c_X6_leg l D cI cJ cZ a hA nA gr li st sp n m nu ev od fp ti wc wu sc pv su sd t (xs (i + 1)) (nI 1) (by first | assumption | omega)) rfl rfl rfl (by decide +kernel) ⟨Nat.le_of_ble_eq_true rfl, Nat.le_of_ble_eq_true rfl⟩ rfl rfl (Nat.le_of_ble_eq_true rfl) FT_b (fun _ _ _ _ _ _ _ _ _ => trivial) ⟨Nat.le_of_ble_eq_true rfl, Nat.le_of_ble_eq_true rfl⟩ (q := 333) rfl (fun r_330 h_330 => ?_)
    show G 31 165904 (wC cI cJ cZ a hA nA gr li st sp (nI n) (nI m) nu ev od fp ti wc wu sc pv su sd (nI t) ++ wM cI cJ cZ b (nI n) gr li st nu (nI t) sd lea pa pt pp su2 sh tt) [(0, .ref scr), (1, .ref (a 0)), (2, .ref (b 0)), (3, .int (nI i))] 333 [.int r_330]
    refine g_aload_n C 2 dL_law_333 rfl rfl rfl (q := 334) ?_
    refine g_aload_n C 0 dL_law_334 rfl rfl rfl (q := 335) ?_
    refine g_iload_n C 3 dL_law_335 rfl rfl rfl (q := 336) ?_
    refine g_iconst C (nI 1) dL_law_336 (by decide) (q := 337) rfl ?_
    refine g_iadd C dL_law_337 (q := 338) rfl ?_
    refine g_eqi C (y := nI (i + 1)) (nI_add i 1) ?_
    refine g_sld C (fun s h => h.2.2) (vp_in_nI (by omega) (by omega)) dL_law_338 (q := 339) rfl ?_
    refine g_eqi C (y := xs (i + 1)) (by rw [nI_clamp (by omega)]) ?_
    refine g_aload_n C 0 dL_law_339 rfl rfl rfl (q := 340) ?_
    refine g_iload_n C 3 dL_law_340 rfl rfl rfl (q := 341) ?_
    refine g_iconst C (nI 2) dL_law_341 (by decide) (q := 342) rfl ?_
    refine g_iadd C dL_law_342 (q := 343) rfl ?_
    refine g_eqi C (y := nI (i + 2)) (nI_add i 2) ?_
    refine g_sld C (fun s h => h.2.2) (vp_in_nI (by omega) (by omega)) dL_law_343 (q := 344) rfl ?_
    refine g_eqi C (y := xs (i + 2)) (by rw [nI_clamp (by omega)]) ?_
    refine g_if_eq C (t := 351) dL_law_344 (by decide) (q := 347) rfl (fun c_344 => absurd c_344 c_322) (fun c_344 => ?_)
    refine g_iconst C (nI 1) dL_law_347 (by decide) (q := 348) rfl ?_
    refine g_goto C (q := 352) dL_law_348 (by decide) ?_
    refine gcV_siS C (n := 2) (As := [.int (xs (i + 1)), .int (nI 1)]) (st := [.int r_330]) 0 (wc := wM cI cJ cZ b (nI n) gr li st nu (nI t) sd lea pa pt pp su2 sh tt) (wr := wC cI cJ cZ a hA nA gr li st sp (nI n) (nI m) nu ev od fp ti wc wu sc pv su sd (nI t)) rfl wM_in wM_of dL_law_352 rfl rfl gL_law_X7_leg (c_X7_leg l D cI cJ cZ b n gr li st nu t sd lea pa pt pp su2 sh tt (xs (i + 1)) (nI 1) sp m (by first | assumption | omega)) rfl rfl rfl (by decide +kernel) ⟨Nat.le_of_ble_eq_true rfl, Nat.le_of_ble_eq_true rfl⟩ rfl rfl (Nat.le_of_ble_eq_true rfl) FT_b (fun _ _ _ _ _ _ _ _ _ => trivial) ⟨Nat.le_of_ble_eq_true rfl, Nat.le_of_ble_eq_true rfl⟩ (q := 355) rfl (fun r_352 h_352 => ?_)
    show G 31 165904 (wC cI cJ cZ a hA nA gr li st sp (nI n) (nI m) nu ev od fp ti wc wu sc pv su sd (nI t) ++ wM cI cJ cZ b (nI n) gr li st nu (nI t) sd lea pa pt pp su2 sh tt) [(0, .ref scr), (1, .ref (a 0)), (2, .ref (b 0)), (3, .int (nI i))] 355 [.int r_352, .int r_330]
    refine g_icmp_eq C (t := 907) dL_law_355 (by decide) (q := 358) rfl (fun c_355 => ?_) (fun c_355 => absurd (h_330.trans h_352.symm) c_355)
    exact k hA nA gr li st sp n m nu ev od fp ti wc wu sc pv su sd t lea pa pt pp su2 sh tt ⟨hL, hT, hp, hW, hS, ht, hs, hM⟩
