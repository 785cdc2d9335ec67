set_option maxHeartbeats 4000000 in
set_option maxRecDepth 100000 in
theorem L_needs {l : Launch} {D : va_G} {cI cJ cZ : ClassId} {A : Nat → Prop} {rT rL rM scr Ls : Nat} {xs : Nat → Int32} {G : Nat → Nat → va_W → LL → Nat → List Value → Prop} (C : GB l D (tyT cI cJ cZ) A (FLw cI rT rL rM scr Ls xs A) room_1 cL_law 4 RL wsL_law false false G) {a b : Nat → Nat} {hA nA : Nat} {gr li st sp : Nat → Int32} {n m : Nat} {nu : Nat → Int32} {ev od : Nat → Int64} {fp ti : Nat → Int32} {wc : Nat → Int64} {wu : Int32} {sc pv : Nat → Int64} {su : Int32} {sd : Nat → Int32} {t : Nat} {lea : Nat → Int32} {pa : Int32} {pt pp : Nat → Int32} {su2 : Int32} {sh tt : Nat → Int32} (I : LWI a hA nA gr li st sp n m nu fp ti wc wu sc pv su sd t su2 sh tt) {i : Nat} (hi : i + 4 ≤ Ls) (hLs : Ls ≤ 2048) (k : ∀ (hA nA : Nat) (gr li st sp : Nat → Int32) (n m : Nat) (nu : Nat → Int32) (ev od : Nat → Int64) (fp ti : Nat → Int32) (wc : Nat → Int64) (wu : Int32) (sc pv : Nat → Int64) (su : Int32) (sd : Nat → Int32) (t : Nat) (lea : Nat → Int32) (pa : Int32) (pt pp : Nat → Int32) (su2 : Int32) (sh tt : Nat → Int32), LWI a hA nA gr li st sp n m nu fp ti wc wu sc pv su sd t su2 sh tt → G 31 165904 (wC cI cJ cZ a hA nA gr li st sp (nI n) (nI m) nu ev od fp ti wc wu sc pv su sd (nI t) ++ wM cI cJ cZ b (nI n) gr li st nu (nI t) sd lea pa pt pp su2 sh tt) [(0, .ref scr), (1, .ref (a 0)), (2, .ref (b 0)), (3, .int (nI i))] 907 []) : G 31 165904 (wC cI cJ cZ a hA nA gr li st sp (nI n) (nI m) nu ev od fp ti wc wu sc pv su sd (nI t) ++ wM cI cJ cZ b (nI n) gr li st nu (nI t) sd lea pa pt pp su2 sh tt) [(0, .ref scr), (1, .ref (a 0)), (2, .ref (b 0)), (3, .int (nI i))] 802 [] := by
  obtain ⟨hL, hT, hp, hW, hS, ht, hs, hM⟩ := I
  have hn := hL.2.1
  have hn1 := hL.1
  have hst := hL.2.2.1
  have hsu := hM
  refine g_aload_n C 1 dL_law_802 rfl rfl rfl (q := 803) ?_
  refine g_aload_n C 0 dL_law_803 rfl rfl rfl (q := 804) ?_
  refine g_iload_n C 3 dL_law_804 rfl rfl rfl (q := 805) ?_
  refine g_iconst C (nI 1) dL_law_805 (by decide) (q := 806) rfl ?_
  refine g_iadd C dL_law_806 (q := 807) rfl ?_
  refine g_eqi C (y := nI (i + 1)) (nI_add i 1) ?_
  refine g_sld C (fun s h => h.2.2) (vp_in_nI (by omega) (by omega)) dL_law_807 (q := 808) rfl ?_
  refine g_eqi C (y := xs (i + 1)) (by rw [nI_clamp (by omega)]) ?_
  refine gcV_qiP C (n := 1) (As := [.int (xs (i + 1))]) (st := []) 0 (wc := wC cI cJ cZ a hA nA gr li st sp (nI n) (nI m) nu ev od fp ti wc wu sc pv su sd (nI t)) (wr := wM cI cJ cZ b (nI n) gr li st nu (nI t) sd lea pa pt pp su2 sh tt) rfl (wC_in hp) (wC_of hp) dL_law_808 rfl rfl gL_law_X6_needs (c_X6_needs l D cI cJ cZ a hA nA gr li st sp n m nu ev od fp ti wc wu sc pv su sd t (xs (i + 1)) (by first | assumption | omega) (by first | assumption | omega) (by first | assumption | omega) (by first | assumption | omega) (by first | assumption | omega)) rfl rfl rfl (by decide +kernel) ⟨Nat.le_of_ble_eq_true rfl, Nat.le_of_ble_eq_true rfl⟩ rfl rfl (Nat.le_of_ble_eq_true rfl) FT_b (fun _ _ _ _ _ _ _ _ _ => trivial) ⟨Nat.le_of_ble_eq_true rfl, Nat.le_of_ble_eq_true rfl⟩ (q := 811) rfl (fun r_808 u_808 h_808 => ?_)
  obtain ⟨hA2, nA2, ev2, od2, fp2, ti2, wc2, wu2, sc2, pv2, su2x⟩ := u_808
  obtain ⟨e_c, hp2, hW2, hS2⟩ := h_808
  show G 31 165904 (wC cI cJ cZ a hA2 nA2 gr li st sp (nI n) (nI m) nu ev2 od2 fp2 ti2 wc2 wu2 sc2 pv2 su2x sd (nI t) ++ wM cI cJ cZ b (nI n) gr li st nu (nI t) sd lea pa pt pp su2 sh tt) [(0, .ref scr), (1, .ref (a 0)), (2, .ref (b 0)), (3, .int (nI i))] 811 [.int r_808]
  refine g_aload_n C 2 dL_law_811 rfl rfl rfl (q := 812) ?_
  refine g_aload_n C 0 dL_law_812 rfl rfl rfl (q := 813) ?_
  refine g_iload_n C 3 dL_law_813 rfl rfl rfl (q := 814) ?_
  refine g_iconst C (nI 1) dL_law_814 (by decide) (q := 815) rfl ?_
  refine g_iadd C dL_law_815 (q := 816) rfl ?_
  refine g_eqi C (y := nI (i + 1)) (nI_add i 1) ?_
  refine g_sld C (fun s h => h.2.2) (vp_in_nI (by omega) (by omega)) dL_law_816 (q := 817) rfl ?_
  refine g_eqi C (y := xs (i + 1)) (by rw [nI_clamp (by omega)]) ?_
  refine gcV_qiS C (n := 1) (As := [.int (xs (i + 1))]) (st := [.int r_808]) 0 (wc := wM cI cJ cZ b (nI n) gr li st nu (nI t) sd lea pa pt pp su2 sh tt) (wr := wC cI cJ cZ a hA2 nA2 gr li st sp (nI n) (nI m) nu ev2 od2 fp2 ti2 wc2 wu2 sc2 pv2 su2x sd (nI t)) rfl wM_in wM_of dL_law_817 rfl rfl gL_law_X7_needs (c_X7_needs l D cI cJ cZ b n gr li st nu t sd lea pa pt pp su2 sh tt (xs (i + 1)) sp m (by first | assumption | omega) (by first | assumption | omega) (by first | assumption | omega)) rfl rfl rfl (by decide +kernel) ⟨Nat.le_of_ble_eq_true rfl, Nat.le_of_ble_eq_true rfl⟩ rfl rfl (Nat.le_of_ble_eq_true rfl) FT_b (fun _ _ _ _ _ _ _ _ _ => trivial) ⟨Nat.le_of_ble_eq_true rfl, Nat.le_of_ble_eq_true rfl⟩ (q := 820) rfl (fun r_817 u_817 h_817 => ?_)
  obtain ⟨lea3, pa3, pt3, pp3, su3, sh3, tt3⟩ := u_817
  obtain ⟨e_m, hM2⟩ := h_817
  show G 31 165904 (wC cI cJ cZ a hA2 nA2 gr li st sp (nI n) (nI m) nu ev2 od2 fp2 ti2 wc2 wu2 sc2 pv2 su2x sd (nI t) ++ wM cI cJ cZ b (nI n) gr li st nu (nI t) sd lea3 pa3 pt3 pp3 su3 sh3 tt3) [(0, .ref scr), (1, .ref (a 0)), (2, .ref (b 0)), (3, .int (nI i))] 820 [.int r_817, .int r_808]
  refine g_icmp_eq C (t := 907) dL_law_820 (by decide) (q := 823) rfl (fun c_820 => ?_) (fun c_820 => absurd (e_c.trans e_m.symm) c_820)
  exact k hA2 nA2 gr li st sp n m nu ev2 od2 fp2 ti2 wc2 wu2 sc2 pv2 su2x sd t lea3 pa3 pt3 pp3 su3 sh3 tt3 ⟨hL, hT, hp2, hW2, hS2, ht, hs, hM2⟩
set_option maxHeartbeats 4000000 in
set_option maxRecDepth 100000 in
theorem L_log {l : Launch} {D : va_G} {cI cJ cZ : ClassId} {A : Nat → Prop} {rT rL rM scr Ls : Nat} {xs : Nat → Int32} {G : Nat → Nat → va_W → LL → Nat → List Value → Prop} (C : GB l D (tyT cI cJ cZ) A (FLw cI rT rL rM scr Ls xs A) room_1 cL_law 4 RL wsL_law false false G) {a b : Nat → Nat} {hA nA : Nat} {gr li st sp : Nat → Int32} {n m : Nat} {nu : Nat → Int32} {ev od : Nat → Int64} {fp ti : Nat → Int32} {wc : Nat → Int64} {wu : Int32} {sc pv : Nat → Int64} {su : Int32} {sd : Nat → Int32} {t : Nat} {lea : Nat → Int32} {pa : Int32} {pt pp : Nat → Int32} {su2 : Int32} {sh tt : Nat → Int32} (I : LWI a hA nA gr li st sp n m nu fp ti wc wu sc pv su sd t su2 sh tt) {i : Nat} (hi : i + 4 ≤ Ls) (hLs : Ls ≤ 2048) (k : ∀ (hA nA : Nat) (gr li st sp : Nat → Int32) (n m : Nat) (nu : Nat → Int32) (ev od : Nat → Int64) (fp ti : Nat → Int32) (wc : Nat → Int64) (wu : Int32) (sc pv : Nat → Int64) (su : Int32) (sd : Nat → Int32) (t : Nat) (lea : Nat → Int32) (pa : Int32) (pt pp : Nat → Int32) (su2 : Int32) (sh tt : Nat → Int32), LWI a hA nA gr li st sp n m nu fp ti wc wu sc pv su sd t su2 sh tt → G 31 165904 (wC cI cJ cZ a hA nA gr li st sp (nI n) (nI m) nu ev od fp ti wc wu sc pv su sd (nI t) ++ wM cI cJ cZ b (nI n) gr li st nu (nI t) sd lea pa pt pp su2 sh tt) [(0, .ref scr), (1, .ref (a 0)), (2, .ref (b 0)), (3, .int (nI i))] 907 []) : G 31 165904 (wC cI cJ cZ a hA nA gr li st sp (nI n) (nI m) nu ev od fp ti wc wu sc pv su sd (nI t) ++ wM cI cJ cZ b (nI n) gr li st nu (nI t) sd lea pa pt pp su2 sh tt) [(0, .ref scr), (1, .ref (a 0)), (2, .ref (b 0)), (3, .int (nI i))] 825 [] := by
  obtain ⟨hL, hT, hp, hW, hS, ht, hs, hM⟩ := I
  have hn := hL.2.1
  have hn1 := hL.1
  have hst := hL.2.2.1
  have hsu := hM
  refine g_aload_n C 1 dL_law_825 rfl rfl rfl (q := 826) ?_
  refine g_aload_n C 0 dL_law_826 rfl rfl rfl (q := 827) ?_
  refine g_iload_n C 3 dL_law_827 rfl rfl rfl (q := 828) ?_
  refine g_iconst C (nI 1) dL_law_828 (by decide) (q := 829) rfl ?_
  refine g_iadd C dL_law_829 (q := 830) rfl ?_
  refine g_eqi C (y := nI (i + 1)) (nI_add i 1) ?_
  refine g_sld C (fun s h => h.2.2) (vp_in_nI (by omega) (by omega)) dL_law_830 (q := 831) rfl ?_
  refine g_eqi C (y := xs (i + 1)) (by rw [nI_clamp (by omega)]) ?_
  refine gcV_qiP C (n := 1) (As := [.int (xs (i + 1))]) (st := []) 0 (wc := wC cI cJ cZ a hA nA gr li st sp (nI n) (nI m) nu ev od fp ti wc wu sc pv su sd (nI t)) (wr := wM cI cJ cZ b (nI n) gr li st nu (nI t) sd lea pa pt pp su2 sh tt) rfl (wC_in hp) (wC_of hp) dL_law_831 rfl rfl gL_law_X6_log (c_X6_log l D cI cJ cZ a hA nA gr li st sp n m nu ev od fp ti wc wu sc pv su sd t (xs (i + 1)) (by first | assumption | omega) (by first | assumption | omega)) rfl rfl rfl (by decide +kernel) ⟨Nat.le_of_ble_eq_true rfl, Nat.le_of_ble_eq_true rfl⟩ rfl rfl (Nat.le_of_ble_eq_true rfl) FT_b (fun _ _ _ _ _ _ _ _ _ => trivial) ⟨Nat.le_of_ble_eq_true rfl, Nat.le_of_ble_eq_true rfl⟩ (q := 834) rfl (fun r_831 u_831 h_831 => ?_)
  obtain ⟨sd2, t2⟩ := u_831
  show G 31 165904 (wC cI cJ cZ a hA nA gr li st sp (nI n) (nI m) nu ev od fp ti wc wu sc pv su sd2 (nI t2) ++ wM cI cJ cZ b (nI n) gr li st nu (nI t) sd lea pa pt pp su2 sh tt) [(0, .ref scr), (1, .ref (a 0)), (2, .ref (b 0)), (3, .int (nI i))] 834 [.int r_831]
  refine g_aload_n C 2 dL_law_834 rfl rfl rfl (q := 835) ?_
  refine g_aload_n C 0 dL_law_835 rfl rfl rfl (q := 836) ?_
  refine g_iload_n C 3 dL_law_836 rfl rfl rfl (q := 837) ?_
  refine g_iconst C (nI 1) dL_law_837 (by decide) (q := 838) rfl ?_
  refine g_iadd C dL_law_838 (q := 839) rfl ?_
  refine g_eqi C (y := nI (i + 1)) (nI_add i 1) ?_
  refine g_sld C (fun s h => h.2.2) (vp_in_nI (by omega) (by omega)) dL_law_839 (q := 840) rfl ?_
  refine g_eqi C (y := xs (i + 1)) (by rw [nI_clamp (by omega)]) ?_
  refine gcV_qiS C (n := 1) (As := [.int (xs (i + 1))]) (st := [.int r_831]) 0 (wc := wM cI cJ cZ b (nI n) gr li st nu (nI t) sd lea pa pt pp su2 sh tt) (wr := wC cI cJ cZ a hA nA gr li st sp (nI n) (nI m) nu ev od fp ti wc wu sc pv su sd2 (nI t2)) rfl wM_in wM_of dL_law_840 rfl rfl gL_law_X7_log (c_X7_log l D cI cJ cZ b n gr li st nu t sd lea pa pt pp su2 sh tt (xs (i + 1)) (by first | assumption | omega) (by first | assumption | omega)) rfl rfl rfl (by decide +kernel) ⟨Nat.le_of_ble_eq_true rfl, Nat.le_of_ble_eq_true rfl⟩ rfl rfl (Nat.le_of_ble_eq_true rfl) FT_b (fun _ _ _ _ _ _ _ _ _ => trivial) ⟨Nat.le_of_ble_eq_true rfl, Nat.le_of_ble_eq_true rfl⟩ (q := 843) rfl (fun r_840 u_840 h_840 => ?_)
  obtain ⟨sd3, t3⟩ := u_840
  have ee : (r_831, sd2, t2) = (r_840, sd3, t3) := Eq.trans h_831 (Eq.symm h_840)
  simp only [Prod.mk.injEq] at ee
  obtain ⟨er, q_sd, q_t⟩ := ee
  subst q_sd
  subst q_t
  show G 31 165904 (wC cI cJ cZ a hA nA gr li st sp (nI n) (nI m) nu ev od fp ti wc wu sc pv su sd2 (nI t2) ++ wM cI cJ cZ b (nI n) gr li st nu (nI t2) sd2 lea pa pt pp su2 sh tt) [(0, .ref scr), (1, .ref (a 0)), (2, .ref (b 0)), (3, .int (nI i))] 843 [.int r_840, .int r_831]
  refine g_icmp_eq C (t := 907) dL_law_843 (by decide) (q := 846) rfl (fun c_843 => ?_) (fun c_843 => absurd er c_843)
  have hl2 := log_inv h_831 ht hs
  exact k hA nA gr li st sp n m nu ev od fp ti wc wu sc pv su sd2 t2 lea pa pt pp su2 sh tt ⟨hL, hT, hp, hW, hS, hl2.1, hl2.2, hM⟩
set_option maxHeartbeats 4000000 in
set_option maxRecDepth 100000 in
theorem L_clear {l : Launch} {D : va_G} {cI cJ cZ : ClassId} {A : Nat → Prop} {rT rL rM scr Ls : Nat} {xs : Nat → Int32} {G : Nat → Nat → va_W → LL → Nat → List Value → Prop} (C : GB l D (tyT cI cJ cZ) A (FLw cI rT rL rM scr Ls xs A) room_1 cL_law 4 RL wsL_law false false G) {a b : Nat → Nat} {hA nA : Nat} {gr li st sp : Nat → Int32} {n m : Nat} {nu : Nat → Int32} {ev od : Nat → Int64} {fp ti : Nat → Int32} {wc : Nat → Int64} {wu : Int32} {sc pv : Nat → Int64} {su : Int32} {sd : Nat → Int32} {t : Nat} {lea : Nat → Int32} {pa : Int32} {pt pp : Nat → Int32} {su2 : Int32} {sh tt : Nat → Int32} (I : LWI a hA nA gr li st sp n m nu fp ti wc wu sc pv su sd t su2 sh tt) {i : Nat} (hi : i + 4 ≤ Ls) (hLs : Ls ≤ 2048) (k : ∀ (hA nA : Nat) (gr li st sp : Nat → Int32) (n m : Nat) (nu : Nat → Int32) (ev od : Nat → Int64) (fp ti : Nat → Int32) (wc : Nat → Int64) (wu : Int32) (sc pv : Nat → Int64) (su : Int32) (sd : Nat → Int32) (t : Nat) (lea : Nat → Int32) (pa : Int32) (pt pp : Nat → Int32) (su2 : Int32) (sh tt : Nat → Int32), LWI a hA nA gr li st sp n m nu fp ti wc wu sc pv su sd t su2 sh tt → G 31 165904 (wC cI cJ cZ a hA nA gr li st sp (nI n) (nI m) nu ev od fp ti wc wu sc pv su sd (nI t) ++ wM cI cJ cZ b (nI n) gr li st nu (nI t) sd lea pa pt pp su2 sh tt) [(0, .ref scr), (1, .ref (a 0)), (2, .ref (b 0)), (3, .int (nI i))] 907 []) : G 31 165904 (wC cI cJ cZ a hA nA gr li st sp (nI n) (nI m) nu ev od fp ti wc wu sc pv su sd (nI t) ++ wM cI cJ cZ b (nI n) gr li st nu (nI t) sd lea pa pt pp su2 sh tt) [(0, .ref scr), (1, .ref (a 0)), (2, .ref (b 0)), (3, .int (nI i))] 848 [] := by
  obtain ⟨hL, hT, hp, hW, hS, ht, hs, hM⟩ := I
  have hn := hL.2.1
  have hn1 := hL.1
  have hst := hL.2.2.1
  have hsu := hM
  refine g_aload_n C 1 dL_law_848 rfl rfl rfl (q := 849) ?_
  refine gcV_qiP C (n := 0) (As := []) (st := []) 0 (wc := wC cI cJ cZ a hA nA gr li st sp (nI n) (nI m) nu ev od fp ti wc wu sc pv su sd (nI t)) (wr := wM cI cJ cZ b (nI n) gr li st nu (nI t) sd lea pa pt pp su2 sh tt) rfl (wC_in hp) (wC_of hp) dL_law_849 rfl rfl gL_law_X6_clear (c_X6_clear l D cI cJ cZ a hA nA gr li st sp n m nu ev od fp ti wc wu sc pv su sd t) rfl rfl rfl (by decide +kernel) ⟨Nat.le_of_ble_eq_true rfl, Nat.le_of_ble_eq_true rfl⟩ rfl rfl (Nat.le_of_ble_eq_true rfl) FT_b (fun _ _ _ _ _ _ _ _ _ => trivial) ⟨Nat.le_of_ble_eq_true rfl, Nat.le_of_ble_eq_true rfl⟩ (q := 852) rfl (fun r_849 u_849 h_849 => ?_)
  have e_c := h_849
  show G 31 165904 (wC cI cJ cZ a hA nA gr li st sp (nI n) (nI m) nu ev od fp ti wc wu sc pv su sd (nI 0) ++ wM cI cJ cZ b (nI n) gr li st nu (nI t) sd lea pa pt pp su2 sh tt) [(0, .ref scr), (1, .ref (a 0)), (2, .ref (b 0)), (3, .int (nI i))] 852 [.int r_849]
  refine g_aload_n C 2 dL_law_852 rfl rfl rfl (q := 853) ?_
  refine gcV_qiS C (n := 0) (As := []) (st := [.int r_849]) 0 (wc := wM cI cJ cZ b (nI n) gr li st nu (nI t) sd lea pa pt pp su2 sh tt) (wr := wC cI cJ cZ a hA nA gr li st sp (nI n) (nI m) nu ev od fp ti wc wu sc pv su sd (nI 0)) rfl wM_in wM_of dL_law_853 rfl rfl gL_law_X7_clear (c_X7_clear l D cI cJ cZ b n gr li st nu t sd lea pa pt pp su2 sh tt) rfl rfl rfl (by decide +kernel) ⟨Nat.le_of_ble_eq_true rfl, Nat.le_of_ble_eq_true rfl⟩ rfl rfl (Nat.le_of_ble_eq_true rfl) FT_b (fun _ _ _ _ _ _ _ _ _ => trivial) ⟨Nat.le_of_ble_eq_true rfl, Nat.le_of_ble_eq_true rfl⟩ (q := 856) rfl (fun r_853 u_853 h_853 => ?_)
  have e_m := h_853
  show G 31 165904 (wC cI cJ cZ a hA nA gr li st sp (nI n) (nI m) nu ev od fp ti wc wu sc pv su sd (nI 0) ++ wM cI cJ cZ b (nI n) gr li st nu (nI 0) sd lea pa pt pp su2 sh tt) [(0, .ref scr), (1, .ref (a 0)), (2, .ref (b 0)), (3, .int (nI i))] 856 [.int r_853, .int r_849]
  refine g_icmp_eq C (t := 907) dL_law_856 (by decide) (q := 859) rfl (fun c_856 => ?_) (fun c_856 => absurd (e_c.trans e_m.symm) c_856)
  exact k hA nA gr li st sp n m nu ev od fp ti wc wu sc pv su sd 0 lea pa pt pp su2 sh tt ⟨hL, hT, hp, hW, hS, Nat.zero_le _, hs, hM⟩
set_option maxHeartbeats 4000000 in
set_option maxRecDepth 100000 in
theorem L_judged {l : Launch} {D : va_G} {cI cJ cZ : ClassId} {A : Nat → Prop} {rT rL rM scr Ls : Nat} {xs : Nat → Int32} {G : Nat → Nat → va_W → LL → Nat → List Value → Prop} (C : GB l D (tyT cI cJ cZ) A (FLw cI rT rL rM scr Ls xs A) room_1 cL_law 4 RL wsL_law false false G) {a b : Nat → Nat} {hA nA : Nat} {gr li st sp : Nat → Int32} {n m : Nat} {nu : Nat → Int32} {ev od : Nat → Int64} {fp ti : Nat → Int32} {wc : Nat → Int64} {wu : Int32} {sc pv : Nat → Int64} {su : Int32} {sd : Nat → Int32} {t : Nat} {lea : Nat → Int32} {pa : Int32} {pt pp : Nat → Int32} {su2 : Int32} {sh tt : Nat → Int32} (I : LWI a hA nA gr li st sp n m nu fp ti wc wu sc pv su sd t su2 sh tt) {i : Nat} (hi : i + 4 ≤ Ls) (hLs : Ls ≤ 2048) (k : ∀ (hA nA : Nat) (gr li st sp : Nat → Int32) (n m : Nat) (nu : Nat → Int32) (ev od : Nat → Int64) (fp ti : Nat → Int32) (wc : Nat → Int64) (wu : Int32) (sc pv : Nat → Int64) (su : Int32) (sd : Nat → Int32) (t : Nat) (lea : Nat → Int32) (pa : Int32) (pt pp : Nat → Int32) (su2 : Int32) (sh tt : Nat → Int32), LWI a hA nA gr li st sp n m nu fp ti wc wu sc pv su sd t su2 sh tt → G 31 165904 (wC cI cJ cZ a hA nA gr li st sp (nI n) (nI m) nu ev od fp ti wc wu sc pv su sd (nI t) ++ wM cI cJ cZ b (nI n) gr li st nu (nI t) sd lea pa pt pp su2 sh tt) [(0, .ref scr), (1, .ref (a 0)), (2, .ref (b 0)), (3, .int (nI i))] 907 []) : G 31 165904 (wC cI cJ cZ a hA nA gr li st sp (nI n) (nI m) nu ev od fp ti wc wu sc pv su sd (nI t) ++ wM cI cJ cZ b (nI n) gr li st nu (nI t) sd lea pa pt pp su2 sh tt) [(0, .ref scr), (1, .ref (a 0)), (2, .ref (b 0)), (3, .int (nI i))] 861 [] := by
  obtain ⟨hL, hT, hp, hW, hS, ht, hs, hM⟩ := I
  have hn := hL.2.1
  have hn1 := hL.1
  have hst := hL.2.2.1
  have hsu := hM
  obtain ⟨s, hs⟩ := hs
  refine g_aload_n C 1 dL_law_861 rfl rfl rfl (q := 862) ?_
  refine g_aload_n C 0 dL_law_862 rfl rfl rfl (q := 863) ?_
  refine g_iload_n C 3 dL_law_863 rfl rfl rfl (q := 864) ?_
  refine g_iconst C (nI 1) dL_law_864 (by decide) (q := 865) rfl ?_
  refine g_iadd C dL_law_865 (q := 866) rfl ?_
  refine g_eqi C (y := nI (i + 1)) (nI_add i 1) ?_
  refine g_sld C (fun s h => h.2.2) (vp_in_nI (by omega) (by omega)) dL_law_866 (q := 867) rfl ?_
  refine g_eqi C (y := xs (i + 1)) (by rw [nI_clamp (by omega)]) ?_
  refine gcV_siP C (n := 1) (As := [.int (xs (i + 1))]) (st := []) 0 (wc := wC cI cJ cZ a hA nA gr li st sp (nI n) (nI m) nu ev od fp ti wc wu sc pv su sd (nI t)) (wr := wM cI cJ cZ b (nI n) gr li st nu (nI t) sd lea pa pt pp su2 sh tt) rfl (wC_in hp) (wC_of hp) dL_law_867 rfl rfl gL_law_X6_judged (c_X6_judged l D cI cJ cZ a hA nA gr li st sp n m nu ev od fp ti wc wu sc pv su sd t (xs (i + 1)) s (by first | assumption | omega) (by first | assumption | omega) (by first | assumption | omega)) rfl rfl rfl (by decide +kernel) ⟨Nat.le_of_ble_eq_true rfl, Nat.le_of_ble_eq_true rfl⟩ rfl rfl (Nat.le_of_ble_eq_true rfl) FT_b (fun _ _ _ _ _ _ _ _ _ => trivial) ⟨Nat.le_of_ble_eq_true rfl, Nat.le_of_ble_eq_true rfl⟩ (q := 870) rfl (fun r_867 h_867 => ?_)
  show G 31 165904 (wC cI cJ cZ a hA nA gr li st sp (nI n) (nI m) nu ev od fp ti wc wu sc pv su sd (nI t) ++ wM cI cJ cZ b (nI n) gr li st nu (nI t) sd lea pa pt pp su2 sh tt) [(0, .ref scr), (1, .ref (a 0)), (2, .ref (b 0)), (3, .int (nI i))] 870 [.int r_867]
  refine g_aload_n C 2 dL_law_870 rfl rfl rfl (q := 871) ?_
  refine g_aload_n C 0 dL_law_871 rfl rfl rfl (q := 872) ?_
  refine g_iload_n C 3 dL_law_872 rfl rfl rfl (q := 873) ?_
  refine g_iconst C (nI 1) dL_law_873 (by decide) (q := 874) rfl ?_
  refine g_iadd C dL_law_874 (q := 875) rfl ?_
  refine g_eqi C (y := nI (i + 1)) (nI_add i 1) ?_
  refine g_sld C (fun s h => h.2.2) (vp_in_nI (by omega) (by omega)) dL_law_875 (q := 876) rfl ?_
  refine g_eqi C (y := xs (i + 1)) (by rw [nI_clamp (by omega)]) ?_
  refine gcV_siS C (n := 1) (As := [.int (xs (i + 1))]) (st := [.int r_867]) 0 (wc := wM cI cJ cZ b (nI n) gr li st nu (nI t) sd lea pa pt pp su2 sh tt) (wr := wC cI cJ cZ a hA nA gr li st sp (nI n) (nI m) nu ev od fp ti wc wu sc pv su sd (nI t)) rfl wM_in wM_of dL_law_876 rfl rfl gL_law_X7_judged (c_X7_judged l D cI cJ cZ b n gr li st nu t sd lea pa pt pp su2 sh tt (xs (i + 1)) s (by first | assumption | omega) (by first | assumption | omega) (by first | assumption | omega)) rfl rfl rfl (by decide +kernel) ⟨Nat.le_of_ble_eq_true rfl, Nat.le_of_ble_eq_true rfl⟩ rfl rfl (Nat.le_of_ble_eq_true rfl) FT_b (fun _ _ _ _ _ _ _ _ _ => trivial) ⟨Nat.le_of_ble_eq_true rfl, Nat.le_of_ble_eq_true rfl⟩ (q := 879) rfl (fun r_876 h_876 => ?_)
  show G 31 165904 (wC cI cJ cZ a hA nA gr li st sp (nI n) (nI m) nu ev od fp ti wc wu sc pv su sd (nI t) ++ wM cI cJ cZ b (nI n) gr li st nu (nI t) sd lea pa pt pp su2 sh tt) [(0, .ref scr), (1, .ref (a 0)), (2, .ref (b 0)), (3, .int (nI i))] 879 [.int r_876, .int r_867]
  refine g_icmp_eq C (t := 907) dL_law_879 (by decide) (q := 882) rfl (fun c_879 => ?_) (fun c_879 => absurd (h_867.trans h_876.symm) c_879)
  exact k hA nA gr li st sp n m nu ev od fp ti wc wu sc pv su sd t lea pa pt pp su2 sh tt ⟨hL, hT, hp, hW, hS, ht, ⟨s, hs⟩, hM⟩
set_option maxHeartbeats 4000000 in
set_option maxRecDepth 100000 in
theorem L_count {l : Launch} {D : va_G} {cI cJ cZ : ClassId} {A : Nat → Prop} {rT rL rM scr Ls : Nat} {xs : Nat → Int32} {G : Nat → Nat → va_W → LL → Nat → List Value → Prop} (C : GB l D (tyT cI cJ cZ) A (FLw cI rT rL rM scr Ls xs A) room_1 cL_law 4 RL wsL_law false false G) {a b : Nat → Nat} {hA nA : Nat} {gr li st sp : Nat → Int32} {n m : Nat} {nu : Nat → Int32} {ev od : Nat → Int64} {fp ti : Nat → Int32} {wc : Nat → Int64} {wu : Int32} {sc pv : Nat → Int64} {su : Int32} {sd : Nat → Int32} {t : Nat} {lea : Nat → Int32} {pa : Int32} {pt pp : Nat → Int32} {su2 : Int32} {sh tt : Nat → Int32} (I : LWI a hA nA gr li st sp n m nu fp ti wc wu sc pv su sd t su2 sh tt) {i : Nat} (hi : i + 4 ≤ Ls) (hLs : Ls ≤ 2048) (k : ∀ (hA nA : Nat) (gr li st sp : Nat → Int32) (n m : Nat) (nu : Nat → Int32) (ev od : Nat → Int64) (fp ti : Nat → Int32) (wc : Nat → Int64) (wu : Int32) (sc pv : Nat → Int64) (su : Int32) (sd : Nat → Int32) (t : Nat) (lea : Nat → Int32) (pa : Int32) (pt pp : Nat → Int32) (su2 : Int32) (sh tt : Nat → Int32), LWI a hA nA gr li st sp n m nu fp ti wc wu sc pv su sd t su2 sh tt → G 31 165904 (wC cI cJ cZ a hA nA gr li st sp (nI n) (nI m) nu ev od fp ti wc wu sc pv su sd (nI t) ++ wM cI cJ cZ b (nI n) gr li st nu (nI t) sd lea pa pt pp su2 sh tt) [(0, .ref scr), (1, .ref (a 0)), (2, .ref (b 0)), (3, .int (nI i))] 907 []) : G 31 165904 (wC cI cJ cZ a hA nA gr li st sp (nI n) (nI m) nu ev od fp ti wc wu sc pv su sd (nI t) ++ wM cI cJ cZ b (nI n) gr li st nu (nI t) sd lea pa pt pp su2 sh tt) [(0, .ref scr), (1, .ref (a 0)), (2, .ref (b 0)), (3, .int (nI i))] 884 [] := by
  obtain ⟨hL, hT, hp, hW, hS, ht, hs, hM⟩ := I
  have hn := hL.2.1
  have hn1 := hL.1
  have hst := hL.2.2.1
  have hsu := hM
  refine g_aload_n C 1 dL_law_884 rfl rfl rfl (q := 885) ?_
  refine g_aload_n C 0 dL_law_885 rfl rfl rfl (q := 886) ?_
  refine g_iload_n C 3 dL_law_886 rfl rfl rfl (q := 887) ?_
  refine g_iconst C (nI 1) dL_law_887 (by decide) (q := 888) rfl ?_
  refine g_iadd C dL_law_888 (q := 889) rfl ?_
  refine g_eqi C (y := nI (i + 1)) (nI_add i 1) ?_
  refine g_sld C (fun s h => h.2.2) (vp_in_nI (by omega) (by omega)) dL_law_889 (q := 890) rfl ?_
  refine g_eqi C (y := xs (i + 1)) (by rw [nI_clamp (by omega)]) ?_
  refine gcV_siP C (n := 1) (As := [.int (xs (i + 1))]) (st := []) 0 (wc := wC cI cJ cZ a hA nA gr li st sp (nI n) (nI m) nu ev od fp ti wc wu sc pv su sd (nI t)) (wr := wM cI cJ cZ b (nI n) gr li st nu (nI t) sd lea pa pt pp su2 sh tt) rfl (wC_in hp) (wC_of hp) dL_law_890 rfl rfl gL_law_X6_count (c_X6_count l D cI cJ cZ a hA nA gr li st sp n m nu ev od fp ti wc wu sc pv su sd t (xs (i + 1))) rfl rfl rfl (by decide +kernel) ⟨Nat.le_of_ble_eq_true rfl, Nat.le_of_ble_eq_true rfl⟩ rfl rfl (Nat.le_of_ble_eq_true rfl) FT_b (fun _ _ _ _ _ _ _ _ _ => trivial) ⟨Nat.le_of_ble_eq_true rfl, Nat.le_of_ble_eq_true rfl⟩ (q := 893) rfl (fun r_890 h_890 => ?_)
  show G 31 165904 (wC cI cJ cZ a hA nA gr li st sp (nI n) (nI m) nu ev od fp ti wc wu sc pv su sd (nI t) ++ wM cI cJ cZ b (nI n) gr li st nu (nI t) sd lea pa pt pp su2 sh tt) [(0, .ref scr), (1, .ref (a 0)), (2, .ref (b 0)), (3, .int (nI i))] 893 [.int r_890]
  refine g_aload_n C 2 dL_law_893 rfl rfl rfl (q := 894) ?_
  refine g_aload_n C 0 dL_law_894 rfl rfl rfl (q := 895) ?_
  refine g_iload_n C 3 dL_law_895 rfl rfl rfl (q := 896) ?_
  refine g_iconst C (nI 1) dL_law_896 (by decide) (q := 897) rfl ?_
  refine g_iadd C dL_law_897 (q := 898) rfl ?_
  refine g_eqi C (y := nI (i + 1)) (nI_add i 1) ?_
  refine g_sld C (fun s h => h.2.2) (vp_in_nI (by omega) (by omega)) dL_law_898 (q := 899) rfl ?_
  refine g_eqi C (y := xs (i + 1)) (by rw [nI_clamp (by omega)]) ?_
  refine gcV_siS C (n := 1) (As := [.int (xs (i + 1))]) (st := [.int r_890]) 0 (wc := wM cI cJ cZ b (nI n) gr li st nu (nI t) sd lea pa pt pp su2 sh tt) (wr := wC cI cJ cZ a hA nA gr li st sp (nI n) (nI m) nu ev od fp ti wc wu sc pv su sd (nI t)) rfl wM_in wM_of dL_law_899 rfl rfl gL_law_X7_count (c_X7_count l D cI cJ cZ b n gr li st nu t sd lea pa pt pp su2 sh tt (xs (i + 1)) sp m (by first | assumption | omega)) rfl rfl rfl (by decide +kernel) ⟨Nat.le_of_ble_eq_true rfl, Nat.le_of_ble_eq_true rfl⟩ rfl rfl (Nat.le_of_ble_eq_true rfl) FT_b (fun _ _ _ _ _ _ _ _ _ => trivial) ⟨Nat.le_of_ble_eq_true rfl, Nat.le_of_ble_eq_true rfl⟩ (q := 902) rfl (fun r_899 h_899 => ?_)
  show G 31 165904 (wC cI cJ cZ a hA nA gr li st sp (nI n) (nI m) nu ev od fp ti wc wu sc pv su sd (nI t) ++ wM cI cJ cZ b (nI n) gr li st nu (nI t) sd lea pa pt pp su2 sh tt) [(0, .ref scr), (1, .ref (a 0)), (2, .ref (b 0)), (3, .int (nI i))] 902 [.int r_899, .int r_890]
  refine g_icmp_eq C (t := 907) dL_law_902 (by decide) (q := 905) rfl (fun c_902 => ?_) (fun c_902 => absurd (h_890.trans h_899.symm) c_902)
  exact k hA nA gr li st sp n m nu ev od fp ti wc wu sc pv su sd t lea pa pt pp su2 sh tt ⟨hL, hT, hp, hW, hS, ht, hs, hM⟩
