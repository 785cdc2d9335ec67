set_option maxHeartbeats 4000000 in
set_option maxRecDepth 100000 in
theorem L_bestTime {l : Launch} {D : va_G} {cI cJ cZ : ClassId} {A : Nat → Prop} {rT rL rM scr Ls : Nat} {xs : Nat → Int32} {G : Nat → Nat → va_W → LL → Nat → List Value → Prop} (C : GB l D (tyT cI cJ cZ) A (FLw cI rT rL rM scr Ls xs A) room_1 cL_law 4 RL wsL_law false false G) {a b : Nat → Nat} {hA nA : Nat} {gr li st sp : Nat → Int32} {n m : Nat} {nu : Nat → Int32} {ev od : Nat → Int64} {fp ti : Nat → Int32} {wc : Nat → Int64} {wu : Int32} {sc pv : Nat → Int64} {su : Int32} {sd : Nat → Int32} {t : Nat} {lea : Nat → Int32} {pa : Int32} {pt pp : Nat → Int32} {su2 : Int32} {sh tt : Nat → Int32} (I : LWI a hA nA gr li st sp n m nu fp ti wc wu sc pv su sd t su2 sh tt) {i : Nat} (hi : i + 4 ≤ Ls) (hLs : Ls ≤ 2048) (k : ∀ (hA nA : Nat) (gr li st sp : Nat → Int32) (n m : Nat) (nu : Nat → Int32) (ev od : Nat → Int64) (fp ti : Nat → Int32) (wc : Nat → Int64) (wu : Int32) (sc pv : Nat → Int64) (su : Int32) (sd : Nat → Int32) (t : Nat) (lea : Nat → Int32) (pa : Int32) (pt pp : Nat → Int32) (su2 : Int32) (sh tt : Nat → Int32), LWI a hA nA gr li st sp n m nu fp ti wc wu sc pv su sd t su2 sh tt → G 31 165904 (wC cI cJ cZ a hA nA gr li st sp (nI n) (nI m) nu ev od fp ti wc wu sc pv su sd (nI t) ++ wM cI cJ cZ b (nI n) gr li st nu (nI t) sd lea pa pt pp su2 sh tt) [(0, .ref scr), (1, .ref (a 0)), (2, .ref (b 0)), (3, .int (nI i))] 907 []) : G 31 165904 (wC cI cJ cZ a hA nA gr li st sp (nI n) (nI m) nu ev od fp ti wc wu sc pv su sd (nI t) ++ wM cI cJ cZ b (nI n) gr li st nu (nI t) sd lea pa pt pp su2 sh tt) [(0, .ref scr), (1, .ref (a 0)), (2, .ref (b 0)), (3, .int (nI i))] 588 [] := by
  obtain ⟨hL, hT, hp, hW, hS, ht, hs, hM⟩ := I
  have hn := hL.2.1
  have hn1 := hL.1
  have hst := hL.2.2.1
  have hsu := hM
  refine g_aload_n C 1 dL_law_588 rfl rfl rfl (q := 589) ?_
  refine g_aload_n C 0 dL_law_589 rfl rfl rfl (q := 590) ?_
  refine g_iload_n C 3 dL_law_590 rfl rfl rfl (q := 591) ?_
  refine g_iconst C (nI 1) dL_law_591 (by decide) (q := 592) rfl ?_
  refine g_iadd C dL_law_592 (q := 593) rfl ?_
  refine g_eqi C (y := nI (i + 1)) (nI_add i 1) ?_
  refine g_sld C (fun s h => h.2.2) (vp_in_nI (by omega) (by omega)) dL_law_593 (q := 594) rfl ?_
  refine g_eqi C (y := xs (i + 1)) (by rw [nI_clamp (by omega)]) ?_
  refine g_aload_n C 0 dL_law_594 rfl rfl rfl (q := 595) ?_
  refine g_iload_n C 3 dL_law_595 rfl rfl rfl (q := 596) ?_
  refine g_iconst C (nI 2) dL_law_596 (by decide) (q := 597) rfl ?_
  refine g_iadd C dL_law_597 (q := 598) rfl ?_
  refine g_eqi C (y := nI (i + 2)) (nI_add i 2) ?_
  refine g_sld C (fun s h => h.2.2) (vp_in_nI (by omega) (by omega)) dL_law_598 (q := 599) rfl ?_
  refine g_eqi C (y := xs (i + 2)) (by rw [nI_clamp (by omega)]) ?_
  refine gcV_qiP C (n := 2) (As := [.int (xs (i + 1)), .int (xs (i + 2))]) (st := []) 0 (wc := wC cI cJ cZ a hA nA gr li st sp (nI n) (nI m) nu ev od fp ti wc wu sc pv su sd (nI t)) (wr := wM cI cJ cZ b (nI n) gr li st nu (nI t) sd lea pa pt pp su2 sh tt) rfl (wC_in hp) (wC_of hp) dL_law_599 rfl rfl gL_law_X6_bestTime (c_X6_bestTime l D cI cJ cZ a hA nA gr li st sp n m nu ev od fp ti wc wu sc pv su sd t (xs (i + 1)) (xs (i + 2)) (by first | assumption | omega) (by first | assumption | omega) (by first | assumption | omega) (by first | assumption | omega)) rfl rfl rfl (by decide +kernel) ⟨Nat.le_of_ble_eq_true rfl, Nat.le_of_ble_eq_true rfl⟩ rfl rfl (Nat.le_of_ble_eq_true rfl) FT_b (fun _ _ _ _ _ _ _ _ _ => trivial) ⟨Nat.le_of_ble_eq_true rfl, Nat.le_of_ble_eq_true rfl⟩ (q := 602) rfl (fun r_599 u_599 h_599 => ?_)
  obtain ⟨hA2, nA2, ev2, od2, fp2, ti2, wc2, wu2⟩ := u_599
  obtain ⟨e_c, hp2, hW2⟩ := h_599
  show G 31 165904 (wC cI cJ cZ a hA2 nA2 gr li st sp (nI n) (nI m) nu ev2 od2 fp2 ti2 wc2 wu2 sc pv su sd (nI t) ++ wM cI cJ cZ b (nI n) gr li st nu (nI t) sd lea pa pt pp su2 sh tt) [(0, .ref scr), (1, .ref (a 0)), (2, .ref (b 0)), (3, .int (nI i))] 602 [.int r_599]
  refine g_aload_n C 2 dL_law_602 rfl rfl rfl (q := 603) ?_
  refine g_aload_n C 0 dL_law_603 rfl rfl rfl (q := 604) ?_
  refine g_iload_n C 3 dL_law_604 rfl rfl rfl (q := 605) ?_
  refine g_iconst C (nI 1) dL_law_605 (by decide) (q := 606) rfl ?_
  refine g_iadd C dL_law_606 (q := 607) rfl ?_
  refine g_eqi C (y := nI (i + 1)) (nI_add i 1) ?_
  refine g_sld C (fun s h => h.2.2) (vp_in_nI (by omega) (by omega)) dL_law_607 (q := 608) rfl ?_
  refine g_eqi C (y := xs (i + 1)) (by rw [nI_clamp (by omega)]) ?_
  refine g_aload_n C 0 dL_law_608 rfl rfl rfl (q := 609) ?_
  refine g_iload_n C 3 dL_law_609 rfl rfl rfl (q := 610) ?_
  refine g_iconst C (nI 2) dL_law_610 (by decide) (q := 611) rfl ?_
  refine g_iadd C dL_law_611 (q := 612) rfl ?_
  refine g_eqi C (y := nI (i + 2)) (nI_add i 2) ?_
  refine g_sld C (fun s h => h.2.2) (vp_in_nI (by omega) (by omega)) dL_law_612 (q := 613) rfl ?_
  refine g_eqi C (y := xs (i + 2)) (by rw [nI_clamp (by omega)]) ?_
  refine gcV_qiS C (n := 2) (As := [.int (xs (i + 1)), .int (xs (i + 2))]) (st := [.int r_599]) 0 (wc := wM cI cJ cZ b (nI n) gr li st nu (nI t) sd lea pa pt pp su2 sh tt) (wr := wC cI cJ cZ a hA2 nA2 gr li st sp (nI n) (nI m) nu ev2 od2 fp2 ti2 wc2 wu2 sc pv su sd (nI t)) rfl wM_in wM_of dL_law_613 rfl rfl gL_law_X7_bestTime (c_X7_bestTime l D cI cJ cZ b n gr li st nu t sd lea pa pt pp su2 sh tt (xs (i + 1)) (xs (i + 2)) sp m (by first | assumption | omega) (by first | assumption | omega)) rfl rfl rfl (by decide +kernel) ⟨Nat.le_of_ble_eq_true rfl, Nat.le_of_ble_eq_true rfl⟩ rfl rfl (Nat.le_of_ble_eq_true rfl) FT_b (fun _ _ _ _ _ _ _ _ _ => trivial) ⟨Nat.le_of_ble_eq_true rfl, Nat.le_of_ble_eq_true rfl⟩ (q := 616) rfl (fun r_613 u_613 h_613 => ?_)
  obtain ⟨lea3, ez⟩ : ∃ z, z = u_613 := ⟨_, rfl⟩
  subst ez
  have e_m := h_613.1
  show G 31 165904 (wC cI cJ cZ a hA2 nA2 gr li st sp (nI n) (nI m) nu ev2 od2 fp2 ti2 wc2 wu2 sc pv su sd (nI t) ++ wM cI cJ cZ b (nI n) gr li st nu (nI t) sd lea3 pa pt pp su2 sh tt) [(0, .ref scr), (1, .ref (a 0)), (2, .ref (b 0)), (3, .int (nI i))] 616 [.int r_613, .int r_599]
  refine g_icmp_eq C (t := 907) dL_law_616 (by decide) (q := 619) rfl (fun c_616 => ?_) (fun c_616 => absurd (e_c.trans e_m.symm) c_616)
  exact k hA2 nA2 gr li st sp n m nu ev2 od2 fp2 ti2 wc2 wu2 sc pv su sd t lea3 pa pt pp su2 sh tt ⟨hL, hT, hp2, hW2, hS, ht, hs, hM⟩
set_option maxHeartbeats 4000000 in
set_option maxRecDepth 100000 in
theorem L_bestSpeed {l : Launch} {D : va_G} {cI cJ cZ : ClassId} {A : Nat → Prop} {rT rL rM scr Ls : Nat} {xs : Nat → Int32} {G : Nat → Nat → va_W → LL → Nat → List Value → Prop} (C : GB l D (tyT cI cJ cZ) A (FLw cI rT rL rM scr Ls xs A) room_1 cL_law 4 RL wsL_law false false G) {a b : Nat → Nat} {hA nA : Nat} {gr li st sp : Nat → Int32} {n m : Nat} {nu : Nat → Int32} {ev od : Nat → Int64} {fp ti : Nat → Int32} {wc : Nat → Int64} {wu : Int32} {sc pv : Nat → Int64} {su : Int32} {sd : Nat → Int32} {t : Nat} {lea : Nat → Int32} {pa : Int32} {pt pp : Nat → Int32} {su2 : Int32} {sh tt : Nat → Int32} (I : LWI a hA nA gr li st sp n m nu fp ti wc wu sc pv su sd t su2 sh tt) {i : Nat} (hi : i + 4 ≤ Ls) (hLs : Ls ≤ 2048) (k : ∀ (hA nA : Nat) (gr li st sp : Nat → Int32) (n m : Nat) (nu : Nat → Int32) (ev od : Nat → Int64) (fp ti : Nat → Int32) (wc : Nat → Int64) (wu : Int32) (sc pv : Nat → Int64) (su : Int32) (sd : Nat → Int32) (t : Nat) (lea : Nat → Int32) (pa : Int32) (pt pp : Nat → Int32) (su2 : Int32) (sh tt : Nat → Int32), LWI a hA nA gr li st sp n m nu fp ti wc wu sc pv su sd t su2 sh tt → G 31 165904 (wC cI cJ cZ a hA nA gr li st sp (nI n) (nI m) nu ev od fp ti wc wu sc pv su sd (nI t) ++ wM cI cJ cZ b (nI n) gr li st nu (nI t) sd lea pa pt pp su2 sh tt) [(0, .ref scr), (1, .ref (a 0)), (2, .ref (b 0)), (3, .int (nI i))] 907 []) : G 31 165904 (wC cI cJ cZ a hA nA gr li st sp (nI n) (nI m) nu ev od fp ti wc wu sc pv su sd (nI t) ++ wM cI cJ cZ b (nI n) gr li st nu (nI t) sd lea pa pt pp su2 sh tt) [(0, .ref scr), (1, .ref (a 0)), (2, .ref (b 0)), (3, .int (nI i))] 621 [] := by
  obtain ⟨hL, hT, hp, hW, hS, ht, hs, hM⟩ := I
  have hn := hL.2.1
  have hn1 := hL.1
  have hst := hL.2.2.1
  have hsu := hM
  refine g_aload_n C 1 dL_law_621 rfl rfl rfl (q := 622) ?_
  refine g_aload_n C 0 dL_law_622 rfl rfl rfl (q := 623) ?_
  refine g_iload_n C 3 dL_law_623 rfl rfl rfl (q := 624) ?_
  refine g_iconst C (nI 1) dL_law_624 (by decide) (q := 625) rfl ?_
  refine g_iadd C dL_law_625 (q := 626) rfl ?_
  refine g_eqi C (y := nI (i + 1)) (nI_add i 1) ?_
  refine g_sld C (fun s h => h.2.2) (vp_in_nI (by omega) (by omega)) dL_law_626 (q := 627) rfl ?_
  refine g_eqi C (y := xs (i + 1)) (by rw [nI_clamp (by omega)]) ?_
  refine g_aload_n C 0 dL_law_627 rfl rfl rfl (q := 628) ?_
  refine g_iload_n C 3 dL_law_628 rfl rfl rfl (q := 629) ?_
  refine g_iconst C (nI 2) dL_law_629 (by decide) (q := 630) rfl ?_
  refine g_iadd C dL_law_630 (q := 631) rfl ?_
  refine g_eqi C (y := nI (i + 2)) (nI_add i 2) ?_
  refine g_sld C (fun s h => h.2.2) (vp_in_nI (by omega) (by omega)) dL_law_631 (q := 632) rfl ?_
  refine g_eqi C (y := xs (i + 2)) (by rw [nI_clamp (by omega)]) ?_
  refine g_aload_n C 0 dL_law_632 rfl rfl rfl (q := 633) ?_
  refine g_iload_n C 3 dL_law_633 rfl rfl rfl (q := 634) ?_
  refine g_iconst C (nI 3) dL_law_634 (by decide) (q := 635) rfl ?_
  refine g_iadd C dL_law_635 (q := 636) rfl ?_
  refine g_eqi C (y := nI (i + 3)) (nI_add i 3) ?_
  refine g_sld C (fun s h => h.2.2) (vp_in_nI (by omega) (by omega)) dL_law_636 (q := 637) rfl ?_
  refine g_eqi C (y := xs (i + 3)) (by rw [nI_clamp (by omega)]) ?_
  refine gcV_qiP C (n := 3) (As := [.int (xs (i + 1)), .int (xs (i + 2)), .int (xs (i + 3))]) (st := []) 0 (wc := wC cI cJ cZ a hA nA gr li st sp (nI n) (nI m) nu ev od fp ti wc wu sc pv su sd (nI t)) (wr := wM cI cJ cZ b (nI n) gr li st nu (nI t) sd lea pa pt pp su2 sh tt) rfl (wC_in hp) (wC_of hp) dL_law_637 rfl rfl gL_law_X6_bestSpeed (c_X6_bestSpeed l D cI cJ cZ a hA nA gr li st sp n m nu ev od fp ti wc wu sc pv su sd t (xs (i + 1)) (xs (i + 2)) (xs (i + 3)) (by first | assumption | omega) (by first | assumption | omega) (by first | assumption | omega) (by first | assumption | omega)) rfl rfl rfl (by decide +kernel) ⟨Nat.le_of_ble_eq_true rfl, Nat.le_of_ble_eq_true rfl⟩ rfl rfl (Nat.le_of_ble_eq_true rfl) FT_b (fun _ _ _ _ _ _ _ _ _ => trivial) ⟨Nat.le_of_ble_eq_true rfl, Nat.le_of_ble_eq_true rfl⟩ (q := 640) rfl (fun r_637 u_637 h_637 => ?_)
  obtain ⟨hA2, nA2, ev2, od2, fp2, ti2, wc2, wu2⟩ := u_637
  obtain ⟨e_c, hp2, hW2⟩ := h_637
  show G 31 165904 (wC cI cJ cZ a hA2 nA2 gr li st sp (nI n) (nI m) nu ev2 od2 fp2 ti2 wc2 wu2 sc pv su sd (nI t) ++ wM cI cJ cZ b (nI n) gr li st nu (nI t) sd lea pa pt pp su2 sh tt) [(0, .ref scr), (1, .ref (a 0)), (2, .ref (b 0)), (3, .int (nI i))] 640 [.int r_637]
  refine g_aload_n C 2 dL_law_640 rfl rfl rfl (q := 641) ?_
  refine g_aload_n C 0 dL_law_641 rfl rfl rfl (q := 642) ?_
  refine g_iload_n C 3 dL_law_642 rfl rfl rfl (q := 643) ?_
  refine g_iconst C (nI 1) dL_law_643 (by decide) (q := 644) rfl ?_
  refine g_iadd C dL_law_644 (q := 645) rfl ?_
  refine g_eqi C (y := nI (i + 1)) (nI_add i 1) ?_
  refine g_sld C (fun s h => h.2.2) (vp_in_nI (by omega) (by omega)) dL_law_645 (q := 646) rfl ?_
  refine g_eqi C (y := xs (i + 1)) (by rw [nI_clamp (by omega)]) ?_
  refine g_aload_n C 0 dL_law_646 rfl rfl rfl (q := 647) ?_
  refine g_iload_n C 3 dL_law_647 rfl rfl rfl (q := 648) ?_
  refine g_iconst C (nI 2) dL_law_648 (by decide) (q := 649) rfl ?_
  refine g_iadd C dL_law_649 (q := 650) rfl ?_
  refine g_eqi C (y := nI (i + 2)) (nI_add i 2) ?_
  refine g_sld C (fun s h => h.2.2) (vp_in_nI (by omega) (by omega)) dL_law_650 (q := 651) rfl ?_
  refine g_eqi C (y := xs (i + 2)) (by rw [nI_clamp (by omega)]) ?_
  refine g_aload_n C 0 dL_law_651 rfl rfl rfl (q := 652) ?_
  refine g_iload_n C 3 dL_law_652 rfl rfl rfl (q := 653) ?_
  refine g_iconst C (nI 3) dL_law_653 (by decide) (q := 654) rfl ?_
  refine g_iadd C dL_law_654 (q := 655) rfl ?_
  refine g_eqi C (y := nI (i + 3)) (nI_add i 3) ?_
  refine g_sld C (fun s h => h.2.2) (vp_in_nI (by omega) (by omega)) dL_law_655 (q := 656) rfl ?_
  refine g_eqi C (y := xs (i + 3)) (by rw [nI_clamp (by omega)]) ?_
  refine gcV_qiS C (n := 3) (As := [.int (xs (i + 1)), .int (xs (i + 2)), .int (xs (i + 3))]) (st := [.int r_637]) 0 (wc := wM cI cJ cZ b (nI n) gr li st nu (nI t) sd lea pa pt pp su2 sh tt) (wr := wC cI cJ cZ a hA2 nA2 gr li st sp (nI n) (nI m) nu ev2 od2 fp2 ti2 wc2 wu2 sc pv su sd (nI t)) rfl wM_in wM_of dL_law_656 rfl rfl gL_law_X7_bestSpeed (c_X7_bestSpeed l D cI cJ cZ b n gr li st nu t sd lea pa pt pp su2 sh tt (xs (i + 1)) (xs (i + 2)) (xs (i + 3)) sp m (by first | assumption | omega) (by first | assumption | omega)) rfl rfl rfl (by decide +kernel) ⟨Nat.le_of_ble_eq_true rfl, Nat.le_of_ble_eq_true rfl⟩ rfl rfl (Nat.le_of_ble_eq_true rfl) FT_b (fun _ _ _ _ _ _ _ _ _ => trivial) ⟨Nat.le_of_ble_eq_true rfl, Nat.le_of_ble_eq_true rfl⟩ (q := 659) rfl (fun r_656 u_656 h_656 => ?_)
  obtain ⟨lea3, ez⟩ : ∃ z, z = u_656 := ⟨_, rfl⟩
  subst ez
  have e_m := h_656
  show G 31 165904 (wC cI cJ cZ a hA2 nA2 gr li st sp (nI n) (nI m) nu ev2 od2 fp2 ti2 wc2 wu2 sc pv su sd (nI t) ++ wM cI cJ cZ b (nI n) gr li st nu (nI t) sd lea3 pa pt pp su2 sh tt) [(0, .ref scr), (1, .ref (a 0)), (2, .ref (b 0)), (3, .int (nI i))] 659 [.int r_656, .int r_637]
  refine g_icmp_eq C (t := 907) dL_law_659 (by decide) (q := 662) rfl (fun c_659 => ?_) (fun c_659 => absurd (aBS_uq hL e_c e_m) c_659)
  exact k hA2 nA2 gr li st sp n m nu ev2 od2 fp2 ti2 wc2 wu2 sc pv su sd t lea3 pa pt pp su2 sh tt ⟨hL, hT, hp2, hW2, hS, ht, hs, hM⟩
set_option maxHeartbeats 4000000 in
set_option maxRecDepth 100000 in
theorem L_curve {l : Launch} {D : va_G} {cI cJ cZ : ClassId} {A : Nat → Prop} {rT rL rM scr Ls : Nat} {xs : Nat → Int32} {G : Nat → Nat → va_W → LL → Nat → List Value → Prop} (C : GB l D (tyT cI cJ cZ) A (FLw cI rT rL rM scr Ls xs A) room_1 cL_law 4 RL wsL_law false false G) {a b : Nat → Nat} {hA nA : Nat} {gr li st sp : Nat → Int32} {n m : Nat} {nu : Nat → Int32} {ev od : Nat → Int64} {fp ti : Nat → Int32} {wc : Nat → Int64} {wu : Int32} {sc pv : Nat → Int64} {su : Int32} {sd : Nat → Int32} {t : Nat} {lea : Nat → Int32} {pa : Int32} {pt pp : Nat → Int32} {su2 : Int32} {sh tt : Nat → Int32} (I : LWI a hA nA gr li st sp n m nu fp ti wc wu sc pv su sd t su2 sh tt) {i : Nat} (hi : i + 4 ≤ Ls) (hLs : Ls ≤ 2048) (k : ∀ (hA nA : Nat) (gr li st sp : Nat → Int32) (n m : Nat) (nu : Nat → Int32) (ev od : Nat → Int64) (fp ti : Nat → Int32) (wc : Nat → Int64) (wu : Int32) (sc pv : Nat → Int64) (su : Int32) (sd : Nat → Int32) (t : Nat) (lea : Nat → Int32) (pa : Int32) (pt pp : Nat → Int32) (su2 : Int32) (sh tt : Nat → Int32), LWI a hA nA gr li st sp n m nu fp ti wc wu sc pv su sd t su2 sh tt → G 31 165904 (wC cI cJ cZ a hA nA gr li st sp (nI n) (nI m) nu ev od fp ti wc wu sc pv su sd (nI t) ++ wM cI cJ cZ b (nI n) gr li st nu (nI t) sd lea pa pt pp su2 sh tt) [(0, .ref scr), (1, .ref (a 0)), (2, .ref (b 0)), (3, .int (nI i))] 907 []) : G 31 165904 (wC cI cJ cZ a hA nA gr li st sp (nI n) (nI m) nu ev od fp ti wc wu sc pv su sd (nI t) ++ wM cI cJ cZ b (nI n) gr li st nu (nI t) sd lea pa pt pp su2 sh tt) [(0, .ref scr), (1, .ref (a 0)), (2, .ref (b 0)), (3, .int (nI i))] 664 [] := by
  obtain ⟨hL, hT, hp, hW, hS, ht, hs, hM⟩ := I
  have hn := hL.2.1
  have hn1 := hL.1
  have hst := hL.2.2.1
  have hsu := hM
  refine g_aload_n C 1 dL_law_664 rfl rfl rfl (q := 665) ?_
  refine g_aload_n C 0 dL_law_665 rfl rfl rfl (q := 666) ?_
  refine g_iload_n C 3 dL_law_666 rfl rfl rfl (q := 667) ?_
  refine g_iconst C (nI 1) dL_law_667 (by decide) (q := 668) rfl ?_
  refine g_iadd C dL_law_668 (q := 669) rfl ?_
  refine g_eqi C (y := nI (i + 1)) (nI_add i 1) ?_
  refine g_sld C (fun s h => h.2.2) (vp_in_nI (by omega) (by omega)) dL_law_669 (q := 670) rfl ?_
  refine g_eqi C (y := xs (i + 1)) (by rw [nI_clamp (by omega)]) ?_
  refine gcV_qiP C (n := 1) (As := [.int (xs (i + 1))]) (st := []) 0 (wc := wC cI cJ cZ a hA nA gr li st sp (nI n) (nI m) nu ev od fp ti wc wu sc pv su sd (nI t)) (wr := wM cI cJ cZ b (nI n) gr li st nu (nI t) sd lea pa pt pp su2 sh tt) rfl (wC_in hp) (wC_of hp) dL_law_670 rfl rfl gL_law_X6_curve (c_X6_curve l D cI cJ cZ a hA nA gr li st sp n m nu ev od fp ti wc wu sc pv su sd t (xs (i + 1)) (by first | assumption | omega) (by first | assumption | omega) (by first | assumption | omega) (by first | assumption | omega)) rfl rfl rfl (by decide +kernel) ⟨Nat.le_of_ble_eq_true rfl, Nat.le_of_ble_eq_true rfl⟩ rfl rfl (Nat.le_of_ble_eq_true rfl) FT_b (fun _ _ _ _ _ _ _ _ _ => trivial) ⟨Nat.le_of_ble_eq_true rfl, Nat.le_of_ble_eq_true rfl⟩ (q := 673) rfl (fun r_670 u_670 h_670 => ?_)
  obtain ⟨hA2, nA2, ev2, od2, fp2, ti2, wc2, wu2⟩ := u_670
  obtain ⟨e_c, hp2, hW2⟩ := h_670
  show G 31 165904 (wC cI cJ cZ a hA2 nA2 gr li st sp (nI n) (nI m) nu ev2 od2 fp2 ti2 wc2 wu2 sc pv su sd (nI t) ++ wM cI cJ cZ b (nI n) gr li st nu (nI t) sd lea pa pt pp su2 sh tt) [(0, .ref scr), (1, .ref (a 0)), (2, .ref (b 0)), (3, .int (nI i))] 673 [.int r_670]
  refine g_aload_n C 2 dL_law_673 rfl rfl rfl (q := 674) ?_
  refine g_aload_n C 0 dL_law_674 rfl rfl rfl (q := 675) ?_
  refine g_iload_n C 3 dL_law_675 rfl rfl rfl (q := 676) ?_
  refine g_iconst C (nI 1) dL_law_676 (by decide) (q := 677) rfl ?_
  refine g_iadd C dL_law_677 (q := 678) rfl ?_
  refine g_eqi C (y := nI (i + 1)) (nI_add i 1) ?_
  refine g_sld C (fun s h => h.2.2) (vp_in_nI (by omega) (by omega)) dL_law_678 (q := 679) rfl ?_
  refine g_eqi C (y := xs (i + 1)) (by rw [nI_clamp (by omega)]) ?_
  refine gcV_qiS C (n := 1) (As := [.int (xs (i + 1))]) (st := [.int r_670]) 0 (wc := wM cI cJ cZ b (nI n) gr li st nu (nI t) sd lea pa pt pp su2 sh tt) (wr := wC cI cJ cZ a hA2 nA2 gr li st sp (nI n) (nI m) nu ev2 od2 fp2 ti2 wc2 wu2 sc pv su sd (nI t)) rfl wM_in wM_of dL_law_679 rfl rfl gL_law_X7_curve (c_X7_curve l D cI cJ cZ b n gr li st nu t sd lea pa pt pp su2 sh tt (xs (i + 1)) sp m (by first | assumption | omega) (by first | assumption | omega)) rfl rfl rfl (by decide +kernel) ⟨Nat.le_of_ble_eq_true rfl, Nat.le_of_ble_eq_true rfl⟩ rfl rfl (Nat.le_of_ble_eq_true rfl) FT_b (fun _ _ _ _ _ _ _ _ _ => trivial) ⟨Nat.le_of_ble_eq_true rfl, Nat.le_of_ble_eq_true rfl⟩ (q := 682) rfl (fun r_679 u_679 h_679 => ?_)
  obtain ⟨lea3, pa3, pt3, pp3⟩ := u_679
  have e_m := h_679
  show G 31 165904 (wC cI cJ cZ a hA2 nA2 gr li st sp (nI n) (nI m) nu ev2 od2 fp2 ti2 wc2 wu2 sc pv su sd (nI t) ++ wM cI cJ cZ b (nI n) gr li st nu (nI t) sd lea3 pa3 pt3 pp3 su2 sh tt) [(0, .ref scr), (1, .ref (a 0)), (2, .ref (b 0)), (3, .int (nI i))] 682 [.int r_679, .int r_670]
  refine g_icmp_eq C (t := 907) dL_law_682 (by decide) (q := 685) rfl (fun c_682 => ?_) (fun c_682 => absurd (e_c.trans e_m.symm) c_682)
  exact k hA2 nA2 gr li st sp n m nu ev2 od2 fp2 ti2 wc2 wu2 sc pv su sd t lea3 pa3 pt3 pp3 su2 sh tt ⟨hL, hT, hp2, hW2, hS, ht, hs, hM⟩
set_option maxHeartbeats 4000000 in
set_option maxRecDepth 100000 in
theorem L_point {l : Launch} {D : va_G} {cI cJ cZ : ClassId} {A : Nat → Prop} {rT rL rM scr Ls : Nat} {xs : Nat → Int32} {G : Nat → Nat → va_W → LL → Nat → List Value → Prop} (C : GB l D (tyT cI cJ cZ) A (FLw cI rT rL rM scr Ls xs A) room_1 cL_law 4 RL wsL_law false false G) {a b : Nat → Nat} {hA nA : Nat} {gr li st sp : Nat → Int32} {n m : Nat} {nu : Nat → Int32} {ev od : Nat → Int64} {fp ti : Nat → Int32} {wc : Nat → Int64} {wu : Int32} {sc pv : Nat → Int64} {su : Int32} {sd : Nat → Int32} {t : Nat} {lea : Nat → Int32} {pa : Int32} {pt pp : Nat → Int32} {su2 : Int32} {sh tt : Nat → Int32} (I : LWI a hA nA gr li st sp n m nu fp ti wc wu sc pv su sd t su2 sh tt) {i : Nat} (hi : i + 4 ≤ Ls) (hLs : Ls ≤ 2048) (k : ∀ (hA nA : Nat) (gr li st sp : Nat → Int32) (n m : Nat) (nu : Nat → Int32) (ev od : Nat → Int64) (fp ti : Nat → Int32) (wc : Nat → Int64) (wu : Int32) (sc pv : Nat → Int64) (su : Int32) (sd : Nat → Int32) (t : Nat) (lea : Nat → Int32) (pa : Int32) (pt pp : Nat → Int32) (su2 : Int32) (sh tt : Nat → Int32), LWI a hA nA gr li st sp n m nu fp ti wc wu sc pv su sd t su2 sh tt → G 31 165904 (wC cI cJ cZ a hA nA gr li st sp (nI n) (nI m) nu ev od fp ti wc wu sc pv su sd (nI t) ++ wM cI cJ cZ b (nI n) gr li st nu (nI t) sd lea pa pt pp su2 sh tt) [(0, .ref scr), (1, .ref (a 0)), (2, .ref (b 0)), (3, .int (nI i))] 907 []) : G 31 165904 (wC cI cJ cZ a hA nA gr li st sp (nI n) (nI m) nu ev od fp ti wc wu sc pv su sd (nI t) ++ wM cI cJ cZ b (nI n) gr li st nu (nI t) sd lea pa pt pp su2 sh tt) [(0, .ref scr), (1, .ref (a 0)), (2, .ref (b 0)), (3, .int (nI i))] 687 [] := by
  obtain ⟨hL, hT, hp, hW, hS, ht, hs, hM⟩ := I
  have hn := hL.2.1
  have hn1 := hL.1
  have hst := hL.2.2.1
  have hsu := hM
  refine g_aload_n C 1 dL_law_687 rfl rfl rfl (q := 688) ?_
  refine g_aload_n C 0 dL_law_688 rfl rfl rfl (q := 689) ?_
  refine g_iload_n C 3 dL_law_689 rfl rfl rfl (q := 690) ?_
  refine g_iconst C (nI 1) dL_law_690 (by decide) (q := 691) rfl ?_
  refine g_iadd C dL_law_691 (q := 692) rfl ?_
  refine g_eqi C (y := nI (i + 1)) (nI_add i 1) ?_
  refine g_sld C (fun s h => h.2.2) (vp_in_nI (by omega) (by omega)) dL_law_692 (q := 693) rfl ?_
  refine g_eqi C (y := xs (i + 1)) (by rw [nI_clamp (by omega)]) ?_
  refine g_aload_n C 0 dL_law_693 rfl rfl rfl (q := 694) ?_
  refine g_iload_n C 3 dL_law_694 rfl rfl rfl (q := 695) ?_
  refine g_iconst C (nI 2) dL_law_695 (by decide) (q := 696) rfl ?_
  refine g_iadd C dL_law_696 (q := 697) rfl ?_
  refine g_eqi C (y := nI (i + 2)) (nI_add i 2) ?_
  refine g_sld C (fun s h => h.2.2) (vp_in_nI (by omega) (by omega)) dL_law_697 (q := 698) rfl ?_
  refine g_eqi C (y := xs (i + 2)) (by rw [nI_clamp (by omega)]) ?_
  refine g_aload_n C 0 dL_law_698 rfl rfl rfl (q := 699) ?_
  refine g_iload_n C 3 dL_law_699 rfl rfl rfl (q := 700) ?_
  refine g_iconst C (nI 3) dL_law_700 (by decide) (q := 701) rfl ?_
  refine g_iadd C dL_law_701 (q := 702) rfl ?_
  refine g_eqi C (y := nI (i + 3)) (nI_add i 3) ?_
  refine g_sld C (fun s h => h.2.2) (vp_in_nI (by omega) (by omega)) dL_law_702 (q := 703) rfl ?_
  refine g_eqi C (y := xs (i + 3)) (by rw [nI_clamp (by omega)]) ?_
  refine g_if_eq C (t := 710) dL_law_703 (by decide) (q := 706) rfl (fun c_703 => ?_) (fun c_703 => ?_)
  · refine g_iconst C (nI 0) dL_law_710 (by decide) (q := 711) rfl ?_
    refine gcV_qiP C (n := 3) (As := [.int (xs (i + 1)), .int (xs (i + 2)), .int (nI 0)]) (st := []) 0 (wc := wC cI cJ cZ a hA nA gr li st sp (nI n) (nI m) nu ev od fp ti wc wu sc pv su sd (nI t)) (wr := wM cI cJ cZ b (nI n) gr li st nu (nI t) sd lea pa pt pp su2 sh tt) rfl (wC_in hp) (wC_of hp) dL_law_711 rfl rfl gL_law_X6_point (c_X6_point l D cI cJ cZ a hA nA gr li st sp n m nu ev od fp ti wc wu sc pv su sd t (xs (i + 1)) (xs (i + 2)) (nI 0) (by first | assumption | omega) (by first | assumption | omega) (by first | assumption | omega) (by first | assumption | omega)) rfl rfl rfl (by decide +kernel) ⟨Nat.le_of_ble_eq_true rfl, Nat.le_of_ble_eq_true rfl⟩ rfl rfl (Nat.le_of_ble_eq_true rfl) FT_b (fun _ _ _ _ _ _ _ _ _ => trivial) ⟨Nat.le_of_ble_eq_true rfl, Nat.le_of_ble_eq_true rfl⟩ (q := 714) rfl (fun r_711 u_711 h_711 => ?_)
    obtain ⟨hA2, nA2, ev2, od2, fp2, ti2, wc2, wu2⟩ := u_711
    obtain ⟨e_c, hp2, hW2⟩ := h_711
    show G 31 165904 (wC cI cJ cZ a hA2 nA2 gr li st sp (nI n) (nI m) nu ev2 od2 fp2 ti2 wc2 wu2 sc pv su sd (nI t) ++ wM cI cJ cZ b (nI n) gr li st nu (nI t) sd lea pa pt pp su2 sh tt) [(0, .ref scr), (1, .ref (a 0)), (2, .ref (b 0)), (3, .int (nI i))] 714 [.int r_711]
    refine g_aload_n C 2 dL_law_714 rfl rfl rfl (q := 715) ?_
    refine g_aload_n C 0 dL_law_715 rfl rfl rfl (q := 716) ?_
    refine g_iload_n C 3 dL_law_716 rfl rfl rfl (q := 717) ?_
    refine g_iconst C (nI 1) dL_law_717 (by decide) (q := 718) rfl ?_
    refine g_iadd C dL_law_718 (q := 719) rfl ?_
    refine g_eqi C (y := nI (i + 1)) (nI_add i 1) ?_
    refine g_sld C (fun s h => h.2.2) (vp_in_nI (by omega) (by omega)) dL_law_719 (q := 720) rfl ?_
    refine g_eqi C (y := xs (i + 1)) (by rw [nI_clamp (by omega)]) ?_
    refine g_aload_n C 0 dL_law_720 rfl rfl rfl (q := 721) ?_
    refine g_iload_n C 3 dL_law_721 rfl rfl rfl (q := 722) ?_
    refine g_iconst C (nI 2) dL_law_722 (by decide) (q := 723) rfl ?_
    refine g_iadd C dL_law_723 (q := 724) rfl ?_
    refine g_eqi C (y := nI (i + 2)) (nI_add i 2) ?_
    refine g_sld C (fun s h => h.2.2) (vp_in_nI (by omega) (by omega)) dL_law_724 (q := 725) rfl ?_
    refine g_eqi C (y := xs (i + 2)) (by rw [nI_clamp (by omega)]) ?_
    refine g_aload_n C 0 dL_law_725 rfl rfl rfl (q := 726) ?_
    refine g_iload_n C 3 dL_law_726 rfl rfl rfl (q := 727) ?_
    refine g_iconst C (nI 3) dL_law_727 (by decide) (q := 728) rfl ?_
    refine g_iadd C dL_law_728 (q := 729) rfl ?_
    refine g_eqi C (y := nI (i + 3)) (nI_add i 3) ?_
    refine g_sld C (fun s h => h.2.2) (vp_in_nI (by omega) (by omega)) dL_law_729 (q := 730) rfl ?_
    refine g_eqi C (y := xs (i + 3)) (by rw [nI_clamp (by omega)]) ?_
    refine g_if_eq C (t := 737) dL_law_730 (by decide) (q := 733) rfl (fun c_730 => ?_) (fun c_730 => absurd c_703 c_730)
    refine g_iconst C (nI 0) dL_law_737 (by decide) (q := 738) rfl ?_
    refine gcV_qiS C (n := 3) (As := [.int (xs (i + 1)), .int (xs (i + 2)), .int (nI 0)]) (st := [.int r_711]) 0 (wc := wM cI cJ cZ b (nI n) gr li st nu (nI t) sd lea pa pt pp su2 sh tt) (wr := wC cI cJ cZ a hA2 nA2 gr li st sp (nI n) (nI m) nu ev2 od2 fp2 ti2 wc2 wu2 sc pv su sd (nI t)) rfl wM_in wM_of dL_law_738 rfl rfl gL_law_X7_point (c_X7_point l D cI cJ cZ b n gr li st nu t sd lea pa pt pp su2 sh tt (xs (i + 1)) (xs (i + 2)) (nI 0) sp m (by first | assumption | omega) (by first | assumption | omega)) rfl rfl rfl (by decide +kernel) ⟨Nat.le_of_ble_eq_true rfl, Nat.le_of_ble_eq_true rfl⟩ rfl rfl (Nat.le_of_ble_eq_true rfl) FT_b (fun _ _ _ _ _ _ _ _ _ => trivial) ⟨Nat.le_of_ble_eq_true rfl, Nat.le_of_ble_eq_true rfl⟩ (q := 741) rfl (fun r_738 u_738 h_738 => ?_)
    obtain ⟨lea3, pa3, pt3, pp3⟩ := u_738
    have e_m := h_738
    show G 31 165904 (wC cI cJ cZ a hA2 nA2 gr li st sp (nI n) (nI m) nu ev2 od2 fp2 ti2 wc2 wu2 sc pv su sd (nI t) ++ wM cI cJ cZ b (nI n) gr li st nu (nI t) sd lea3 pa3 pt3 pp3 su2 sh tt) [(0, .ref scr), (1, .ref (a 0)), (2, .ref (b 0)), (3, .int (nI i))] 741 [.int r_738, .int r_711]
    refine g_icmp_eq C (t := 907) dL_law_741 (by decide) (q := 744) rfl (fun c_741 => ?_) (fun c_741 => absurd (e_c.trans e_m.symm) c_741)
    exact k hA2 nA2 gr li st sp n m nu ev2 od2 fp2 ti2 wc2 wu2 sc pv su sd t lea3 pa3 pt3 pp3 su2 sh tt ⟨hL, hT, hp2, hW2, hS, ht, hs, hM⟩
  · refine g_iconst C (nI 1) dL_law_706 (by decide) (q := 707) rfl ?_
    refine g_goto C (q := 711) dL_law_707 (by decide) ?_
    refine gcV_qiP C (n := 3) (As := [.int (xs (i + 1)), .int (xs (i + 2)), .int (nI 1)]) (st := []) 0 (wc := wC cI cJ cZ a hA nA gr li st sp (nI n) (nI m) nu ev od fp ti wc wu sc pv su sd (nI t)) (wr := wM cI cJ cZ b (nI n) gr li st nu (nI t) sd lea pa pt pp su2 sh tt) rfl (wC_in hp) (wC_of hp) dL_law_711 rfl rfl gL_law_X6_point (c_X6_point l D cI cJ cZ a hA nA gr li st sp n m nu ev od fp ti wc wu sc pv su sd t (xs (i + 1)) (xs (i + 2)) (nI 1) (by first | assumption | omega) (by first | assumption | omega) (by first | assumption | omega) (by first | assumption | omega)) rfl rfl rfl (by decide +kernel) ⟨Nat.le_of_ble_eq_true rfl, Nat.le_of_ble_eq_true rfl⟩ rfl rfl (Nat.le_of_ble_eq_true rfl) FT_b (fun _ _ _ _ _ _ _ _ _ => trivial) ⟨Nat.le_of_ble_eq_true rfl, Nat.le_of_ble_eq_true rfl⟩ (q := 714) rfl (fun r_711 u_711 h_711 => ?_)
    obtain ⟨hA2, nA2, ev2, od2, fp2, ti2, wc2, wu2⟩ := u_711
    obtain ⟨e_c, hp2, hW2⟩ := h_711
    show G 31 165904 (wC cI cJ cZ a hA2 nA2 gr li st sp (nI n) (nI m) nu ev2 od2 fp2 ti2 wc2 wu2 sc pv su sd (nI t) ++ wM cI cJ cZ b (nI n) gr li st nu (nI t) sd lea pa pt pp su2 sh tt) [(0, .ref scr), (1, .ref (a 0)), (2, .ref (b 0)), (3, .int (nI i))] 714 [.int r_711]
    refine g_aload_n C 2 dL_law_714 rfl rfl rfl (q := 715) ?_
    refine g_aload_n C 0 dL_law_715 rfl rfl rfl (q := 716) ?_
    refine g_iload_n C 3 dL_law_716 rfl rfl rfl (q := 717) ?_
    refine g_iconst C (nI 1) dL_law_717 (by decide) (q := 718) rfl ?_
    refine g_iadd C dL_law_718 (q := 719) rfl ?_
    refine g_eqi C (y := nI (i + 1)) (nI_add i 1) ?_
    refine g_sld C (fun s h => h.2.2) (vp_in_nI (by omega) (by omega)) dL_law_719 (q := 720) rfl ?_
    refine g_eqi C (y := xs (i + 1)) (by rw [nI_clamp (by omega)]) ?_
    refine g_aload_n C 0 dL_law_720 rfl rfl rfl (q := 721) ?_
    refine g_iload_n C 3 dL_law_721 rfl rfl rfl (q := 722) ?_
    refine g_iconst C (nI 2) dL_law_722 (by decide) (q := 723) rfl ?_
    refine g_iadd C dL_law_723 (q := 724) rfl ?_
    refine g_eqi C (y := nI (i + 2)) (nI_add i 2) ?_
    refine g_sld C (fun s h => h.2.2) (vp_in_nI (by omega) (by omega)) dL_law_724 (q := 725) rfl ?_
    refine g_eqi C (y := xs (i + 2)) (by rw [nI_clamp (by omega)]) ?_
    refine g_aload_n C 0 dL_law_725 rfl rfl rfl (q := 726) ?_
    refine g_iload_n C 3 dL_law_726 rfl rfl rfl (q := 727) ?_
    refine g_iconst C (nI 3) dL_law_727 (by decide) (q := 728) rfl ?_
    refine g_iadd C dL_law_728 (q := 729) rfl ?_
    refine g_eqi C (y := nI (i + 3)) (nI_add i 3) ?_
    refine g_sld C (fun s h => h.2.2) (vp_in_nI (by omega) (by omega)) dL_law_729 (q := 730) rfl ?_
    refine g_eqi C (y := xs (i + 3)) (by rw [nI_clamp (by omega)]) ?_
    refine g_if_eq C (t := 737) dL_law_730 (by decide) (q := 733) rfl (fun c_730 => absurd c_730 c_703) (fun c_730 => ?_)
    refine g_iconst C (nI 1) dL_law_733 (by decide) (q := 734) rfl ?_
    refine g_goto C (q := 738) dL_law_734 (by decide) ?_
    refine gcV_qiS C (n := 3) (As := [.int (xs (i + 1)), .int (xs (i + 2)), .int (nI 1)]) (st := [.int r_711]) 0 (wc := wM cI cJ cZ b (nI n) gr li st nu (nI t) sd lea pa pt pp su2 sh tt) (wr := wC cI cJ cZ a hA2 nA2 gr li st sp (nI n) (nI m) nu ev2 od2 fp2 ti2 wc2 wu2 sc pv su sd (nI t)) rfl wM_in wM_of dL_law_738 rfl rfl gL_law_X7_point (c_X7_point l D cI cJ cZ b n gr li st nu t sd lea pa pt pp su2 sh tt (xs (i + 1)) (xs (i + 2)) (nI 1) sp m (by first | assumption | omega) (by first | assumption | omega)) rfl rfl rfl (by decide +kernel) ⟨Nat.le_of_ble_eq_true rfl, Nat.le_of_ble_eq_true rfl⟩ rfl rfl (Nat.le_of_ble_eq_true rfl) FT_b (fun _ _ _ _ _ _ _ _ _ => trivial) ⟨Nat.le_of_ble_eq_true rfl, Nat.le_of_ble_eq_true rfl⟩ (q := 741) rfl (fun r_738 u_738 h_738 => ?_)
    obtain ⟨lea3, pa3, pt3, pp3⟩ := u_738
    have e_m := h_738
    show G 31 165904 (wC cI cJ cZ a hA2 nA2 gr li st sp (nI n) (nI m) nu ev2 od2 fp2 ti2 wc2 wu2 sc pv su sd (nI t) ++ wM cI cJ cZ b (nI n) gr li st nu (nI t) sd lea3 pa3 pt3 pp3 su2 sh tt) [(0, .ref scr), (1, .ref (a 0)), (2, .ref (b 0)), (3, .int (nI i))] 741 [.int r_738, .int r_711]
    refine g_icmp_eq C (t := 907) dL_law_741 (by decide) (q := 744) rfl (fun c_741 => ?_) (fun c_741 => absurd (e_c.trans e_m.symm) c_741)
    exact k hA2 nA2 gr li st sp n m nu ev2 od2 fp2 ti2 wc2 wu2 sc pv su sd t lea3 pa3 pt3 pp3 su2 sh tt ⟨hL, hT, hp2, hW2, hS, ht, hs, hM⟩
set_option maxHeartbeats 4000000 in
set_option maxRecDepth 100000 in
theorem L_share {l : Launch} {D : va_G} {cI cJ cZ : ClassId} {A : Nat → Prop} {rT rL rM scr Ls : Nat} {xs : Nat → Int32} {G : Nat → Nat → va_W → LL → Nat → List Value → Prop} (C : GB l D (tyT cI cJ cZ) A (FLw cI rT rL rM scr Ls xs A) room_1 cL_law 4 RL wsL_law false false G) {a b : Nat → Nat} {hA nA : Nat} {gr li st sp : Nat → Int32} {n m : Nat} {nu : Nat → Int32} {ev od : Nat → Int64} {fp ti : Nat → Int32} {wc : Nat → Int64} {wu : Int32} {sc pv : Nat → Int64} {su : Int32} {sd : Nat → Int32} {t : Nat} {lea : Nat → Int32} {pa : Int32} {pt pp : Nat → Int32} {su2 : Int32} {sh tt : Nat → Int32} (I : LWI a hA nA gr li st sp n m nu fp ti wc wu sc pv su sd t su2 sh tt) {i : Nat} (hi : i + 4 ≤ Ls) (hLs : Ls ≤ 2048) (k : ∀ (hA nA : Nat) (gr li st sp : Nat → Int32) (n m : Nat) (nu : Nat → Int32) (ev od : Nat → Int64) (fp ti : Nat → Int32) (wc : Nat → Int64) (wu : Int32) (sc pv : Nat → Int64) (su : Int32) (sd : Nat → Int32) (t : Nat) (lea : Nat → Int32) (pa : Int32) (pt pp : Nat → Int32) (su2 : Int32) (sh tt : Nat → Int32), LWI a hA nA gr li st sp n m nu fp ti wc wu sc pv su sd t su2 sh tt → G 31 165904 (wC cI cJ cZ a hA nA gr li st sp (nI n) (nI m) nu ev od fp ti wc wu sc pv su sd (nI t) ++ wM cI cJ cZ b (nI n) gr li st nu (nI t) sd lea pa pt pp su2 sh tt) [(0, .ref scr), (1, .ref (a 0)), (2, .ref (b 0)), (3, .int (nI i))] 907 []) : G 31 165904 (wC cI cJ cZ a hA nA gr li st sp (nI n) (nI m) nu ev od fp ti wc wu sc pv su sd (nI t) ++ wM cI cJ cZ b (nI n) gr li st nu (nI t) sd lea pa pt pp su2 sh tt) [(0, .ref scr), (1, .ref (a 0)), (2, .ref (b 0)), (3, .int (nI i))] 746 [] := by
  obtain ⟨hL, hT, hp, hW, hS, ht, hs, hM⟩ := I
  have hn := hL.2.1
  have hn1 := hL.1
  have hst := hL.2.2.1
  have hsu := hM
  refine g_aload_n C 1 dL_law_746 rfl rfl rfl (q := 747) ?_
  refine g_aload_n C 0 dL_law_747 rfl rfl rfl (q := 748) ?_
  refine g_iload_n C 3 dL_law_748 rfl rfl rfl (q := 749) ?_
  refine g_iconst C (nI 1) dL_law_749 (by decide) (q := 750) rfl ?_
  refine g_iadd C dL_law_750 (q := 751) rfl ?_
  refine g_eqi C (y := nI (i + 1)) (nI_add i 1) ?_
  refine g_sld C (fun s h => h.2.2) (vp_in_nI (by omega) (by omega)) dL_law_751 (q := 752) rfl ?_
  refine g_eqi C (y := xs (i + 1)) (by rw [nI_clamp (by omega)]) ?_
  refine gcV_qiP C (n := 1) (As := [.int (xs (i + 1))]) (st := []) 0 (wc := wC cI cJ cZ a hA nA gr li st sp (nI n) (nI m) nu ev od fp ti wc wu sc pv su sd (nI t)) (wr := wM cI cJ cZ b (nI n) gr li st nu (nI t) sd lea pa pt pp su2 sh tt) rfl (wC_in hp) (wC_of hp) dL_law_752 rfl rfl gL_law_X6_share (c_X6_share l D cI cJ cZ a hA nA gr li st sp n m nu ev od fp ti wc wu sc pv su sd t (xs (i + 1)) (by first | assumption | omega) (by first | assumption | omega) (by first | assumption | omega) (by first | assumption | omega) (by first | assumption | omega)) rfl rfl rfl (by decide +kernel) ⟨Nat.le_of_ble_eq_true rfl, Nat.le_of_ble_eq_true rfl⟩ rfl rfl (Nat.le_of_ble_eq_true rfl) FT_b (fun _ _ _ _ _ _ _ _ _ => trivial) ⟨Nat.le_of_ble_eq_true rfl, Nat.le_of_ble_eq_true rfl⟩ (q := 755) rfl (fun r_752 u_752 h_752 => ?_)
  obtain ⟨hA2, nA2, ev2, od2, fp2, ti2, wc2, wu2, sc2, pv2, su2x⟩ := u_752
  obtain ⟨e_c, hp2, hW2, hS2⟩ := h_752
  show G 31 165904 (wC cI cJ cZ a hA2 nA2 gr li st sp (nI n) (nI m) nu ev2 od2 fp2 ti2 wc2 wu2 sc2 pv2 su2x sd (nI t) ++ wM cI cJ cZ b (nI n) gr li st nu (nI t) sd lea pa pt pp su2 sh tt) [(0, .ref scr), (1, .ref (a 0)), (2, .ref (b 0)), (3, .int (nI i))] 755 [.int r_752]
  refine g_aload_n C 2 dL_law_755 rfl rfl rfl (q := 756) ?_
  refine g_aload_n C 0 dL_law_756 rfl rfl rfl (q := 757) ?_
  refine g_iload_n C 3 dL_law_757 rfl rfl rfl (q := 758) ?_
  refine g_iconst C (nI 1) dL_law_758 (by decide) (q := 759) rfl ?_
  refine g_iadd C dL_law_759 (q := 760) rfl ?_
  refine g_eqi C (y := nI (i + 1)) (nI_add i 1) ?_
  refine g_sld C (fun s h => h.2.2) (vp_in_nI (by omega) (by omega)) dL_law_760 (q := 761) rfl ?_
  refine g_eqi C (y := xs (i + 1)) (by rw [nI_clamp (by omega)]) ?_
  refine gcV_qiS C (n := 1) (As := [.int (xs (i + 1))]) (st := [.int r_752]) 0 (wc := wM cI cJ cZ b (nI n) gr li st nu (nI t) sd lea pa pt pp su2 sh tt) (wr := wC cI cJ cZ a hA2 nA2 gr li st sp (nI n) (nI m) nu ev2 od2 fp2 ti2 wc2 wu2 sc2 pv2 su2x sd (nI t)) rfl wM_in wM_of dL_law_761 rfl rfl gL_law_X7_share (c_X7_share l D cI cJ cZ b n gr li st nu t sd lea pa pt pp su2 sh tt (xs (i + 1)) sp m (by first | assumption | omega) (by first | assumption | omega) (by first | assumption | omega)) rfl rfl rfl (by decide +kernel) ⟨Nat.le_of_ble_eq_true rfl, Nat.le_of_ble_eq_true rfl⟩ rfl rfl (Nat.le_of_ble_eq_true rfl) FT_b (fun _ _ _ _ _ _ _ _ _ => trivial) ⟨Nat.le_of_ble_eq_true rfl, Nat.le_of_ble_eq_true rfl⟩ (q := 764) rfl (fun r_761 u_761 h_761 => ?_)
  obtain ⟨lea3, pa3, pt3, pp3, su3, sh3, tt3⟩ := u_761
  obtain ⟨e_m, hM2⟩ := h_761
  show G 31 165904 (wC cI cJ cZ a hA2 nA2 gr li st sp (nI n) (nI m) nu ev2 od2 fp2 ti2 wc2 wu2 sc2 pv2 su2x sd (nI t) ++ wM cI cJ cZ b (nI n) gr li st nu (nI t) sd lea3 pa3 pt3 pp3 su3 sh3 tt3) [(0, .ref scr), (1, .ref (a 0)), (2, .ref (b 0)), (3, .int (nI i))] 764 [.int r_761, .int r_752]
  refine g_icmp_eq C (t := 907) dL_law_764 (by decide) (q := 767) rfl (fun c_764 => ?_) (fun c_764 => absurd (e_c.trans e_m.symm) c_764)
  exact k hA2 nA2 gr li st sp n m nu ev2 od2 fp2 ti2 wc2 wu2 sc2 pv2 su2x sd t lea3 pa3 pt3 pp3 su3 sh3 tt3 ⟨hL, hT, hp2, hW2, hS2, ht, hs, hM2⟩
set_option maxHeartbeats 4000000 in
set_option maxRecDepth 100000 in
theorem L_shareTime {l : Launch} {D : va_G} {cI cJ cZ : ClassId} {A : Nat → Prop} {rT rL rM scr Ls : Nat} {xs : Nat → Int32} {G : Nat → Nat → va_W → LL → Nat → List Value → Prop} (C : GB l D (tyT cI cJ cZ) A (FLw cI rT rL rM scr Ls xs A) room_1 cL_law 4 RL wsL_law false false G) {a b : Nat → Nat} {hA nA : Nat} {gr li st sp : Nat → Int32} {n m : Nat} {nu : Nat → Int32} {ev od : Nat → Int64} {fp ti : Nat → Int32} {wc : Nat → Int64} {wu : Int32} {sc pv : Nat → Int64} {su : Int32} {sd : Nat → Int32} {t : Nat} {lea : Nat → Int32} {pa : Int32} {pt pp : Nat → Int32} {su2 : Int32} {sh tt : Nat → Int32} (I : LWI a hA nA gr li st sp n m nu fp ti wc wu sc pv su sd t su2 sh tt) {i : Nat} (hi : i + 4 ≤ Ls) (hLs : Ls ≤ 2048) (k : ∀ (hA nA : Nat) (gr li st sp : Nat → Int32) (n m : Nat) (nu : Nat → Int32) (ev od : Nat → Int64) (fp ti : Nat → Int32) (wc : Nat → Int64) (wu : Int32) (sc pv : Nat → Int64) (su : Int32) (sd : Nat → Int32) (t : Nat) (lea : Nat → Int32) (pa : Int32) (pt pp : Nat → Int32) (su2 : Int32) (sh tt : Nat → Int32), LWI a hA nA gr li st sp n m nu fp ti wc wu sc pv su sd t su2 sh tt → G 31 165904 (wC cI cJ cZ a hA nA gr li st sp (nI n) (nI m) nu ev od fp ti wc wu sc pv su sd (nI t) ++ wM cI cJ cZ b (nI n) gr li st nu (nI t) sd lea pa pt pp su2 sh tt) [(0, .ref scr), (1, .ref (a 0)), (2, .ref (b 0)), (3, .int (nI i))] 907 []) : G 31 165904 (wC cI cJ cZ a hA nA gr li st sp (nI n) (nI m) nu ev od fp ti wc wu sc pv su sd (nI t) ++ wM cI cJ cZ b (nI n) gr li st nu (nI t) sd lea pa pt pp su2 sh tt) [(0, .ref scr), (1, .ref (a 0)), (2, .ref (b 0)), (3, .int (nI i))] 769 [] := by
  obtain ⟨hL, hT, hp, hW, hS, ht, hs, hM⟩ := I
  have hn := hL.2.1
  have hn1 := hL.1
  have hst := hL.2.2.1
  have hsu := hM
  refine g_aload_n C 1 dL_law_769 rfl rfl rfl (q := 770) ?_
  refine g_aload_n C 0 dL_law_770 rfl rfl rfl (q := 771) ?_
  refine g_iload_n C 3 dL_law_771 rfl rfl rfl (q := 772) ?_
  refine g_iconst C (nI 1) dL_law_772 (by decide) (q := 773) rfl ?_
  refine g_iadd C dL_law_773 (q := 774) rfl ?_
  refine g_eqi C (y := nI (i + 1)) (nI_add i 1) ?_
  refine g_sld C (fun s h => h.2.2) (vp_in_nI (by omega) (by omega)) dL_law_774 (q := 775) rfl ?_
  refine g_eqi C (y := xs (i + 1)) (by rw [nI_clamp (by omega)]) ?_
  refine g_aload_n C 0 dL_law_775 rfl rfl rfl (q := 776) ?_
  refine g_iload_n C 3 dL_law_776 rfl rfl rfl (q := 777) ?_
  refine g_iconst C (nI 2) dL_law_777 (by decide) (q := 778) rfl ?_
  refine g_iadd C dL_law_778 (q := 779) rfl ?_
  refine g_eqi C (y := nI (i + 2)) (nI_add i 2) ?_
  refine g_sld C (fun s h => h.2.2) (vp_in_nI (by omega) (by omega)) dL_law_779 (q := 780) rfl ?_
  refine g_eqi C (y := xs (i + 2)) (by rw [nI_clamp (by omega)]) ?_
  refine gcV_qiP C (n := 2) (As := [.int (xs (i + 1)), .int (xs (i + 2))]) (st := []) 0 (wc := wC cI cJ cZ a hA nA gr li st sp (nI n) (nI m) nu ev od fp ti wc wu sc pv su sd (nI t)) (wr := wM cI cJ cZ b (nI n) gr li st nu (nI t) sd lea pa pt pp su2 sh tt) rfl (wC_in hp) (wC_of hp) dL_law_780 rfl rfl gL_law_X6_shareTime (c_X6_shareTime l D cI cJ cZ a hA nA gr li st sp n m nu ev od fp ti wc wu sc pv su sd t (xs (i + 1)) (xs (i + 2)) (by first | assumption | omega) (by first | assumption | omega) (by first | assumption | omega) (by first | assumption | omega) (by first | assumption | omega)) rfl rfl rfl (by decide +kernel) ⟨Nat.le_of_ble_eq_true rfl, Nat.le_of_ble_eq_true rfl⟩ rfl rfl (Nat.le_of_ble_eq_true rfl) FT_b (fun _ _ _ _ _ _ _ _ _ => trivial) ⟨Nat.le_of_ble_eq_true rfl, Nat.le_of_ble_eq_true rfl⟩ (q := 783) rfl (fun r_780 u_780 h_780 => ?_)
  obtain ⟨hA2, nA2, ev2, od2, fp2, ti2, wc2, wu2, sc2, pv2, su2x⟩ := u_780
  obtain ⟨e_c, hp2, hW2, hS2⟩ := h_780
  show G 31 165904 (wC cI cJ cZ a hA2 nA2 gr li st sp (nI n) (nI m) nu ev2 od2 fp2 ti2 wc2 wu2 sc2 pv2 su2x sd (nI t) ++ wM cI cJ cZ b (nI n) gr li st nu (nI t) sd lea pa pt pp su2 sh tt) [(0, .ref scr), (1, .ref (a 0)), (2, .ref (b 0)), (3, .int (nI i))] 783 [.int r_780]
  refine g_aload_n C 2 dL_law_783 rfl rfl rfl (q := 784) ?_
  refine g_aload_n C 0 dL_law_784 rfl rfl rfl (q := 785) ?_
  refine g_iload_n C 3 dL_law_785 rfl rfl rfl (q := 786) ?_
  refine g_iconst C (nI 1) dL_law_786 (by decide) (q := 787) rfl ?_
  refine g_iadd C dL_law_787 (q := 788) rfl ?_
  refine g_eqi C (y := nI (i + 1)) (nI_add i 1) ?_
  refine g_sld C (fun s h => h.2.2) (vp_in_nI (by omega) (by omega)) dL_law_788 (q := 789) rfl ?_
  refine g_eqi C (y := xs (i + 1)) (by rw [nI_clamp (by omega)]) ?_
  refine g_aload_n C 0 dL_law_789 rfl rfl rfl (q := 790) ?_
  refine g_iload_n C 3 dL_law_790 rfl rfl rfl (q := 791) ?_
  refine g_iconst C (nI 2) dL_law_791 (by decide) (q := 792) rfl ?_
  refine g_iadd C dL_law_792 (q := 793) rfl ?_
  refine g_eqi C (y := nI (i + 2)) (nI_add i 2) ?_
  refine g_sld C (fun s h => h.2.2) (vp_in_nI (by omega) (by omega)) dL_law_793 (q := 794) rfl ?_
  refine g_eqi C (y := xs (i + 2)) (by rw [nI_clamp (by omega)]) ?_
  refine gcV_qiS C (n := 2) (As := [.int (xs (i + 1)), .int (xs (i + 2))]) (st := [.int r_780]) 0 (wc := wM cI cJ cZ b (nI n) gr li st nu (nI t) sd lea pa pt pp su2 sh tt) (wr := wC cI cJ cZ a hA2 nA2 gr li st sp (nI n) (nI m) nu ev2 od2 fp2 ti2 wc2 wu2 sc2 pv2 su2x sd (nI t)) rfl wM_in wM_of dL_law_794 rfl rfl gL_law_X7_shareTime (c_X7_shareTime l D cI cJ cZ b n gr li st nu t sd lea pa pt pp su2 sh tt (xs (i + 1)) (xs (i + 2)) sp m (by first | assumption | omega) (by first | assumption | omega) (by first | assumption | omega)) rfl rfl rfl (by decide +kernel) ⟨Nat.le_of_ble_eq_true rfl, Nat.le_of_ble_eq_true rfl⟩ rfl rfl (Nat.le_of_ble_eq_true rfl) FT_b (fun _ _ _ _ _ _ _ _ _ => trivial) ⟨Nat.le_of_ble_eq_true rfl, Nat.le_of_ble_eq_true rfl⟩ (q := 797) rfl (fun r_794 u_794 h_794 => ?_)
  obtain ⟨lea3, pa3, pt3, pp3, su3, sh3, tt3⟩ := u_794
  obtain ⟨e_m, hM2⟩ := h_794
  show G 31 165904 (wC cI cJ cZ a hA2 nA2 gr li st sp (nI n) (nI m) nu ev2 od2 fp2 ti2 wc2 wu2 sc2 pv2 su2x sd (nI t) ++ wM cI cJ cZ b (nI n) gr li st nu (nI t) sd lea3 pa3 pt3 pp3 su3 sh3 tt3) [(0, .ref scr), (1, .ref (a 0)), (2, .ref (b 0)), (3, .int (nI i))] 797 [.int r_794, .int r_780]
  refine g_icmp_eq C (t := 907) dL_law_797 (by decide) (q := 800) rfl (fun c_797 => ?_) (fun c_797 => absurd (e_c.trans e_m.symm) c_797)
  exact k hA2 nA2 gr li st sp n m nu ev2 od2 fp2 ti2 wc2 wu2 sc2 pv2 su2x sd t lea3 pa3 pt3 pp3 su3 sh3 tt3 ⟨hL, hT, hp2, hW2, hS2, ht, hs, hM2⟩
