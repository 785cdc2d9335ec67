/-! the law: its loop, its beginning -/
set_option maxHeartbeats 4000000 in
set_option maxRecDepth 100000 in
/-- the loop -/
theorem L_loop {l : Launch} {D : va_G} {cI cJ cZ : ClassId} {A : Nat → Prop} {rT rL rM scr Ls : Nat} {xs : Nat → Int32} {G : Nat → Nat → va_W → LL → Nat → List Value → Prop} (C : GB l D (tyT cI cJ cZ) A (FLw cI rT rL rM scr Ls xs A) room_1 cL_law 4 RL wsL_law false false G) (hend : ∀ (w : va_W) (L : LL), G 31 165904 w L 914 [.int (nI 1)]) (hLs : Ls ≤ 2048) {a b : Nat → Nat} : ∀ (N : Nat) (hA nA : Nat) (gr li st sp : Nat → Int32) (n m : Nat) (nu : Nat → Int32) (ev od : Nat → Int64) (fp ti : Nat → Int32) (wc : Nat → Int64) (wu : Int32) (sc pv : Nat → Int64) (su : Int32) (sd : Nat → Int32) (t : Nat) (lea : Nat → Int32) (pa : Int32) (pt pp : Nat → Int32) (su2 : Int32) (sh tt : Nat → Int32) (i : Nat), LWI a hA nA gr li st sp n m nu fp ti wc wu sc pv su sd t su2 sh tt → i ≤ Ls + 3 → Ls + 4 - i < N → G 31 165904 (wC cI cJ cZ a hA nA gr li st sp (nI n) (nI m) nu ev od fp ti wc wu sc pv su sd (nI t) ++ wM cI cJ cZ b (nI n) gr li st nu (nI t) sd lea pa pt pp su2 sh tt) [(0, .ref scr), (1, .ref (a 0)), (2, .ref (b 0)), (3, .int (nI i))] 18 [] := by
  intro N
  induction N with
  | zero => intro hA nA gr li st sp n m nu ev od fp ti wc wu sc pv su sd t lea pa pt pp su2 sh tt i I h1 hmu; exact absurd hmu (Nat.not_lt_zero _)
  | succ N ih =>
    intro hA nA gr li st sp n m nu ev od fp ti wc wu sc pv su sd t lea pa pt pp su2 sh tt i I h1 hmu
    have hbk : ∀ (hA nA : Nat) (gr li st sp : Nat → Int32) (n m : Nat) (nu : Nat → Int32) (ev od : Nat → Int64) (fp ti : Nat → Int32) (wc : Nat → Int64) (wu : Int32) (sc pv : Nat → Int64) (su : Int32) (sd : Nat → Int32) (t : Nat) (lea : Nat → Int32) (pa : Int32) (pt pp : Nat → Int32) (su2 : Int32) (sh tt : Nat → Int32), LWI a hA nA gr li st sp n m nu fp ti wc wu sc pv su sd t su2 sh tt → i + 4 ≤ Ls → G 31 165904 (wC cI cJ cZ a hA nA gr li st sp (nI n) (nI m) nu ev od fp ti wc wu sc pv su sd (nI t) ++ wM cI cJ cZ b (nI n) gr li st nu (nI t) sd lea pa pt pp su2 sh tt) [(0, .ref scr), (1, .ref (a 0)), (2, .ref (b 0)), (3, .int (nI i))] 907 [] := by
      intro hA nA gr li st sp n m nu ev od fp ti wc wu sc pv su sd t lea pa pt pp su2 sh tt I2 h4
      refine g_iinc C (z := 3) (nI (i + 4)) [(3, .int (nI (i + 4))), (0, .ref scr), (1, .ref (a 0)), (2, .ref (b 0))] dL_law_907 rfl (nI_add i 4) (by decide) rfl (q := 910) rfl ?_
      refine g_goto C (q := 18) dL_law_910 (by decide) ?_
      refine g_locs C [(0, .ref scr), (1, .ref (a 0)), (2, .ref (b 0)), (3, .int (nI (i + 4)))] [1, 2, 3, 0] rfl ?_
      exact ih hA nA gr li st sp n m nu ev od fp ti wc wu sc pv su sd t lea pa pt pp su2 sh tt (i + 4) I2 (by omega) (by omega)
    refine g_iload_n C 3 dL_law_18 rfl rfl rfl (q := 19) ?_
    refine g_aload_n C 0 dL_law_19 rfl rfl rfl (q := 20) ?_
    refine g_slen C (fun s h => h.2.2) dL_law_20 (q := 21) rfl ?_
    refine g_iconst C (nI 4) dL_law_21 (by decide) (q := 22) rfl ?_
    refine g_isub C dL_law_22 (q := 23) rfl ?_
    refine g_icmp_gt C (t := 913) dL_law_23 (by decide) (q := 26) rfl (fun c_23 => ?_) (fun c_23 => ?_)
    · refine g_iconst C (nI 1) dL_law_913 (by decide) (q := 914) rfl ?_
      exact hend _ _
    · have h4 : i + 4 ≤ Ls := w_le hLs (by omega) c_23
      refine g_aload_n C 0 dL_law_26 rfl rfl rfl (q := 27) ?_
      refine g_iload_n C 3 dL_law_27 rfl rfl rfl (q := 28) ?_
      refine g_sld C (fun s h => h.2.2) (vp_in_nI (by omega) (by omega)) dL_law_28 (q := 29) rfl ?_
      refine g_bipush C (nI 31) dL_law_29 (by decide) (q := 31) rfl ?_
      refine g_iand C dL_law_31 (q := 32) rfl ?_
      obtain ⟨j, hj, ej⟩ := pk_andE (xs (nI i).toNatClampNeg) (m := nI 31) 5 (by decide +kernel)
      refine g_eqi C (y := nI j) ej ?_
      rcases (show j = 0 ∨ j = 1 ∨ j = 2 ∨ j = 3 ∨ j = 4 ∨ j = 5 ∨ j = 6 ∨ j = 7 ∨ j = 8 ∨ j = 9 ∨ j = 10 ∨ j = 11 ∨ j = 12 ∨ j = 13 ∨ j = 14 ∨ j = 15 ∨ j = 16 ∨ j = 17 ∨ j = 18 ∨ j = 19 ∨ j = 20 ∨ j = 21 ∨ j = 22 ∨ 23 ≤ j by omega) with rfl | rfl | rfl | rfl | rfl | rfl | rfl | rfl | rfl | rfl | rfl | rfl | rfl | rfl | rfl | rfl | rfl | rfl | rfl | rfl | rfl | rfl | rfl | hj2
      · refine g_tableIn C (off := 108) dL_law_32 (by decide +kernel) (by decide +kernel) (by decide +kernel) (q := 140) (by decide) ?_
        exact L_line C I h4 hLs (fun hA nA gr li st sp n m nu ev od fp ti wc wu sc pv su sd t lea pa pt pp su2 sh tt I2 => hbk hA nA gr li st sp n m nu ev od fp ti wc wu sc pv su sd t lea pa pt pp su2 sh tt I2 h4)
      · refine g_tableIn C (off := 131) dL_law_32 (by decide +kernel) (by decide +kernel) (by decide +kernel) (q := 163) (by decide) ?_
        exact L_cell C I h4 hLs (fun hA nA gr li st sp n m nu ev od fp ti wc wu sc pv su sd t lea pa pt pp su2 sh tt I2 => hbk hA nA gr li st sp n m nu ev od fp ti wc wu sc pv su sd t lea pa pt pp su2 sh tt I2 h4)
      · refine g_tableIn C (off := 174) dL_law_32 (by decide +kernel) (by decide +kernel) (by decide +kernel) (q := 206) (by decide) ?_
        exact L_stop C I h4 hLs (fun hA nA gr li st sp n m nu ev od fp ti wc wu sc pv su sd t lea pa pt pp su2 sh tt I2 => hbk hA nA gr li st sp n m nu ev od fp ti wc wu sc pv su sd t lea pa pt pp su2 sh tt I2 h4)
      · refine g_tableIn C (off := 223) dL_law_32 (by decide +kernel) (by decide +kernel) (by decide +kernel) (q := 255) (by decide) ?_
        exact L_train C I h4 hLs (fun hA nA gr li st sp n m nu ev od fp ti wc wu sc pv su sd t lea pa pt pp su2 sh tt I2 => hbk hA nA gr li st sp n m nu ev od fp ti wc wu sc pv su sd t lea pa pt pp su2 sh tt I2 h4)
      · refine g_tableIn C (off := 256) dL_law_32 (by decide +kernel) (by decide +kernel) (by decide +kernel) (q := 288) (by decide) ?_
        exact L_has C I h4 hLs (fun hA nA gr li st sp n m nu ev od fp ti wc wu sc pv su sd t lea pa pt pp su2 sh tt I2 => hbk hA nA gr li st sp n m nu ev od fp ti wc wu sc pv su sd t lea pa pt pp su2 sh tt I2 h4)
      · refine g_tableIn C (off := 279) dL_law_32 (by decide +kernel) (by decide +kernel) (by decide +kernel) (q := 311) (by decide) ?_
        exact L_leg C I h4 hLs (fun hA nA gr li st sp n m nu ev od fp ti wc wu sc pv su sd t lea pa pt pp su2 sh tt I2 => hbk hA nA gr li st sp n m nu ev od fp ti wc wu sc pv su sd t lea pa pt pp su2 sh tt I2 h4)
      · refine g_tableIn C (off := 328) dL_law_32 (by decide +kernel) (by decide +kernel) (by decide +kernel) (q := 360) (by decide) ?_
        exact L_force C I h4 hLs (fun hA nA gr li st sp n m nu ev od fp ti wc wu sc pv su sd t lea pa pt pp su2 sh tt I2 => hbk hA nA gr li st sp n m nu ev od fp ti wc wu sc pv su sd t lea pa pt pp su2 sh tt I2 h4)
      · refine g_tableIn C (off := 371) dL_law_32 (by decide +kernel) (by decide +kernel) (by decide +kernel) (q := 403) (by decide) ?_
        exact L_fault C I h4 hLs (fun hA nA gr li st sp n m nu ev od fp ti wc wu sc pv su sd t lea pa pt pp su2 sh tt I2 => hbk hA nA gr li st sp n m nu ev od fp ti wc wu sc pv su sd t lea pa pt pp su2 sh tt I2 h4)
      · refine g_tableIn C (off := 414) dL_law_32 (by decide +kernel) (by decide +kernel) (by decide +kernel) (q := 446) (by decide) ?_
        exact L_time C I h4 hLs (fun hA nA gr li st sp n m nu ev od fp ti wc wu sc pv su sd t lea pa pt pp su2 sh tt I2 => hbk hA nA gr li st sp n m nu ev od fp ti wc wu sc pv su sd t lea pa pt pp su2 sh tt I2 h4)
      · refine g_tableIn C (off := 457) dL_law_32 (by decide +kernel) (by decide +kernel) (by decide +kernel) (q := 489) (by decide) ?_
        exact L_power C I h4 hLs (fun hA nA gr li st sp n m nu ev od fp ti wc wu sc pv su sd t lea pa pt pp su2 sh tt I2 => hbk hA nA gr li st sp n m nu ev od fp ti wc wu sc pv su sd t lea pa pt pp su2 sh tt I2 h4)
      · refine g_tableIn C (off := 500) dL_law_32 (by decide +kernel) (by decide +kernel) (by decide +kernel) (q := 532) (by decide) ?_
        exact L_fastest C I h4 hLs (fun hA nA gr li st sp n m nu ev od fp ti wc wu sc pv su sd t lea pa pt pp su2 sh tt I2 => hbk hA nA gr li st sp n m nu ev od fp ti wc wu sc pv su sd t lea pa pt pp su2 sh tt I2 h4)
      · refine g_tableIn C (off := 523) dL_law_32 (by decide +kernel) (by decide +kernel) (by decide +kernel) (q := 555) (by decide) ?_
        exact L_best C I h4 hLs (fun hA nA gr li st sp n m nu ev od fp ti wc wu sc pv su sd t lea pa pt pp su2 sh tt I2 => hbk hA nA gr li st sp n m nu ev od fp ti wc wu sc pv su sd t lea pa pt pp su2 sh tt I2 h4)
      · refine g_tableIn C (off := 556) dL_law_32 (by decide +kernel) (by decide +kernel) (by decide +kernel) (q := 588) (by decide) ?_
        exact L_bestTime C I h4 hLs (fun hA nA gr li st sp n m nu ev od fp ti wc wu sc pv su sd t lea pa pt pp su2 sh tt I2 => hbk hA nA gr li st sp n m nu ev od fp ti wc wu sc pv su sd t lea pa pt pp su2 sh tt I2 h4)
      · refine g_tableIn C (off := 589) dL_law_32 (by decide +kernel) (by decide +kernel) (by decide +kernel) (q := 621) (by decide) ?_
        exact L_bestSpeed C I h4 hLs (fun hA nA gr li st sp n m nu ev od fp ti wc wu sc pv su sd t lea pa pt pp su2 sh tt I2 => hbk hA nA gr li st sp n m nu ev od fp ti wc wu sc pv su sd t lea pa pt pp su2 sh tt I2 h4)
      · refine g_tableIn C (off := 632) dL_law_32 (by decide +kernel) (by decide +kernel) (by decide +kernel) (q := 664) (by decide) ?_
        exact L_curve C I h4 hLs (fun hA nA gr li st sp n m nu ev od fp ti wc wu sc pv su sd t lea pa pt pp su2 sh tt I2 => hbk hA nA gr li st sp n m nu ev od fp ti wc wu sc pv su sd t lea pa pt pp su2 sh tt I2 h4)
      · refine g_tableIn C (off := 655) dL_law_32 (by decide +kernel) (by decide +kernel) (by decide +kernel) (q := 687) (by decide) ?_
        exact L_point C I h4 hLs (fun hA nA gr li st sp n m nu ev od fp ti wc wu sc pv su sd t lea pa pt pp su2 sh tt I2 => hbk hA nA gr li st sp n m nu ev od fp ti wc wu sc pv su sd t lea pa pt pp su2 sh tt I2 h4)
      · refine g_tableIn C (off := 714) dL_law_32 (by decide +kernel) (by decide +kernel) (by decide +kernel) (q := 746) (by decide) ?_
        exact L_share C I h4 hLs (fun hA nA gr li st sp n m nu ev od fp ti wc wu sc pv su sd t lea pa pt pp su2 sh tt I2 => hbk hA nA gr li st sp n m nu ev od fp ti wc wu sc pv su sd t lea pa pt pp su2 sh tt I2 h4)
      · refine g_tableIn C (off := 737) dL_law_32 (by decide +kernel) (by decide +kernel) (by decide +kernel) (q := 769) (by decide) ?_
        exact L_shareTime C I h4 hLs (fun hA nA gr li st sp n m nu ev od fp ti wc wu sc pv su sd t lea pa pt pp su2 sh tt I2 => hbk hA nA gr li st sp n m nu ev od fp ti wc wu sc pv su sd t lea pa pt pp su2 sh tt I2 h4)
      · refine g_tableIn C (off := 770) dL_law_32 (by decide +kernel) (by decide +kernel) (by decide +kernel) (q := 802) (by decide) ?_
        exact L_needs C I h4 hLs (fun hA nA gr li st sp n m nu ev od fp ti wc wu sc pv su sd t lea pa pt pp su2 sh tt I2 => hbk hA nA gr li st sp n m nu ev od fp ti wc wu sc pv su sd t lea pa pt pp su2 sh tt I2 h4)
      · refine g_tableIn C (off := 793) dL_law_32 (by decide +kernel) (by decide +kernel) (by decide +kernel) (q := 825) (by decide) ?_
        exact L_log C I h4 hLs (fun hA nA gr li st sp n m nu ev od fp ti wc wu sc pv su sd t lea pa pt pp su2 sh tt I2 => hbk hA nA gr li st sp n m nu ev od fp ti wc wu sc pv su sd t lea pa pt pp su2 sh tt I2 h4)
      · refine g_tableIn C (off := 816) dL_law_32 (by decide +kernel) (by decide +kernel) (by decide +kernel) (q := 848) (by decide) ?_
        exact L_clear C I h4 hLs (fun hA nA gr li st sp n m nu ev od fp ti wc wu sc pv su sd t lea pa pt pp su2 sh tt I2 => hbk hA nA gr li st sp n m nu ev od fp ti wc wu sc pv su sd t lea pa pt pp su2 sh tt I2 h4)
      · refine g_tableIn C (off := 829) dL_law_32 (by decide +kernel) (by decide +kernel) (by decide +kernel) (q := 861) (by decide) ?_
        exact L_judged C I h4 hLs (fun hA nA gr li st sp n m nu ev od fp ti wc wu sc pv su sd t lea pa pt pp su2 sh tt I2 => hbk hA nA gr li st sp n m nu ev od fp ti wc wu sc pv su sd t lea pa pt pp su2 sh tt I2 h4)
      · refine g_tableIn C (off := 852) dL_law_32 (by decide +kernel) (by decide +kernel) (by decide +kernel) (q := 884) (by decide) ?_
        exact L_count C I h4 hLs (fun hA nA gr li st sp n m nu ev od fp ti wc wu sc pv su sd t lea pa pt pp su2 sh tt I2 => hbk hA nA gr li st sp n m nu ev od fp ti wc wu sc pv su sd t lea pa pt pp su2 sh tt I2 h4)
      · refine g_tableOut C dL_law_32 (Or.inr (by rw [nI_toInt (by omega)]; omega)) (q := 907) (by decide) ?_
        exact hbk hA nA gr li st sp n m nu ev od fp ti wc wu sc pv su sd t lea pa pt pp su2 sh tt I h4
set_option maxHeartbeats 4000000 in
set_option maxRecDepth 100000 in
/-- the law from its entry, over the judgement -/
theorem L_start {l : Launch} {D : va_G} {cI cJ cZ : ClassId} {A : Nat → Prop} {rT rL rM scr Ls : Nat} {xs : Nat → Int32} {G : Nat → Nat → va_W → LL → Nat → List Value → Prop} (C : GB l D (tyT cI cJ cZ) A (FLw cI rT rL rM scr Ls xs A) room_1 cL_law 4 RL wsL_law false false G) (hend : ∀ (w : va_W) (L : LL), G 31 165904 w L 914 [.int (nI 1)]) (hLs : Ls ≤ 2048) : G 0 0 [] [(0, .ref scr)] 0 [] := by
  show G 0 0 [] [(0, .ref scr)] 0 []
  refine g_new C (fun s h => h.1.1) (Cn := RX6) (T := TX6) (N := 6) (ci := 6) [.null, .null, .null, .null, .null, .null] dL_law_0 inlX6 tyX6_ok (List.mem_of_getElem? (i := 0) (by decide +kernel)) (List.mem_of_getElem? (i := 1) (by decide +kernel)) (List.mem_of_getElem? (i := 2) (by decide +kernel)) rfl (fun j hj => by rcases (show j = 0 ∨ j = 1 ∨ j = 2 ∨ j = 3 ∨ j = 4 ∨ j = 5 by omega) with rfl | rfl | rfl | rfl | rfl | rfl <;> rfl) (Nat.le_of_ble_eq_true rfl) (Nat.le_of_ble_eq_true rfl) (q := 3) rfl (fun q0 => ?_)
  show G 1 6 ([(q0, .inr (6, [.null, .null, .null, .null, .null, .null]))]) [(0, .ref scr)] 3 [.ref q0]
  refine g_dup C dL_law_3 rfl (q := 4) rfl ?_
  refine gcI_sfx C (fun s h => h.1.1) (FF := FK cI rT) (n := 0) (As := []) (st := [.ref q0]) ([]) [(q0, .inr (6, [.null, .null, .null, .null, .null, .null]))] rfl dL_law_4 gL_law_X6_init (List.mem_of_getElem? (i := 2) (by decide +kernel)) (List.mem_of_getElem? (i := 6) (by decide +kernel)) (List.mem_of_getElem? (i := 7) (by decide +kernel)) rfl (fun A1 => c_X6_init l D cI cJ cZ A1 rT q0) rfl rfl rfl (by decide +kernel) ⟨Nat.le_of_ble_eq_true rfl, Nat.le_of_ble_eq_true rfl⟩ rfl rfl (Nat.le_of_ble_eq_true rfl) (fun _ => FK_b) (fun _ _ _ _ _ h hI hH hv h1 h2 => FK_h h.1 hI hH hv h1 h2) ⟨Nat.le_of_ble_eq_true rfl, Nat.le_of_ble_eq_true rfl⟩ (q := 7) rfl (fun u_4 h_4 => ?_)
  obtain ⟨a, sp⟩ := u_4
  obtain ⟨ea, hL⟩ := h_4
  have ea : a 0 = q0 := ea
  subst ea
  generalize hm0 : cnt (stL 1) (1 + 1) - 1 = m0 at hL ⊢
  show G 20 10664 (wC cI cJ cZ a (a 11) (a 12) (fun _ => nI 0) (fun _ => nI 6) (stL 1) sp (nI 1) (nI m0) tr0 (fun _ => (0 : Int64)) (fun _ => (0 : Int64)) (fun _ => nI 0) (fun _ => nI 0) (fun _ => (0 : Int64)) (nI 0) (fun _ => (0 : Int64)) (fun _ => (0 : Int64)) (nI 0) (fun _ => nI 0) (nI 0)) [(0, .ref scr)] 7 [.ref (a 0)]
  refine g_astore_n C [(1, .ref (a 0)), (0, .ref scr)] dL_law_7 rfl (by decide) rfl (q := 8) rfl ?_
  refine g_new C (fun s h => h.1.1) (Cn := RX7) (T := TX7) (N := 14) (ci := 7) [.int (nI 0), .null, .null, .null, .null, .int (nI 0), .null, .null, .int (nI 0), .null, .null, .int (nI 0), .null, .null] dL_law_8 inlX7 tyX7_ok (List.mem_of_getElem? (i := 3) (by decide +kernel)) (List.mem_of_getElem? (i := 4) (by decide +kernel)) (List.mem_of_getElem? (i := 5) (by decide +kernel)) rfl (fun j hj => by rcases (show j = 0 ∨ j = 1 ∨ j = 2 ∨ j = 3 ∨ j = 4 ∨ j = 5 ∨ j = 6 ∨ j = 7 ∨ j = 8 ∨ j = 9 ∨ j = 10 ∨ j = 11 ∨ j = 12 ∨ j = 13 by omega) with rfl | rfl | rfl | rfl | rfl | rfl | rfl | rfl | rfl | rfl | rfl | rfl | rfl | rfl <;> rfl) (Nat.le_of_ble_eq_true rfl) (Nat.le_of_ble_eq_true rfl) (q := 11) rfl (fun q8 => ?_)
  show G 21 10678 (wC cI cJ cZ a (a 11) (a 12) (fun _ => nI 0) (fun _ => nI 6) (stL 1) sp (nI 1) (nI m0) tr0 (fun _ => (0 : Int64)) (fun _ => (0 : Int64)) (fun _ => nI 0) (fun _ => nI 0) (fun _ => (0 : Int64)) (nI 0) (fun _ => (0 : Int64)) (fun _ => (0 : Int64)) (nI 0) (fun _ => nI 0) (nI 0) ++ [(q8, .inr (7, [.int (nI 0), .null, .null, .null, .null, .int (nI 0), .null, .null, .int (nI 0), .null, .null, .int (nI 0), .null, .null]))]) [(1, .ref (a 0)), (0, .ref scr)] 11 [.ref q8]
  refine g_dup C dL_law_11 rfl (q := 12) rfl ?_
  refine gcI_sfx C (fun s h => h.1.1) (FF := FK cI rT) (n := 0) (As := []) (st := [.ref q8]) (wC cI cJ cZ a (a 11) (a 12) (fun _ => nI 0) (fun _ => nI 6) (stL 1) sp (nI 1) (nI m0) tr0 (fun _ => (0 : Int64)) (fun _ => (0 : Int64)) (fun _ => nI 0) (fun _ => nI 0) (fun _ => (0 : Int64)) (nI 0) (fun _ => (0 : Int64)) (fun _ => (0 : Int64)) (nI 0) (fun _ => nI 0) (nI 0)) [(q8, .inr (7, [.int (nI 0), .null, .null, .null, .null, .int (nI 0), .null, .null, .int (nI 0), .null, .null, .int (nI 0), .null, .null]))] rfl dL_law_12 gL_law_X7_init (List.mem_of_getElem? (i := 5) (by decide +kernel)) (List.mem_of_getElem? (i := 103) (by decide +kernel)) (List.mem_of_getElem? (i := 104) (by decide +kernel)) rfl (fun A1 => c_X7_init l D cI cJ cZ A1 rT q8) rfl rfl rfl (by decide +kernel) ⟨Nat.le_of_ble_eq_true rfl, Nat.le_of_ble_eq_true rfl⟩ rfl rfl (Nat.le_of_ble_eq_true rfl) (fun _ => FK_b) (fun _ _ _ _ _ h hI hH hv h1 h2 => FK_h h.1 hI hH hv h1 h2) ⟨Nat.le_of_ble_eq_true rfl, Nat.le_of_ble_eq_true rfl⟩ (q := 15) rfl (fun u_12 h_12 => ?_)
  obtain ⟨b, eb⟩ : ∃ z, z = u_12 := ⟨_, rfl⟩
  subst eb
  have eb : b 0 = q8 := h_12
  subst eb
  show G 31 165904 (wC cI cJ cZ a (a 11) (a 12) (fun _ => nI 0) (fun _ => nI 6) (stL 1) sp (nI 1) (nI m0) tr0 (fun _ => (0 : Int64)) (fun _ => (0 : Int64)) (fun _ => nI 0) (fun _ => nI 0) (fun _ => (0 : Int64)) (nI 0) (fun _ => (0 : Int64)) (fun _ => (0 : Int64)) (nI 0) (fun _ => nI 0) (nI 0) ++ wM cI cJ cZ b (nI 1) (fun _ => nI 0) (fun _ => nI 6) (stL 1) tr0 (nI 0) (fun _ => nI 0) (fun _ => nI 0) (nI 0) (fun _ => nI 0) (fun _ => nI 0) (nI 0) (fun _ => nI 0) (fun _ => nI 0)) [(1, .ref (a 0)), (0, .ref scr)] 15 [.ref (b 0)]
  refine g_astore_n C [(2, .ref (b 0)), (1, .ref (a 0)), (0, .ref scr)] dL_law_15 rfl (by decide) rfl (q := 16) rfl ?_
  refine g_iconst C (nI 0) dL_law_16 (by decide) (q := 17) rfl ?_
  refine g_istore_n C [(3, .int (nI 0)), (2, .ref (b 0)), (1, .ref (a 0)), (0, .ref scr)] dL_law_17 rfl (by decide) rfl (q := 18) rfl ?_
  refine g_locs C [(0, .ref scr), (1, .ref (a 0)), (2, .ref (b 0)), (3, .int (nI 0))] [3, 2, 1, 0] rfl ?_
  exact L_loop C hend hLs (Ls + 5) (a 11) (a 12) (fun _ => nI 0) (fun _ => nI 6) (stL 1) sp 1 m0 tr0 (fun _ => (0 : Int64)) (fun _ => (0 : Int64)) (fun _ => nI 0) (fun _ => nI 0) (fun _ => (0 : Int64)) (nI 0) (fun _ => (0 : Int64)) (fun _ => (0 : Int64)) (nI 0) (fun _ => nI 0) 0 (fun _ => nI 0) (nI 0) (fun _ => nI 0) (fun _ => nI 0) (nI 0) (fun _ => nI 0) (fun _ => nI 0) 0 ⟨hL, tr0_ok, Or.inl ⟨rfl, rfl⟩, Or.inl rfl, Or.inl rfl, Nat.zero_le _, ⟨fun _ => 0, fun _ => ⟨rfl, Nat.zero_le _⟩⟩, Or.inl rfl⟩ (by omega) (by omega)
