section
-- ===== PART A: goes FIRST, ahead of the names: the tables' words, and 'selects' of the private methods out of them =====
/-- a private method of a class that the tables say can be made, by its rows of tables_1 -/
def lw_okq (q : MethodName × Nat) : Prop := (q.1.cls ≠ "java/lang/invoke/MethodHandle" ∧ q.1.cls ≠ "java/lang/invoke/VarHandle") ∧ Cond.instantiable q.1.cls q.2 ∈ tables_1 ∧ Cond.privateMethod q.1 ∈ tables_1 ∧ Cond.instanceMethod q.1 ∈ tables_1
theorem lw_p0 : lw_okq (⟨"CoastPull$Line", "findLegs", "()V"⟩, 6) := ⟨⟨by decide +kernel, by decide +kernel⟩, List.mem_of_getElem? (i := 20) (by decide +kernel), List.mem_of_getElem? (i := 30) (by decide +kernel), List.mem_of_getElem? (i := 31) (by decide +kernel)⟩
theorem lw_p1 : lw_okq (⟨"CoastPull", "forgetChoices", "()V"⟩, 6) := ⟨⟨by decide +kernel, by decide +kernel⟩, List.mem_of_getElem? (i := 12) (by decide +kernel), List.mem_of_getElem? (i := 192) (by decide +kernel), List.mem_of_getElem? (i := 193) (by decide +kernel)⟩
theorem lw_p2 : lw_okq (⟨"CoastPull", "stepRefusal", "(III)I"⟩, 6) := ⟨⟨by decide +kernel, by decide +kernel⟩, List.mem_of_getElem? (i := 12) (by decide +kernel), List.mem_of_getElem? (i := 288) (by decide +kernel), List.mem_of_getElem? (i := 289) (by decide +kernel)⟩
theorem lw_p3 : lw_okq (⟨"CoastPull$Ways", "driveOver", "(I)[J"⟩, 8) := ⟨⟨by decide +kernel, by decide +kernel⟩, List.mem_of_getElem? (i := 87) (by decide +kernel), List.mem_of_getElem? (i := 346) (by decide +kernel), List.mem_of_getElem? (i := 347) (by decide +kernel)⟩
theorem lw_p4 : lw_okq (⟨"CoastPull$Ways", "driveThrough", "(IIZ[J[J)V"⟩, 8) := ⟨⟨by decide +kernel, by decide +kernel⟩, List.mem_of_getElem? (i := 87) (by decide +kernel), List.mem_of_getElem? (i := 356) (by decide +kernel), List.mem_of_getElem? (i := 357) (by decide +kernel)⟩
theorem lw_p5 : lw_okq (⟨"CoastPull$Ways", "gatherPairs", "([JI)I"⟩, 8) := ⟨⟨by decide +kernel, by decide +kernel⟩, List.mem_of_getElem? (i := 87) (by decide +kernel), List.mem_of_getElem? (i := 372) (by decide +kernel), List.mem_of_getElem? (i := 373) (by decide +kernel)⟩
theorem lw_p6 : lw_okq (⟨"CoastPull", "driveRefusal", "(II)I"⟩, 6) := ⟨⟨by decide +kernel, by decide +kernel⟩, List.mem_of_getElem? (i := 12) (by decide +kernel), List.mem_of_getElem? (i := 389) (by decide +kernel), List.mem_of_getElem? (i := 390) (by decide +kernel)⟩
theorem lw_p7 : lw_okq (⟨"CoastPull$Shares", "bestFrom", "(II)J"⟩, 5) := ⟨⟨by decide +kernel, by decide +kernel⟩, List.mem_of_getElem? (i := 119) (by decide +kernel), List.mem_of_getElem? (i := 436) (by decide +kernel), List.mem_of_getElem? (i := 437) (by decide +kernel)⟩
theorem lw_p8 : lw_okq (⟨"CoastPull$Log", "isFaulty", "(I)Z"⟩, 4) := ⟨⟨by decide +kernel, by decide +kernel⟩, List.mem_of_getElem? (i := 141) (by decide +kernel), List.mem_of_getElem? (i := 497) (by decide +kernel), List.mem_of_getElem? (i := 498) (by decide +kernel)⟩
theorem lw_p9 : lw_okq (⟨"CoastPullModel", "begin", "(I)V"⟩, 14) := ⟨⟨by decide +kernel, by decide +kernel⟩, List.mem_of_getElem? (i := 529) (by decide +kernel), List.mem_of_getElem? (i := 536) (by decide +kernel), List.mem_of_getElem? (i := 537) (by decide +kernel)⟩
theorem lw_p10 : lw_okq (⟨"CoastPullModel", "isCell", "(I)Z"⟩, 14) := ⟨⟨by decide +kernel, by decide +kernel⟩, List.mem_of_getElem? (i := 529) (by decide +kernel), List.mem_of_getElem? (i := 594) (by decide +kernel), List.mem_of_getElem? (i := 595) (by decide +kernel)⟩
theorem lw_p11 : lw_okq (⟨"CoastPullModel", "legs", "()I"⟩, 14) := ⟨⟨by decide +kernel, by decide +kernel⟩, List.mem_of_getElem? (i := 529) (by decide +kernel), List.mem_of_getElem? (i := 602) (by decide +kernel), List.mem_of_getElem? (i := 603) (by decide +kernel)⟩
theorem lw_p12 : lw_okq (⟨"CoastPullModel", "isLeg", "(I)Z"⟩, 14) := ⟨⟨by decide +kernel, by decide +kernel⟩, List.mem_of_getElem? (i := 529) (by decide +kernel), List.mem_of_getElem? (i := 618) (by decide +kernel), List.mem_of_getElem? (i := 619) (by decide +kernel)⟩
theorem lw_p13 : lw_okq (⟨"CoastPullModel", "endOf", "(I)I"⟩, 14) := ⟨⟨by decide +kernel, by decide +kernel⟩, List.mem_of_getElem? (i := 529) (by decide +kernel), List.mem_of_getElem? (i := 622) (by decide +kernel), List.mem_of_getElem? (i := 623) (by decide +kernel)⟩
theorem lw_p14 : lw_okq (⟨"CoastPullModel", "firstOf", "(I)I"⟩, 14) := ⟨⟨by decide +kernel, by decide +kernel⟩, List.mem_of_getElem? (i := 529) (by decide +kernel), List.mem_of_getElem? (i := 626) (by decide +kernel), List.mem_of_getElem? (i := 627) (by decide +kernel)⟩
theorem lw_p15 : lw_okq (⟨"CoastPullModel", "forceOf", "(III)I"⟩, 14) := ⟨⟨by decide +kernel, by decide +kernel⟩, List.mem_of_getElem? (i := 529) (by decide +kernel), List.mem_of_getElem? (i := 637) (by decide +kernel), List.mem_of_getElem? (i := 638) (by decide +kernel)⟩
def lw_privs_1 : List (MethodName × Nat) := [(⟨"CoastPull$Line", "findLegs", "()V"⟩, 6), (⟨"CoastPull", "forgetChoices", "()V"⟩, 6), (⟨"CoastPull", "stepRefusal", "(III)I"⟩, 6), (⟨"CoastPull$Ways", "driveOver", "(I)[J"⟩, 8), (⟨"CoastPull$Ways", "driveThrough", "(IIZ[J[J)V"⟩, 8), (⟨"CoastPull$Ways", "gatherPairs", "([JI)I"⟩, 8), (⟨"CoastPull", "driveRefusal", "(II)I"⟩, 6), (⟨"CoastPull$Shares", "bestFrom", "(II)J"⟩, 5), (⟨"CoastPull$Log", "isFaulty", "(I)Z"⟩, 4), (⟨"CoastPullModel", "begin", "(I)V"⟩, 14), (⟨"CoastPullModel", "isCell", "(I)Z"⟩, 14), (⟨"CoastPullModel", "legs", "()I"⟩, 14), (⟨"CoastPullModel", "isLeg", "(I)Z"⟩, 14), (⟨"CoastPullModel", "endOf", "(I)I"⟩, 14), (⟨"CoastPullModel", "firstOf", "(I)I"⟩, 14), (⟨"CoastPullModel", "forceOf", "(III)I"⟩, 14)]
theorem lw_r1 : ∀ q ∈ lw_privs_1, lw_okq q := List.forall_mem_cons.mpr ⟨lw_p0, List.forall_mem_cons.mpr ⟨lw_p1, List.forall_mem_cons.mpr ⟨lw_p2, List.forall_mem_cons.mpr ⟨lw_p3, List.forall_mem_cons.mpr ⟨lw_p4, List.forall_mem_cons.mpr ⟨lw_p5, List.forall_mem_cons.mpr ⟨lw_p6, List.forall_mem_cons.mpr ⟨lw_p7, List.forall_mem_cons.mpr ⟨lw_p8, List.forall_mem_cons.mpr ⟨lw_p9, List.forall_mem_cons.mpr ⟨lw_p10, List.forall_mem_cons.mpr ⟨lw_p11, List.forall_mem_cons.mpr ⟨lw_p12, List.forall_mem_cons.mpr ⟨lw_p13, List.forall_mem_cons.mpr ⟨lw_p14, List.forall_mem_cons.mpr ⟨lw_p15, fun _ h => absurd h List.not_mem_nil⟩⟩⟩⟩⟩⟩⟩⟩⟩⟩⟩⟩⟩⟩⟩⟩
theorem lw_p16 : lw_okq (⟨"CoastPullModel", "faultOf", "(III)I"⟩, 14) := ⟨⟨by decide +kernel, by decide +kernel⟩, List.mem_of_getElem? (i := 529) (by decide +kernel), List.mem_of_getElem? (i := 645) (by decide +kernel), List.mem_of_getElem? (i := 646) (by decide +kernel)⟩
theorem lw_p17 : lw_okq (⟨"CoastPullModel", "powerOf", "(III)I"⟩, 14) := ⟨⟨by decide +kernel, by decide +kernel⟩, List.mem_of_getElem? (i := 529) (by decide +kernel), List.mem_of_getElem? (i := 659) (by decide +kernel), List.mem_of_getElem? (i := 660) (by decide +kernel)⟩
theorem lw_p18 : lw_okq (⟨"CoastPullModel", "work", "(I)V"⟩, 14) := ⟨⟨by decide +kernel, by decide +kernel⟩, List.mem_of_getElem? (i := 529) (by decide +kernel), List.mem_of_getElem? (i := 667) (by decide +kernel), List.mem_of_getElem? (i := 668) (by decide +kernel)⟩
theorem lw_p19 : lw_okq (⟨"CoastPullModel", "place", "(II)I"⟩, 14) := ⟨⟨by decide +kernel, by decide +kernel⟩, List.mem_of_getElem? (i := 529) (by decide +kernel), List.mem_of_getElem? (i := 671) (by decide +kernel), List.mem_of_getElem? (i := 672) (by decide +kernel)⟩
theorem lw_p20 : lw_okq (⟨"CoastPullModel", "carry", "(III)V"⟩, 14) := ⟨⟨by decide +kernel, by decide +kernel⟩, List.mem_of_getElem? (i := 529) (by decide +kernel), List.mem_of_getElem? (i := 676) (by decide +kernel), List.mem_of_getElem? (i := 677) (by decide +kernel)⟩
theorem lw_p21 : lw_okq (⟨"CoastPullModel", "bestOf", "(II)I"⟩, 14) := ⟨⟨by decide +kernel, by decide +kernel⟩, List.mem_of_getElem? (i := 529) (by decide +kernel), List.mem_of_getElem? (i := 688) (by decide +kernel), List.mem_of_getElem? (i := 689) (by decide +kernel)⟩
theorem lw_p22 : lw_okq (⟨"CoastPullModel", "isOn", "(IIII)Z"⟩, 14) := ⟨⟨by decide +kernel, by decide +kernel⟩, List.mem_of_getElem? (i := 529) (by decide +kernel), List.mem_of_getElem? (i := 697) (by decide +kernel), List.mem_of_getElem? (i := 698) (by decide +kernel)⟩
theorem lw_p23 : lw_okq (⟨"CoastPullModel", "draw", "(I)V"⟩, 14) := ⟨⟨by decide +kernel, by decide +kernel⟩, List.mem_of_getElem? (i := 529) (by decide +kernel), List.mem_of_getElem? (i := 705) (by decide +kernel), List.mem_of_getElem? (i := 706) (by decide +kernel)⟩
theorem lw_p24 : lw_okq (⟨"CoastPullModel", "shareAll", "()V"⟩, 14) := ⟨⟨by decide +kernel, by decide +kernel⟩, List.mem_of_getElem? (i := 529) (by decide +kernel), List.mem_of_getElem? (i := 717) (by decide +kernel), List.mem_of_getElem? (i := 718) (by decide +kernel)⟩
def lw_privs_2 : List (MethodName × Nat) := [(⟨"CoastPullModel", "faultOf", "(III)I"⟩, 14), (⟨"CoastPullModel", "powerOf", "(III)I"⟩, 14), (⟨"CoastPullModel", "work", "(I)V"⟩, 14), (⟨"CoastPullModel", "place", "(II)I"⟩, 14), (⟨"CoastPullModel", "carry", "(III)V"⟩, 14), (⟨"CoastPullModel", "bestOf", "(II)I"⟩, 14), (⟨"CoastPullModel", "isOn", "(IIII)Z"⟩, 14), (⟨"CoastPullModel", "draw", "(I)V"⟩, 14), (⟨"CoastPullModel", "shareAll", "()V"⟩, 14)]
theorem lw_r2 : ∀ q ∈ lw_privs_2, lw_okq q := List.forall_mem_cons.mpr ⟨lw_p16, List.forall_mem_cons.mpr ⟨lw_p17, List.forall_mem_cons.mpr ⟨lw_p18, List.forall_mem_cons.mpr ⟨lw_p19, List.forall_mem_cons.mpr ⟨lw_p20, List.forall_mem_cons.mpr ⟨lw_p21, List.forall_mem_cons.mpr ⟨lw_p22, List.forall_mem_cons.mpr ⟨lw_p23, List.forall_mem_cons.mpr ⟨lw_p24, fun _ h => absurd h List.not_mem_nil⟩⟩⟩⟩⟩⟩⟩⟩⟩
def lw_privs : List (MethodName × Nat) := lw_privs_1 ++ (lw_privs_2)
def lw_tbl : List Cond := k2_sels lw_privs ++ tables_1
theorem lw_privs_ok : ∀ q ∈ lw_privs, lw_okq q := by
  show ∀ q ∈ lw_privs_1 ++ (lw_privs_2), lw_okq q
  exact List.forall_mem_append.mpr ⟨lw_r1, lw_r2⟩
/-! ===== BEGIN words of one list among another's, by their places ===== -/
theorem goodIn_r {big : List Cond} (ws : List Cond) (ps : List Nat) (hp : ws = ps.filterMap (fun i => big[i]?)) (h : ws.all goodWord = true) : GoodIn big ws := by
  intro w hw
  have h1 := List.all_eq_true.mp h w hw
  rw [hp] at hw
  obtain ⟨i, -, hi⟩ := List.mem_filterMap.mp hw
  have hm : w ∈ big := by first | exact List.mem_of_getElem? hi | exact List.getElem?_mem hi
  exact ⟨hm, good_of_word h1⟩
theorem goodIn_app {big a b : List Cond} (ha : GoodIn big a) (hb : GoodIn big b) : GoodIn big (a ++ b) := fun w h => (List.mem_append.mp h).elim (ha w) (hb w)
theorem goodIn_ca {big a b : List Cond} {c : Cond} (ha : GoodIn big (c :: a)) (hb : GoodIn big b) : GoodIn big (c :: (a ++ b)) := fun w h => (List.mem_cons.mp h).elim (fun e => ha w (List.mem_cons.mpr (Or.inl e))) (fun h => (List.mem_append.mp h).elim (fun h => ha w (List.mem_cons.mpr (Or.inr h))) (hb w))
theorem goodIn_sub {big ws : List Cond} (hm : ∀ w ∈ ws, w ∈ big) (h : ws.all goodWord = true) : GoodIn big ws := fun w hw => ⟨hm w hw, good_of_word (List.all_eq_true.mp h w hw)⟩
/-! ===== END ===== -/

/-! ===== BEGIN printed: names, fields, word lists, decode rows ===== -/
def RX0 : String := "CoastPull$Line"
def TX0 : u_T := fun k => match k with
  | 0 => ("CoastPull$Line", "grades", "[I", true)
  | 1 => ("CoastPull$Line", "limits", "[I", true)
  | 2 => ("CoastPull$Line", "stops", "[Z", true)
  | 3 => ("CoastPull$Line", "stopPosts", "[I", true)
  | 4 => ("CoastPull$Line", "cells", "I", false)
  | _ => ("CoastPull$Line", "legs", "I", false)
def tyX0 : Nat → FieldType := fun k => match k with
  | 0 => .array .int
  | 1 => .array .int
  | 2 => .array .boolean
  | 3 => .array .int
  | 4 => .int
  | _ => .int
abbrev wsX00 : List Cond := u_ws RX0 TX0 6
theorem nmX0 : ∀ a, a < 6 → ∀ b, b < 6 → a ≠ b → (TX0 a).2.1 ≠ (TX0 b).2.1 := by decide +kernel
theorem tyX0_ok : ∀ k, k < 6 → parseFieldDescriptor (TX0 k).2.2.1 = some (tyX0 k) := by decide +kernel
abbrev cX0_init : ByteArray := prog_2_method_1_code
def yX0_init : MethodName := ⟨RX0, "<init>", "()V"⟩
abbrev cX0_lay : ByteArray := prog_2_method_2_code
def yX0_lay : MethodName := ⟨RX0, "lay", "(I)V"⟩
abbrev cX0_shape : ByteArray := prog_2_method_3_code
def yX0_shape : MethodName := ⟨RX0, "shape", "(III)V"⟩
abbrev cX0_markStop : ByteArray := prog_2_method_4_code
def yX0_markStop : MethodName := ⟨RX0, "markStop", "(IZ)V"⟩
abbrev cX0_findLegs : ByteArray := prog_2_method_5_code
def yX0_findLegs : MethodName := ⟨RX0, "findLegs", "()V"⟩
abbrev cX0_cellCount : ByteArray := prog_2_method_6_code
def yX0_cellCount : MethodName := ⟨RX0, "cellCount", "()I"⟩
abbrev cX0_legCount : ByteArray := prog_2_method_7_code
def yX0_legCount : MethodName := ⟨RX0, "legCount", "()I"⟩
abbrev cX0_hasCell : ByteArray := prog_2_method_8_code
def yX0_hasCell : MethodName := ⟨RX0, "hasCell", "(I)Z"⟩
abbrev cX0_hasPost : ByteArray := prog_2_method_9_code
def yX0_hasPost : MethodName := ⟨RX0, "hasPost", "(I)Z"⟩
abbrev cX0_hasLeg : ByteArray := prog_2_method_10_code
def yX0_hasLeg : MethodName := ⟨RX0, "hasLeg", "(I)Z"⟩
abbrev cX0_isEnd : ByteArray := prog_2_method_11_code
def yX0_isEnd : MethodName := ⟨RX0, "isEnd", "(I)Z"⟩
abbrev cX0_isStop : ByteArray := prog_2_method_12_code
def yX0_isStop : MethodName := ⟨RX0, "isStop", "(I)Z"⟩
abbrev cX0_gradeOf : ByteArray := prog_2_method_13_code
def yX0_gradeOf : MethodName := ⟨RX0, "gradeOf", "(I)I"⟩
abbrev cX0_limitOf : ByteArray := prog_2_method_14_code
def yX0_limitOf : MethodName := ⟨RX0, "limitOf", "(I)I"⟩
abbrev cX0_firstPost : ByteArray := prog_2_method_15_code
def yX0_firstPost : MethodName := ⟨RX0, "firstPost", "(I)I"⟩
abbrev cX0_lastPost : ByteArray := prog_2_method_16_code
def yX0_lastPost : MethodName := ⟨RX0, "lastPost", "(I)I"⟩
def RX1 : String := "CoastPull$Log"
def TX1 : u_T := fun k => match k with
  | 0 => ("CoastPull$Log", "rails", "LCoastPull$Line;", true)
  | 1 => ("CoastPull$Log", "steps", "LCoastPull$Steps;", true)
  | 2 => ("CoastPull$Log", "speeds", "[I", true)
  | _ => ("CoastPull$Log", "told", "I", false)
def tyX1 : Nat → FieldType := fun k => match k with
  | 0 => .object "CoastPull$Line"
  | 1 => .object "CoastPull$Steps"
  | 2 => .array .int
  | _ => .int
abbrev wsX10 : List Cond := u_ws RX1 TX1 4
theorem nmX1 : ∀ a, a < 4 → ∀ b, b < 4 → a ≠ b → (TX1 a).2.1 ≠ (TX1 b).2.1 := by decide +kernel
theorem tyX1_ok : ∀ k, k < 4 → parseFieldDescriptor (TX1 k).2.2.1 = some (tyX1 k) := by decide +kernel
abbrev cX1_init : ByteArray := prog_3_method_1_code
def yX1_init : MethodName := ⟨RX1, "<init>", "(LCoastPull$Line;LCoastPull$Steps;)V"⟩
abbrev cX1_size : ByteArray := prog_3_method_2_code
def yX1_size : MethodName := ⟨RX1, "size", "()I"⟩
abbrev cX1_isFull : ByteArray := prog_3_method_3_code
def yX1_isFull : MethodName := ⟨RX1, "isFull", "()Z"⟩
abbrev cX1_add : ByteArray := prog_3_method_4_code
def yX1_add : MethodName := ⟨RX1, "add", "(I)V"⟩
abbrev cX1_wipe : ByteArray := prog_3_method_5_code
def yX1_wipe : MethodName := ⟨RX1, "wipe", "()V"⟩
abbrev cX1_isFaulty : ByteArray := prog_3_method_6_code
def yX1_isFaulty : MethodName := ⟨RX1, "isFaulty", "(I)Z"⟩
abbrev cX1_timeTogether : ByteArray := prog_3_method_7_code
def yX1_timeTogether : MethodName := ⟨RX1, "timeTogether", "()I"⟩
abbrev cX1_powerTogether : ByteArray := prog_3_method_8_code
def yX1_powerTogether : MethodName := ⟨RX1, "powerTogether", "()I"⟩
abbrev cX1_faultCount : ByteArray := prog_3_method_9_code
def yX1_faultCount : MethodName := ⟨RX1, "faultCount", "()I"⟩
abbrev cX1_firstFaultCell : ByteArray := prog_3_method_10_code
def yX1_firstFaultCell : MethodName := ⟨RX1, "firstFaultCell", "()I"⟩
abbrev cX1_stopsPassed : ByteArray := prog_3_method_11_code
def yX1_stopsPassed : MethodName := ⟨RX1, "stopsPassed", "()I"⟩
def RX2 : String := "CoastPull$Shares"
def TX2 : u_T := fun k => match k with
  | 0 => ("CoastPull$Shares", "rails", "LCoastPull$Line;", true)
  | 1 => ("CoastPull$Shares", "ways", "LCoastPull$Ways;", true)
  | 2 => ("CoastPull$Shares", "choices", "[J", true)
  | 3 => ("CoastPull$Shares", "placeValues", "[J", true)
  | _ => ("CoastPull$Shares", "upToDate", "Z", false)
def tyX2 : Nat → FieldType := fun k => match k with
  | 0 => .object "CoastPull$Line"
  | 1 => .object "CoastPull$Ways"
  | 2 => .array .long
  | 3 => .array .long
  | _ => .boolean
abbrev wsX20 : List Cond := u_ws RX2 TX2 5
theorem nmX2 : ∀ a, a < 5 → ∀ b, b < 5 → a ≠ b → (TX2 a).2.1 ≠ (TX2 b).2.1 := by decide +kernel
theorem tyX2_ok : ∀ k, k < 5 → parseFieldDescriptor (TX2 k).2.2.1 = some (tyX2 k) := by decide +kernel
abbrev cX2_init : ByteArray := prog_4_method_1_code
def yX2_init : MethodName := ⟨RX2, "<init>", "(LCoastPull$Line;LCoastPull$Ways;)V"⟩
abbrev cX2_forget : ByteArray := prog_4_method_2_code
def yX2_forget : MethodName := ⟨RX2, "forget", "()V"⟩
abbrev cX2_bringUpToDate : ByteArray := prog_4_method_3_code
def yX2_bringUpToDate : MethodName := ⟨RX2, "bringUpToDate", "()V"⟩
abbrev cX2_bestFrom : ByteArray := prog_4_method_4_code
def yX2_bestFrom : MethodName := ⟨RX2, "bestFrom", "(II)J"⟩
abbrev cX2_isThere : ByteArray := prog_4_method_5_code
def yX2_isThere : MethodName := ⟨RX2, "isThere", "(I)Z"⟩
abbrev cX2_powerTogether : ByteArray := prog_4_method_6_code
def yX2_powerTogether : MethodName := ⟨RX2, "powerTogether", "(I)I"⟩
abbrev cX2_legTime : ByteArray := prog_4_method_7_code
def yX2_legTime : MethodName := ⟨RX2, "legTime", "(II)I"⟩
def RX3 : String := "CoastPull$Steps"
def TX3 : u_T := fun k => match k with
  | 0 => ("CoastPull$Steps", "rails", "LCoastPull$Line;", true)
  | _ => ("CoastPull$Steps", "engine", "LCoastPull$Train;", true)
def tyX3 : Nat → FieldType := fun k => match k with
  | 0 => .object "CoastPull$Line"
  | _ => .object "CoastPull$Train"
abbrev wsX30 : List Cond := u_ws RX3 TX3 2
theorem nmX3 : ∀ a, a < 2 → ∀ b, b < 2 → a ≠ b → (TX3 a).2.1 ≠ (TX3 b).2.1 := by decide +kernel
theorem tyX3_ok : ∀ k, k < 2 → parseFieldDescriptor (TX3 k).2.2.1 = some (tyX3 k) := by decide +kernel
abbrev cX3_init : ByteArray := prog_5_method_1_code
def yX3_init : MethodName := ⟨RX3, "<init>", "(LCoastPull$Line;LCoastPull$Train;)V"⟩
abbrev cX3_forceOf : ByteArray := prog_5_method_2_code
def yX3_forceOf : MethodName := ⟨RX3, "forceOf", "(III)I"⟩
abbrev cX3_faultOf : ByteArray := prog_5_method_3_code
def yX3_faultOf : MethodName := ⟨RX3, "faultOf", "(III)I"⟩
abbrev cX3_timeOf : ByteArray := prog_5_method_4_code
def yX3_timeOf : MethodName := ⟨RX3, "timeOf", "(II)I"⟩
abbrev cX3_powerOf : ByteArray := prog_5_method_5_code
def yX3_powerOf : MethodName := ⟨RX3, "powerOf", "(III)I"⟩
def RX4 : String := "CoastPull$Train"
def TX4 : u_T := fun k => match k with
  | _ => ("CoastPull$Train", "numbers", "[I", true)
def tyX4 : Nat → FieldType := fun k => match k with
  | _ => .array .int
abbrev wsX40 : List Cond := u_ws RX4 TX4 1
theorem nmX4 : ∀ a, a < 1 → ∀ b, b < 1 → a ≠ b → (TX4 a).2.1 ≠ (TX4 b).2.1 := by decide +kernel
theorem tyX4_ok : ∀ k, k < 1 → parseFieldDescriptor (TX4 k).2.2.1 = some (tyX4 k) := by decide +kernel
abbrev cX4_init : ByteArray := prog_6_method_1_code
def yX4_init : MethodName := ⟨RX4, "<init>", "()V"⟩
abbrev cX4_knows : ByteArray := prog_6_method_2_code
def yX4_knows : MethodName := ⟨RX4, "knows", "(I)Z"⟩
abbrev cX4_mayBe : ByteArray := prog_6_method_3_code
def yX4_mayBe : MethodName := ⟨RX4, "mayBe", "(II)Z"⟩
abbrev cX4_number : ByteArray := prog_6_method_4_code
def yX4_number : MethodName := ⟨RX4, "number", "(I)I"⟩
abbrev cX4_put : ByteArray := prog_6_method_5_code
def yX4_put : MethodName := ⟨RX4, "put", "(II)V"⟩
def RX5 : String := "CoastPull$Ways"
def TX5 : u_T := fun k => match k with
  | 0 => ("CoastPull$Ways", "rails", "LCoastPull$Line;", true)
  | 1 => ("CoastPull$Ways", "steps", "LCoastPull$Steps;", true)
  | 2 => ("CoastPull$Ways", "evenRow", "[J", true)
  | 3 => ("CoastPull$Ways", "oddRow", "[J", true)
  | 4 => ("CoastPull$Ways", "firstPair", "[I", true)
  | 5 => ("CoastPull$Ways", "times", "[I", true)
  | 6 => ("CoastPull$Ways", "choices", "[J", true)
  | _ => ("CoastPull$Ways", "upToDate", "Z", false)
def tyX5 : Nat → FieldType := fun k => match k with
  | 0 => .object "CoastPull$Line"
  | 1 => .object "CoastPull$Steps"
  | 2 => .array .long
  | 3 => .array .long
  | 4 => .array .int
  | 5 => .array .int
  | 6 => .array .long
  | _ => .boolean
abbrev wsX50 : List Cond := u_ws RX5 TX5 8
theorem nmX5 : ∀ a, a < 8 → ∀ b, b < 8 → a ≠ b → (TX5 a).2.1 ≠ (TX5 b).2.1 := by decide +kernel
theorem tyX5_ok : ∀ k, k < 8 → parseFieldDescriptor (TX5 k).2.2.1 = some (tyX5 k) := by decide +kernel
abbrev cX5_init : ByteArray := prog_7_method_1_code
def yX5_init : MethodName := ⟨RX5, "<init>", "(LCoastPull$Line;LCoastPull$Steps;)V"⟩
abbrev cX5_forget : ByteArray := prog_7_method_2_code
def yX5_forget : MethodName := ⟨RX5, "forget", "()V"⟩
abbrev cX5_bringUpToDate : ByteArray := prog_7_method_3_code
def yX5_bringUpToDate : MethodName := ⟨RX5, "bringUpToDate", "()V"⟩
abbrev cX5_driveOver : ByteArray := prog_7_method_4_code
def yX5_driveOver : MethodName := ⟨RX5, "driveOver", "(I)[J"⟩
abbrev cX5_driveThrough : ByteArray := prog_7_method_5_code
def yX5_driveThrough : MethodName := ⟨RX5, "driveThrough", "(IIZ[J[J)V"⟩
abbrev cX5_spread : ByteArray := prog_7_method_6_code
def yX5_spread : MethodName := ⟨RX5, "spread", "([JI[JIIJ)V"⟩
abbrev cX5_gatherPairs : ByteArray := prog_7_method_7_code
def yX5_gatherPairs : MethodName := ⟨RX5, "gatherPairs", "([JI)I"⟩
abbrev cX5_speedPlace : ByteArray := prog_7_method_8_code
def yX5_speedPlace : MethodName := ⟨RX5, "speedPlace", "(I)I"⟩
abbrev cX5_pairCount : ByteArray := prog_7_method_9_code
def yX5_pairCount : MethodName := ⟨RX5, "pairCount", "(I)I"⟩
abbrev cX5_pairTime : ByteArray := prog_7_method_10_code
def yX5_pairTime : MethodName := ⟨RX5, "pairTime", "(II)I"⟩
abbrev cX5_pairPower : ByteArray := prog_7_method_11_code
def yX5_pairPower : MethodName := ⟨RX5, "pairPower", "(II)I"⟩
abbrev cX5_pairSpeed : ByteArray := prog_7_method_12_code
def yX5_pairSpeed : MethodName := ⟨RX5, "pairSpeed", "(III)I"⟩
abbrev cX5_pairWithin : ByteArray := prog_7_method_13_code
def yX5_pairWithin : MethodName := ⟨RX5, "pairWithin", "(II)I"⟩
def RX6 : String := "CoastPull"
def TX6 : u_T := fun k => match k with
  | 0 => ("CoastPull", "rails", "LCoastPull$Line;", true)
  | 1 => ("CoastPull", "engine", "LCoastPull$Train;", true)
  | 2 => ("CoastPull", "steps", "LCoastPull$Steps;", true)
  | 3 => ("CoastPull", "ways", "LCoastPull$Ways;", true)
  | 4 => ("CoastPull", "shares", "LCoastPull$Shares;", true)
  | _ => ("CoastPull", "book", "LCoastPull$Log;", true)
def tyX6 : Nat → FieldType := fun k => match k with
  | 0 => .object "CoastPull$Line"
  | 1 => .object "CoastPull$Train"
  | 2 => .object "CoastPull$Steps"
  | 3 => .object "CoastPull$Ways"
  | 4 => .object "CoastPull$Shares"
  | _ => .object "CoastPull$Log"
abbrev wsX60 : List Cond := u_ws RX6 TX6 6
theorem nmX6 : ∀ a, a < 6 → ∀ b, b < 6 → a ≠ b → (TX6 a).2.1 ≠ (TX6 b).2.1 := by decide +kernel
theorem tyX6_ok : ∀ k, k < 6 → parseFieldDescriptor (TX6 k).2.2.1 = some (tyX6 k) := by decide +kernel
abbrev cX6_init : ByteArray := prog_1_method_1_code
def yX6_init : MethodName := ⟨RX6, "<init>", "()V"⟩
abbrev cX6_line : ByteArray := prog_1_method_2_code
def yX6_line : MethodName := ⟨RX6, "line", "(I)I"⟩
abbrev cX6_cell : ByteArray := prog_1_method_3_code
def yX6_cell : MethodName := ⟨RX6, "cell", "(III)I"⟩
abbrev cX6_stop : ByteArray := prog_1_method_4_code
def yX6_stop : MethodName := ⟨RX6, "stop", "(IZ)I"⟩
abbrev cX6_train : ByteArray := prog_1_method_5_code
def yX6_train : MethodName := ⟨RX6, "train", "(II)I"⟩
abbrev cX6_has : ByteArray := prog_1_method_6_code
def yX6_has : MethodName := ⟨RX6, "has", "(I)I"⟩
abbrev cX6_leg : ByteArray := prog_1_method_7_code
def yX6_leg : MethodName := ⟨RX6, "leg", "(IZ)I"⟩
abbrev cX6_force : ByteArray := prog_1_method_8_code
def yX6_force : MethodName := ⟨RX6, "force", "(III)I"⟩
abbrev cX6_fault : ByteArray := prog_1_method_9_code
def yX6_fault : MethodName := ⟨RX6, "fault", "(III)I"⟩
abbrev cX6_time : ByteArray := prog_1_method_10_code
def yX6_time : MethodName := ⟨RX6, "time", "(III)I"⟩
abbrev cX6_power : ByteArray := prog_1_method_11_code
def yX6_power : MethodName := ⟨RX6, "power", "(III)I"⟩
abbrev cX6_fastest : ByteArray := prog_1_method_12_code
def yX6_fastest : MethodName := ⟨RX6, "fastest", "(I)I"⟩
abbrev cX6_best : ByteArray := prog_1_method_13_code
def yX6_best : MethodName := ⟨RX6, "best", "(II)I"⟩
abbrev cX6_bestTime : ByteArray := prog_1_method_14_code
def yX6_bestTime : MethodName := ⟨RX6, "bestTime", "(II)I"⟩
abbrev cX6_bestSpeed : ByteArray := prog_1_method_15_code
def yX6_bestSpeed : MethodName := ⟨RX6, "bestSpeed", "(III)I"⟩
abbrev cX6_curve : ByteArray := prog_1_method_16_code
def yX6_curve : MethodName := ⟨RX6, "curve", "(I)I"⟩
abbrev cX6_point : ByteArray := prog_1_method_17_code
def yX6_point : MethodName := ⟨RX6, "point", "(IIZ)I"⟩
abbrev cX6_share : ByteArray := prog_1_method_18_code
def yX6_share : MethodName := ⟨RX6, "share", "(I)I"⟩
abbrev cX6_shareTime : ByteArray := prog_1_method_19_code
def yX6_shareTime : MethodName := ⟨RX6, "shareTime", "(II)I"⟩
abbrev cX6_needs : ByteArray := prog_1_method_20_code
def yX6_needs : MethodName := ⟨RX6, "needs", "(I)I"⟩
abbrev cX6_log : ByteArray := prog_1_method_21_code
def yX6_log : MethodName := ⟨RX6, "log", "(I)I"⟩
abbrev cX6_clear : ByteArray := prog_1_method_22_code
def yX6_clear : MethodName := ⟨RX6, "clear", "()I"⟩
abbrev cX6_judged : ByteArray := prog_1_method_23_code
def yX6_judged : MethodName := ⟨RX6, "judged", "(I)I"⟩
abbrev cX6_count : ByteArray := prog_1_method_24_code
def yX6_count : MethodName := ⟨RX6, "count", "(I)I"⟩
abbrev cX6_forgetChoices : ByteArray := prog_1_method_25_code
def yX6_forgetChoices : MethodName := ⟨RX6, "forgetChoices", "()V"⟩
abbrev cX6_stepRefusal : ByteArray := prog_1_method_26_code
def yX6_stepRefusal : MethodName := ⟨RX6, "stepRefusal", "(III)I"⟩
abbrev cX6_driveRefusal : ByteArray := prog_1_method_27_code
def yX6_driveRefusal : MethodName := ⟨RX6, "driveRefusal", "(II)I"⟩
abbrev cX6_isSpeed : ByteArray := prog_1_method_28_code
def yX6_isSpeed : MethodName := ⟨RX6, "isSpeed", "(I)Z"⟩
abbrev cX6_isTime : ByteArray := prog_1_method_29_code
def yX6_isTime : MethodName := ⟨RX6, "isTime", "(I)Z"⟩
def RX7 : String := "CoastPullModel"
def TX7 : u_T := fun k => match k with
  | 0 => ("CoastPullModel", "cells", "I", false)
  | 1 => ("CoastPullModel", "grade", "[I", true)
  | 2 => ("CoastPullModel", "limit", "[I", true)
  | 3 => ("CoastPullModel", "isStop", "[Z", true)
  | 4 => ("CoastPullModel", "train", "[I", true)
  | 5 => ("CoastPullModel", "logged", "I", false)
  | 6 => ("CoastPullModel", "log", "[I", true)
  | 7 => ("CoastPullModel", "least", "[I", true)
  | 8 => ("CoastPullModel", "pairs", "I", false)
  | 9 => ("CoastPullModel", "pairTime", "[I", true)
  | 10 => ("CoastPullModel", "pairPower", "[I", true)
  | 11 => ("CoastPullModel", "isShared", "Z", false)
  | 12 => ("CoastPullModel", "shared", "[I", true)
  | _ => ("CoastPullModel", "sharedTime", "[I", true)
def tyX7 : Nat → FieldType := fun k => match k with
  | 0 => .int
  | 1 => .array .int
  | 2 => .array .int
  | 3 => .array .boolean
  | 4 => .array .int
  | 5 => .int
  | 6 => .array .int
  | 7 => .array .int
  | 8 => .int
  | 9 => .array .int
  | 10 => .array .int
  | 11 => .boolean
  | 12 => .array .int
  | _ => .array .int
abbrev wsX70 : List Cond := u_ws RX7 TX7 14
theorem nmX7 : ∀ a, a < 14 → ∀ b, b < 14 → a ≠ b → (TX7 a).2.1 ≠ (TX7 b).2.1 := by decide +kernel
theorem tyX7_ok : ∀ k, k < 14 → parseFieldDescriptor (TX7 k).2.2.1 = some (tyX7 k) := by decide +kernel
abbrev cX7_init : ByteArray := prog_9_method_1_code
def yX7_init : MethodName := ⟨RX7, "<init>", "()V"⟩
abbrev cX7_in : ByteArray := prog_9_method_3_code
def yX7_in : MethodName := ⟨RX7, "in", "(III)Z"⟩
abbrev cX7_isCell : ByteArray := prog_9_method_4_code
def yX7_isCell : MethodName := ⟨RX7, "isCell", "(I)Z"⟩
abbrev cX7_isSpeed : ByteArray := prog_9_method_5_code
def yX7_isSpeed : MethodName := ⟨RX7, "isSpeed", "(I)Z"⟩
abbrev cX7_begin : ByteArray := prog_9_method_6_code
def yX7_begin : MethodName := ⟨RX7, "begin", "(I)V"⟩
abbrev cX7_line : ByteArray := prog_9_method_7_code
def yX7_line : MethodName := ⟨RX7, "line", "(I)I"⟩
abbrev cX7_cell : ByteArray := prog_9_method_8_code
def yX7_cell : MethodName := ⟨RX7, "cell", "(III)I"⟩
abbrev cX7_legs : ByteArray := prog_9_method_9_code
def yX7_legs : MethodName := ⟨RX7, "legs", "()I"⟩
abbrev cX7_stop : ByteArray := prog_9_method_10_code
def yX7_stop : MethodName := ⟨RX7, "stop", "(IZ)I"⟩
abbrev cX7_train : ByteArray := prog_9_method_11_code
def yX7_train : MethodName := ⟨RX7, "train", "(II)I"⟩
abbrev cX7_has : ByteArray := prog_9_method_12_code
def yX7_has : MethodName := ⟨RX7, "has", "(I)I"⟩
abbrev cX7_endOf : ByteArray := prog_9_method_13_code
def yX7_endOf : MethodName := ⟨RX7, "endOf", "(I)I"⟩
abbrev cX7_firstOf : ByteArray := prog_9_method_14_code
def yX7_firstOf : MethodName := ⟨RX7, "firstOf", "(I)I"⟩
abbrev cX7_isLeg : ByteArray := prog_9_method_15_code
def yX7_isLeg : MethodName := ⟨RX7, "isLeg", "(I)Z"⟩
abbrev cX7_leg : ByteArray := prog_9_method_16_code
def yX7_leg : MethodName := ⟨RX7, "leg", "(IZ)I"⟩
abbrev cX7_forceOf : ByteArray := prog_9_method_17_code
def yX7_forceOf : MethodName := ⟨RX7, "forceOf", "(III)I"⟩
abbrev cX7_faultOf : ByteArray := prog_9_method_18_code
def yX7_faultOf : MethodName := ⟨RX7, "faultOf", "(III)I"⟩
abbrev cX7_powerOf : ByteArray := prog_9_method_19_code
def yX7_powerOf : MethodName := ⟨RX7, "powerOf", "(III)I"⟩
abbrev cX7_force : ByteArray := prog_9_method_20_code
def yX7_force : MethodName := ⟨RX7, "force", "(III)I"⟩
abbrev cX7_fault : ByteArray := prog_9_method_21_code
def yX7_fault : MethodName := ⟨RX7, "fault", "(III)I"⟩
abbrev cX7_time : ByteArray := prog_9_method_22_code
def yX7_time : MethodName := ⟨RX7, "time", "(III)I"⟩
abbrev cX7_power : ByteArray := prog_9_method_23_code
def yX7_power : MethodName := ⟨RX7, "power", "(III)I"⟩
abbrev cX7_place : ByteArray := prog_9_method_24_code
def yX7_place : MethodName := ⟨RX7, "place", "(II)I"⟩
abbrev cX7_work : ByteArray := prog_9_method_25_code
def yX7_work : MethodName := ⟨RX7, "work", "(I)V"⟩
abbrev cX7_carry : ByteArray := prog_9_method_26_code
def yX7_carry : MethodName := ⟨RX7, "carry", "(III)V"⟩
abbrev cX7_bestOf : ByteArray := prog_9_method_27_code
def yX7_bestOf : MethodName := ⟨RX7, "bestOf", "(II)I"⟩
abbrev cX7_fastest : ByteArray := prog_9_method_28_code
def yX7_fastest : MethodName := ⟨RX7, "fastest", "(I)I"⟩
abbrev cX7_best : ByteArray := prog_9_method_29_code
def yX7_best : MethodName := ⟨RX7, "best", "(II)I"⟩
abbrev cX7_bestTime : ByteArray := prog_9_method_30_code
def yX7_bestTime : MethodName := ⟨RX7, "bestTime", "(II)I"⟩
abbrev cX7_bestSpeed : ByteArray := prog_9_method_31_code
def yX7_bestSpeed : MethodName := ⟨RX7, "bestSpeed", "(III)I"⟩
abbrev cX7_isOn : ByteArray := prog_9_method_32_code
def yX7_isOn : MethodName := ⟨RX7, "isOn", "(IIII)Z"⟩
abbrev cX7_draw : ByteArray := prog_9_method_33_code
def yX7_draw : MethodName := ⟨RX7, "draw", "(I)V"⟩
abbrev cX7_curve : ByteArray := prog_9_method_34_code
def yX7_curve : MethodName := ⟨RX7, "curve", "(I)I"⟩
abbrev cX7_point : ByteArray := prog_9_method_35_code
def yX7_point : MethodName := ⟨RX7, "point", "(IIZ)I"⟩
abbrev cX7_shareAll : ByteArray := prog_9_method_36_code
def yX7_shareAll : MethodName := ⟨RX7, "shareAll", "()V"⟩
abbrev cX7_share : ByteArray := prog_9_method_37_code
def yX7_share : MethodName := ⟨RX7, "share", "(I)I"⟩
abbrev cX7_shareTime : ByteArray := prog_9_method_38_code
def yX7_shareTime : MethodName := ⟨RX7, "shareTime", "(II)I"⟩
abbrev cX7_needs : ByteArray := prog_9_method_39_code
def yX7_needs : MethodName := ⟨RX7, "needs", "(I)I"⟩
abbrev cX7_log : ByteArray := prog_9_method_40_code
def yX7_log : MethodName := ⟨RX7, "log", "(I)I"⟩
abbrev cX7_clear : ByteArray := prog_9_method_41_code
def yX7_clear : MethodName := ⟨RX7, "clear", "()I"⟩
abbrev cX7_judged : ByteArray := prog_9_method_42_code
def yX7_judged : MethodName := ⟨RX7, "judged", "(I)I"⟩
abbrev cX7_count : ByteArray := prog_9_method_43_code
def yX7_count : MethodName := ⟨RX7, "count", "(I)I"⟩
def RJx8e188 : String := "java/lang/Cloneable"
def TJx8e188 : u_T := fun k => match k with
  | _ => ("", "", "", false)
def tyJx8e188 : Nat → FieldType := fun k => match k with
  | _ => .int
abbrev wsJx8e1880 : List Cond := u_ws RJx8e188 TJx8e188 0
theorem nmJx8e188 : ∀ a, a < 0 → ∀ b, b < 0 → a ≠ b → (TJx8e188 a).2.1 ≠ (TJx8e188 b).2.1 := by decide +kernel
theorem tyJx8e188_ok : ∀ k, k < 0 → parseFieldDescriptor (TJx8e188 k).2.2.1 = some (tyJx8e188 k) := by decide +kernel
def RJ9 : String := "java/lang/Math"
def TJ9 : u_T := fun k => match k with
  | _ => ("", "", "", false)
def tyJ9 : Nat → FieldType := fun k => match k with
  | _ => .int
abbrev wsJ90 : List Cond := u_ws RJ9 TJ9 0
theorem nmJ9 : ∀ a, a < 0 → ∀ b, b < 0 → a ≠ b → (TJ9 a).2.1 ≠ (TJ9 b).2.1 := by decide +kernel
theorem tyJ9_ok : ∀ k, k < 0 → parseFieldDescriptor (TJ9 k).2.2.1 = some (tyJ9 k) := by decide +kernel
abbrev cJ9_abs_0f7a4 : ByteArray := prog_11_method_59_code
def yJ9_abs_0f7a4 : MethodName := ⟨RJ9, "abs", "(I)I"⟩
abbrev cJ9_max_7cf53 : ByteArray := prog_11_method_65_code
def yJ9_max_7cf53 : MethodName := ⟨RJ9, "max", "(II)I"⟩
abbrev cJ9_min_f86c9 : ByteArray := prog_11_method_70_code
def yJ9_min_f86c9 : MethodName := ⟨RJ9, "min", "(JJ)J"⟩
def RJ7 : String := "java/util/Arrays"
def TJ7 : u_T := fun k => match k with
  | _ => ("", "", "", false)
def tyJ7 : Nat → FieldType := fun k => match k with
  | _ => .int
abbrev wsJ70 : List Cond := u_ws RJ7 TJ7 0
theorem nmJ7 : ∀ a, a < 0 → ∀ b, b < 0 → a ≠ b → (TJ7 a).2.1 ≠ (TJ7 b).2.1 := by decide +kernel
theorem tyJ7_ok : ∀ k, k < 0 → parseFieldDescriptor (TJ7 k).2.2.1 = some (tyJ7 k) := by decide +kernel
abbrev cJ7_fill_d0a16 : ByteArray := prog_12_method_101_code
def yJ7_fill_d0a16 : MethodName := ⟨RJ7, "fill", "([JJ)V"⟩
def RL : String := "CoastPullLaw"
abbrev cL_law : ByteArray := code
def yL_law : MethodName := ⟨RL, "law", "([I)Z"⟩
def wsX0_findLegs : List Cond := .code yX0_findLegs cX0_findLegs 3 none :: ([.fieldLink RX0 29 "CoastPull$Line" "cells" "I", .fieldLink RX0 18 "CoastPull$Line" "stops" "[Z", .fieldLink RX0 22 "CoastPull$Line" "stopPosts" "[I", .fieldLink RX0 36 "CoastPull$Line" "legs" "I"] ++ wsX00)
def wsX0_lay : List Cond := .code yX0_lay cX0_lay 3 none :: ([.fieldLink RX0 29 "CoastPull$Line" "cells" "I", .fieldLink RX0 9 "CoastPull$Line" "grades" "[I", .fieldLink RX0 15 "CoastPull$Line" "limits" "[I", .fieldLink RX0 18 "CoastPull$Line" "stops" "[Z", .methodLink RX0 33 yX0_findLegs, .instanceMethod yX0_findLegs, .selects RX0 yX0_findLegs yX0_findLegs, .initialized RX0, .code yX0_findLegs cX0_findLegs 3 none, .fieldLink RX0 22 "CoastPull$Line" "stopPosts" "[I", .fieldLink RX0 36 "CoastPull$Line" "legs" "I"] ++ wsX00)
def wsX0_init : List Cond := .code yX0_init cX0_init 1 none :: ([.methodLink RX0 3 objectInit, .instanceMethod objectInit, .code objectInit ⟨#[0xb1]⟩ 1 none, .arrayClass .int, .fieldLink RX0 9 "CoastPull$Line" "grades" "[I", .fieldLink RX0 15 "CoastPull$Line" "limits" "[I", .arrayClass .boolean, .fieldLink RX0 18 "CoastPull$Line" "stops" "[Z", .fieldLink RX0 22 "CoastPull$Line" "stopPosts" "[I", .methodLink RX0 25 yX0_lay, .instanceMethod yX0_lay, .selects RX0 yX0_lay yX0_lay, .initialized RX0, .code yX0_lay cX0_lay 3 none, .fieldLink RX0 29 "CoastPull$Line" "cells" "I", .methodLink RX0 33 yX0_findLegs, .instanceMethod yX0_findLegs, .selects RX0 yX0_findLegs yX0_findLegs, .code yX0_findLegs cX0_findLegs 3 none, .fieldLink RX0 36 "CoastPull$Line" "legs" "I"] ++ wsX00)
def wsX0_shape : List Cond := .code yX0_shape cX0_shape 4 none :: ([.fieldLink RX0 9 "CoastPull$Line" "grades" "[I", .fieldLink RX0 15 "CoastPull$Line" "limits" "[I"] ++ wsX00)
def wsX0_markStop : List Cond := .code yX0_markStop cX0_markStop 3 none :: ([.fieldLink RX0 18 "CoastPull$Line" "stops" "[Z", .methodLink RX0 33 yX0_findLegs, .instanceMethod yX0_findLegs, .selects RX0 yX0_findLegs yX0_findLegs, .initialized RX0, .code yX0_findLegs cX0_findLegs 3 none, .fieldLink RX0 29 "CoastPull$Line" "cells" "I", .fieldLink RX0 22 "CoastPull$Line" "stopPosts" "[I", .fieldLink RX0 36 "CoastPull$Line" "legs" "I"] ++ wsX00)
def wsX0_cellCount : List Cond := .code yX0_cellCount cX0_cellCount 1 (some .int) :: ([.fieldLink RX0 29 "CoastPull$Line" "cells" "I"] ++ wsX00)
def wsX0_legCount : List Cond := .code yX0_legCount cX0_legCount 1 (some .int) :: ([.fieldLink RX0 36 "CoastPull$Line" "legs" "I"] ++ wsX00)
def wsX0_hasCell : List Cond := .code yX0_hasCell cX0_hasCell 2 (some .boolean) :: ([.fieldLink RX0 29 "CoastPull$Line" "cells" "I"] ++ wsX00)
def wsX0_hasPost : List Cond := .code yX0_hasPost cX0_hasPost 2 (some .boolean) :: ([.fieldLink RX0 29 "CoastPull$Line" "cells" "I"] ++ wsX00)
def wsX0_hasLeg : List Cond := .code yX0_hasLeg cX0_hasLeg 2 (some .boolean) :: ([.fieldLink RX0 36 "CoastPull$Line" "legs" "I"] ++ wsX00)
def wsX0_isEnd : List Cond := .code yX0_isEnd cX0_isEnd 2 (some .boolean) :: ([.fieldLink RX0 29 "CoastPull$Line" "cells" "I"] ++ wsX00)
def wsX0_isStop : List Cond := .code yX0_isStop cX0_isStop 2 (some .boolean) :: ([.fieldLink RX0 18 "CoastPull$Line" "stops" "[Z"] ++ wsX00)
def wsX0_gradeOf : List Cond := .code yX0_gradeOf cX0_gradeOf 2 (some .int) :: ([.fieldLink RX0 9 "CoastPull$Line" "grades" "[I"] ++ wsX00)
def wsX0_limitOf : List Cond := .code yX0_limitOf cX0_limitOf 2 (some .int) :: ([.fieldLink RX0 15 "CoastPull$Line" "limits" "[I"] ++ wsX00)
def wsX0_firstPost : List Cond := .code yX0_firstPost cX0_firstPost 2 (some .int) :: ([.fieldLink RX0 22 "CoastPull$Line" "stopPosts" "[I"] ++ wsX00)
def wsX0_lastPost : List Cond := .code yX0_lastPost cX0_lastPost 2 (some .int) :: ([.fieldLink RX0 22 "CoastPull$Line" "stopPosts" "[I"] ++ wsX00)
def wsX1_init : List Cond := .code yX1_init cX1_init 3 none :: ([.methodLink RX1 3 objectInit, .instanceMethod objectInit, .code objectInit ⟨#[0xb1]⟩ 1 none, .arrayClass .int, .fieldLink RX1 9 "CoastPull$Log" "speeds" "[I", .fieldLink RX1 15 "CoastPull$Log" "told" "I", .fieldLink RX1 19 "CoastPull$Log" "rails" "LCoastPull$Line;", .fieldLink RX1 23 "CoastPull$Log" "steps" "LCoastPull$Steps;"] ++ wsX10)
def wsX1_size : List Cond := .code yX1_size cX1_size 1 (some .int) :: ([.fieldLink RX1 15 "CoastPull$Log" "told" "I"] ++ wsX10)
def wsX1_isFull : List Cond := .code yX1_isFull cX1_isFull 1 (some .boolean) :: ([.fieldLink RX1 15 "CoastPull$Log" "told" "I", .fieldLink RX1 19 "CoastPull$Log" "rails" "LCoastPull$Line;", .methodLink RX1 27 yX0_cellCount, .instanceMethod yX0_cellCount, .selects RX0 yX0_cellCount yX0_cellCount, .initialized RX0, .code yX0_cellCount cX0_cellCount 1 (some .int), .fieldLink RX0 29 "CoastPull$Line" "cells" "I"] ++ wsX10 ++ wsX00)
def wsX1_add : List Cond := .code yX1_add cX1_add 2 none :: ([.fieldLink RX1 9 "CoastPull$Log" "speeds" "[I", .fieldLink RX1 15 "CoastPull$Log" "told" "I"] ++ wsX10)
def wsX1_wipe : List Cond := .code yX1_wipe cX1_wipe 1 none :: ([.fieldLink RX1 15 "CoastPull$Log" "told" "I"] ++ wsX10)
def wsX4_number : List Cond := .code yX4_number cX4_number 2 (some .int) :: ([.fieldLink RX4 18 "CoastPull$Train" "numbers" "[I"] ++ wsX40)
def wsX3_forceOf : List Cond := .code yX3_forceOf cX3_forceOf 5 (some .int) :: ([.fieldLink RX3 15 "CoastPull$Steps" "engine" "LCoastPull$Train;", .fieldLink RX3 9 "CoastPull$Steps" "rails" "LCoastPull$Line;", .methodLink RX3 21 yX4_number, .instanceMethod yX4_number, .selects RX4 yX4_number yX4_number, .initialized RX4, .code yX4_number cX4_number 2 (some .int), .fieldLink RX4 18 "CoastPull$Train" "numbers" "[I", .methodLink RX3 25 yX0_gradeOf, .instanceMethod yX0_gradeOf, .selects RX0 yX0_gradeOf yX0_gradeOf, .initialized RX0, .code yX0_gradeOf cX0_gradeOf 2 (some .int), .fieldLink RX0 9 "CoastPull$Line" "grades" "[I"] ++ wsX30 ++ wsX40 ++ wsX00)
def wsX3_faultOf_r1 : List Cond := [Cond.methodLink RX3 30 Lib.Math.max.name, Cond.static Lib.Math.max.name, Cond.initialized "java/lang/Math", Cond.code Lib.Math.max.name Lib.Math.max.code 2 (some .int), Cond.fieldLink RX3 9 "CoastPull$Steps" "rails" "LCoastPull$Line;", Cond.methodLink RX3 39 Lib.Math.abs.name, Cond.static Lib.Math.abs.name, Cond.code Lib.Math.abs.name Lib.Math.abs.code 1 (some .int), Cond.fieldLink RX3 15 "CoastPull$Steps" "engine" "LCoastPull$Train;", Cond.methodLink RX3 36 yX0_limitOf, Cond.instanceMethod yX0_limitOf, Cond.selects RX0 yX0_limitOf yX0_limitOf, Cond.initialized RX0, Cond.code yX0_limitOf cX0_limitOf 2 (some .int), Cond.fieldLink RX0 15 "CoastPull$Line" "limits" "[I", Cond.methodLink RX3 42 yX3_forceOf, Cond.instanceMethod yX3_forceOf, Cond.selects RX3 yX3_forceOf yX3_forceOf, Cond.initialized RX3, Cond.code yX3_forceOf cX3_forceOf 5 (some .int), Cond.methodLink RX3 21 yX4_number, Cond.instanceMethod yX4_number, Cond.selects RX4 yX4_number yX4_number, Cond.initialized RX4]
def wsX3_faultOf_r2 : List Cond := [Cond.code yX4_number cX4_number 2 (some .int), Cond.fieldLink RX4 18 "CoastPull$Train" "numbers" "[I", Cond.methodLink RX3 25 yX0_gradeOf, Cond.instanceMethod yX0_gradeOf, Cond.selects RX0 yX0_gradeOf yX0_gradeOf, Cond.code yX0_gradeOf cX0_gradeOf 2 (some .int), Cond.fieldLink RX0 9 "CoastPull$Line" "grades" "[I"]
def wsX3_faultOf : List Cond := .code yX3_faultOf cX3_faultOf 5 (some .int) :: ((wsX3_faultOf_r1 ++ wsX3_faultOf_r2) ++ wsX30 ++ wsX00 ++ wsX40)
def wsX1_isFaulty_r1 : List Cond := [Cond.fieldLink RX1 23 "CoastPull$Log" "steps" "LCoastPull$Steps;", Cond.fieldLink RX1 9 "CoastPull$Log" "speeds" "[I", Cond.methodLink RX1 33 yX3_faultOf, Cond.instanceMethod yX3_faultOf, Cond.selects RX3 yX3_faultOf yX3_faultOf, Cond.initialized RX3, Cond.code yX3_faultOf cX3_faultOf 5 (some .int), Cond.methodLink RX3 30 Lib.Math.max.name, Cond.static Lib.Math.max.name, Cond.initialized "java/lang/Math", Cond.code Lib.Math.max.name Lib.Math.max.code 2 (some .int), Cond.fieldLink RX3 9 "CoastPull$Steps" "rails" "LCoastPull$Line;", Cond.methodLink RX3 39 Lib.Math.abs.name, Cond.static Lib.Math.abs.name, Cond.code Lib.Math.abs.name Lib.Math.abs.code 1 (some .int), Cond.fieldLink RX3 15 "CoastPull$Steps" "engine" "LCoastPull$Train;", Cond.methodLink RX3 36 yX0_limitOf, Cond.instanceMethod yX0_limitOf, Cond.selects RX0 yX0_limitOf yX0_limitOf, Cond.initialized RX0, Cond.code yX0_limitOf cX0_limitOf 2 (some .int), Cond.fieldLink RX0 15 "CoastPull$Line" "limits" "[I", Cond.methodLink RX3 42 yX3_forceOf, Cond.instanceMethod yX3_forceOf]
def wsX1_isFaulty_r2 : List Cond := [Cond.selects RX3 yX3_forceOf yX3_forceOf, Cond.code yX3_forceOf cX3_forceOf 5 (some .int), Cond.methodLink RX3 21 yX4_number, Cond.instanceMethod yX4_number, Cond.selects RX4 yX4_number yX4_number, Cond.initialized RX4, Cond.code yX4_number cX4_number 2 (some .int), Cond.fieldLink RX4 18 "CoastPull$Train" "numbers" "[I", Cond.methodLink RX3 25 yX0_gradeOf, Cond.instanceMethod yX0_gradeOf, Cond.selects RX0 yX0_gradeOf yX0_gradeOf, Cond.code yX0_gradeOf cX0_gradeOf 2 (some .int), Cond.fieldLink RX0 9 "CoastPull$Line" "grades" "[I"]
def wsX1_isFaulty : List Cond := .code yX1_isFaulty cX1_isFaulty 2 (some .boolean) :: ((wsX1_isFaulty_r1 ++ wsX1_isFaulty_r2) ++ wsX10 ++ wsX30 ++ wsX00 ++ wsX40)
def wsX3_timeOf : List Cond := .code yX3_timeOf cX3_timeOf 4 (some .int) :: ([])
def wsX1_timeTogether_r1 : List Cond := [Cond.fieldLink RX1 15 "CoastPull$Log" "told" "I", Cond.fieldLink RX1 23 "CoastPull$Log" "steps" "LCoastPull$Steps;", Cond.fieldLink RX1 9 "CoastPull$Log" "speeds" "[I", Cond.methodLink RX1 39 yX1_isFaulty, Cond.instanceMethod yX1_isFaulty, Cond.selects RX1 yX1_isFaulty yX1_isFaulty, Cond.initialized RX1, Cond.code yX1_isFaulty cX1_isFaulty 2 (some .boolean), Cond.methodLink RX1 33 yX3_faultOf, Cond.instanceMethod yX3_faultOf, Cond.selects RX3 yX3_faultOf yX3_faultOf, Cond.initialized RX3, Cond.code yX3_faultOf cX3_faultOf 5 (some .int), Cond.methodLink RX3 30 Lib.Math.max.name, Cond.static Lib.Math.max.name, Cond.initialized "java/lang/Math", Cond.code Lib.Math.max.name Lib.Math.max.code 2 (some .int), Cond.fieldLink RX3 9 "CoastPull$Steps" "rails" "LCoastPull$Line;", Cond.methodLink RX3 39 Lib.Math.abs.name, Cond.static Lib.Math.abs.name, Cond.code Lib.Math.abs.name Lib.Math.abs.code 1 (some .int), Cond.fieldLink RX3 15 "CoastPull$Steps" "engine" "LCoastPull$Train;", Cond.methodLink RX3 36 yX0_limitOf, Cond.instanceMethod yX0_limitOf]
def wsX1_timeTogether_r2 : List Cond := [Cond.selects RX0 yX0_limitOf yX0_limitOf, Cond.initialized RX0, Cond.code yX0_limitOf cX0_limitOf 2 (some .int), Cond.fieldLink RX0 15 "CoastPull$Line" "limits" "[I", Cond.methodLink RX3 42 yX3_forceOf, Cond.instanceMethod yX3_forceOf, Cond.selects RX3 yX3_forceOf yX3_forceOf, Cond.code yX3_forceOf cX3_forceOf 5 (some .int), Cond.methodLink RX3 21 yX4_number, Cond.instanceMethod yX4_number, Cond.selects RX4 yX4_number yX4_number, Cond.initialized RX4, Cond.code yX4_number cX4_number 2 (some .int), Cond.fieldLink RX4 18 "CoastPull$Train" "numbers" "[I", Cond.methodLink RX3 25 yX0_gradeOf, Cond.instanceMethod yX0_gradeOf, Cond.selects RX0 yX0_gradeOf yX0_gradeOf, Cond.code yX0_gradeOf cX0_gradeOf 2 (some .int), Cond.fieldLink RX0 9 "CoastPull$Line" "grades" "[I", Cond.methodLink RX1 43 yX3_timeOf, Cond.instanceMethod yX3_timeOf, Cond.selects RX3 yX3_timeOf yX3_timeOf, Cond.code yX3_timeOf cX3_timeOf 4 (some .int)]
def wsX1_timeTogether : List Cond := .code yX1_timeTogether cX1_timeTogether 3 (some .int) :: ((wsX1_timeTogether_r1 ++ wsX1_timeTogether_r2) ++ wsX10 ++ wsX30 ++ wsX00 ++ wsX40)
def wsX3_powerOf : List Cond := .code yX3_powerOf cX3_powerOf 5 (some .int) :: ([.fieldLink RX3 15 "CoastPull$Steps" "engine" "LCoastPull$Train;", .methodLink RX3 42 yX3_forceOf, .instanceMethod yX3_forceOf, .selects RX3 yX3_forceOf yX3_forceOf, .initialized RX3, .code yX3_forceOf cX3_forceOf 5 (some .int), .fieldLink RX3 9 "CoastPull$Steps" "rails" "LCoastPull$Line;", .methodLink RX3 21 yX4_number, .instanceMethod yX4_number, .selects RX4 yX4_number yX4_number, .initialized RX4, .code yX4_number cX4_number 2 (some .int), .fieldLink RX4 18 "CoastPull$Train" "numbers" "[I", .methodLink RX3 25 yX0_gradeOf, .instanceMethod yX0_gradeOf, .selects RX0 yX0_gradeOf yX0_gradeOf, .initialized RX0, .code yX0_gradeOf cX0_gradeOf 2 (some .int), .fieldLink RX0 9 "CoastPull$Line" "grades" "[I"] ++ wsX30 ++ wsX40 ++ wsX00)
def wsX1_powerTogether_r1 : List Cond := [Cond.fieldLink RX1 15 "CoastPull$Log" "told" "I", Cond.fieldLink RX1 23 "CoastPull$Log" "steps" "LCoastPull$Steps;", Cond.fieldLink RX1 9 "CoastPull$Log" "speeds" "[I", Cond.methodLink RX1 39 yX1_isFaulty, Cond.instanceMethod yX1_isFaulty, Cond.selects RX1 yX1_isFaulty yX1_isFaulty, Cond.initialized RX1, Cond.code yX1_isFaulty cX1_isFaulty 2 (some .boolean), Cond.methodLink RX1 33 yX3_faultOf, Cond.instanceMethod yX3_faultOf, Cond.selects RX3 yX3_faultOf yX3_faultOf, Cond.initialized RX3, Cond.code yX3_faultOf cX3_faultOf 5 (some .int), Cond.methodLink RX3 30 Lib.Math.max.name, Cond.static Lib.Math.max.name, Cond.initialized "java/lang/Math", Cond.code Lib.Math.max.name Lib.Math.max.code 2 (some .int), Cond.fieldLink RX3 9 "CoastPull$Steps" "rails" "LCoastPull$Line;", Cond.methodLink RX3 39 Lib.Math.abs.name, Cond.static Lib.Math.abs.name, Cond.code Lib.Math.abs.name Lib.Math.abs.code 1 (some .int), Cond.fieldLink RX3 15 "CoastPull$Steps" "engine" "LCoastPull$Train;", Cond.methodLink RX3 36 yX0_limitOf, Cond.instanceMethod yX0_limitOf]
def wsX1_powerTogether_r2 : List Cond := [Cond.selects RX0 yX0_limitOf yX0_limitOf, Cond.initialized RX0, Cond.code yX0_limitOf cX0_limitOf 2 (some .int), Cond.fieldLink RX0 15 "CoastPull$Line" "limits" "[I", Cond.methodLink RX3 42 yX3_forceOf, Cond.instanceMethod yX3_forceOf, Cond.selects RX3 yX3_forceOf yX3_forceOf, Cond.code yX3_forceOf cX3_forceOf 5 (some .int), Cond.methodLink RX3 21 yX4_number, Cond.instanceMethod yX4_number, Cond.selects RX4 yX4_number yX4_number, Cond.initialized RX4, Cond.code yX4_number cX4_number 2 (some .int), Cond.fieldLink RX4 18 "CoastPull$Train" "numbers" "[I", Cond.methodLink RX3 25 yX0_gradeOf, Cond.instanceMethod yX0_gradeOf, Cond.selects RX0 yX0_gradeOf yX0_gradeOf, Cond.code yX0_gradeOf cX0_gradeOf 2 (some .int), Cond.fieldLink RX0 9 "CoastPull$Line" "grades" "[I", Cond.methodLink RX1 47 yX3_powerOf, Cond.instanceMethod yX3_powerOf, Cond.selects RX3 yX3_powerOf yX3_powerOf, Cond.code yX3_powerOf cX3_powerOf 5 (some .int)]
def wsX1_powerTogether : List Cond := .code yX1_powerTogether cX1_powerTogether 3 (some .int) :: ((wsX1_powerTogether_r1 ++ wsX1_powerTogether_r2) ++ wsX10 ++ wsX30 ++ wsX00 ++ wsX40)
def wsX1_faultCount_r1 : List Cond := [Cond.fieldLink RX1 15 "CoastPull$Log" "told" "I", Cond.methodLink RX1 39 yX1_isFaulty, Cond.instanceMethod yX1_isFaulty, Cond.selects RX1 yX1_isFaulty yX1_isFaulty, Cond.initialized RX1, Cond.code yX1_isFaulty cX1_isFaulty 2 (some .boolean), Cond.fieldLink RX1 23 "CoastPull$Log" "steps" "LCoastPull$Steps;", Cond.fieldLink RX1 9 "CoastPull$Log" "speeds" "[I", Cond.methodLink RX1 33 yX3_faultOf, Cond.instanceMethod yX3_faultOf, Cond.selects RX3 yX3_faultOf yX3_faultOf, Cond.initialized RX3, Cond.code yX3_faultOf cX3_faultOf 5 (some .int), Cond.methodLink RX3 30 Lib.Math.max.name, Cond.static Lib.Math.max.name, Cond.initialized "java/lang/Math", Cond.code Lib.Math.max.name Lib.Math.max.code 2 (some .int), Cond.fieldLink RX3 9 "CoastPull$Steps" "rails" "LCoastPull$Line;", Cond.methodLink RX3 39 Lib.Math.abs.name, Cond.static Lib.Math.abs.name, Cond.code Lib.Math.abs.name Lib.Math.abs.code 1 (some .int), Cond.fieldLink RX3 15 "CoastPull$Steps" "engine" "LCoastPull$Train;", Cond.methodLink RX3 36 yX0_limitOf, Cond.instanceMethod yX0_limitOf]
def wsX1_faultCount_r2 : List Cond := [Cond.selects RX0 yX0_limitOf yX0_limitOf, Cond.initialized RX0, Cond.code yX0_limitOf cX0_limitOf 2 (some .int), Cond.fieldLink RX0 15 "CoastPull$Line" "limits" "[I", Cond.methodLink RX3 42 yX3_forceOf, Cond.instanceMethod yX3_forceOf, Cond.selects RX3 yX3_forceOf yX3_forceOf, Cond.code yX3_forceOf cX3_forceOf 5 (some .int), Cond.methodLink RX3 21 yX4_number, Cond.instanceMethod yX4_number, Cond.selects RX4 yX4_number yX4_number, Cond.initialized RX4, Cond.code yX4_number cX4_number 2 (some .int), Cond.fieldLink RX4 18 "CoastPull$Train" "numbers" "[I", Cond.methodLink RX3 25 yX0_gradeOf, Cond.instanceMethod yX0_gradeOf, Cond.selects RX0 yX0_gradeOf yX0_gradeOf, Cond.code yX0_gradeOf cX0_gradeOf 2 (some .int), Cond.fieldLink RX0 9 "CoastPull$Line" "grades" "[I"]
def wsX1_faultCount : List Cond := .code yX1_faultCount cX1_faultCount 3 (some .int) :: ((wsX1_faultCount_r1 ++ wsX1_faultCount_r2) ++ wsX10 ++ wsX30 ++ wsX00 ++ wsX40)
def wsX1_firstFaultCell_r1 : List Cond := [Cond.fieldLink RX1 15 "CoastPull$Log" "told" "I", Cond.constant RX1 50 (-1000000), Cond.methodLink RX1 39 yX1_isFaulty, Cond.instanceMethod yX1_isFaulty, Cond.selects RX1 yX1_isFaulty yX1_isFaulty, Cond.initialized RX1, Cond.code yX1_isFaulty cX1_isFaulty 2 (some .boolean), Cond.fieldLink RX1 23 "CoastPull$Log" "steps" "LCoastPull$Steps;", Cond.fieldLink RX1 9 "CoastPull$Log" "speeds" "[I", Cond.methodLink RX1 33 yX3_faultOf, Cond.instanceMethod yX3_faultOf, Cond.selects RX3 yX3_faultOf yX3_faultOf, Cond.initialized RX3, Cond.code yX3_faultOf cX3_faultOf 5 (some .int), Cond.methodLink RX3 30 Lib.Math.max.name, Cond.static Lib.Math.max.name, Cond.initialized "java/lang/Math", Cond.code Lib.Math.max.name Lib.Math.max.code 2 (some .int), Cond.fieldLink RX3 9 "CoastPull$Steps" "rails" "LCoastPull$Line;", Cond.methodLink RX3 39 Lib.Math.abs.name, Cond.static Lib.Math.abs.name, Cond.code Lib.Math.abs.name Lib.Math.abs.code 1 (some .int), Cond.fieldLink RX3 15 "CoastPull$Steps" "engine" "LCoastPull$Train;", Cond.methodLink RX3 36 yX0_limitOf]
def wsX1_firstFaultCell_r2 : List Cond := [Cond.instanceMethod yX0_limitOf, Cond.selects RX0 yX0_limitOf yX0_limitOf, Cond.initialized RX0, Cond.code yX0_limitOf cX0_limitOf 2 (some .int), Cond.fieldLink RX0 15 "CoastPull$Line" "limits" "[I", Cond.methodLink RX3 42 yX3_forceOf, Cond.instanceMethod yX3_forceOf, Cond.selects RX3 yX3_forceOf yX3_forceOf, Cond.code yX3_forceOf cX3_forceOf 5 (some .int), Cond.methodLink RX3 21 yX4_number, Cond.instanceMethod yX4_number, Cond.selects RX4 yX4_number yX4_number, Cond.initialized RX4, Cond.code yX4_number cX4_number 2 (some .int), Cond.fieldLink RX4 18 "CoastPull$Train" "numbers" "[I", Cond.methodLink RX3 25 yX0_gradeOf, Cond.instanceMethod yX0_gradeOf, Cond.selects RX0 yX0_gradeOf yX0_gradeOf, Cond.code yX0_gradeOf cX0_gradeOf 2 (some .int), Cond.fieldLink RX0 9 "CoastPull$Line" "grades" "[I"]
def wsX1_firstFaultCell : List Cond := .code yX1_firstFaultCell cX1_firstFaultCell 2 (some .int) :: ((wsX1_firstFaultCell_r1 ++ wsX1_firstFaultCell_r2) ++ wsX10 ++ wsX30 ++ wsX00 ++ wsX40)
def wsX1_stopsPassed : List Cond := .code yX1_stopsPassed cX1_stopsPassed 3 (some .int) :: ([.fieldLink RX1 15 "CoastPull$Log" "told" "I", .fieldLink RX1 19 "CoastPull$Log" "rails" "LCoastPull$Line;", .fieldLink RX1 9 "CoastPull$Log" "speeds" "[I", .methodLink RX1 51 yX0_isStop, .instanceMethod yX0_isStop, .selects RX0 yX0_isStop yX0_isStop, .initialized RX0, .code yX0_isStop cX0_isStop 2 (some .boolean), .fieldLink RX0 18 "CoastPull$Line" "stops" "[Z"] ++ wsX10 ++ wsX00)
def wsX2_init : List Cond := .code yX2_init cX2_init 3 none :: ([.methodLink RX2 3 objectInit, .instanceMethod objectInit, .code objectInit ⟨#[0xb1]⟩ 1 none, .arrayClass .long, .fieldLink RX2 9 "CoastPull$Shares" "choices" "[J", .fieldLink RX2 15 "CoastPull$Shares" "placeValues" "[J", .fieldLink RX2 18 "CoastPull$Shares" "upToDate" "Z", .fieldLink RX2 22 "CoastPull$Shares" "rails" "LCoastPull$Line;", .fieldLink RX2 26 "CoastPull$Shares" "ways" "LCoastPull$Ways;"] ++ wsX20)
def wsX2_forget : List Cond := .code yX2_forget cX2_forget 1 none :: ([.fieldLink RX2 18 "CoastPull$Shares" "upToDate" "Z"] ++ wsX20)
def wsJ7_fill_d0a16 : List Cond := .code yJ7_fill_d0a16 cJ7_fill_d0a16 5 none :: ([])
def wsX5_pairCount : List Cond := .code yX5_pairCount cX5_pairCount 2 (some .int) :: ([.fieldLink RX5 18 "CoastPull$Ways" "firstPair" "[I"] ++ wsX50)
def wsX5_pairTime : List Cond := .code yX5_pairTime cX5_pairTime 3 (some .int) :: ([.fieldLink RX5 22 "CoastPull$Ways" "times" "[I", .fieldLink RX5 18 "CoastPull$Ways" "firstPair" "[I"] ++ wsX50)
def wsX5_pairPower : List Cond := .code yX5_pairPower cX5_pairPower 3 (some .int) :: ([.fieldLink RX5 25 "CoastPull$Ways" "choices" "[J", .fieldLink RX5 18 "CoastPull$Ways" "firstPair" "[I"] ++ wsX50)
def wsX2_bestFrom : List Cond := .code yX2_bestFrom cX2_bestFrom 10 (some .long) :: ([.constantLong RX2 58 (4611686018427387904), .fieldLink RX2 26 "CoastPull$Shares" "ways" "LCoastPull$Ways;", .fieldLink RX2 9 "CoastPull$Shares" "choices" "[J", .fieldLink RX2 15 "CoastPull$Shares" "placeValues" "[J", .methodLink RX2 66 Lib.MathLoose.min_long.x, .static Lib.MathLoose.min_long.x, .initialized "java/lang/Math", .code Lib.MathLoose.min_long.x Lib.MathLoose.min_long.code 4 (some .long), .methodLink RX2 46 yX5_pairCount, .instanceMethod yX5_pairCount, .selects RX5 yX5_pairCount yX5_pairCount, .initialized RX5, .code yX5_pairCount cX5_pairCount 2 (some .int), .fieldLink RX5 18 "CoastPull$Ways" "firstPair" "[I", .methodLink RX2 60 yX5_pairTime, .instanceMethod yX5_pairTime, .selects RX5 yX5_pairTime yX5_pairTime, .code yX5_pairTime cX5_pairTime 3 (some .int), .fieldLink RX5 22 "CoastPull$Ways" "times" "[I", .methodLink RX2 63 yX5_pairPower, .instanceMethod yX5_pairPower, .selects RX5 yX5_pairPower yX5_pairPower, .code yX5_pairPower cX5_pairPower 3 (some .int), .fieldLink RX5 25 "CoastPull$Ways" "choices" "[J"] ++ wsX20 ++ wsX50)
def wsX2_bringUpToDate_r1 : List Cond := [Cond.fieldLink RX2 18 "CoastPull$Shares" "upToDate" "Z", Cond.fieldLink RX2 9 "CoastPull$Shares" "choices" "[J", Cond.fieldLink RX2 22 "CoastPull$Shares" "rails" "LCoastPull$Line;", Cond.fieldLink RX2 15 "CoastPull$Shares" "placeValues" "[J", Cond.fieldLink RX2 26 "CoastPull$Shares" "ways" "LCoastPull$Ways;", Cond.methodLink RX2 52 Lib.Math.max.name, Cond.static Lib.Math.max.name, Cond.initialized "java/lang/Math", Cond.code Lib.Math.max.name Lib.Math.max.code 2 (some .int), Cond.methodLink RX2 30 yJ7_fill_d0a16, Cond.static yJ7_fill_d0a16, Cond.initialized RJ7, Cond.code yJ7_fill_d0a16 cJ7_fill_d0a16 5 none, Cond.methodLink RX2 36 yX0_legCount, Cond.instanceMethod yX0_legCount, Cond.selects RX0 yX0_legCount yX0_legCount, Cond.initialized RX0, Cond.code yX0_legCount cX0_legCount 1 (some .int), Cond.fieldLink RX0 36 "CoastPull$Line" "legs" "I", Cond.methodLink RX2 42 yX2_bestFrom, Cond.instanceMethod yX2_bestFrom, Cond.selects RX2 yX2_bestFrom yX2_bestFrom, Cond.initialized RX2, Cond.code yX2_bestFrom cX2_bestFrom 10 (some .long)]
def wsX2_bringUpToDate_r2 : List Cond := [Cond.constantLong RX2 58 (4611686018427387904), Cond.methodLink RX2 66 Lib.MathLoose.min_long.x, Cond.static Lib.MathLoose.min_long.x, Cond.code Lib.MathLoose.min_long.x Lib.MathLoose.min_long.code 4 (some .long), Cond.methodLink RX2 46 yX5_pairCount, Cond.instanceMethod yX5_pairCount, Cond.selects RX5 yX5_pairCount yX5_pairCount, Cond.initialized RX5, Cond.code yX5_pairCount cX5_pairCount 2 (some .int), Cond.fieldLink RX5 18 "CoastPull$Ways" "firstPair" "[I", Cond.methodLink RX2 60 yX5_pairTime, Cond.instanceMethod yX5_pairTime, Cond.selects RX5 yX5_pairTime yX5_pairTime, Cond.code yX5_pairTime cX5_pairTime 3 (some .int), Cond.fieldLink RX5 22 "CoastPull$Ways" "times" "[I", Cond.methodLink RX2 63 yX5_pairPower, Cond.instanceMethod yX5_pairPower, Cond.selects RX5 yX5_pairPower yX5_pairPower, Cond.code yX5_pairPower cX5_pairPower 3 (some .int), Cond.fieldLink RX5 25 "CoastPull$Ways" "choices" "[J"]
def wsX2_bringUpToDate : List Cond := .code yX2_bringUpToDate cX2_bringUpToDate 5 none :: ((wsX2_bringUpToDate_r1 ++ wsX2_bringUpToDate_r2) ++ wsX20 ++ wsX00 ++ wsX50)
def wsX2_isThere : List Cond := .code yX2_isThere cX2_isThere 2 (some .boolean) :: ([.fieldLink RX2 9 "CoastPull$Shares" "choices" "[J", .constantLong RX2 58 (4611686018427387904)] ++ wsX20)
def wsX2_powerTogether : List Cond := .code yX2_powerTogether cX2_powerTogether 2 (some .int) :: ([.fieldLink RX2 9 "CoastPull$Shares" "choices" "[J"] ++ wsX20)
def wsX2_legTime : List Cond := .code yX2_legTime cX2_legTime 8 (some .int) :: ([.fieldLink RX2 26 "CoastPull$Shares" "ways" "LCoastPull$Ways;", .fieldLink RX2 15 "CoastPull$Shares" "placeValues" "[J", .constant RX2 70 (-1000000), .fieldLink RX2 9 "CoastPull$Shares" "choices" "[J", .constantLong RX2 71 (281474976710655), .methodLink RX2 46 yX5_pairCount, .instanceMethod yX5_pairCount, .selects RX5 yX5_pairCount yX5_pairCount, .initialized RX5, .code yX5_pairCount cX5_pairCount 2 (some .int), .fieldLink RX5 18 "CoastPull$Ways" "firstPair" "[I", .methodLink RX2 60 yX5_pairTime, .instanceMethod yX5_pairTime, .selects RX5 yX5_pairTime yX5_pairTime, .code yX5_pairTime cX5_pairTime 3 (some .int), .fieldLink RX5 22 "CoastPull$Ways" "times" "[I"] ++ wsX20 ++ wsX50)
def wsX3_init : List Cond := .code yX3_init cX3_init 3 none :: ([.methodLink RX3 3 objectInit, .instanceMethod objectInit, .code objectInit ⟨#[0xb1]⟩ 1 none, .fieldLink RX3 9 "CoastPull$Steps" "rails" "LCoastPull$Line;", .fieldLink RX3 15 "CoastPull$Steps" "engine" "LCoastPull$Train;"] ++ wsX30)
def wsX4_init : List Cond := .code yX4_init cX4_init 1 none :: ([.methodLink RX4 1 objectInit, .instanceMethod objectInit, .code objectInit ⟨#[0xb1]⟩ 1 none, .fieldLink RX4 7 "CoastPull$Train" "AT_FIRST" "[I", .methodLink RX4 13 ⟨"[I", "clone", "()Ljava/lang/Object;"⟩, .sameMethod "[I" "java/lang/Object" "clone" "()Ljava/lang/Object;", .native ⟨"java/lang/Object", "clone", "()Ljava/lang/Object;"⟩, .instanceMethod ⟨"java/lang/Object", "clone", "()Ljava/lang/Object;"⟩, .selects "[I" ⟨"[I", "clone", "()Ljava/lang/Object;"⟩ ⟨"java/lang/Object", "clone", "()Ljava/lang/Object;"⟩, .classLink RX4 14 "[I", .fieldLink RX4 18 "CoastPull$Train" "numbers" "[I"] ++ wsX40)
def wsX4_knows : List Cond := .code yX4_knows cX4_knows 2 (some .boolean) :: ([.fieldLink RX4 18 "CoastPull$Train" "numbers" "[I"] ++ wsX40)
def wsX4_mayBe : List Cond := .code yX4_mayBe cX4_mayBe 3 (some .boolean) :: ([.fieldLink RX4 21 "CoastPull$Train" "LEAST" "[I", .fieldLink RX4 24 "CoastPull$Train" "MOST" "[I"])
def wsX4_put : List Cond := .code yX4_put cX4_put 3 none :: ([.fieldLink RX4 18 "CoastPull$Train" "numbers" "[I"] ++ wsX40)
def wsX5_init : List Cond := .code yX5_init cX5_init 3 none :: ([.methodLink RX5 5 objectInit, .instanceMethod objectInit, .code objectInit ⟨#[0xb1]⟩ 1 none, .arrayClass .long, .fieldLink RX5 11 "CoastPull$Ways" "evenRow" "[J", .fieldLink RX5 15 "CoastPull$Ways" "oddRow" "[J", .arrayClass .int, .fieldLink RX5 18 "CoastPull$Ways" "firstPair" "[I", .fieldLink RX5 22 "CoastPull$Ways" "times" "[I", .fieldLink RX5 25 "CoastPull$Ways" "choices" "[J", .fieldLink RX5 28 "CoastPull$Ways" "upToDate" "Z", .fieldLink RX5 32 "CoastPull$Ways" "rails" "LCoastPull$Line;", .fieldLink RX5 36 "CoastPull$Ways" "steps" "LCoastPull$Steps;"] ++ wsX50)
def wsX5_forget : List Cond := .code yX5_forget cX5_forget 1 none :: ([.fieldLink RX5 28 "CoastPull$Ways" "upToDate" "Z"] ++ wsX50)
def wsX5_speedPlace : List Cond := .code yX5_speedPlace cX5_speedPlace 1 (some .int) :: ([])
def wsX5_spread : List Cond := .code yX5_spread cX5_spread 10 none :: ([.constantLong RX5 61 (4611686018427387904), .methodLink RX5 93 Lib.MathLoose.min_long.x, .static Lib.MathLoose.min_long.x, .initialized "java/lang/Math", .code Lib.MathLoose.min_long.x Lib.MathLoose.min_long.code 4 (some .long)])
def wsX5_driveThrough_r1 : List Cond := [Cond.fieldLink RX5 36 "CoastPull$Ways" "steps" "LCoastPull$Steps;", Cond.methodLink RX5 73 yX3_faultOf, Cond.instanceMethod yX3_faultOf, Cond.selects RX3 yX3_faultOf yX3_faultOf, Cond.initialized RX3, Cond.code yX3_faultOf cX3_faultOf 5 (some .int), Cond.methodLink RX3 30 Lib.Math.max.name, Cond.static Lib.Math.max.name, Cond.initialized "java/lang/Math", Cond.code Lib.Math.max.name Lib.Math.max.code 2 (some .int), Cond.fieldLink RX3 9 "CoastPull$Steps" "rails" "LCoastPull$Line;", Cond.methodLink RX3 39 Lib.Math.abs.name, Cond.static Lib.Math.abs.name, Cond.code Lib.Math.abs.name Lib.Math.abs.code 1 (some .int), Cond.fieldLink RX3 15 "CoastPull$Steps" "engine" "LCoastPull$Train;", Cond.methodLink RX3 36 yX0_limitOf, Cond.instanceMethod yX0_limitOf, Cond.selects RX0 yX0_limitOf yX0_limitOf, Cond.initialized RX0, Cond.code yX0_limitOf cX0_limitOf 2 (some .int), Cond.fieldLink RX0 15 "CoastPull$Line" "limits" "[I", Cond.methodLink RX3 42 yX3_forceOf, Cond.instanceMethod yX3_forceOf, Cond.selects RX3 yX3_forceOf yX3_forceOf]
def wsX5_driveThrough_r2 : List Cond := [Cond.code yX3_forceOf cX3_forceOf 5 (some .int), Cond.methodLink RX3 21 yX4_number, Cond.instanceMethod yX4_number, Cond.selects RX4 yX4_number yX4_number, Cond.initialized RX4, Cond.code yX4_number cX4_number 2 (some .int), Cond.fieldLink RX4 18 "CoastPull$Train" "numbers" "[I", Cond.methodLink RX3 25 yX0_gradeOf, Cond.instanceMethod yX0_gradeOf, Cond.selects RX0 yX0_gradeOf yX0_gradeOf, Cond.code yX0_gradeOf cX0_gradeOf 2 (some .int), Cond.fieldLink RX0 9 "CoastPull$Line" "grades" "[I", Cond.methodLink RX5 79 yX3_powerOf, Cond.instanceMethod yX3_powerOf, Cond.selects RX3 yX3_powerOf yX3_powerOf, Cond.code yX3_powerOf cX3_powerOf 5 (some .int), Cond.methodLink RX5 82 yX5_speedPlace, Cond.static yX5_speedPlace, Cond.initialized RX5, Cond.code yX5_speedPlace cX5_speedPlace 1 (some .int), Cond.methodLink RX5 85 yX3_timeOf, Cond.instanceMethod yX3_timeOf, Cond.selects RX3 yX3_timeOf yX3_timeOf, Cond.code yX3_timeOf cX3_timeOf 4 (some .int)]
def wsX5_driveThrough_r3 : List Cond := [Cond.methodLink RX5 89 yX5_spread, Cond.static yX5_spread, Cond.code yX5_spread cX5_spread 10 none, Cond.constantLong RX5 61 (4611686018427387904), Cond.methodLink RX5 93 Lib.MathLoose.min_long.x, Cond.static Lib.MathLoose.min_long.x, Cond.code Lib.MathLoose.min_long.x Lib.MathLoose.min_long.code 4 (some .long)]
def wsX5_driveThrough : List Cond := .code yX5_driveThrough cX5_driveThrough 13 none :: ((wsX5_driveThrough_r1 ++ (wsX5_driveThrough_r2 ++ wsX5_driveThrough_r3)) ++ wsX50 ++ wsX30 ++ wsX00 ++ wsX40)
def wsX5_driveOver_r1 : List Cond := [Cond.fieldLink RX5 32 "CoastPull$Ways" "rails" "LCoastPull$Line;", Cond.fieldLink RX5 11 "CoastPull$Ways" "evenRow" "[J", Cond.fieldLink RX5 15 "CoastPull$Ways" "oddRow" "[J", Cond.constantLong RX5 61 (4611686018427387904), Cond.methodLink RX5 54 yX0_firstPost, Cond.instanceMethod yX0_firstPost, Cond.selects RX0 yX0_firstPost yX0_firstPost, Cond.initialized RX0, Cond.code yX0_firstPost cX0_firstPost 2 (some .int), Cond.fieldLink RX0 22 "CoastPull$Line" "stopPosts" "[I", Cond.methodLink RX5 58 yX0_lastPost, Cond.instanceMethod yX0_lastPost, Cond.selects RX0 yX0_lastPost yX0_lastPost, Cond.code yX0_lastPost cX0_lastPost 2 (some .int), Cond.methodLink RX5 63 yJ7_fill_d0a16, Cond.static yJ7_fill_d0a16, Cond.initialized RJ7, Cond.code yJ7_fill_d0a16 cJ7_fill_d0a16 5 none, Cond.methodLink RX5 69 yX5_driveThrough, Cond.instanceMethod yX5_driveThrough, Cond.selects RX5 yX5_driveThrough yX5_driveThrough, Cond.initialized RX5, Cond.code yX5_driveThrough cX5_driveThrough 13 none, Cond.fieldLink RX5 36 "CoastPull$Ways" "steps" "LCoastPull$Steps;"]
def wsX5_driveOver_r2 : List Cond := [Cond.methodLink RX5 73 yX3_faultOf, Cond.instanceMethod yX3_faultOf, Cond.selects RX3 yX3_faultOf yX3_faultOf, Cond.initialized RX3, Cond.code yX3_faultOf cX3_faultOf 5 (some .int), Cond.methodLink RX3 30 Lib.Math.max.name, Cond.static Lib.Math.max.name, Cond.initialized "java/lang/Math", Cond.code Lib.Math.max.name Lib.Math.max.code 2 (some .int), Cond.fieldLink RX3 9 "CoastPull$Steps" "rails" "LCoastPull$Line;", Cond.methodLink RX3 39 Lib.Math.abs.name, Cond.static Lib.Math.abs.name, Cond.code Lib.Math.abs.name Lib.Math.abs.code 1 (some .int), Cond.fieldLink RX3 15 "CoastPull$Steps" "engine" "LCoastPull$Train;", Cond.methodLink RX3 36 yX0_limitOf, Cond.instanceMethod yX0_limitOf, Cond.selects RX0 yX0_limitOf yX0_limitOf, Cond.code yX0_limitOf cX0_limitOf 2 (some .int), Cond.fieldLink RX0 15 "CoastPull$Line" "limits" "[I", Cond.methodLink RX3 42 yX3_forceOf, Cond.instanceMethod yX3_forceOf, Cond.selects RX3 yX3_forceOf yX3_forceOf, Cond.code yX3_forceOf cX3_forceOf 5 (some .int), Cond.methodLink RX3 21 yX4_number]
def wsX5_driveOver_r3 : List Cond := [Cond.instanceMethod yX4_number, Cond.selects RX4 yX4_number yX4_number, Cond.initialized RX4, Cond.code yX4_number cX4_number 2 (some .int), Cond.fieldLink RX4 18 "CoastPull$Train" "numbers" "[I", Cond.methodLink RX3 25 yX0_gradeOf, Cond.instanceMethod yX0_gradeOf, Cond.selects RX0 yX0_gradeOf yX0_gradeOf, Cond.code yX0_gradeOf cX0_gradeOf 2 (some .int), Cond.fieldLink RX0 9 "CoastPull$Line" "grades" "[I", Cond.methodLink RX5 79 yX3_powerOf, Cond.instanceMethod yX3_powerOf, Cond.selects RX3 yX3_powerOf yX3_powerOf, Cond.code yX3_powerOf cX3_powerOf 5 (some .int), Cond.methodLink RX5 82 yX5_speedPlace, Cond.static yX5_speedPlace, Cond.code yX5_speedPlace cX5_speedPlace 1 (some .int), Cond.methodLink RX5 85 yX3_timeOf, Cond.instanceMethod yX3_timeOf, Cond.selects RX3 yX3_timeOf yX3_timeOf, Cond.code yX3_timeOf cX3_timeOf 4 (some .int), Cond.methodLink RX5 89 yX5_spread, Cond.static yX5_spread, Cond.code yX5_spread cX5_spread 10 none]
def wsX5_driveOver_r4 : List Cond := [Cond.methodLink RX5 93 Lib.MathLoose.min_long.x, Cond.static Lib.MathLoose.min_long.x, Cond.code Lib.MathLoose.min_long.x Lib.MathLoose.min_long.code 4 (some .long)]
def wsX5_driveOver : List Cond := .code yX5_driveOver cX5_driveOver 8 (some (.array .long)) :: ((wsX5_driveOver_r1 ++ (wsX5_driveOver_r2 ++ (wsX5_driveOver_r3 ++ wsX5_driveOver_r4))) ++ wsX50 ++ wsX00 ++ wsX30 ++ wsX40)
def wsX5_gatherPairs : List Cond := .code yX5_gatherPairs cX5_gatherPairs 9 (some .int) :: ([.constantLong RX5 99 (16384), .fieldLink RX5 22 "CoastPull$Ways" "times" "[I", .fieldLink RX5 25 "CoastPull$Ways" "choices" "[J"] ++ wsX50)
def wsX5_bringUpToDate_r1 : List Cond := [Cond.fieldLink RX5 28 "CoastPull$Ways" "upToDate" "Z", Cond.fieldLink RX5 32 "CoastPull$Ways" "rails" "LCoastPull$Line;", Cond.fieldLink RX5 18 "CoastPull$Ways" "firstPair" "[I", Cond.methodLink RX5 40 yX0_legCount, Cond.instanceMethod yX0_legCount, Cond.selects RX0 yX0_legCount yX0_legCount, Cond.initialized RX0, Cond.code yX0_legCount cX0_legCount 1 (some .int), Cond.fieldLink RX0 36 "CoastPull$Line" "legs" "I", Cond.methodLink RX5 46 yX5_driveOver, Cond.instanceMethod yX5_driveOver, Cond.selects RX5 yX5_driveOver yX5_driveOver, Cond.initialized RX5, Cond.code yX5_driveOver cX5_driveOver 8 (some (.array .long)), Cond.fieldLink RX5 11 "CoastPull$Ways" "evenRow" "[J", Cond.fieldLink RX5 15 "CoastPull$Ways" "oddRow" "[J", Cond.constantLong RX5 61 (4611686018427387904), Cond.methodLink RX5 54 yX0_firstPost, Cond.instanceMethod yX0_firstPost, Cond.selects RX0 yX0_firstPost yX0_firstPost, Cond.code yX0_firstPost cX0_firstPost 2 (some .int), Cond.fieldLink RX0 22 "CoastPull$Line" "stopPosts" "[I", Cond.methodLink RX5 58 yX0_lastPost, Cond.instanceMethod yX0_lastPost]
def wsX5_bringUpToDate_r2 : List Cond := [Cond.selects RX0 yX0_lastPost yX0_lastPost, Cond.code yX0_lastPost cX0_lastPost 2 (some .int), Cond.methodLink RX5 63 yJ7_fill_d0a16, Cond.static yJ7_fill_d0a16, Cond.initialized RJ7, Cond.code yJ7_fill_d0a16 cJ7_fill_d0a16 5 none, Cond.methodLink RX5 69 yX5_driveThrough, Cond.instanceMethod yX5_driveThrough, Cond.selects RX5 yX5_driveThrough yX5_driveThrough, Cond.code yX5_driveThrough cX5_driveThrough 13 none, Cond.fieldLink RX5 36 "CoastPull$Ways" "steps" "LCoastPull$Steps;", Cond.methodLink RX5 73 yX3_faultOf, Cond.instanceMethod yX3_faultOf, Cond.selects RX3 yX3_faultOf yX3_faultOf, Cond.initialized RX3, Cond.code yX3_faultOf cX3_faultOf 5 (some .int), Cond.methodLink RX3 30 Lib.Math.max.name, Cond.static Lib.Math.max.name, Cond.initialized "java/lang/Math", Cond.code Lib.Math.max.name Lib.Math.max.code 2 (some .int), Cond.fieldLink RX3 9 "CoastPull$Steps" "rails" "LCoastPull$Line;", Cond.methodLink RX3 39 Lib.Math.abs.name, Cond.static Lib.Math.abs.name, Cond.code Lib.Math.abs.name Lib.Math.abs.code 1 (some .int)]
def wsX5_bringUpToDate_r3 : List Cond := [Cond.fieldLink RX3 15 "CoastPull$Steps" "engine" "LCoastPull$Train;", Cond.methodLink RX3 36 yX0_limitOf, Cond.instanceMethod yX0_limitOf, Cond.selects RX0 yX0_limitOf yX0_limitOf, Cond.code yX0_limitOf cX0_limitOf 2 (some .int), Cond.fieldLink RX0 15 "CoastPull$Line" "limits" "[I", Cond.methodLink RX3 42 yX3_forceOf, Cond.instanceMethod yX3_forceOf, Cond.selects RX3 yX3_forceOf yX3_forceOf, Cond.code yX3_forceOf cX3_forceOf 5 (some .int), Cond.methodLink RX3 21 yX4_number, Cond.instanceMethod yX4_number, Cond.selects RX4 yX4_number yX4_number, Cond.initialized RX4, Cond.code yX4_number cX4_number 2 (some .int), Cond.fieldLink RX4 18 "CoastPull$Train" "numbers" "[I", Cond.methodLink RX3 25 yX0_gradeOf, Cond.instanceMethod yX0_gradeOf, Cond.selects RX0 yX0_gradeOf yX0_gradeOf, Cond.code yX0_gradeOf cX0_gradeOf 2 (some .int), Cond.fieldLink RX0 9 "CoastPull$Line" "grades" "[I", Cond.methodLink RX5 79 yX3_powerOf, Cond.instanceMethod yX3_powerOf, Cond.selects RX3 yX3_powerOf yX3_powerOf]
def wsX5_bringUpToDate_r4 : List Cond := [Cond.code yX3_powerOf cX3_powerOf 5 (some .int), Cond.methodLink RX5 82 yX5_speedPlace, Cond.static yX5_speedPlace, Cond.code yX5_speedPlace cX5_speedPlace 1 (some .int), Cond.methodLink RX5 85 yX3_timeOf, Cond.instanceMethod yX3_timeOf, Cond.selects RX3 yX3_timeOf yX3_timeOf, Cond.code yX3_timeOf cX3_timeOf 4 (some .int), Cond.methodLink RX5 89 yX5_spread, Cond.static yX5_spread, Cond.code yX5_spread cX5_spread 10 none, Cond.methodLink RX5 93 Lib.MathLoose.min_long.x, Cond.static Lib.MathLoose.min_long.x, Cond.code Lib.MathLoose.min_long.x Lib.MathLoose.min_long.code 4 (some .long), Cond.methodLink RX5 50 yX5_gatherPairs, Cond.instanceMethod yX5_gatherPairs, Cond.selects RX5 yX5_gatherPairs yX5_gatherPairs, Cond.code yX5_gatherPairs cX5_gatherPairs 9 (some .int), Cond.constantLong RX5 99 (16384), Cond.fieldLink RX5 22 "CoastPull$Ways" "times" "[I", Cond.fieldLink RX5 25 "CoastPull$Ways" "choices" "[J"]
def wsX5_bringUpToDate : List Cond := .code yX5_bringUpToDate cX5_bringUpToDate 3 none :: ((wsX5_bringUpToDate_r1 ++ (wsX5_bringUpToDate_r2 ++ (wsX5_bringUpToDate_r3 ++ wsX5_bringUpToDate_r4))) ++ wsX50 ++ wsX00 ++ wsX30 ++ wsX40)
def wsX5_pairSpeed : List Cond := .code yX5_pairSpeed cX5_pairSpeed 5 (some .int) :: ([.fieldLink RX5 32 "CoastPull$Ways" "rails" "LCoastPull$Line;", .fieldLink RX5 25 "CoastPull$Ways" "choices" "[J", .fieldLink RX5 18 "CoastPull$Ways" "firstPair" "[I", .methodLink RX5 54 yX0_firstPost, .instanceMethod yX0_firstPost, .selects RX0 yX0_firstPost yX0_firstPost, .initialized RX0, .code yX0_firstPost cX0_firstPost 2 (some .int), .fieldLink RX0 22 "CoastPull$Line" "stopPosts" "[I", .methodLink RX5 82 yX5_speedPlace, .static yX5_speedPlace, .initialized RX5, .code yX5_speedPlace cX5_speedPlace 1 (some .int)] ++ wsX50 ++ wsX00)
def wsX5_pairWithin : List Cond := .code yX5_pairWithin cX5_pairWithin 4 (some .int) :: ([.methodLink RX5 101 yX5_pairCount, .instanceMethod yX5_pairCount, .selects RX5 yX5_pairCount yX5_pairCount, .initialized RX5, .code yX5_pairCount cX5_pairCount 2 (some .int), .fieldLink RX5 18 "CoastPull$Ways" "firstPair" "[I", .methodLink RX5 104 yX5_pairTime, .instanceMethod yX5_pairTime, .selects RX5 yX5_pairTime yX5_pairTime, .code yX5_pairTime cX5_pairTime 3 (some .int), .fieldLink RX5 22 "CoastPull$Ways" "times" "[I"] ++ wsX50)
def wsX6_init_r1 : List Cond := [Cond.methodLink RX6 3 objectInit, Cond.instanceMethod objectInit, Cond.code objectInit ⟨#[0xb1]⟩ 1 none, Cond.classLink RX6 9 RX0, Cond.instantiable RX0 6, Cond.initialized RX0, Cond.fieldLink RX6 12 "CoastPull" "rails" "LCoastPull$Line;", Cond.classLink RX6 16 RX4, Cond.instantiable RX4 1, Cond.initialized RX4, Cond.fieldLink RX6 19 "CoastPull" "engine" "LCoastPull$Train;", Cond.classLink RX6 23 RX3, Cond.instantiable RX3 2, Cond.initialized RX3, Cond.fieldLink RX6 28 "CoastPull" "steps" "LCoastPull$Steps;", Cond.classLink RX6 32 RX5, Cond.instantiable RX5 8, Cond.initialized RX5, Cond.fieldLink RX6 37 "CoastPull" "ways" "LCoastPull$Ways;", Cond.classLink RX6 41 RX2, Cond.instantiable RX2 5, Cond.initialized RX2, Cond.fieldLink RX6 46 "CoastPull" "shares" "LCoastPull$Shares;", Cond.classLink RX6 50 RX1]
def wsX6_init_r2 : List Cond := [Cond.instantiable RX1 4, Cond.initialized RX1, Cond.fieldLink RX6 53 "CoastPull" "book" "LCoastPull$Log;", Cond.methodLink RX6 11 yX0_init, Cond.instanceMethod yX0_init, Cond.code yX0_init cX0_init 1 none, Cond.methodLink RX0 3 objectInit, Cond.arrayClass .int, Cond.fieldLink RX0 9 "CoastPull$Line" "grades" "[I", Cond.fieldLink RX0 15 "CoastPull$Line" "limits" "[I", Cond.arrayClass .boolean, Cond.fieldLink RX0 18 "CoastPull$Line" "stops" "[Z", Cond.fieldLink RX0 22 "CoastPull$Line" "stopPosts" "[I", Cond.methodLink RX0 25 yX0_lay, Cond.instanceMethod yX0_lay, Cond.selects RX0 yX0_lay yX0_lay, Cond.code yX0_lay cX0_lay 3 none, Cond.fieldLink RX0 29 "CoastPull$Line" "cells" "I", Cond.methodLink RX0 33 yX0_findLegs, Cond.instanceMethod yX0_findLegs, Cond.selects RX0 yX0_findLegs yX0_findLegs, Cond.code yX0_findLegs cX0_findLegs 3 none, Cond.fieldLink RX0 36 "CoastPull$Line" "legs" "I", Cond.instanceMethod yX4_init]
def wsX6_init_r3 : List Cond := [Cond.code yX4_init cX4_init 1 none, Cond.methodLink RX4 1 objectInit, Cond.fieldLink RX4 7 "CoastPull$Train" "AT_FIRST" "[I", Cond.methodLink RX4 13 ⟨"[I", "clone", "()Ljava/lang/Object;"⟩, Cond.sameMethod "[I" "java/lang/Object" "clone" "()Ljava/lang/Object;", Cond.native ⟨"java/lang/Object", "clone", "()Ljava/lang/Object;"⟩, Cond.instanceMethod ⟨"java/lang/Object", "clone", "()Ljava/lang/Object;"⟩, Cond.selects "[I" ⟨"[I", "clone", "()Ljava/lang/Object;"⟩ ⟨"java/lang/Object", "clone", "()Ljava/lang/Object;"⟩, Cond.classLink RX4 14 "[I", Cond.fieldLink RX4 18 "CoastPull$Train" "numbers" "[I", Cond.methodLink RX6 25 yX3_init, Cond.instanceMethod yX3_init, Cond.code yX3_init cX3_init 3 none, Cond.methodLink RX3 3 objectInit, Cond.fieldLink RX3 9 "CoastPull$Steps" "rails" "LCoastPull$Line;", Cond.fieldLink RX3 15 "CoastPull$Steps" "engine" "LCoastPull$Train;", Cond.methodLink RX6 34 yX5_init, Cond.instanceMethod yX5_init, Cond.code yX5_init cX5_init 3 none, Cond.methodLink RX5 5 objectInit, Cond.arrayClass .long, Cond.fieldLink RX5 11 "CoastPull$Ways" "evenRow" "[J", Cond.fieldLink RX5 15 "CoastPull$Ways" "oddRow" "[J", Cond.fieldLink RX5 18 "CoastPull$Ways" "firstPair" "[I"]
def wsX6_init_r4 : List Cond := [Cond.fieldLink RX5 22 "CoastPull$Ways" "times" "[I", Cond.fieldLink RX5 25 "CoastPull$Ways" "choices" "[J", Cond.fieldLink RX5 28 "CoastPull$Ways" "upToDate" "Z", Cond.fieldLink RX5 32 "CoastPull$Ways" "rails" "LCoastPull$Line;", Cond.fieldLink RX5 36 "CoastPull$Ways" "steps" "LCoastPull$Steps;", Cond.methodLink RX6 43 yX2_init, Cond.instanceMethod yX2_init, Cond.code yX2_init cX2_init 3 none, Cond.methodLink RX2 3 objectInit, Cond.fieldLink RX2 9 "CoastPull$Shares" "choices" "[J", Cond.fieldLink RX2 15 "CoastPull$Shares" "placeValues" "[J", Cond.fieldLink RX2 18 "CoastPull$Shares" "upToDate" "Z", Cond.fieldLink RX2 22 "CoastPull$Shares" "rails" "LCoastPull$Line;", Cond.fieldLink RX2 26 "CoastPull$Shares" "ways" "LCoastPull$Ways;", Cond.methodLink RX6 52 yX1_init, Cond.instanceMethod yX1_init, Cond.code yX1_init cX1_init 3 none, Cond.methodLink RX1 3 objectInit, Cond.fieldLink RX1 9 "CoastPull$Log" "speeds" "[I", Cond.fieldLink RX1 15 "CoastPull$Log" "told" "I", Cond.fieldLink RX1 19 "CoastPull$Log" "rails" "LCoastPull$Line;", Cond.fieldLink RX1 23 "CoastPull$Log" "steps" "LCoastPull$Steps;"]
def wsX6_init : List Cond := .code yX6_init cX6_init 1 none :: ((wsX6_init_r1 ++ (wsX6_init_r2 ++ (wsX6_init_r3 ++ wsX6_init_r4))) ++ wsX00 ++ wsX60 ++ wsX40 ++ wsX30 ++ wsX50 ++ wsX20 ++ wsX10)
def wsX6_forgetChoices : List Cond := .code yX6_forgetChoices cX6_forgetChoices 1 none :: ([.fieldLink RX6 37 "CoastPull" "ways" "LCoastPull$Ways;", .fieldLink RX6 46 "CoastPull" "shares" "LCoastPull$Shares;", .methodLink RX6 198 yX5_forget, .instanceMethod yX5_forget, .selects RX5 yX5_forget yX5_forget, .initialized RX5, .code yX5_forget cX5_forget 1 none, .fieldLink RX5 28 "CoastPull$Ways" "upToDate" "Z", .methodLink RX6 201 yX2_forget, .instanceMethod yX2_forget, .selects RX2 yX2_forget yX2_forget, .initialized RX2, .code yX2_forget cX2_forget 1 none, .fieldLink RX2 18 "CoastPull$Shares" "upToDate" "Z"] ++ wsX60 ++ wsX50 ++ wsX20)
def wsX6_line_r1 : List Cond := [Cond.fieldLink RX6 12 "CoastPull" "rails" "LCoastPull$Line;", Cond.fieldLink RX6 53 "CoastPull" "book" "LCoastPull$Log;", Cond.methodLink RX6 57 yX0_cellCount, Cond.instanceMethod yX0_cellCount, Cond.selects RX0 yX0_cellCount yX0_cellCount, Cond.initialized RX0, Cond.code yX0_cellCount cX0_cellCount 1 (some .int), Cond.fieldLink RX0 29 "CoastPull$Line" "cells" "I", Cond.methodLink RX6 61 yX0_lay, Cond.instanceMethod yX0_lay, Cond.selects RX0 yX0_lay yX0_lay, Cond.code yX0_lay cX0_lay 3 none, Cond.fieldLink RX0 9 "CoastPull$Line" "grades" "[I", Cond.fieldLink RX0 15 "CoastPull$Line" "limits" "[I", Cond.fieldLink RX0 18 "CoastPull$Line" "stops" "[Z", Cond.methodLink RX0 33 yX0_findLegs, Cond.instanceMethod yX0_findLegs, Cond.selects RX0 yX0_findLegs yX0_findLegs, Cond.code yX0_findLegs cX0_findLegs 3 none, Cond.fieldLink RX0 22 "CoastPull$Line" "stopPosts" "[I", Cond.fieldLink RX0 36 "CoastPull$Line" "legs" "I", Cond.methodLink RX6 65 yX1_wipe, Cond.instanceMethod yX1_wipe, Cond.selects RX1 yX1_wipe yX1_wipe]
def wsX6_line_r2 : List Cond := [Cond.initialized RX1, Cond.code yX1_wipe cX1_wipe 1 none, Cond.fieldLink RX1 15 "CoastPull$Log" "told" "I", Cond.methodLink RX6 68 yX6_forgetChoices, Cond.instanceMethod yX6_forgetChoices, Cond.selects RX6 yX6_forgetChoices yX6_forgetChoices, Cond.initialized RX6, Cond.code yX6_forgetChoices cX6_forgetChoices 1 none, Cond.fieldLink RX6 37 "CoastPull" "ways" "LCoastPull$Ways;", Cond.fieldLink RX6 46 "CoastPull" "shares" "LCoastPull$Shares;", Cond.methodLink RX6 198 yX5_forget, Cond.instanceMethod yX5_forget, Cond.selects RX5 yX5_forget yX5_forget, Cond.initialized RX5, Cond.code yX5_forget cX5_forget 1 none, Cond.fieldLink RX5 28 "CoastPull$Ways" "upToDate" "Z", Cond.methodLink RX6 201 yX2_forget, Cond.instanceMethod yX2_forget, Cond.selects RX2 yX2_forget yX2_forget, Cond.initialized RX2, Cond.code yX2_forget cX2_forget 1 none, Cond.fieldLink RX2 18 "CoastPull$Shares" "upToDate" "Z"]
def wsX6_line : List Cond := .code yX6_line cX6_line 3 (some .int) :: ((wsX6_line_r1 ++ wsX6_line_r2) ++ wsX60 ++ wsX00 ++ wsX10 ++ wsX50 ++ wsX20)
def wsX6_cell_r1 : List Cond := [Cond.fieldLink RX6 12 "CoastPull" "rails" "LCoastPull$Line;", Cond.methodLink RX6 71 yX0_hasCell, Cond.instanceMethod yX0_hasCell, Cond.selects RX0 yX0_hasCell yX0_hasCell, Cond.initialized RX0, Cond.code yX0_hasCell cX0_hasCell 2 (some .boolean), Cond.fieldLink RX0 29 "CoastPull$Line" "cells" "I", Cond.methodLink RX6 75 yX0_limitOf, Cond.instanceMethod yX0_limitOf, Cond.selects RX0 yX0_limitOf yX0_limitOf, Cond.code yX0_limitOf cX0_limitOf 2 (some .int), Cond.fieldLink RX0 15 "CoastPull$Line" "limits" "[I", Cond.methodLink RX6 79 yX0_shape, Cond.instanceMethod yX0_shape, Cond.selects RX0 yX0_shape yX0_shape, Cond.code yX0_shape cX0_shape 4 none, Cond.fieldLink RX0 9 "CoastPull$Line" "grades" "[I", Cond.methodLink RX6 68 yX6_forgetChoices, Cond.instanceMethod yX6_forgetChoices, Cond.selects RX6 yX6_forgetChoices yX6_forgetChoices, Cond.initialized RX6, Cond.code yX6_forgetChoices cX6_forgetChoices 1 none, Cond.fieldLink RX6 37 "CoastPull" "ways" "LCoastPull$Ways;", Cond.fieldLink RX6 46 "CoastPull" "shares" "LCoastPull$Shares;"]
def wsX6_cell_r2 : List Cond := [Cond.methodLink RX6 198 yX5_forget, Cond.instanceMethod yX5_forget, Cond.selects RX5 yX5_forget yX5_forget, Cond.initialized RX5, Cond.code yX5_forget cX5_forget 1 none, Cond.fieldLink RX5 28 "CoastPull$Ways" "upToDate" "Z", Cond.methodLink RX6 201 yX2_forget, Cond.instanceMethod yX2_forget, Cond.selects RX2 yX2_forget yX2_forget, Cond.initialized RX2, Cond.code yX2_forget cX2_forget 1 none, Cond.fieldLink RX2 18 "CoastPull$Shares" "upToDate" "Z"]
def wsX6_cell : List Cond := .code yX6_cell cX6_cell 5 (some .int) :: ((wsX6_cell_r1 ++ wsX6_cell_r2) ++ wsX60 ++ wsX00 ++ wsX50 ++ wsX20)
def wsX6_stop_r1 : List Cond := [Cond.fieldLink RX6 12 "CoastPull" "rails" "LCoastPull$Line;", Cond.methodLink RX6 83 yX0_hasPost, Cond.instanceMethod yX0_hasPost, Cond.selects RX0 yX0_hasPost yX0_hasPost, Cond.initialized RX0, Cond.code yX0_hasPost cX0_hasPost 2 (some .boolean), Cond.fieldLink RX0 29 "CoastPull$Line" "cells" "I", Cond.methodLink RX6 86 yX0_isEnd, Cond.instanceMethod yX0_isEnd, Cond.selects RX0 yX0_isEnd yX0_isEnd, Cond.code yX0_isEnd cX0_isEnd 2 (some .boolean), Cond.methodLink RX6 89 yX0_markStop, Cond.instanceMethod yX0_markStop, Cond.selects RX0 yX0_markStop yX0_markStop, Cond.code yX0_markStop cX0_markStop 3 none, Cond.fieldLink RX0 18 "CoastPull$Line" "stops" "[Z", Cond.methodLink RX0 33 yX0_findLegs, Cond.instanceMethod yX0_findLegs, Cond.selects RX0 yX0_findLegs yX0_findLegs, Cond.code yX0_findLegs cX0_findLegs 3 none, Cond.fieldLink RX0 22 "CoastPull$Line" "stopPosts" "[I", Cond.fieldLink RX0 36 "CoastPull$Line" "legs" "I", Cond.methodLink RX6 68 yX6_forgetChoices, Cond.instanceMethod yX6_forgetChoices]
def wsX6_stop_r2 : List Cond := [Cond.selects RX6 yX6_forgetChoices yX6_forgetChoices, Cond.initialized RX6, Cond.code yX6_forgetChoices cX6_forgetChoices 1 none, Cond.fieldLink RX6 37 "CoastPull" "ways" "LCoastPull$Ways;", Cond.fieldLink RX6 46 "CoastPull" "shares" "LCoastPull$Shares;", Cond.methodLink RX6 198 yX5_forget, Cond.instanceMethod yX5_forget, Cond.selects RX5 yX5_forget yX5_forget, Cond.initialized RX5, Cond.code yX5_forget cX5_forget 1 none, Cond.fieldLink RX5 28 "CoastPull$Ways" "upToDate" "Z", Cond.methodLink RX6 201 yX2_forget, Cond.instanceMethod yX2_forget, Cond.selects RX2 yX2_forget yX2_forget, Cond.initialized RX2, Cond.code yX2_forget cX2_forget 1 none, Cond.fieldLink RX2 18 "CoastPull$Shares" "upToDate" "Z", Cond.methodLink RX6 93 yX0_legCount, Cond.instanceMethod yX0_legCount, Cond.selects RX0 yX0_legCount yX0_legCount, Cond.code yX0_legCount cX0_legCount 1 (some .int)]
def wsX6_stop : List Cond := .code yX6_stop cX6_stop 3 (some .int) :: ((wsX6_stop_r1 ++ wsX6_stop_r2) ++ wsX60 ++ wsX00 ++ wsX50 ++ wsX20)
def wsX6_train_r1 : List Cond := [Cond.fieldLink RX6 19 "CoastPull" "engine" "LCoastPull$Train;", Cond.methodLink RX6 96 yX4_knows, Cond.instanceMethod yX4_knows, Cond.selects RX4 yX4_knows yX4_knows, Cond.initialized RX4, Cond.code yX4_knows cX4_knows 2 (some .boolean), Cond.fieldLink RX4 18 "CoastPull$Train" "numbers" "[I", Cond.methodLink RX6 99 yX4_mayBe, Cond.instanceMethod yX4_mayBe, Cond.selects RX4 yX4_mayBe yX4_mayBe, Cond.code yX4_mayBe cX4_mayBe 3 (some .boolean), Cond.fieldLink RX4 21 "CoastPull$Train" "LEAST" "[I", Cond.fieldLink RX4 24 "CoastPull$Train" "MOST" "[I", Cond.methodLink RX6 103 yX4_number, Cond.instanceMethod yX4_number, Cond.selects RX4 yX4_number yX4_number, Cond.code yX4_number cX4_number 2 (some .int), Cond.methodLink RX6 106 yX4_put, Cond.instanceMethod yX4_put, Cond.selects RX4 yX4_put yX4_put, Cond.code yX4_put cX4_put 3 none, Cond.methodLink RX6 68 yX6_forgetChoices, Cond.instanceMethod yX6_forgetChoices, Cond.selects RX6 yX6_forgetChoices yX6_forgetChoices]
def wsX6_train_r2 : List Cond := [Cond.initialized RX6, Cond.code yX6_forgetChoices cX6_forgetChoices 1 none, Cond.fieldLink RX6 37 "CoastPull" "ways" "LCoastPull$Ways;", Cond.fieldLink RX6 46 "CoastPull" "shares" "LCoastPull$Shares;", Cond.methodLink RX6 198 yX5_forget, Cond.instanceMethod yX5_forget, Cond.selects RX5 yX5_forget yX5_forget, Cond.initialized RX5, Cond.code yX5_forget cX5_forget 1 none, Cond.fieldLink RX5 28 "CoastPull$Ways" "upToDate" "Z", Cond.methodLink RX6 201 yX2_forget, Cond.instanceMethod yX2_forget, Cond.selects RX2 yX2_forget yX2_forget, Cond.initialized RX2, Cond.code yX2_forget cX2_forget 1 none, Cond.fieldLink RX2 18 "CoastPull$Shares" "upToDate" "Z"]
def wsX6_train : List Cond := .code yX6_train cX6_train 4 (some .int) :: ((wsX6_train_r1 ++ wsX6_train_r2) ++ wsX60 ++ wsX40 ++ wsX50 ++ wsX20)
def wsX6_has : List Cond := .code yX6_has cX6_has 2 (some .int) :: ([.fieldLink RX6 19 "CoastPull" "engine" "LCoastPull$Train;", .methodLink RX6 96 yX4_knows, .instanceMethod yX4_knows, .selects RX4 yX4_knows yX4_knows, .initialized RX4, .code yX4_knows cX4_knows 2 (some .boolean), .fieldLink RX4 18 "CoastPull$Train" "numbers" "[I", .methodLink RX6 103 yX4_number, .instanceMethod yX4_number, .selects RX4 yX4_number yX4_number, .code yX4_number cX4_number 2 (some .int)] ++ wsX60 ++ wsX40)
def wsX6_leg : List Cond := .code yX6_leg cX6_leg 3 (some .int) :: ([.fieldLink RX6 12 "CoastPull" "rails" "LCoastPull$Line;", .methodLink RX6 110 yX0_hasLeg, .instanceMethod yX0_hasLeg, .selects RX0 yX0_hasLeg yX0_hasLeg, .initialized RX0, .code yX0_hasLeg cX0_hasLeg 2 (some .boolean), .fieldLink RX0 36 "CoastPull$Line" "legs" "I", .methodLink RX6 113 yX0_lastPost, .instanceMethod yX0_lastPost, .selects RX0 yX0_lastPost yX0_lastPost, .code yX0_lastPost cX0_lastPost 2 (some .int), .fieldLink RX0 22 "CoastPull$Line" "stopPosts" "[I", .methodLink RX6 116 yX0_firstPost, .instanceMethod yX0_firstPost, .selects RX0 yX0_firstPost yX0_firstPost, .code yX0_firstPost cX0_firstPost 2 (some .int)] ++ wsX60 ++ wsX00)
def wsX6_isSpeed : List Cond := .code yX6_isSpeed cX6_isSpeed 1 (some .boolean) :: ([])
def wsX6_stepRefusal : List Cond := .code yX6_stepRefusal cX6_stepRefusal 4 (some .int) :: ([.fieldLink RX6 12 "CoastPull" "rails" "LCoastPull$Line;", .methodLink RX6 71 yX0_hasCell, .instanceMethod yX0_hasCell, .selects RX0 yX0_hasCell yX0_hasCell, .initialized RX0, .code yX0_hasCell cX0_hasCell 2 (some .boolean), .fieldLink RX0 29 "CoastPull$Line" "cells" "I", .methodLink RX6 171 yX6_isSpeed, .static yX6_isSpeed, .initialized RX6, .code yX6_isSpeed cX6_isSpeed 1 (some .boolean)] ++ wsX60 ++ wsX00)
def wsX6_force_r1 : List Cond := [Cond.fieldLink RX6 28 "CoastPull" "steps" "LCoastPull$Steps;", Cond.methodLink RX6 119 yX6_stepRefusal, Cond.instanceMethod yX6_stepRefusal, Cond.selects RX6 yX6_stepRefusal yX6_stepRefusal, Cond.initialized RX6, Cond.code yX6_stepRefusal cX6_stepRefusal 4 (some .int), Cond.fieldLink RX6 12 "CoastPull" "rails" "LCoastPull$Line;", Cond.methodLink RX6 71 yX0_hasCell, Cond.instanceMethod yX0_hasCell, Cond.selects RX0 yX0_hasCell yX0_hasCell, Cond.initialized RX0, Cond.code yX0_hasCell cX0_hasCell 2 (some .boolean), Cond.fieldLink RX0 29 "CoastPull$Line" "cells" "I", Cond.methodLink RX6 171 yX6_isSpeed, Cond.static yX6_isSpeed, Cond.code yX6_isSpeed cX6_isSpeed 1 (some .boolean), Cond.methodLink RX6 123 yX3_forceOf, Cond.instanceMethod yX3_forceOf, Cond.selects RX3 yX3_forceOf yX3_forceOf, Cond.initialized RX3, Cond.code yX3_forceOf cX3_forceOf 5 (some .int), Cond.fieldLink RX3 15 "CoastPull$Steps" "engine" "LCoastPull$Train;", Cond.fieldLink RX3 9 "CoastPull$Steps" "rails" "LCoastPull$Line;", Cond.methodLink RX3 21 yX4_number]
def wsX6_force_r2 : List Cond := [Cond.instanceMethod yX4_number, Cond.selects RX4 yX4_number yX4_number, Cond.initialized RX4, Cond.code yX4_number cX4_number 2 (some .int), Cond.fieldLink RX4 18 "CoastPull$Train" "numbers" "[I", Cond.methodLink RX3 25 yX0_gradeOf, Cond.instanceMethod yX0_gradeOf, Cond.selects RX0 yX0_gradeOf yX0_gradeOf, Cond.code yX0_gradeOf cX0_gradeOf 2 (some .int), Cond.fieldLink RX0 9 "CoastPull$Line" "grades" "[I"]
def wsX6_force : List Cond := .code yX6_force cX6_force 5 (some .int) :: ((wsX6_force_r1 ++ wsX6_force_r2) ++ wsX60 ++ wsX00 ++ wsX30 ++ wsX40)
def wsX6_fault_r1 : List Cond := [Cond.fieldLink RX6 28 "CoastPull" "steps" "LCoastPull$Steps;", Cond.methodLink RX6 119 yX6_stepRefusal, Cond.instanceMethod yX6_stepRefusal, Cond.selects RX6 yX6_stepRefusal yX6_stepRefusal, Cond.initialized RX6, Cond.code yX6_stepRefusal cX6_stepRefusal 4 (some .int), Cond.fieldLink RX6 12 "CoastPull" "rails" "LCoastPull$Line;", Cond.methodLink RX6 71 yX0_hasCell, Cond.instanceMethod yX0_hasCell, Cond.selects RX0 yX0_hasCell yX0_hasCell, Cond.initialized RX0, Cond.code yX0_hasCell cX0_hasCell 2 (some .boolean), Cond.fieldLink RX0 29 "CoastPull$Line" "cells" "I", Cond.methodLink RX6 171 yX6_isSpeed, Cond.static yX6_isSpeed, Cond.code yX6_isSpeed cX6_isSpeed 1 (some .boolean), Cond.methodLink RX6 126 yX3_faultOf, Cond.instanceMethod yX3_faultOf, Cond.selects RX3 yX3_faultOf yX3_faultOf, Cond.initialized RX3, Cond.code yX3_faultOf cX3_faultOf 5 (some .int), Cond.methodLink RX3 30 Lib.Math.max.name, Cond.static Lib.Math.max.name, Cond.initialized "java/lang/Math"]
def wsX6_fault_r2 : List Cond := [Cond.code Lib.Math.max.name Lib.Math.max.code 2 (some .int), Cond.fieldLink RX3 9 "CoastPull$Steps" "rails" "LCoastPull$Line;", Cond.methodLink RX3 39 Lib.Math.abs.name, Cond.static Lib.Math.abs.name, Cond.code Lib.Math.abs.name Lib.Math.abs.code 1 (some .int), Cond.fieldLink RX3 15 "CoastPull$Steps" "engine" "LCoastPull$Train;", Cond.methodLink RX3 36 yX0_limitOf, Cond.instanceMethod yX0_limitOf, Cond.selects RX0 yX0_limitOf yX0_limitOf, Cond.code yX0_limitOf cX0_limitOf 2 (some .int), Cond.fieldLink RX0 15 "CoastPull$Line" "limits" "[I", Cond.methodLink RX3 42 yX3_forceOf, Cond.instanceMethod yX3_forceOf, Cond.selects RX3 yX3_forceOf yX3_forceOf, Cond.code yX3_forceOf cX3_forceOf 5 (some .int), Cond.methodLink RX3 21 yX4_number, Cond.instanceMethod yX4_number, Cond.selects RX4 yX4_number yX4_number, Cond.initialized RX4, Cond.code yX4_number cX4_number 2 (some .int), Cond.fieldLink RX4 18 "CoastPull$Train" "numbers" "[I", Cond.methodLink RX3 25 yX0_gradeOf, Cond.instanceMethod yX0_gradeOf, Cond.selects RX0 yX0_gradeOf yX0_gradeOf]
def wsX6_fault_r3 : List Cond := [Cond.code yX0_gradeOf cX0_gradeOf 2 (some .int), Cond.fieldLink RX0 9 "CoastPull$Line" "grades" "[I"]
def wsX6_fault : List Cond := .code yX6_fault cX6_fault 5 (some .int) :: ((wsX6_fault_r1 ++ (wsX6_fault_r2 ++ wsX6_fault_r3)) ++ wsX60 ++ wsX00 ++ wsX30 ++ wsX40)
def wsX6_time_r1 : List Cond := [Cond.fieldLink RX6 28 "CoastPull" "steps" "LCoastPull$Steps;", Cond.constant RX6 129 (-1000000), Cond.methodLink RX6 119 yX6_stepRefusal, Cond.instanceMethod yX6_stepRefusal, Cond.selects RX6 yX6_stepRefusal yX6_stepRefusal, Cond.initialized RX6, Cond.code yX6_stepRefusal cX6_stepRefusal 4 (some .int), Cond.fieldLink RX6 12 "CoastPull" "rails" "LCoastPull$Line;", Cond.methodLink RX6 71 yX0_hasCell, Cond.instanceMethod yX0_hasCell, Cond.selects RX0 yX0_hasCell yX0_hasCell, Cond.initialized RX0, Cond.code yX0_hasCell cX0_hasCell 2 (some .boolean), Cond.fieldLink RX0 29 "CoastPull$Line" "cells" "I", Cond.methodLink RX6 171 yX6_isSpeed, Cond.static yX6_isSpeed, Cond.code yX6_isSpeed cX6_isSpeed 1 (some .boolean), Cond.methodLink RX6 126 yX3_faultOf, Cond.instanceMethod yX3_faultOf, Cond.selects RX3 yX3_faultOf yX3_faultOf, Cond.initialized RX3, Cond.code yX3_faultOf cX3_faultOf 5 (some .int), Cond.methodLink RX3 30 Lib.Math.max.name, Cond.static Lib.Math.max.name]
def wsX6_time_r2 : List Cond := [Cond.initialized "java/lang/Math", Cond.code Lib.Math.max.name Lib.Math.max.code 2 (some .int), Cond.fieldLink RX3 9 "CoastPull$Steps" "rails" "LCoastPull$Line;", Cond.methodLink RX3 39 Lib.Math.abs.name, Cond.static Lib.Math.abs.name, Cond.code Lib.Math.abs.name Lib.Math.abs.code 1 (some .int), Cond.fieldLink RX3 15 "CoastPull$Steps" "engine" "LCoastPull$Train;", Cond.methodLink RX3 36 yX0_limitOf, Cond.instanceMethod yX0_limitOf, Cond.selects RX0 yX0_limitOf yX0_limitOf, Cond.code yX0_limitOf cX0_limitOf 2 (some .int), Cond.fieldLink RX0 15 "CoastPull$Line" "limits" "[I", Cond.methodLink RX3 42 yX3_forceOf, Cond.instanceMethod yX3_forceOf, Cond.selects RX3 yX3_forceOf yX3_forceOf, Cond.code yX3_forceOf cX3_forceOf 5 (some .int), Cond.methodLink RX3 21 yX4_number, Cond.instanceMethod yX4_number, Cond.selects RX4 yX4_number yX4_number, Cond.initialized RX4, Cond.code yX4_number cX4_number 2 (some .int), Cond.fieldLink RX4 18 "CoastPull$Train" "numbers" "[I", Cond.methodLink RX3 25 yX0_gradeOf, Cond.instanceMethod yX0_gradeOf]
def wsX6_time_r3 : List Cond := [Cond.selects RX0 yX0_gradeOf yX0_gradeOf, Cond.code yX0_gradeOf cX0_gradeOf 2 (some .int), Cond.fieldLink RX0 9 "CoastPull$Line" "grades" "[I", Cond.methodLink RX6 130 yX3_timeOf, Cond.instanceMethod yX3_timeOf, Cond.selects RX3 yX3_timeOf yX3_timeOf, Cond.code yX3_timeOf cX3_timeOf 4 (some .int)]
def wsX6_time : List Cond := .code yX6_time cX6_time 5 (some .int) :: ((wsX6_time_r1 ++ (wsX6_time_r2 ++ wsX6_time_r3)) ++ wsX60 ++ wsX00 ++ wsX30 ++ wsX40)
def wsX6_power_r1 : List Cond := [Cond.fieldLink RX6 28 "CoastPull" "steps" "LCoastPull$Steps;", Cond.constant RX6 129 (-1000000), Cond.methodLink RX6 119 yX6_stepRefusal, Cond.instanceMethod yX6_stepRefusal, Cond.selects RX6 yX6_stepRefusal yX6_stepRefusal, Cond.initialized RX6, Cond.code yX6_stepRefusal cX6_stepRefusal 4 (some .int), Cond.fieldLink RX6 12 "CoastPull" "rails" "LCoastPull$Line;", Cond.methodLink RX6 71 yX0_hasCell, Cond.instanceMethod yX0_hasCell, Cond.selects RX0 yX0_hasCell yX0_hasCell, Cond.initialized RX0, Cond.code yX0_hasCell cX0_hasCell 2 (some .boolean), Cond.fieldLink RX0 29 "CoastPull$Line" "cells" "I", Cond.methodLink RX6 171 yX6_isSpeed, Cond.static yX6_isSpeed, Cond.code yX6_isSpeed cX6_isSpeed 1 (some .boolean), Cond.methodLink RX6 126 yX3_faultOf, Cond.instanceMethod yX3_faultOf, Cond.selects RX3 yX3_faultOf yX3_faultOf, Cond.initialized RX3, Cond.code yX3_faultOf cX3_faultOf 5 (some .int), Cond.methodLink RX3 30 Lib.Math.max.name, Cond.static Lib.Math.max.name]
def wsX6_power_r2 : List Cond := [Cond.initialized "java/lang/Math", Cond.code Lib.Math.max.name Lib.Math.max.code 2 (some .int), Cond.fieldLink RX3 9 "CoastPull$Steps" "rails" "LCoastPull$Line;", Cond.methodLink RX3 39 Lib.Math.abs.name, Cond.static Lib.Math.abs.name, Cond.code Lib.Math.abs.name Lib.Math.abs.code 1 (some .int), Cond.fieldLink RX3 15 "CoastPull$Steps" "engine" "LCoastPull$Train;", Cond.methodLink RX3 36 yX0_limitOf, Cond.instanceMethod yX0_limitOf, Cond.selects RX0 yX0_limitOf yX0_limitOf, Cond.code yX0_limitOf cX0_limitOf 2 (some .int), Cond.fieldLink RX0 15 "CoastPull$Line" "limits" "[I", Cond.methodLink RX3 42 yX3_forceOf, Cond.instanceMethod yX3_forceOf, Cond.selects RX3 yX3_forceOf yX3_forceOf, Cond.code yX3_forceOf cX3_forceOf 5 (some .int), Cond.methodLink RX3 21 yX4_number, Cond.instanceMethod yX4_number, Cond.selects RX4 yX4_number yX4_number, Cond.initialized RX4, Cond.code yX4_number cX4_number 2 (some .int), Cond.fieldLink RX4 18 "CoastPull$Train" "numbers" "[I", Cond.methodLink RX3 25 yX0_gradeOf, Cond.instanceMethod yX0_gradeOf]
def wsX6_power_r3 : List Cond := [Cond.selects RX0 yX0_gradeOf yX0_gradeOf, Cond.code yX0_gradeOf cX0_gradeOf 2 (some .int), Cond.fieldLink RX0 9 "CoastPull$Line" "grades" "[I", Cond.methodLink RX6 134 yX3_powerOf, Cond.instanceMethod yX3_powerOf, Cond.selects RX3 yX3_powerOf yX3_powerOf, Cond.code yX3_powerOf cX3_powerOf 5 (some .int)]
def wsX6_power : List Cond := .code yX6_power cX6_power 5 (some .int) :: ((wsX6_power_r1 ++ (wsX6_power_r2 ++ wsX6_power_r3)) ++ wsX60 ++ wsX00 ++ wsX30 ++ wsX40)
def wsX6_fastest_r1 : List Cond := [Cond.fieldLink RX6 12 "CoastPull" "rails" "LCoastPull$Line;", Cond.fieldLink RX6 37 "CoastPull" "ways" "LCoastPull$Ways;", Cond.constant RX6 129 (-1000000), Cond.methodLink RX6 110 yX0_hasLeg, Cond.instanceMethod yX0_hasLeg, Cond.selects RX0 yX0_hasLeg yX0_hasLeg, Cond.initialized RX0, Cond.code yX0_hasLeg cX0_hasLeg 2 (some .boolean), Cond.fieldLink RX0 36 "CoastPull$Line" "legs" "I", Cond.methodLink RX6 137 yX5_bringUpToDate, Cond.instanceMethod yX5_bringUpToDate, Cond.selects RX5 yX5_bringUpToDate yX5_bringUpToDate, Cond.initialized RX5, Cond.code yX5_bringUpToDate cX5_bringUpToDate 3 none, Cond.fieldLink RX5 28 "CoastPull$Ways" "upToDate" "Z", Cond.fieldLink RX5 32 "CoastPull$Ways" "rails" "LCoastPull$Line;", Cond.fieldLink RX5 18 "CoastPull$Ways" "firstPair" "[I", Cond.methodLink RX5 40 yX0_legCount, Cond.instanceMethod yX0_legCount, Cond.selects RX0 yX0_legCount yX0_legCount, Cond.code yX0_legCount cX0_legCount 1 (some .int), Cond.methodLink RX5 46 yX5_driveOver, Cond.instanceMethod yX5_driveOver, Cond.selects RX5 yX5_driveOver yX5_driveOver]
def wsX6_fastest_r2 : List Cond := [Cond.code yX5_driveOver cX5_driveOver 8 (some (.array .long)), Cond.fieldLink RX5 11 "CoastPull$Ways" "evenRow" "[J", Cond.fieldLink RX5 15 "CoastPull$Ways" "oddRow" "[J", Cond.constantLong RX5 61 (4611686018427387904), Cond.methodLink RX5 54 yX0_firstPost, Cond.instanceMethod yX0_firstPost, Cond.selects RX0 yX0_firstPost yX0_firstPost, Cond.code yX0_firstPost cX0_firstPost 2 (some .int), Cond.fieldLink RX0 22 "CoastPull$Line" "stopPosts" "[I", Cond.methodLink RX5 58 yX0_lastPost, Cond.instanceMethod yX0_lastPost, Cond.selects RX0 yX0_lastPost yX0_lastPost, Cond.code yX0_lastPost cX0_lastPost 2 (some .int), Cond.methodLink RX5 63 yJ7_fill_d0a16, Cond.static yJ7_fill_d0a16, Cond.initialized RJ7, Cond.code yJ7_fill_d0a16 cJ7_fill_d0a16 5 none, Cond.methodLink RX5 69 yX5_driveThrough, Cond.instanceMethod yX5_driveThrough, Cond.selects RX5 yX5_driveThrough yX5_driveThrough, Cond.code yX5_driveThrough cX5_driveThrough 13 none, Cond.fieldLink RX5 36 "CoastPull$Ways" "steps" "LCoastPull$Steps;", Cond.methodLink RX5 73 yX3_faultOf, Cond.instanceMethod yX3_faultOf]
def wsX6_fastest_r3 : List Cond := [Cond.selects RX3 yX3_faultOf yX3_faultOf, Cond.initialized RX3, Cond.code yX3_faultOf cX3_faultOf 5 (some .int), Cond.methodLink RX3 30 Lib.Math.max.name, Cond.static Lib.Math.max.name, Cond.initialized "java/lang/Math", Cond.code Lib.Math.max.name Lib.Math.max.code 2 (some .int), Cond.fieldLink RX3 9 "CoastPull$Steps" "rails" "LCoastPull$Line;", Cond.methodLink RX3 39 Lib.Math.abs.name, Cond.static Lib.Math.abs.name, Cond.code Lib.Math.abs.name Lib.Math.abs.code 1 (some .int), Cond.fieldLink RX3 15 "CoastPull$Steps" "engine" "LCoastPull$Train;", Cond.methodLink RX3 36 yX0_limitOf, Cond.instanceMethod yX0_limitOf, Cond.selects RX0 yX0_limitOf yX0_limitOf, Cond.code yX0_limitOf cX0_limitOf 2 (some .int), Cond.fieldLink RX0 15 "CoastPull$Line" "limits" "[I", Cond.methodLink RX3 42 yX3_forceOf, Cond.instanceMethod yX3_forceOf, Cond.selects RX3 yX3_forceOf yX3_forceOf, Cond.code yX3_forceOf cX3_forceOf 5 (some .int), Cond.methodLink RX3 21 yX4_number, Cond.instanceMethod yX4_number, Cond.selects RX4 yX4_number yX4_number]
def wsX6_fastest_r4 : List Cond := [Cond.initialized RX4, Cond.code yX4_number cX4_number 2 (some .int), Cond.fieldLink RX4 18 "CoastPull$Train" "numbers" "[I", Cond.methodLink RX3 25 yX0_gradeOf, Cond.instanceMethod yX0_gradeOf, Cond.selects RX0 yX0_gradeOf yX0_gradeOf, Cond.code yX0_gradeOf cX0_gradeOf 2 (some .int), Cond.fieldLink RX0 9 "CoastPull$Line" "grades" "[I", Cond.methodLink RX5 79 yX3_powerOf, Cond.instanceMethod yX3_powerOf, Cond.selects RX3 yX3_powerOf yX3_powerOf, Cond.code yX3_powerOf cX3_powerOf 5 (some .int), Cond.methodLink RX5 82 yX5_speedPlace, Cond.static yX5_speedPlace, Cond.code yX5_speedPlace cX5_speedPlace 1 (some .int), Cond.methodLink RX5 85 yX3_timeOf, Cond.instanceMethod yX3_timeOf, Cond.selects RX3 yX3_timeOf yX3_timeOf, Cond.code yX3_timeOf cX3_timeOf 4 (some .int), Cond.methodLink RX5 89 yX5_spread, Cond.static yX5_spread, Cond.code yX5_spread cX5_spread 10 none, Cond.methodLink RX5 93 Lib.MathLoose.min_long.x, Cond.static Lib.MathLoose.min_long.x]
def wsX6_fastest_r5 : List Cond := [Cond.code Lib.MathLoose.min_long.x Lib.MathLoose.min_long.code 4 (some .long), Cond.methodLink RX5 50 yX5_gatherPairs, Cond.instanceMethod yX5_gatherPairs, Cond.selects RX5 yX5_gatherPairs yX5_gatherPairs, Cond.code yX5_gatherPairs cX5_gatherPairs 9 (some .int), Cond.constantLong RX5 99 (16384), Cond.fieldLink RX5 22 "CoastPull$Ways" "times" "[I", Cond.fieldLink RX5 25 "CoastPull$Ways" "choices" "[J", Cond.methodLink RX6 140 yX5_pairCount, Cond.instanceMethod yX5_pairCount, Cond.selects RX5 yX5_pairCount yX5_pairCount, Cond.code yX5_pairCount cX5_pairCount 2 (some .int), Cond.methodLink RX6 143 yX5_pairTime, Cond.instanceMethod yX5_pairTime, Cond.selects RX5 yX5_pairTime yX5_pairTime, Cond.code yX5_pairTime cX5_pairTime 3 (some .int)]
def wsX6_fastest : List Cond := .code yX6_fastest cX6_fastest 2 (some .int) :: ((wsX6_fastest_r1 ++ (wsX6_fastest_r2 ++ (wsX6_fastest_r3 ++ (wsX6_fastest_r4 ++ wsX6_fastest_r5)))) ++ wsX60 ++ wsX00 ++ wsX50 ++ wsX30 ++ wsX40)
def wsX6_isTime : List Cond := .code yX6_isTime cX6_isTime 1 (some .boolean) :: ([])
def wsX6_driveRefusal : List Cond := .code yX6_driveRefusal cX6_driveRefusal 3 (some .int) :: ([.fieldLink RX6 12 "CoastPull" "rails" "LCoastPull$Line;", .methodLink RX6 110 yX0_hasLeg, .instanceMethod yX0_hasLeg, .selects RX0 yX0_hasLeg yX0_hasLeg, .initialized RX0, .code yX0_hasLeg cX0_hasLeg 2 (some .boolean), .fieldLink RX0 36 "CoastPull$Line" "legs" "I", .methodLink RX6 155 yX6_isTime, .static yX6_isTime, .initialized RX6, .code yX6_isTime cX6_isTime 1 (some .boolean)] ++ wsX60 ++ wsX00)
def wsX6_best_r1 : List Cond := [Cond.fieldLink RX6 37 "CoastPull" "ways" "LCoastPull$Ways;", Cond.constant RX6 129 (-1000000), Cond.methodLink RX6 146 yX6_driveRefusal, Cond.instanceMethod yX6_driveRefusal, Cond.selects RX6 yX6_driveRefusal yX6_driveRefusal, Cond.initialized RX6, Cond.code yX6_driveRefusal cX6_driveRefusal 3 (some .int), Cond.fieldLink RX6 12 "CoastPull" "rails" "LCoastPull$Line;", Cond.methodLink RX6 110 yX0_hasLeg, Cond.instanceMethod yX0_hasLeg, Cond.selects RX0 yX0_hasLeg yX0_hasLeg, Cond.initialized RX0, Cond.code yX0_hasLeg cX0_hasLeg 2 (some .boolean), Cond.fieldLink RX0 36 "CoastPull$Line" "legs" "I", Cond.methodLink RX6 155 yX6_isTime, Cond.static yX6_isTime, Cond.code yX6_isTime cX6_isTime 1 (some .boolean), Cond.methodLink RX6 137 yX5_bringUpToDate, Cond.instanceMethod yX5_bringUpToDate, Cond.selects RX5 yX5_bringUpToDate yX5_bringUpToDate, Cond.initialized RX5, Cond.code yX5_bringUpToDate cX5_bringUpToDate 3 none, Cond.fieldLink RX5 28 "CoastPull$Ways" "upToDate" "Z", Cond.fieldLink RX5 32 "CoastPull$Ways" "rails" "LCoastPull$Line;"]
def wsX6_best_r2 : List Cond := [Cond.fieldLink RX5 18 "CoastPull$Ways" "firstPair" "[I", Cond.methodLink RX5 40 yX0_legCount, Cond.instanceMethod yX0_legCount, Cond.selects RX0 yX0_legCount yX0_legCount, Cond.code yX0_legCount cX0_legCount 1 (some .int), Cond.methodLink RX5 46 yX5_driveOver, Cond.instanceMethod yX5_driveOver, Cond.selects RX5 yX5_driveOver yX5_driveOver, Cond.code yX5_driveOver cX5_driveOver 8 (some (.array .long)), Cond.fieldLink RX5 11 "CoastPull$Ways" "evenRow" "[J", Cond.fieldLink RX5 15 "CoastPull$Ways" "oddRow" "[J", Cond.constantLong RX5 61 (4611686018427387904), Cond.methodLink RX5 54 yX0_firstPost, Cond.instanceMethod yX0_firstPost, Cond.selects RX0 yX0_firstPost yX0_firstPost, Cond.code yX0_firstPost cX0_firstPost 2 (some .int), Cond.fieldLink RX0 22 "CoastPull$Line" "stopPosts" "[I", Cond.methodLink RX5 58 yX0_lastPost, Cond.instanceMethod yX0_lastPost, Cond.selects RX0 yX0_lastPost yX0_lastPost, Cond.code yX0_lastPost cX0_lastPost 2 (some .int), Cond.methodLink RX5 63 yJ7_fill_d0a16, Cond.static yJ7_fill_d0a16, Cond.initialized RJ7]
def wsX6_best_r3 : List Cond := [Cond.code yJ7_fill_d0a16 cJ7_fill_d0a16 5 none, Cond.methodLink RX5 69 yX5_driveThrough, Cond.instanceMethod yX5_driveThrough, Cond.selects RX5 yX5_driveThrough yX5_driveThrough, Cond.code yX5_driveThrough cX5_driveThrough 13 none, Cond.fieldLink RX5 36 "CoastPull$Ways" "steps" "LCoastPull$Steps;", Cond.methodLink RX5 73 yX3_faultOf, Cond.instanceMethod yX3_faultOf, Cond.selects RX3 yX3_faultOf yX3_faultOf, Cond.initialized RX3, Cond.code yX3_faultOf cX3_faultOf 5 (some .int), Cond.methodLink RX3 30 Lib.Math.max.name, Cond.static Lib.Math.max.name, Cond.initialized "java/lang/Math", Cond.code Lib.Math.max.name Lib.Math.max.code 2 (some .int), Cond.fieldLink RX3 9 "CoastPull$Steps" "rails" "LCoastPull$Line;", Cond.methodLink RX3 39 Lib.Math.abs.name, Cond.static Lib.Math.abs.name, Cond.code Lib.Math.abs.name Lib.Math.abs.code 1 (some .int), Cond.fieldLink RX3 15 "CoastPull$Steps" "engine" "LCoastPull$Train;", Cond.methodLink RX3 36 yX0_limitOf, Cond.instanceMethod yX0_limitOf, Cond.selects RX0 yX0_limitOf yX0_limitOf, Cond.code yX0_limitOf cX0_limitOf 2 (some .int)]
def wsX6_best_r4 : List Cond := [Cond.fieldLink RX0 15 "CoastPull$Line" "limits" "[I", Cond.methodLink RX3 42 yX3_forceOf, Cond.instanceMethod yX3_forceOf, Cond.selects RX3 yX3_forceOf yX3_forceOf, Cond.code yX3_forceOf cX3_forceOf 5 (some .int), Cond.methodLink RX3 21 yX4_number, Cond.instanceMethod yX4_number, Cond.selects RX4 yX4_number yX4_number, Cond.initialized RX4, Cond.code yX4_number cX4_number 2 (some .int), Cond.fieldLink RX4 18 "CoastPull$Train" "numbers" "[I", Cond.methodLink RX3 25 yX0_gradeOf, Cond.instanceMethod yX0_gradeOf, Cond.selects RX0 yX0_gradeOf yX0_gradeOf, Cond.code yX0_gradeOf cX0_gradeOf 2 (some .int), Cond.fieldLink RX0 9 "CoastPull$Line" "grades" "[I", Cond.methodLink RX5 79 yX3_powerOf, Cond.instanceMethod yX3_powerOf, Cond.selects RX3 yX3_powerOf yX3_powerOf, Cond.code yX3_powerOf cX3_powerOf 5 (some .int), Cond.methodLink RX5 82 yX5_speedPlace, Cond.static yX5_speedPlace, Cond.code yX5_speedPlace cX5_speedPlace 1 (some .int), Cond.methodLink RX5 85 yX3_timeOf]
def wsX6_best_r5 : List Cond := [Cond.instanceMethod yX3_timeOf, Cond.selects RX3 yX3_timeOf yX3_timeOf, Cond.code yX3_timeOf cX3_timeOf 4 (some .int), Cond.methodLink RX5 89 yX5_spread, Cond.static yX5_spread, Cond.code yX5_spread cX5_spread 10 none, Cond.methodLink RX5 93 Lib.MathLoose.min_long.x, Cond.static Lib.MathLoose.min_long.x, Cond.code Lib.MathLoose.min_long.x Lib.MathLoose.min_long.code 4 (some .long), Cond.methodLink RX5 50 yX5_gatherPairs, Cond.instanceMethod yX5_gatherPairs, Cond.selects RX5 yX5_gatherPairs yX5_gatherPairs, Cond.code yX5_gatherPairs cX5_gatherPairs 9 (some .int), Cond.constantLong RX5 99 (16384), Cond.fieldLink RX5 22 "CoastPull$Ways" "times" "[I", Cond.fieldLink RX5 25 "CoastPull$Ways" "choices" "[J", Cond.methodLink RX6 149 yX5_pairWithin, Cond.instanceMethod yX5_pairWithin, Cond.selects RX5 yX5_pairWithin yX5_pairWithin, Cond.code yX5_pairWithin cX5_pairWithin 4 (some .int), Cond.methodLink RX5 101 yX5_pairCount, Cond.instanceMethod yX5_pairCount, Cond.selects RX5 yX5_pairCount yX5_pairCount, Cond.code yX5_pairCount cX5_pairCount 2 (some .int)]
def wsX6_best_r6 : List Cond := [Cond.methodLink RX5 104 yX5_pairTime, Cond.instanceMethod yX5_pairTime, Cond.selects RX5 yX5_pairTime yX5_pairTime, Cond.code yX5_pairTime cX5_pairTime 3 (some .int), Cond.methodLink RX6 152 yX5_pairPower, Cond.instanceMethod yX5_pairPower, Cond.selects RX5 yX5_pairPower yX5_pairPower, Cond.code yX5_pairPower cX5_pairPower 3 (some .int)]
def wsX6_best : List Cond := .code yX6_best cX6_best 5 (some .int) :: ((wsX6_best_r1 ++ (wsX6_best_r2 ++ (wsX6_best_r3 ++ (wsX6_best_r4 ++ (wsX6_best_r5 ++ wsX6_best_r6))))) ++ wsX60 ++ wsX00 ++ wsX50 ++ wsX30 ++ wsX40)
def wsX6_bestTime_r1 : List Cond := [Cond.fieldLink RX6 37 "CoastPull" "ways" "LCoastPull$Ways;", Cond.constant RX6 129 (-1000000), Cond.methodLink RX6 146 yX6_driveRefusal, Cond.instanceMethod yX6_driveRefusal, Cond.selects RX6 yX6_driveRefusal yX6_driveRefusal, Cond.initialized RX6, Cond.code yX6_driveRefusal cX6_driveRefusal 3 (some .int), Cond.fieldLink RX6 12 "CoastPull" "rails" "LCoastPull$Line;", Cond.methodLink RX6 110 yX0_hasLeg, Cond.instanceMethod yX0_hasLeg, Cond.selects RX0 yX0_hasLeg yX0_hasLeg, Cond.initialized RX0, Cond.code yX0_hasLeg cX0_hasLeg 2 (some .boolean), Cond.fieldLink RX0 36 "CoastPull$Line" "legs" "I", Cond.methodLink RX6 155 yX6_isTime, Cond.static yX6_isTime, Cond.code yX6_isTime cX6_isTime 1 (some .boolean), Cond.methodLink RX6 137 yX5_bringUpToDate, Cond.instanceMethod yX5_bringUpToDate, Cond.selects RX5 yX5_bringUpToDate yX5_bringUpToDate, Cond.initialized RX5, Cond.code yX5_bringUpToDate cX5_bringUpToDate 3 none, Cond.fieldLink RX5 28 "CoastPull$Ways" "upToDate" "Z", Cond.fieldLink RX5 32 "CoastPull$Ways" "rails" "LCoastPull$Line;"]
def wsX6_bestTime_r2 : List Cond := [Cond.fieldLink RX5 18 "CoastPull$Ways" "firstPair" "[I", Cond.methodLink RX5 40 yX0_legCount, Cond.instanceMethod yX0_legCount, Cond.selects RX0 yX0_legCount yX0_legCount, Cond.code yX0_legCount cX0_legCount 1 (some .int), Cond.methodLink RX5 46 yX5_driveOver, Cond.instanceMethod yX5_driveOver, Cond.selects RX5 yX5_driveOver yX5_driveOver, Cond.code yX5_driveOver cX5_driveOver 8 (some (.array .long)), Cond.fieldLink RX5 11 "CoastPull$Ways" "evenRow" "[J", Cond.fieldLink RX5 15 "CoastPull$Ways" "oddRow" "[J", Cond.constantLong RX5 61 (4611686018427387904), Cond.methodLink RX5 54 yX0_firstPost, Cond.instanceMethod yX0_firstPost, Cond.selects RX0 yX0_firstPost yX0_firstPost, Cond.code yX0_firstPost cX0_firstPost 2 (some .int), Cond.fieldLink RX0 22 "CoastPull$Line" "stopPosts" "[I", Cond.methodLink RX5 58 yX0_lastPost, Cond.instanceMethod yX0_lastPost, Cond.selects RX0 yX0_lastPost yX0_lastPost, Cond.code yX0_lastPost cX0_lastPost 2 (some .int), Cond.methodLink RX5 63 yJ7_fill_d0a16, Cond.static yJ7_fill_d0a16, Cond.initialized RJ7]
def wsX6_bestTime_r3 : List Cond := [Cond.code yJ7_fill_d0a16 cJ7_fill_d0a16 5 none, Cond.methodLink RX5 69 yX5_driveThrough, Cond.instanceMethod yX5_driveThrough, Cond.selects RX5 yX5_driveThrough yX5_driveThrough, Cond.code yX5_driveThrough cX5_driveThrough 13 none, Cond.fieldLink RX5 36 "CoastPull$Ways" "steps" "LCoastPull$Steps;", Cond.methodLink RX5 73 yX3_faultOf, Cond.instanceMethod yX3_faultOf, Cond.selects RX3 yX3_faultOf yX3_faultOf, Cond.initialized RX3, Cond.code yX3_faultOf cX3_faultOf 5 (some .int), Cond.methodLink RX3 30 Lib.Math.max.name, Cond.static Lib.Math.max.name, Cond.initialized "java/lang/Math", Cond.code Lib.Math.max.name Lib.Math.max.code 2 (some .int), Cond.fieldLink RX3 9 "CoastPull$Steps" "rails" "LCoastPull$Line;", Cond.methodLink RX3 39 Lib.Math.abs.name, Cond.static Lib.Math.abs.name, Cond.code Lib.Math.abs.name Lib.Math.abs.code 1 (some .int), Cond.fieldLink RX3 15 "CoastPull$Steps" "engine" "LCoastPull$Train;", Cond.methodLink RX3 36 yX0_limitOf, Cond.instanceMethod yX0_limitOf, Cond.selects RX0 yX0_limitOf yX0_limitOf, Cond.code yX0_limitOf cX0_limitOf 2 (some .int)]
def wsX6_bestTime_r4 : List Cond := [Cond.fieldLink RX0 15 "CoastPull$Line" "limits" "[I", Cond.methodLink RX3 42 yX3_forceOf, Cond.instanceMethod yX3_forceOf, Cond.selects RX3 yX3_forceOf yX3_forceOf, Cond.code yX3_forceOf cX3_forceOf 5 (some .int), Cond.methodLink RX3 21 yX4_number, Cond.instanceMethod yX4_number, Cond.selects RX4 yX4_number yX4_number, Cond.initialized RX4, Cond.code yX4_number cX4_number 2 (some .int), Cond.fieldLink RX4 18 "CoastPull$Train" "numbers" "[I", Cond.methodLink RX3 25 yX0_gradeOf, Cond.instanceMethod yX0_gradeOf, Cond.selects RX0 yX0_gradeOf yX0_gradeOf, Cond.code yX0_gradeOf cX0_gradeOf 2 (some .int), Cond.fieldLink RX0 9 "CoastPull$Line" "grades" "[I", Cond.methodLink RX5 79 yX3_powerOf, Cond.instanceMethod yX3_powerOf, Cond.selects RX3 yX3_powerOf yX3_powerOf, Cond.code yX3_powerOf cX3_powerOf 5 (some .int), Cond.methodLink RX5 82 yX5_speedPlace, Cond.static yX5_speedPlace, Cond.code yX5_speedPlace cX5_speedPlace 1 (some .int), Cond.methodLink RX5 85 yX3_timeOf]
def wsX6_bestTime_r5 : List Cond := [Cond.instanceMethod yX3_timeOf, Cond.selects RX3 yX3_timeOf yX3_timeOf, Cond.code yX3_timeOf cX3_timeOf 4 (some .int), Cond.methodLink RX5 89 yX5_spread, Cond.static yX5_spread, Cond.code yX5_spread cX5_spread 10 none, Cond.methodLink RX5 93 Lib.MathLoose.min_long.x, Cond.static Lib.MathLoose.min_long.x, Cond.code Lib.MathLoose.min_long.x Lib.MathLoose.min_long.code 4 (some .long), Cond.methodLink RX5 50 yX5_gatherPairs, Cond.instanceMethod yX5_gatherPairs, Cond.selects RX5 yX5_gatherPairs yX5_gatherPairs, Cond.code yX5_gatherPairs cX5_gatherPairs 9 (some .int), Cond.constantLong RX5 99 (16384), Cond.fieldLink RX5 22 "CoastPull$Ways" "times" "[I", Cond.fieldLink RX5 25 "CoastPull$Ways" "choices" "[J", Cond.methodLink RX6 149 yX5_pairWithin, Cond.instanceMethod yX5_pairWithin, Cond.selects RX5 yX5_pairWithin yX5_pairWithin, Cond.code yX5_pairWithin cX5_pairWithin 4 (some .int), Cond.methodLink RX5 101 yX5_pairCount, Cond.instanceMethod yX5_pairCount, Cond.selects RX5 yX5_pairCount yX5_pairCount, Cond.code yX5_pairCount cX5_pairCount 2 (some .int)]
def wsX6_bestTime_r6 : List Cond := [Cond.methodLink RX5 104 yX5_pairTime, Cond.instanceMethod yX5_pairTime, Cond.selects RX5 yX5_pairTime yX5_pairTime, Cond.code yX5_pairTime cX5_pairTime 3 (some .int), Cond.methodLink RX6 143 yX5_pairTime]
def wsX6_bestTime : List Cond := .code yX6_bestTime cX6_bestTime 5 (some .int) :: ((wsX6_bestTime_r1 ++ (wsX6_bestTime_r2 ++ (wsX6_bestTime_r3 ++ (wsX6_bestTime_r4 ++ (wsX6_bestTime_r5 ++ wsX6_bestTime_r6))))) ++ wsX60 ++ wsX00 ++ wsX50 ++ wsX30 ++ wsX40)
def wsX6_bestSpeed_r1 : List Cond := [Cond.fieldLink RX6 12 "CoastPull" "rails" "LCoastPull$Line;", Cond.constant RX6 129 (-1000000), Cond.fieldLink RX6 37 "CoastPull" "ways" "LCoastPull$Ways;", Cond.methodLink RX6 110 yX0_hasLeg, Cond.instanceMethod yX0_hasLeg, Cond.selects RX0 yX0_hasLeg yX0_hasLeg, Cond.initialized RX0, Cond.code yX0_hasLeg cX0_hasLeg 2 (some .boolean), Cond.fieldLink RX0 36 "CoastPull$Line" "legs" "I", Cond.methodLink RX6 83 yX0_hasPost, Cond.instanceMethod yX0_hasPost, Cond.selects RX0 yX0_hasPost yX0_hasPost, Cond.code yX0_hasPost cX0_hasPost 2 (some .boolean), Cond.fieldLink RX0 29 "CoastPull$Line" "cells" "I", Cond.methodLink RX6 155 yX6_isTime, Cond.static yX6_isTime, Cond.initialized RX6, Cond.code yX6_isTime cX6_isTime 1 (some .boolean), Cond.methodLink RX6 116 yX0_firstPost, Cond.instanceMethod yX0_firstPost, Cond.selects RX0 yX0_firstPost yX0_firstPost, Cond.code yX0_firstPost cX0_firstPost 2 (some .int), Cond.fieldLink RX0 22 "CoastPull$Line" "stopPosts" "[I", Cond.methodLink RX6 113 yX0_lastPost]
def wsX6_bestSpeed_r2 : List Cond := [Cond.instanceMethod yX0_lastPost, Cond.selects RX0 yX0_lastPost yX0_lastPost, Cond.code yX0_lastPost cX0_lastPost 2 (some .int), Cond.methodLink RX6 137 yX5_bringUpToDate, Cond.instanceMethod yX5_bringUpToDate, Cond.selects RX5 yX5_bringUpToDate yX5_bringUpToDate, Cond.initialized RX5, Cond.code yX5_bringUpToDate cX5_bringUpToDate 3 none, Cond.fieldLink RX5 28 "CoastPull$Ways" "upToDate" "Z", Cond.fieldLink RX5 32 "CoastPull$Ways" "rails" "LCoastPull$Line;", Cond.fieldLink RX5 18 "CoastPull$Ways" "firstPair" "[I", Cond.methodLink RX5 40 yX0_legCount, Cond.instanceMethod yX0_legCount, Cond.selects RX0 yX0_legCount yX0_legCount, Cond.code yX0_legCount cX0_legCount 1 (some .int), Cond.methodLink RX5 46 yX5_driveOver, Cond.instanceMethod yX5_driveOver, Cond.selects RX5 yX5_driveOver yX5_driveOver, Cond.code yX5_driveOver cX5_driveOver 8 (some (.array .long)), Cond.fieldLink RX5 11 "CoastPull$Ways" "evenRow" "[J", Cond.fieldLink RX5 15 "CoastPull$Ways" "oddRow" "[J", Cond.constantLong RX5 61 (4611686018427387904), Cond.methodLink RX5 54 yX0_firstPost, Cond.methodLink RX5 58 yX0_lastPost]
def wsX6_bestSpeed_r3 : List Cond := [Cond.methodLink RX5 63 yJ7_fill_d0a16, Cond.static yJ7_fill_d0a16, Cond.initialized RJ7, Cond.code yJ7_fill_d0a16 cJ7_fill_d0a16 5 none, Cond.methodLink RX5 69 yX5_driveThrough, Cond.instanceMethod yX5_driveThrough, Cond.selects RX5 yX5_driveThrough yX5_driveThrough, Cond.code yX5_driveThrough cX5_driveThrough 13 none, Cond.fieldLink RX5 36 "CoastPull$Ways" "steps" "LCoastPull$Steps;", Cond.methodLink RX5 73 yX3_faultOf, Cond.instanceMethod yX3_faultOf, Cond.selects RX3 yX3_faultOf yX3_faultOf, Cond.initialized RX3, Cond.code yX3_faultOf cX3_faultOf 5 (some .int), Cond.methodLink RX3 30 Lib.Math.max.name, Cond.static Lib.Math.max.name, Cond.initialized "java/lang/Math", Cond.code Lib.Math.max.name Lib.Math.max.code 2 (some .int), Cond.fieldLink RX3 9 "CoastPull$Steps" "rails" "LCoastPull$Line;", Cond.methodLink RX3 39 Lib.Math.abs.name, Cond.static Lib.Math.abs.name, Cond.code Lib.Math.abs.name Lib.Math.abs.code 1 (some .int), Cond.fieldLink RX3 15 "CoastPull$Steps" "engine" "LCoastPull$Train;", Cond.methodLink RX3 36 yX0_limitOf]
def wsX6_bestSpeed_r4 : List Cond := [Cond.instanceMethod yX0_limitOf, Cond.selects RX0 yX0_limitOf yX0_limitOf, Cond.code yX0_limitOf cX0_limitOf 2 (some .int), Cond.fieldLink RX0 15 "CoastPull$Line" "limits" "[I", Cond.methodLink RX3 42 yX3_forceOf, Cond.instanceMethod yX3_forceOf, Cond.selects RX3 yX3_forceOf yX3_forceOf, Cond.code yX3_forceOf cX3_forceOf 5 (some .int), Cond.methodLink RX3 21 yX4_number, Cond.instanceMethod yX4_number, Cond.selects RX4 yX4_number yX4_number, Cond.initialized RX4, Cond.code yX4_number cX4_number 2 (some .int), Cond.fieldLink RX4 18 "CoastPull$Train" "numbers" "[I", Cond.methodLink RX3 25 yX0_gradeOf, Cond.instanceMethod yX0_gradeOf, Cond.selects RX0 yX0_gradeOf yX0_gradeOf, Cond.code yX0_gradeOf cX0_gradeOf 2 (some .int), Cond.fieldLink RX0 9 "CoastPull$Line" "grades" "[I", Cond.methodLink RX5 79 yX3_powerOf, Cond.instanceMethod yX3_powerOf, Cond.selects RX3 yX3_powerOf yX3_powerOf, Cond.code yX3_powerOf cX3_powerOf 5 (some .int), Cond.methodLink RX5 82 yX5_speedPlace]
def wsX6_bestSpeed_r5 : List Cond := [Cond.static yX5_speedPlace, Cond.code yX5_speedPlace cX5_speedPlace 1 (some .int), Cond.methodLink RX5 85 yX3_timeOf, Cond.instanceMethod yX3_timeOf, Cond.selects RX3 yX3_timeOf yX3_timeOf, Cond.code yX3_timeOf cX3_timeOf 4 (some .int), Cond.methodLink RX5 89 yX5_spread, Cond.static yX5_spread, Cond.code yX5_spread cX5_spread 10 none, Cond.methodLink RX5 93 Lib.MathLoose.min_long.x, Cond.static Lib.MathLoose.min_long.x, Cond.code Lib.MathLoose.min_long.x Lib.MathLoose.min_long.code 4 (some .long), Cond.methodLink RX5 50 yX5_gatherPairs, Cond.instanceMethod yX5_gatherPairs, Cond.selects RX5 yX5_gatherPairs yX5_gatherPairs, Cond.code yX5_gatherPairs cX5_gatherPairs 9 (some .int), Cond.constantLong RX5 99 (16384), Cond.fieldLink RX5 22 "CoastPull$Ways" "times" "[I", Cond.fieldLink RX5 25 "CoastPull$Ways" "choices" "[J", Cond.methodLink RX6 149 yX5_pairWithin, Cond.instanceMethod yX5_pairWithin, Cond.selects RX5 yX5_pairWithin yX5_pairWithin, Cond.code yX5_pairWithin cX5_pairWithin 4 (some .int), Cond.methodLink RX5 101 yX5_pairCount]
def wsX6_bestSpeed_r6 : List Cond := [Cond.instanceMethod yX5_pairCount, Cond.selects RX5 yX5_pairCount yX5_pairCount, Cond.code yX5_pairCount cX5_pairCount 2 (some .int), Cond.methodLink RX5 104 yX5_pairTime, Cond.instanceMethod yX5_pairTime, Cond.selects RX5 yX5_pairTime yX5_pairTime, Cond.code yX5_pairTime cX5_pairTime 3 (some .int), Cond.methodLink RX6 158 yX5_pairSpeed, Cond.instanceMethod yX5_pairSpeed, Cond.selects RX5 yX5_pairSpeed yX5_pairSpeed, Cond.code yX5_pairSpeed cX5_pairSpeed 5 (some .int)]
def wsX6_bestSpeed : List Cond := .code yX6_bestSpeed cX6_bestSpeed 5 (some .int) :: ((wsX6_bestSpeed_r1 ++ (wsX6_bestSpeed_r2 ++ (wsX6_bestSpeed_r3 ++ (wsX6_bestSpeed_r4 ++ (wsX6_bestSpeed_r5 ++ wsX6_bestSpeed_r6))))) ++ wsX60 ++ wsX00 ++ wsX50 ++ wsX30 ++ wsX40)
def wsX6_curve_r1 : List Cond := [Cond.fieldLink RX6 12 "CoastPull" "rails" "LCoastPull$Line;", Cond.fieldLink RX6 37 "CoastPull" "ways" "LCoastPull$Ways;", Cond.methodLink RX6 110 yX0_hasLeg, Cond.instanceMethod yX0_hasLeg, Cond.selects RX0 yX0_hasLeg yX0_hasLeg, Cond.initialized RX0, Cond.code yX0_hasLeg cX0_hasLeg 2 (some .boolean), Cond.fieldLink RX0 36 "CoastPull$Line" "legs" "I", Cond.methodLink RX6 137 yX5_bringUpToDate, Cond.instanceMethod yX5_bringUpToDate, Cond.selects RX5 yX5_bringUpToDate yX5_bringUpToDate, Cond.initialized RX5, Cond.code yX5_bringUpToDate cX5_bringUpToDate 3 none, Cond.fieldLink RX5 28 "CoastPull$Ways" "upToDate" "Z", Cond.fieldLink RX5 32 "CoastPull$Ways" "rails" "LCoastPull$Line;", Cond.fieldLink RX5 18 "CoastPull$Ways" "firstPair" "[I", Cond.methodLink RX5 40 yX0_legCount, Cond.instanceMethod yX0_legCount, Cond.selects RX0 yX0_legCount yX0_legCount, Cond.code yX0_legCount cX0_legCount 1 (some .int), Cond.methodLink RX5 46 yX5_driveOver, Cond.instanceMethod yX5_driveOver, Cond.selects RX5 yX5_driveOver yX5_driveOver, Cond.code yX5_driveOver cX5_driveOver 8 (some (.array .long))]
def wsX6_curve_r2 : List Cond := [Cond.fieldLink RX5 11 "CoastPull$Ways" "evenRow" "[J", Cond.fieldLink RX5 15 "CoastPull$Ways" "oddRow" "[J", Cond.constantLong RX5 61 (4611686018427387904), Cond.methodLink RX5 54 yX0_firstPost, Cond.instanceMethod yX0_firstPost, Cond.selects RX0 yX0_firstPost yX0_firstPost, Cond.code yX0_firstPost cX0_firstPost 2 (some .int), Cond.fieldLink RX0 22 "CoastPull$Line" "stopPosts" "[I", Cond.methodLink RX5 58 yX0_lastPost, Cond.instanceMethod yX0_lastPost, Cond.selects RX0 yX0_lastPost yX0_lastPost, Cond.code yX0_lastPost cX0_lastPost 2 (some .int), Cond.methodLink RX5 63 yJ7_fill_d0a16, Cond.static yJ7_fill_d0a16, Cond.initialized RJ7, Cond.code yJ7_fill_d0a16 cJ7_fill_d0a16 5 none, Cond.methodLink RX5 69 yX5_driveThrough, Cond.instanceMethod yX5_driveThrough, Cond.selects RX5 yX5_driveThrough yX5_driveThrough, Cond.code yX5_driveThrough cX5_driveThrough 13 none, Cond.fieldLink RX5 36 "CoastPull$Ways" "steps" "LCoastPull$Steps;", Cond.methodLink RX5 73 yX3_faultOf, Cond.instanceMethod yX3_faultOf, Cond.selects RX3 yX3_faultOf yX3_faultOf]
def wsX6_curve_r3 : List Cond := [Cond.initialized RX3, Cond.code yX3_faultOf cX3_faultOf 5 (some .int), Cond.methodLink RX3 30 Lib.Math.max.name, Cond.static Lib.Math.max.name, Cond.initialized "java/lang/Math", Cond.code Lib.Math.max.name Lib.Math.max.code 2 (some .int), Cond.fieldLink RX3 9 "CoastPull$Steps" "rails" "LCoastPull$Line;", Cond.methodLink RX3 39 Lib.Math.abs.name, Cond.static Lib.Math.abs.name, Cond.code Lib.Math.abs.name Lib.Math.abs.code 1 (some .int), Cond.fieldLink RX3 15 "CoastPull$Steps" "engine" "LCoastPull$Train;", Cond.methodLink RX3 36 yX0_limitOf, Cond.instanceMethod yX0_limitOf, Cond.selects RX0 yX0_limitOf yX0_limitOf, Cond.code yX0_limitOf cX0_limitOf 2 (some .int), Cond.fieldLink RX0 15 "CoastPull$Line" "limits" "[I", Cond.methodLink RX3 42 yX3_forceOf, Cond.instanceMethod yX3_forceOf, Cond.selects RX3 yX3_forceOf yX3_forceOf, Cond.code yX3_forceOf cX3_forceOf 5 (some .int), Cond.methodLink RX3 21 yX4_number, Cond.instanceMethod yX4_number, Cond.selects RX4 yX4_number yX4_number, Cond.initialized RX4]
def wsX6_curve_r4 : List Cond := [Cond.code yX4_number cX4_number 2 (some .int), Cond.fieldLink RX4 18 "CoastPull$Train" "numbers" "[I", Cond.methodLink RX3 25 yX0_gradeOf, Cond.instanceMethod yX0_gradeOf, Cond.selects RX0 yX0_gradeOf yX0_gradeOf, Cond.code yX0_gradeOf cX0_gradeOf 2 (some .int), Cond.fieldLink RX0 9 "CoastPull$Line" "grades" "[I", Cond.methodLink RX5 79 yX3_powerOf, Cond.instanceMethod yX3_powerOf, Cond.selects RX3 yX3_powerOf yX3_powerOf, Cond.code yX3_powerOf cX3_powerOf 5 (some .int), Cond.methodLink RX5 82 yX5_speedPlace, Cond.static yX5_speedPlace, Cond.code yX5_speedPlace cX5_speedPlace 1 (some .int), Cond.methodLink RX5 85 yX3_timeOf, Cond.instanceMethod yX3_timeOf, Cond.selects RX3 yX3_timeOf yX3_timeOf, Cond.code yX3_timeOf cX3_timeOf 4 (some .int), Cond.methodLink RX5 89 yX5_spread, Cond.static yX5_spread, Cond.code yX5_spread cX5_spread 10 none, Cond.methodLink RX5 93 Lib.MathLoose.min_long.x, Cond.static Lib.MathLoose.min_long.x, Cond.code Lib.MathLoose.min_long.x Lib.MathLoose.min_long.code 4 (some .long)]
def wsX6_curve_r5 : List Cond := [Cond.methodLink RX5 50 yX5_gatherPairs, Cond.instanceMethod yX5_gatherPairs, Cond.selects RX5 yX5_gatherPairs yX5_gatherPairs, Cond.code yX5_gatherPairs cX5_gatherPairs 9 (some .int), Cond.constantLong RX5 99 (16384), Cond.fieldLink RX5 22 "CoastPull$Ways" "times" "[I", Cond.fieldLink RX5 25 "CoastPull$Ways" "choices" "[J", Cond.methodLink RX6 140 yX5_pairCount, Cond.instanceMethod yX5_pairCount, Cond.selects RX5 yX5_pairCount yX5_pairCount, Cond.code yX5_pairCount cX5_pairCount 2 (some .int)]
def wsX6_curve : List Cond := .code yX6_curve cX6_curve 2 (some .int) :: ((wsX6_curve_r1 ++ (wsX6_curve_r2 ++ (wsX6_curve_r3 ++ (wsX6_curve_r4 ++ wsX6_curve_r5)))) ++ wsX60 ++ wsX00 ++ wsX50 ++ wsX30 ++ wsX40)
def wsX6_point_r1 : List Cond := [Cond.fieldLink RX6 12 "CoastPull" "rails" "LCoastPull$Line;", Cond.fieldLink RX6 37 "CoastPull" "ways" "LCoastPull$Ways;", Cond.constant RX6 129 (-1000000), Cond.methodLink RX6 110 yX0_hasLeg, Cond.instanceMethod yX0_hasLeg, Cond.selects RX0 yX0_hasLeg yX0_hasLeg, Cond.initialized RX0, Cond.code yX0_hasLeg cX0_hasLeg 2 (some .boolean), Cond.fieldLink RX0 36 "CoastPull$Line" "legs" "I", Cond.methodLink RX6 137 yX5_bringUpToDate, Cond.instanceMethod yX5_bringUpToDate, Cond.selects RX5 yX5_bringUpToDate yX5_bringUpToDate, Cond.initialized RX5, Cond.code yX5_bringUpToDate cX5_bringUpToDate 3 none, Cond.fieldLink RX5 28 "CoastPull$Ways" "upToDate" "Z", Cond.fieldLink RX5 32 "CoastPull$Ways" "rails" "LCoastPull$Line;", Cond.fieldLink RX5 18 "CoastPull$Ways" "firstPair" "[I", Cond.methodLink RX5 40 yX0_legCount, Cond.instanceMethod yX0_legCount, Cond.selects RX0 yX0_legCount yX0_legCount, Cond.code yX0_legCount cX0_legCount 1 (some .int), Cond.methodLink RX5 46 yX5_driveOver, Cond.instanceMethod yX5_driveOver, Cond.selects RX5 yX5_driveOver yX5_driveOver]
def wsX6_point_r2 : List Cond := [Cond.code yX5_driveOver cX5_driveOver 8 (some (.array .long)), Cond.fieldLink RX5 11 "CoastPull$Ways" "evenRow" "[J", Cond.fieldLink RX5 15 "CoastPull$Ways" "oddRow" "[J", Cond.constantLong RX5 61 (4611686018427387904), Cond.methodLink RX5 54 yX0_firstPost, Cond.instanceMethod yX0_firstPost, Cond.selects RX0 yX0_firstPost yX0_firstPost, Cond.code yX0_firstPost cX0_firstPost 2 (some .int), Cond.fieldLink RX0 22 "CoastPull$Line" "stopPosts" "[I", Cond.methodLink RX5 58 yX0_lastPost, Cond.instanceMethod yX0_lastPost, Cond.selects RX0 yX0_lastPost yX0_lastPost, Cond.code yX0_lastPost cX0_lastPost 2 (some .int), Cond.methodLink RX5 63 yJ7_fill_d0a16, Cond.static yJ7_fill_d0a16, Cond.initialized RJ7, Cond.code yJ7_fill_d0a16 cJ7_fill_d0a16 5 none, Cond.methodLink RX5 69 yX5_driveThrough, Cond.instanceMethod yX5_driveThrough, Cond.selects RX5 yX5_driveThrough yX5_driveThrough, Cond.code yX5_driveThrough cX5_driveThrough 13 none, Cond.fieldLink RX5 36 "CoastPull$Ways" "steps" "LCoastPull$Steps;", Cond.methodLink RX5 73 yX3_faultOf, Cond.instanceMethod yX3_faultOf]
def wsX6_point_r3 : List Cond := [Cond.selects RX3 yX3_faultOf yX3_faultOf, Cond.initialized RX3, Cond.code yX3_faultOf cX3_faultOf 5 (some .int), Cond.methodLink RX3 30 Lib.Math.max.name, Cond.static Lib.Math.max.name, Cond.initialized "java/lang/Math", Cond.code Lib.Math.max.name Lib.Math.max.code 2 (some .int), Cond.fieldLink RX3 9 "CoastPull$Steps" "rails" "LCoastPull$Line;", Cond.methodLink RX3 39 Lib.Math.abs.name, Cond.static Lib.Math.abs.name, Cond.code Lib.Math.abs.name Lib.Math.abs.code 1 (some .int), Cond.fieldLink RX3 15 "CoastPull$Steps" "engine" "LCoastPull$Train;", Cond.methodLink RX3 36 yX0_limitOf, Cond.instanceMethod yX0_limitOf, Cond.selects RX0 yX0_limitOf yX0_limitOf, Cond.code yX0_limitOf cX0_limitOf 2 (some .int), Cond.fieldLink RX0 15 "CoastPull$Line" "limits" "[I", Cond.methodLink RX3 42 yX3_forceOf, Cond.instanceMethod yX3_forceOf, Cond.selects RX3 yX3_forceOf yX3_forceOf, Cond.code yX3_forceOf cX3_forceOf 5 (some .int), Cond.methodLink RX3 21 yX4_number, Cond.instanceMethod yX4_number, Cond.selects RX4 yX4_number yX4_number]
def wsX6_point_r4 : List Cond := [Cond.initialized RX4, Cond.code yX4_number cX4_number 2 (some .int), Cond.fieldLink RX4 18 "CoastPull$Train" "numbers" "[I", Cond.methodLink RX3 25 yX0_gradeOf, Cond.instanceMethod yX0_gradeOf, Cond.selects RX0 yX0_gradeOf yX0_gradeOf, Cond.code yX0_gradeOf cX0_gradeOf 2 (some .int), Cond.fieldLink RX0 9 "CoastPull$Line" "grades" "[I", Cond.methodLink RX5 79 yX3_powerOf, Cond.instanceMethod yX3_powerOf, Cond.selects RX3 yX3_powerOf yX3_powerOf, Cond.code yX3_powerOf cX3_powerOf 5 (some .int), Cond.methodLink RX5 82 yX5_speedPlace, Cond.static yX5_speedPlace, Cond.code yX5_speedPlace cX5_speedPlace 1 (some .int), Cond.methodLink RX5 85 yX3_timeOf, Cond.instanceMethod yX3_timeOf, Cond.selects RX3 yX3_timeOf yX3_timeOf, Cond.code yX3_timeOf cX3_timeOf 4 (some .int), Cond.methodLink RX5 89 yX5_spread, Cond.static yX5_spread, Cond.code yX5_spread cX5_spread 10 none, Cond.methodLink RX5 93 Lib.MathLoose.min_long.x, Cond.static Lib.MathLoose.min_long.x]
def wsX6_point_r5 : List Cond := [Cond.code Lib.MathLoose.min_long.x Lib.MathLoose.min_long.code 4 (some .long), Cond.methodLink RX5 50 yX5_gatherPairs, Cond.instanceMethod yX5_gatherPairs, Cond.selects RX5 yX5_gatherPairs yX5_gatherPairs, Cond.code yX5_gatherPairs cX5_gatherPairs 9 (some .int), Cond.constantLong RX5 99 (16384), Cond.fieldLink RX5 22 "CoastPull$Ways" "times" "[I", Cond.fieldLink RX5 25 "CoastPull$Ways" "choices" "[J", Cond.methodLink RX6 140 yX5_pairCount, Cond.instanceMethod yX5_pairCount, Cond.selects RX5 yX5_pairCount yX5_pairCount, Cond.code yX5_pairCount cX5_pairCount 2 (some .int), Cond.methodLink RX6 152 yX5_pairPower, Cond.instanceMethod yX5_pairPower, Cond.selects RX5 yX5_pairPower yX5_pairPower, Cond.code yX5_pairPower cX5_pairPower 3 (some .int), Cond.methodLink RX6 143 yX5_pairTime, Cond.instanceMethod yX5_pairTime, Cond.selects RX5 yX5_pairTime yX5_pairTime, Cond.code yX5_pairTime cX5_pairTime 3 (some .int)]
def wsX6_point : List Cond := .code yX6_point cX6_point 4 (some .int) :: ((wsX6_point_r1 ++ (wsX6_point_r2 ++ (wsX6_point_r3 ++ (wsX6_point_r4 ++ wsX6_point_r5)))) ++ wsX60 ++ wsX00 ++ wsX50 ++ wsX30 ++ wsX40)
def wsX6_share_r1 : List Cond := [Cond.fieldLink RX6 37 "CoastPull" "ways" "LCoastPull$Ways;", Cond.fieldLink RX6 46 "CoastPull" "shares" "LCoastPull$Shares;", Cond.constant RX6 129 (-1000000), Cond.methodLink RX6 155 yX6_isTime, Cond.static yX6_isTime, Cond.initialized RX6, Cond.code yX6_isTime cX6_isTime 1 (some .boolean), Cond.methodLink RX6 137 yX5_bringUpToDate, Cond.instanceMethod yX5_bringUpToDate, Cond.selects RX5 yX5_bringUpToDate yX5_bringUpToDate, Cond.initialized RX5, Cond.code yX5_bringUpToDate cX5_bringUpToDate 3 none, Cond.fieldLink RX5 28 "CoastPull$Ways" "upToDate" "Z", Cond.fieldLink RX5 32 "CoastPull$Ways" "rails" "LCoastPull$Line;", Cond.fieldLink RX5 18 "CoastPull$Ways" "firstPair" "[I", Cond.methodLink RX5 40 yX0_legCount, Cond.instanceMethod yX0_legCount, Cond.selects RX0 yX0_legCount yX0_legCount, Cond.initialized RX0, Cond.code yX0_legCount cX0_legCount 1 (some .int), Cond.fieldLink RX0 36 "CoastPull$Line" "legs" "I", Cond.methodLink RX5 46 yX5_driveOver, Cond.instanceMethod yX5_driveOver, Cond.selects RX5 yX5_driveOver yX5_driveOver]
def wsX6_share_r2 : List Cond := [Cond.code yX5_driveOver cX5_driveOver 8 (some (.array .long)), Cond.fieldLink RX5 11 "CoastPull$Ways" "evenRow" "[J", Cond.fieldLink RX5 15 "CoastPull$Ways" "oddRow" "[J", Cond.constantLong RX5 61 (4611686018427387904), Cond.methodLink RX5 54 yX0_firstPost, Cond.instanceMethod yX0_firstPost, Cond.selects RX0 yX0_firstPost yX0_firstPost, Cond.code yX0_firstPost cX0_firstPost 2 (some .int), Cond.fieldLink RX0 22 "CoastPull$Line" "stopPosts" "[I", Cond.methodLink RX5 58 yX0_lastPost, Cond.instanceMethod yX0_lastPost, Cond.selects RX0 yX0_lastPost yX0_lastPost, Cond.code yX0_lastPost cX0_lastPost 2 (some .int), Cond.methodLink RX5 63 yJ7_fill_d0a16, Cond.static yJ7_fill_d0a16, Cond.initialized RJ7, Cond.code yJ7_fill_d0a16 cJ7_fill_d0a16 5 none, Cond.methodLink RX5 69 yX5_driveThrough, Cond.instanceMethod yX5_driveThrough, Cond.selects RX5 yX5_driveThrough yX5_driveThrough, Cond.code yX5_driveThrough cX5_driveThrough 13 none, Cond.fieldLink RX5 36 "CoastPull$Ways" "steps" "LCoastPull$Steps;", Cond.methodLink RX5 73 yX3_faultOf, Cond.instanceMethod yX3_faultOf]
def wsX6_share_r3 : List Cond := [Cond.selects RX3 yX3_faultOf yX3_faultOf, Cond.initialized RX3, Cond.code yX3_faultOf cX3_faultOf 5 (some .int), Cond.methodLink RX3 30 Lib.Math.max.name, Cond.static Lib.Math.max.name, Cond.initialized "java/lang/Math", Cond.code Lib.Math.max.name Lib.Math.max.code 2 (some .int), Cond.fieldLink RX3 9 "CoastPull$Steps" "rails" "LCoastPull$Line;", Cond.methodLink RX3 39 Lib.Math.abs.name, Cond.static Lib.Math.abs.name, Cond.code Lib.Math.abs.name Lib.Math.abs.code 1 (some .int), Cond.fieldLink RX3 15 "CoastPull$Steps" "engine" "LCoastPull$Train;", Cond.methodLink RX3 36 yX0_limitOf, Cond.instanceMethod yX0_limitOf, Cond.selects RX0 yX0_limitOf yX0_limitOf, Cond.code yX0_limitOf cX0_limitOf 2 (some .int), Cond.fieldLink RX0 15 "CoastPull$Line" "limits" "[I", Cond.methodLink RX3 42 yX3_forceOf, Cond.instanceMethod yX3_forceOf, Cond.selects RX3 yX3_forceOf yX3_forceOf, Cond.code yX3_forceOf cX3_forceOf 5 (some .int), Cond.methodLink RX3 21 yX4_number, Cond.instanceMethod yX4_number, Cond.selects RX4 yX4_number yX4_number]
def wsX6_share_r4 : List Cond := [Cond.initialized RX4, Cond.code yX4_number cX4_number 2 (some .int), Cond.fieldLink RX4 18 "CoastPull$Train" "numbers" "[I", Cond.methodLink RX3 25 yX0_gradeOf, Cond.instanceMethod yX0_gradeOf, Cond.selects RX0 yX0_gradeOf yX0_gradeOf, Cond.code yX0_gradeOf cX0_gradeOf 2 (some .int), Cond.fieldLink RX0 9 "CoastPull$Line" "grades" "[I", Cond.methodLink RX5 79 yX3_powerOf, Cond.instanceMethod yX3_powerOf, Cond.selects RX3 yX3_powerOf yX3_powerOf, Cond.code yX3_powerOf cX3_powerOf 5 (some .int), Cond.methodLink RX5 82 yX5_speedPlace, Cond.static yX5_speedPlace, Cond.code yX5_speedPlace cX5_speedPlace 1 (some .int), Cond.methodLink RX5 85 yX3_timeOf, Cond.instanceMethod yX3_timeOf, Cond.selects RX3 yX3_timeOf yX3_timeOf, Cond.code yX3_timeOf cX3_timeOf 4 (some .int), Cond.methodLink RX5 89 yX5_spread, Cond.static yX5_spread, Cond.code yX5_spread cX5_spread 10 none, Cond.methodLink RX5 93 Lib.MathLoose.min_long.x, Cond.static Lib.MathLoose.min_long.x]
def wsX6_share_r5 : List Cond := [Cond.code Lib.MathLoose.min_long.x Lib.MathLoose.min_long.code 4 (some .long), Cond.methodLink RX5 50 yX5_gatherPairs, Cond.instanceMethod yX5_gatherPairs, Cond.selects RX5 yX5_gatherPairs yX5_gatherPairs, Cond.code yX5_gatherPairs cX5_gatherPairs 9 (some .int), Cond.constantLong RX5 99 (16384), Cond.fieldLink RX5 22 "CoastPull$Ways" "times" "[I", Cond.fieldLink RX5 25 "CoastPull$Ways" "choices" "[J", Cond.methodLink RX6 161 yX2_bringUpToDate, Cond.instanceMethod yX2_bringUpToDate, Cond.selects RX2 yX2_bringUpToDate yX2_bringUpToDate, Cond.initialized RX2, Cond.code yX2_bringUpToDate cX2_bringUpToDate 5 none, Cond.fieldLink RX2 18 "CoastPull$Shares" "upToDate" "Z", Cond.fieldLink RX2 9 "CoastPull$Shares" "choices" "[J", Cond.fieldLink RX2 22 "CoastPull$Shares" "rails" "LCoastPull$Line;", Cond.fieldLink RX2 15 "CoastPull$Shares" "placeValues" "[J", Cond.fieldLink RX2 26 "CoastPull$Shares" "ways" "LCoastPull$Ways;", Cond.methodLink RX2 52 Lib.Math.max.name, Cond.methodLink RX2 30 yJ7_fill_d0a16, Cond.methodLink RX2 36 yX0_legCount, Cond.methodLink RX2 42 yX2_bestFrom, Cond.instanceMethod yX2_bestFrom, Cond.selects RX2 yX2_bestFrom yX2_bestFrom]
def wsX6_share_r6 : List Cond := [Cond.code yX2_bestFrom cX2_bestFrom 10 (some .long), Cond.constantLong RX2 58 (4611686018427387904), Cond.methodLink RX2 66 Lib.MathLoose.min_long.x, Cond.methodLink RX2 46 yX5_pairCount, Cond.instanceMethod yX5_pairCount, Cond.selects RX5 yX5_pairCount yX5_pairCount, Cond.code yX5_pairCount cX5_pairCount 2 (some .int), Cond.methodLink RX2 60 yX5_pairTime, Cond.instanceMethod yX5_pairTime, Cond.selects RX5 yX5_pairTime yX5_pairTime, Cond.code yX5_pairTime cX5_pairTime 3 (some .int), Cond.methodLink RX2 63 yX5_pairPower, Cond.instanceMethod yX5_pairPower, Cond.selects RX5 yX5_pairPower yX5_pairPower, Cond.code yX5_pairPower cX5_pairPower 3 (some .int), Cond.methodLink RX6 162 yX2_isThere, Cond.instanceMethod yX2_isThere, Cond.selects RX2 yX2_isThere yX2_isThere, Cond.code yX2_isThere cX2_isThere 2 (some .boolean), Cond.methodLink RX6 165 yX2_powerTogether, Cond.instanceMethod yX2_powerTogether, Cond.selects RX2 yX2_powerTogether yX2_powerTogether, Cond.code yX2_powerTogether cX2_powerTogether 2 (some .int)]
def wsX6_share : List Cond := .code yX6_share cX6_share 2 (some .int) :: ((wsX6_share_r1 ++ (wsX6_share_r2 ++ (wsX6_share_r3 ++ (wsX6_share_r4 ++ (wsX6_share_r5 ++ wsX6_share_r6))))) ++ wsX60 ++ wsX50 ++ wsX00 ++ wsX30 ++ wsX40 ++ wsX20)
def wsX6_shareTime_r1 : List Cond := [Cond.fieldLink RX6 12 "CoastPull" "rails" "LCoastPull$Line;", Cond.fieldLink RX6 37 "CoastPull" "ways" "LCoastPull$Ways;", Cond.fieldLink RX6 46 "CoastPull" "shares" "LCoastPull$Shares;", Cond.constant RX6 129 (-1000000), Cond.methodLink RX6 110 yX0_hasLeg, Cond.instanceMethod yX0_hasLeg, Cond.selects RX0 yX0_hasLeg yX0_hasLeg, Cond.initialized RX0, Cond.code yX0_hasLeg cX0_hasLeg 2 (some .boolean), Cond.fieldLink RX0 36 "CoastPull$Line" "legs" "I", Cond.methodLink RX6 155 yX6_isTime, Cond.static yX6_isTime, Cond.initialized RX6, Cond.code yX6_isTime cX6_isTime 1 (some .boolean), Cond.methodLink RX6 137 yX5_bringUpToDate, Cond.instanceMethod yX5_bringUpToDate, Cond.selects RX5 yX5_bringUpToDate yX5_bringUpToDate, Cond.initialized RX5, Cond.code yX5_bringUpToDate cX5_bringUpToDate 3 none, Cond.fieldLink RX5 28 "CoastPull$Ways" "upToDate" "Z", Cond.fieldLink RX5 32 "CoastPull$Ways" "rails" "LCoastPull$Line;", Cond.fieldLink RX5 18 "CoastPull$Ways" "firstPair" "[I", Cond.methodLink RX5 40 yX0_legCount, Cond.instanceMethod yX0_legCount]
def wsX6_shareTime_r2 : List Cond := [Cond.selects RX0 yX0_legCount yX0_legCount, Cond.code yX0_legCount cX0_legCount 1 (some .int), Cond.methodLink RX5 46 yX5_driveOver, Cond.instanceMethod yX5_driveOver, Cond.selects RX5 yX5_driveOver yX5_driveOver, Cond.code yX5_driveOver cX5_driveOver 8 (some (.array .long)), Cond.fieldLink RX5 11 "CoastPull$Ways" "evenRow" "[J", Cond.fieldLink RX5 15 "CoastPull$Ways" "oddRow" "[J", Cond.constantLong RX5 61 (4611686018427387904), Cond.methodLink RX5 54 yX0_firstPost, Cond.instanceMethod yX0_firstPost, Cond.selects RX0 yX0_firstPost yX0_firstPost, Cond.code yX0_firstPost cX0_firstPost 2 (some .int), Cond.fieldLink RX0 22 "CoastPull$Line" "stopPosts" "[I", Cond.methodLink RX5 58 yX0_lastPost, Cond.instanceMethod yX0_lastPost, Cond.selects RX0 yX0_lastPost yX0_lastPost, Cond.code yX0_lastPost cX0_lastPost 2 (some .int), Cond.methodLink RX5 63 yJ7_fill_d0a16, Cond.static yJ7_fill_d0a16, Cond.initialized RJ7, Cond.code yJ7_fill_d0a16 cJ7_fill_d0a16 5 none, Cond.methodLink RX5 69 yX5_driveThrough, Cond.instanceMethod yX5_driveThrough]
def wsX6_shareTime_r3 : List Cond := [Cond.selects RX5 yX5_driveThrough yX5_driveThrough, Cond.code yX5_driveThrough cX5_driveThrough 13 none, Cond.fieldLink RX5 36 "CoastPull$Ways" "steps" "LCoastPull$Steps;", Cond.methodLink RX5 73 yX3_faultOf, Cond.instanceMethod yX3_faultOf, Cond.selects RX3 yX3_faultOf yX3_faultOf, Cond.initialized RX3, Cond.code yX3_faultOf cX3_faultOf 5 (some .int), Cond.methodLink RX3 30 Lib.Math.max.name, Cond.static Lib.Math.max.name, Cond.initialized "java/lang/Math", Cond.code Lib.Math.max.name Lib.Math.max.code 2 (some .int), Cond.fieldLink RX3 9 "CoastPull$Steps" "rails" "LCoastPull$Line;", Cond.methodLink RX3 39 Lib.Math.abs.name, Cond.static Lib.Math.abs.name, Cond.code Lib.Math.abs.name Lib.Math.abs.code 1 (some .int), Cond.fieldLink RX3 15 "CoastPull$Steps" "engine" "LCoastPull$Train;", Cond.methodLink RX3 36 yX0_limitOf, Cond.instanceMethod yX0_limitOf, Cond.selects RX0 yX0_limitOf yX0_limitOf, Cond.code yX0_limitOf cX0_limitOf 2 (some .int), Cond.fieldLink RX0 15 "CoastPull$Line" "limits" "[I", Cond.methodLink RX3 42 yX3_forceOf, Cond.instanceMethod yX3_forceOf]
def wsX6_shareTime_r4 : List Cond := [Cond.selects RX3 yX3_forceOf yX3_forceOf, Cond.code yX3_forceOf cX3_forceOf 5 (some .int), Cond.methodLink RX3 21 yX4_number, Cond.instanceMethod yX4_number, Cond.selects RX4 yX4_number yX4_number, Cond.initialized RX4, Cond.code yX4_number cX4_number 2 (some .int), Cond.fieldLink RX4 18 "CoastPull$Train" "numbers" "[I", Cond.methodLink RX3 25 yX0_gradeOf, Cond.instanceMethod yX0_gradeOf, Cond.selects RX0 yX0_gradeOf yX0_gradeOf, Cond.code yX0_gradeOf cX0_gradeOf 2 (some .int), Cond.fieldLink RX0 9 "CoastPull$Line" "grades" "[I", Cond.methodLink RX5 79 yX3_powerOf, Cond.instanceMethod yX3_powerOf, Cond.selects RX3 yX3_powerOf yX3_powerOf, Cond.code yX3_powerOf cX3_powerOf 5 (some .int), Cond.methodLink RX5 82 yX5_speedPlace, Cond.static yX5_speedPlace, Cond.code yX5_speedPlace cX5_speedPlace 1 (some .int), Cond.methodLink RX5 85 yX3_timeOf, Cond.instanceMethod yX3_timeOf, Cond.selects RX3 yX3_timeOf yX3_timeOf, Cond.code yX3_timeOf cX3_timeOf 4 (some .int)]
def wsX6_shareTime_r5 : List Cond := [Cond.methodLink RX5 89 yX5_spread, Cond.static yX5_spread, Cond.code yX5_spread cX5_spread 10 none, Cond.methodLink RX5 93 Lib.MathLoose.min_long.x, Cond.static Lib.MathLoose.min_long.x, Cond.code Lib.MathLoose.min_long.x Lib.MathLoose.min_long.code 4 (some .long), Cond.methodLink RX5 50 yX5_gatherPairs, Cond.instanceMethod yX5_gatherPairs, Cond.selects RX5 yX5_gatherPairs yX5_gatherPairs, Cond.code yX5_gatherPairs cX5_gatherPairs 9 (some .int), Cond.constantLong RX5 99 (16384), Cond.fieldLink RX5 22 "CoastPull$Ways" "times" "[I", Cond.fieldLink RX5 25 "CoastPull$Ways" "choices" "[J", Cond.methodLink RX6 161 yX2_bringUpToDate, Cond.instanceMethod yX2_bringUpToDate, Cond.selects RX2 yX2_bringUpToDate yX2_bringUpToDate, Cond.initialized RX2, Cond.code yX2_bringUpToDate cX2_bringUpToDate 5 none, Cond.fieldLink RX2 18 "CoastPull$Shares" "upToDate" "Z", Cond.fieldLink RX2 9 "CoastPull$Shares" "choices" "[J", Cond.fieldLink RX2 22 "CoastPull$Shares" "rails" "LCoastPull$Line;", Cond.fieldLink RX2 15 "CoastPull$Shares" "placeValues" "[J", Cond.fieldLink RX2 26 "CoastPull$Shares" "ways" "LCoastPull$Ways;", Cond.methodLink RX2 52 Lib.Math.max.name]
def wsX6_shareTime_r6 : List Cond := [Cond.methodLink RX2 30 yJ7_fill_d0a16, Cond.methodLink RX2 36 yX0_legCount, Cond.methodLink RX2 42 yX2_bestFrom, Cond.instanceMethod yX2_bestFrom, Cond.selects RX2 yX2_bestFrom yX2_bestFrom, Cond.code yX2_bestFrom cX2_bestFrom 10 (some .long), Cond.constantLong RX2 58 (4611686018427387904), Cond.methodLink RX2 66 Lib.MathLoose.min_long.x, Cond.methodLink RX2 46 yX5_pairCount, Cond.instanceMethod yX5_pairCount, Cond.selects RX5 yX5_pairCount yX5_pairCount, Cond.code yX5_pairCount cX5_pairCount 2 (some .int), Cond.methodLink RX2 60 yX5_pairTime, Cond.instanceMethod yX5_pairTime, Cond.selects RX5 yX5_pairTime yX5_pairTime, Cond.code yX5_pairTime cX5_pairTime 3 (some .int), Cond.methodLink RX2 63 yX5_pairPower, Cond.instanceMethod yX5_pairPower, Cond.selects RX5 yX5_pairPower yX5_pairPower, Cond.code yX5_pairPower cX5_pairPower 3 (some .int), Cond.methodLink RX6 162 yX2_isThere, Cond.instanceMethod yX2_isThere, Cond.selects RX2 yX2_isThere yX2_isThere, Cond.code yX2_isThere cX2_isThere 2 (some .boolean)]
def wsX6_shareTime_r7 : List Cond := [Cond.methodLink RX6 168 yX2_legTime, Cond.instanceMethod yX2_legTime, Cond.selects RX2 yX2_legTime yX2_legTime, Cond.code yX2_legTime cX2_legTime 8 (some .int), Cond.constant RX2 70 (-1000000), Cond.constantLong RX2 71 (281474976710655)]
def wsX6_shareTime : List Cond := .code yX6_shareTime cX6_shareTime 3 (some .int) :: ((wsX6_shareTime_r1 ++ (wsX6_shareTime_r2 ++ (wsX6_shareTime_r3 ++ (wsX6_shareTime_r4 ++ (wsX6_shareTime_r5 ++ (wsX6_shareTime_r6 ++ wsX6_shareTime_r7)))))) ++ wsX60 ++ wsX00 ++ wsX50 ++ wsX30 ++ wsX40 ++ wsX20)
def wsX6_needs_r1 : List Cond := [Cond.fieldLink RX6 37 "CoastPull" "ways" "LCoastPull$Ways;", Cond.fieldLink RX6 46 "CoastPull" "shares" "LCoastPull$Shares;", Cond.constant RX6 129 (-1000000), Cond.methodLink RX6 137 yX5_bringUpToDate, Cond.instanceMethod yX5_bringUpToDate, Cond.selects RX5 yX5_bringUpToDate yX5_bringUpToDate, Cond.initialized RX5, Cond.code yX5_bringUpToDate cX5_bringUpToDate 3 none, Cond.fieldLink RX5 28 "CoastPull$Ways" "upToDate" "Z", Cond.fieldLink RX5 32 "CoastPull$Ways" "rails" "LCoastPull$Line;", Cond.fieldLink RX5 18 "CoastPull$Ways" "firstPair" "[I", Cond.methodLink RX5 40 yX0_legCount, Cond.instanceMethod yX0_legCount, Cond.selects RX0 yX0_legCount yX0_legCount, Cond.initialized RX0, Cond.code yX0_legCount cX0_legCount 1 (some .int), Cond.fieldLink RX0 36 "CoastPull$Line" "legs" "I", Cond.methodLink RX5 46 yX5_driveOver, Cond.instanceMethod yX5_driveOver, Cond.selects RX5 yX5_driveOver yX5_driveOver, Cond.code yX5_driveOver cX5_driveOver 8 (some (.array .long)), Cond.fieldLink RX5 11 "CoastPull$Ways" "evenRow" "[J", Cond.fieldLink RX5 15 "CoastPull$Ways" "oddRow" "[J", Cond.constantLong RX5 61 (4611686018427387904)]
def wsX6_needs_r2 : List Cond := [Cond.methodLink RX5 54 yX0_firstPost, Cond.instanceMethod yX0_firstPost, Cond.selects RX0 yX0_firstPost yX0_firstPost, Cond.code yX0_firstPost cX0_firstPost 2 (some .int), Cond.fieldLink RX0 22 "CoastPull$Line" "stopPosts" "[I", Cond.methodLink RX5 58 yX0_lastPost, Cond.instanceMethod yX0_lastPost, Cond.selects RX0 yX0_lastPost yX0_lastPost, Cond.code yX0_lastPost cX0_lastPost 2 (some .int), Cond.methodLink RX5 63 yJ7_fill_d0a16, Cond.static yJ7_fill_d0a16, Cond.initialized RJ7, Cond.code yJ7_fill_d0a16 cJ7_fill_d0a16 5 none, Cond.methodLink RX5 69 yX5_driveThrough, Cond.instanceMethod yX5_driveThrough, Cond.selects RX5 yX5_driveThrough yX5_driveThrough, Cond.code yX5_driveThrough cX5_driveThrough 13 none, Cond.fieldLink RX5 36 "CoastPull$Ways" "steps" "LCoastPull$Steps;", Cond.methodLink RX5 73 yX3_faultOf, Cond.instanceMethod yX3_faultOf, Cond.selects RX3 yX3_faultOf yX3_faultOf, Cond.initialized RX3, Cond.code yX3_faultOf cX3_faultOf 5 (some .int), Cond.methodLink RX3 30 Lib.Math.max.name]
def wsX6_needs_r3 : List Cond := [Cond.static Lib.Math.max.name, Cond.initialized "java/lang/Math", Cond.code Lib.Math.max.name Lib.Math.max.code 2 (some .int), Cond.fieldLink RX3 9 "CoastPull$Steps" "rails" "LCoastPull$Line;", Cond.methodLink RX3 39 Lib.Math.abs.name, Cond.static Lib.Math.abs.name, Cond.code Lib.Math.abs.name Lib.Math.abs.code 1 (some .int), Cond.fieldLink RX3 15 "CoastPull$Steps" "engine" "LCoastPull$Train;", Cond.methodLink RX3 36 yX0_limitOf, Cond.instanceMethod yX0_limitOf, Cond.selects RX0 yX0_limitOf yX0_limitOf, Cond.code yX0_limitOf cX0_limitOf 2 (some .int), Cond.fieldLink RX0 15 "CoastPull$Line" "limits" "[I", Cond.methodLink RX3 42 yX3_forceOf, Cond.instanceMethod yX3_forceOf, Cond.selects RX3 yX3_forceOf yX3_forceOf, Cond.code yX3_forceOf cX3_forceOf 5 (some .int), Cond.methodLink RX3 21 yX4_number, Cond.instanceMethod yX4_number, Cond.selects RX4 yX4_number yX4_number, Cond.initialized RX4, Cond.code yX4_number cX4_number 2 (some .int), Cond.fieldLink RX4 18 "CoastPull$Train" "numbers" "[I", Cond.methodLink RX3 25 yX0_gradeOf]
def wsX6_needs_r4 : List Cond := [Cond.instanceMethod yX0_gradeOf, Cond.selects RX0 yX0_gradeOf yX0_gradeOf, Cond.code yX0_gradeOf cX0_gradeOf 2 (some .int), Cond.fieldLink RX0 9 "CoastPull$Line" "grades" "[I", Cond.methodLink RX5 79 yX3_powerOf, Cond.instanceMethod yX3_powerOf, Cond.selects RX3 yX3_powerOf yX3_powerOf, Cond.code yX3_powerOf cX3_powerOf 5 (some .int), Cond.methodLink RX5 82 yX5_speedPlace, Cond.static yX5_speedPlace, Cond.code yX5_speedPlace cX5_speedPlace 1 (some .int), Cond.methodLink RX5 85 yX3_timeOf, Cond.instanceMethod yX3_timeOf, Cond.selects RX3 yX3_timeOf yX3_timeOf, Cond.code yX3_timeOf cX3_timeOf 4 (some .int), Cond.methodLink RX5 89 yX5_spread, Cond.static yX5_spread, Cond.code yX5_spread cX5_spread 10 none, Cond.methodLink RX5 93 Lib.MathLoose.min_long.x, Cond.static Lib.MathLoose.min_long.x, Cond.code Lib.MathLoose.min_long.x Lib.MathLoose.min_long.code 4 (some .long), Cond.methodLink RX5 50 yX5_gatherPairs, Cond.instanceMethod yX5_gatherPairs, Cond.selects RX5 yX5_gatherPairs yX5_gatherPairs]
def wsX6_needs_r5 : List Cond := [Cond.code yX5_gatherPairs cX5_gatherPairs 9 (some .int), Cond.constantLong RX5 99 (16384), Cond.fieldLink RX5 22 "CoastPull$Ways" "times" "[I", Cond.fieldLink RX5 25 "CoastPull$Ways" "choices" "[J", Cond.methodLink RX6 161 yX2_bringUpToDate, Cond.instanceMethod yX2_bringUpToDate, Cond.selects RX2 yX2_bringUpToDate yX2_bringUpToDate, Cond.initialized RX2, Cond.code yX2_bringUpToDate cX2_bringUpToDate 5 none, Cond.fieldLink RX2 18 "CoastPull$Shares" "upToDate" "Z", Cond.fieldLink RX2 9 "CoastPull$Shares" "choices" "[J", Cond.fieldLink RX2 22 "CoastPull$Shares" "rails" "LCoastPull$Line;", Cond.fieldLink RX2 15 "CoastPull$Shares" "placeValues" "[J", Cond.fieldLink RX2 26 "CoastPull$Shares" "ways" "LCoastPull$Ways;", Cond.methodLink RX2 52 Lib.Math.max.name, Cond.methodLink RX2 30 yJ7_fill_d0a16, Cond.methodLink RX2 36 yX0_legCount, Cond.methodLink RX2 42 yX2_bestFrom, Cond.instanceMethod yX2_bestFrom, Cond.selects RX2 yX2_bestFrom yX2_bestFrom, Cond.code yX2_bestFrom cX2_bestFrom 10 (some .long), Cond.constantLong RX2 58 (4611686018427387904), Cond.methodLink RX2 66 Lib.MathLoose.min_long.x, Cond.methodLink RX2 46 yX5_pairCount]
def wsX6_needs_r6 : List Cond := [Cond.instanceMethod yX5_pairCount, Cond.selects RX5 yX5_pairCount yX5_pairCount, Cond.code yX5_pairCount cX5_pairCount 2 (some .int), Cond.methodLink RX2 60 yX5_pairTime, Cond.instanceMethod yX5_pairTime, Cond.selects RX5 yX5_pairTime yX5_pairTime, Cond.code yX5_pairTime cX5_pairTime 3 (some .int), Cond.methodLink RX2 63 yX5_pairPower, Cond.instanceMethod yX5_pairPower, Cond.selects RX5 yX5_pairPower yX5_pairPower, Cond.code yX5_pairPower cX5_pairPower 3 (some .int), Cond.methodLink RX6 162 yX2_isThere, Cond.instanceMethod yX2_isThere, Cond.selects RX2 yX2_isThere yX2_isThere, Cond.code yX2_isThere cX2_isThere 2 (some .boolean), Cond.methodLink RX6 165 yX2_powerTogether, Cond.instanceMethod yX2_powerTogether, Cond.selects RX2 yX2_powerTogether yX2_powerTogether, Cond.code yX2_powerTogether cX2_powerTogether 2 (some .int)]
def wsX6_needs : List Cond := .code yX6_needs cX6_needs 3 (some .int) :: ((wsX6_needs_r1 ++ (wsX6_needs_r2 ++ (wsX6_needs_r3 ++ (wsX6_needs_r4 ++ (wsX6_needs_r5 ++ wsX6_needs_r6))))) ++ wsX60 ++ wsX50 ++ wsX00 ++ wsX30 ++ wsX40 ++ wsX20)
def wsX6_log_r1 : List Cond := [Cond.fieldLink RX6 53 "CoastPull" "book" "LCoastPull$Log;", Cond.methodLink RX6 171 yX6_isSpeed, Cond.static yX6_isSpeed, Cond.initialized RX6, Cond.code yX6_isSpeed cX6_isSpeed 1 (some .boolean), Cond.methodLink RX6 174 yX1_isFull, Cond.instanceMethod yX1_isFull, Cond.selects RX1 yX1_isFull yX1_isFull, Cond.initialized RX1, Cond.code yX1_isFull cX1_isFull 1 (some .boolean), Cond.fieldLink RX1 15 "CoastPull$Log" "told" "I", Cond.fieldLink RX1 19 "CoastPull$Log" "rails" "LCoastPull$Line;", Cond.methodLink RX1 27 yX0_cellCount, Cond.instanceMethod yX0_cellCount, Cond.selects RX0 yX0_cellCount yX0_cellCount, Cond.initialized RX0, Cond.code yX0_cellCount cX0_cellCount 1 (some .int), Cond.fieldLink RX0 29 "CoastPull$Line" "cells" "I", Cond.methodLink RX6 178 yX1_add, Cond.instanceMethod yX1_add, Cond.selects RX1 yX1_add yX1_add, Cond.code yX1_add cX1_add 2 none, Cond.fieldLink RX1 9 "CoastPull$Log" "speeds" "[I", Cond.methodLink RX6 181 yX1_size]
def wsX6_log_r2 : List Cond := [Cond.instanceMethod yX1_size, Cond.selects RX1 yX1_size yX1_size, Cond.code yX1_size cX1_size 1 (some .int)]
def wsX6_log : List Cond := .code yX6_log cX6_log 2 (some .int) :: ((wsX6_log_r1 ++ wsX6_log_r2) ++ wsX60 ++ wsX10 ++ wsX00)
def wsX6_clear : List Cond := .code yX6_clear cX6_clear 2 (some .int) :: ([.fieldLink RX6 53 "CoastPull" "book" "LCoastPull$Log;", .methodLink RX6 181 yX1_size, .instanceMethod yX1_size, .selects RX1 yX1_size yX1_size, .initialized RX1, .code yX1_size cX1_size 1 (some .int), .fieldLink RX1 15 "CoastPull$Log" "told" "I", .methodLink RX6 65 yX1_wipe, .instanceMethod yX1_wipe, .selects RX1 yX1_wipe yX1_wipe, .code yX1_wipe cX1_wipe 1 none] ++ wsX60 ++ wsX10)
def wsX6_judged_r1 : List Cond := [Cond.fieldLink RX6 53 "CoastPull" "book" "LCoastPull$Log;", Cond.methodLink RX6 184 yX1_timeTogether, Cond.instanceMethod yX1_timeTogether, Cond.selects RX1 yX1_timeTogether yX1_timeTogether, Cond.initialized RX1, Cond.code yX1_timeTogether cX1_timeTogether 3 (some .int), Cond.fieldLink RX1 15 "CoastPull$Log" "told" "I", Cond.fieldLink RX1 23 "CoastPull$Log" "steps" "LCoastPull$Steps;", Cond.fieldLink RX1 9 "CoastPull$Log" "speeds" "[I", Cond.methodLink RX1 39 yX1_isFaulty, Cond.instanceMethod yX1_isFaulty, Cond.selects RX1 yX1_isFaulty yX1_isFaulty, Cond.code yX1_isFaulty cX1_isFaulty 2 (some .boolean), Cond.methodLink RX1 33 yX3_faultOf, Cond.instanceMethod yX3_faultOf, Cond.selects RX3 yX3_faultOf yX3_faultOf, Cond.initialized RX3, Cond.code yX3_faultOf cX3_faultOf 5 (some .int), Cond.methodLink RX3 30 Lib.Math.max.name, Cond.static Lib.Math.max.name, Cond.initialized "java/lang/Math", Cond.code Lib.Math.max.name Lib.Math.max.code 2 (some .int), Cond.fieldLink RX3 9 "CoastPull$Steps" "rails" "LCoastPull$Line;", Cond.methodLink RX3 39 Lib.Math.abs.name]
def wsX6_judged_r2 : List Cond := [Cond.static Lib.Math.abs.name, Cond.code Lib.Math.abs.name Lib.Math.abs.code 1 (some .int), Cond.fieldLink RX3 15 "CoastPull$Steps" "engine" "LCoastPull$Train;", Cond.methodLink RX3 36 yX0_limitOf, Cond.instanceMethod yX0_limitOf, Cond.selects RX0 yX0_limitOf yX0_limitOf, Cond.initialized RX0, Cond.code yX0_limitOf cX0_limitOf 2 (some .int), Cond.fieldLink RX0 15 "CoastPull$Line" "limits" "[I", Cond.methodLink RX3 42 yX3_forceOf, Cond.instanceMethod yX3_forceOf, Cond.selects RX3 yX3_forceOf yX3_forceOf, Cond.code yX3_forceOf cX3_forceOf 5 (some .int), Cond.methodLink RX3 21 yX4_number, Cond.instanceMethod yX4_number, Cond.selects RX4 yX4_number yX4_number, Cond.initialized RX4, Cond.code yX4_number cX4_number 2 (some .int), Cond.fieldLink RX4 18 "CoastPull$Train" "numbers" "[I", Cond.methodLink RX3 25 yX0_gradeOf, Cond.instanceMethod yX0_gradeOf, Cond.selects RX0 yX0_gradeOf yX0_gradeOf, Cond.code yX0_gradeOf cX0_gradeOf 2 (some .int), Cond.fieldLink RX0 9 "CoastPull$Line" "grades" "[I"]
def wsX6_judged_r3 : List Cond := [Cond.methodLink RX1 43 yX3_timeOf, Cond.instanceMethod yX3_timeOf, Cond.selects RX3 yX3_timeOf yX3_timeOf, Cond.code yX3_timeOf cX3_timeOf 4 (some .int), Cond.methodLink RX6 187 yX1_powerTogether, Cond.instanceMethod yX1_powerTogether, Cond.selects RX1 yX1_powerTogether yX1_powerTogether, Cond.code yX1_powerTogether cX1_powerTogether 3 (some .int), Cond.methodLink RX1 47 yX3_powerOf, Cond.instanceMethod yX3_powerOf, Cond.selects RX3 yX3_powerOf yX3_powerOf, Cond.code yX3_powerOf cX3_powerOf 5 (some .int), Cond.methodLink RX6 189 yX1_faultCount, Cond.instanceMethod yX1_faultCount, Cond.selects RX1 yX1_faultCount yX1_faultCount, Cond.code yX1_faultCount cX1_faultCount 3 (some .int), Cond.methodLink RX6 192 yX1_firstFaultCell, Cond.instanceMethod yX1_firstFaultCell, Cond.selects RX1 yX1_firstFaultCell yX1_firstFaultCell, Cond.code yX1_firstFaultCell cX1_firstFaultCell 2 (some .int), Cond.constant RX1 50 (-1000000), Cond.methodLink RX6 195 yX1_stopsPassed, Cond.instanceMethod yX1_stopsPassed, Cond.selects RX1 yX1_stopsPassed yX1_stopsPassed]
def wsX6_judged_r4 : List Cond := [Cond.code yX1_stopsPassed cX1_stopsPassed 3 (some .int), Cond.fieldLink RX1 19 "CoastPull$Log" "rails" "LCoastPull$Line;", Cond.methodLink RX1 51 yX0_isStop, Cond.instanceMethod yX0_isStop, Cond.selects RX0 yX0_isStop yX0_isStop, Cond.code yX0_isStop cX0_isStop 2 (some .boolean), Cond.fieldLink RX0 18 "CoastPull$Line" "stops" "[Z"]
def wsX6_judged : List Cond := .code yX6_judged cX6_judged 2 (some .int) :: ((wsX6_judged_r1 ++ (wsX6_judged_r2 ++ (wsX6_judged_r3 ++ wsX6_judged_r4))) ++ wsX60 ++ wsX10 ++ wsX30 ++ wsX00 ++ wsX40)
def wsX6_count : List Cond := .code yX6_count cX6_count 2 (some .int) :: ([.fieldLink RX6 12 "CoastPull" "rails" "LCoastPull$Line;", .fieldLink RX6 53 "CoastPull" "book" "LCoastPull$Log;", .methodLink RX6 57 yX0_cellCount, .instanceMethod yX0_cellCount, .selects RX0 yX0_cellCount yX0_cellCount, .initialized RX0, .code yX0_cellCount cX0_cellCount 1 (some .int), .fieldLink RX0 29 "CoastPull$Line" "cells" "I", .methodLink RX6 93 yX0_legCount, .instanceMethod yX0_legCount, .selects RX0 yX0_legCount yX0_legCount, .code yX0_legCount cX0_legCount 1 (some .int), .fieldLink RX0 36 "CoastPull$Line" "legs" "I", .methodLink RX6 181 yX1_size, .instanceMethod yX1_size, .selects RX1 yX1_size yX1_size, .initialized RX1, .code yX1_size cX1_size 1 (some .int), .fieldLink RX1 15 "CoastPull$Log" "told" "I"] ++ wsX60 ++ wsX00 ++ wsX10)
def wsX7_begin : List Cond := .code yX7_begin cX7_begin 3 none :: ([.fieldLink RX7 7 "CoastPullModel" "cells" "I", .fieldLink RX7 13 "CoastPullModel" "grade" "[I", .fieldLink RX7 17 "CoastPullModel" "limit" "[I", .fieldLink RX7 20 "CoastPullModel" "isStop" "[Z", .fieldLink RX7 54 "CoastPullModel" "logged" "I", .fieldLink RX7 57 "CoastPullModel" "isShared" "Z"] ++ wsX70)
def wsX7_init : List Cond := .code yX7_init cX7_init 1 none :: ([.methodLink RX7 1 objectInit, .instanceMethod objectInit, .code objectInit ⟨#[0xb1]⟩ 1 none, .fieldLink RX7 7 "CoastPullModel" "cells" "I", .arrayClass .int, .fieldLink RX7 13 "CoastPullModel" "grade" "[I", .fieldLink RX7 17 "CoastPullModel" "limit" "[I", .arrayClass .boolean, .fieldLink RX7 20 "CoastPullModel" "isStop" "[Z", .fieldLink RX7 24 "CoastPullModel" "train" "[I", .fieldLink RX7 27 "CoastPullModel" "log" "[I", .constant RX7 30 (119119), .fieldLink RX7 31 "CoastPullModel" "least" "[I", .fieldLink RX7 34 "CoastPullModel" "pairTime" "[I", .fieldLink RX7 37 "CoastPullModel" "pairPower" "[I", .fieldLink RX7 40 "CoastPullModel" "shared" "[I", .fieldLink RX7 43 "CoastPullModel" "sharedTime" "[I", .methodLink RX7 46 yX7_begin, .instanceMethod yX7_begin, .selects RX7 yX7_begin yX7_begin, .initialized RX7, .code yX7_begin cX7_begin 3 none, .fieldLink RX7 54 "CoastPullModel" "logged" "I", .fieldLink RX7 57 "CoastPullModel" "isShared" "Z"] ++ wsX70)
def wsX7_in : List Cond := .code yX7_in cX7_in 3 (some .boolean) :: ([])
def wsX7_isCell : List Cond := .code yX7_isCell cX7_isCell 2 (some .boolean) :: ([.fieldLink RX7 7 "CoastPullModel" "cells" "I", .methodLink RX7 50 yX7_in, .static yX7_in, .initialized RX7, .code yX7_in cX7_in 3 (some .boolean)] ++ wsX70)
def wsX7_isSpeed : List Cond := .code yX7_isSpeed cX7_isSpeed 1 (some .boolean) :: ([.methodLink RX7 50 yX7_in, .static yX7_in, .initialized RX7, .code yX7_in cX7_in 3 (some .boolean)])
def wsX7_line : List Cond := .code yX7_line cX7_line 3 (some .int) :: ([.fieldLink RX7 7 "CoastPullModel" "cells" "I", .methodLink RX7 50 yX7_in, .static yX7_in, .initialized RX7, .code yX7_in cX7_in 3 (some .boolean), .methodLink RX7 46 yX7_begin, .instanceMethod yX7_begin, .selects RX7 yX7_begin yX7_begin, .code yX7_begin cX7_begin 3 none, .fieldLink RX7 13 "CoastPullModel" "grade" "[I", .fieldLink RX7 17 "CoastPullModel" "limit" "[I", .fieldLink RX7 20 "CoastPullModel" "isStop" "[Z", .fieldLink RX7 54 "CoastPullModel" "logged" "I", .fieldLink RX7 57 "CoastPullModel" "isShared" "Z"] ++ wsX70)
def wsX7_cell : List Cond := .code yX7_cell cX7_cell 5 (some .int) :: ([.fieldLink RX7 17 "CoastPullModel" "limit" "[I", .fieldLink RX7 13 "CoastPullModel" "grade" "[I", .fieldLink RX7 57 "CoastPullModel" "isShared" "Z", .methodLink RX7 61 yX7_isCell, .instanceMethod yX7_isCell, .selects RX7 yX7_isCell yX7_isCell, .initialized RX7, .code yX7_isCell cX7_isCell 2 (some .boolean), .fieldLink RX7 7 "CoastPullModel" "cells" "I", .methodLink RX7 50 yX7_in, .static yX7_in, .code yX7_in cX7_in 3 (some .boolean)] ++ wsX70)
def wsX7_legs : List Cond := .code yX7_legs cX7_legs 3 (some .int) :: ([.fieldLink RX7 7 "CoastPullModel" "cells" "I", .fieldLink RX7 20 "CoastPullModel" "isStop" "[Z"] ++ wsX70)
def wsX7_stop : List Cond := .code yX7_stop cX7_stop 3 (some .int) :: ([.fieldLink RX7 7 "CoastPullModel" "cells" "I", .fieldLink RX7 20 "CoastPullModel" "isStop" "[Z", .fieldLink RX7 57 "CoastPullModel" "isShared" "Z", .methodLink RX7 50 yX7_in, .static yX7_in, .initialized RX7, .code yX7_in cX7_in 3 (some .boolean), .methodLink RX7 65 yX7_legs, .instanceMethod yX7_legs, .selects RX7 yX7_legs yX7_legs, .code yX7_legs cX7_legs 3 (some .int)] ++ wsX70)
def wsX7_train : List Cond := .code yX7_train cX7_train 6 (some .int) :: ([.fieldLink RX7 24 "CoastPullModel" "train" "[I", .fieldLink RX7 57 "CoastPullModel" "isShared" "Z", .methodLink RX7 50 yX7_in, .static yX7_in, .initialized RX7, .code yX7_in cX7_in 3 (some .boolean)] ++ wsX70)
def wsX7_has : List Cond := .code yX7_has cX7_has 2 (some .int) :: ([.fieldLink RX7 24 "CoastPullModel" "train" "[I", .methodLink RX7 50 yX7_in, .static yX7_in, .initialized RX7, .code yX7_in cX7_in 3 (some .boolean)] ++ wsX70)
def wsX7_endOf : List Cond := .code yX7_endOf cX7_endOf 4 (some .int) :: ([.fieldLink RX7 20 "CoastPullModel" "isStop" "[Z"] ++ wsX70)
def wsX7_firstOf : List Cond := .code yX7_firstOf cX7_firstOf 2 (some .int) :: ([.methodLink RX7 69 yX7_endOf, .instanceMethod yX7_endOf, .selects RX7 yX7_endOf yX7_endOf, .initialized RX7, .code yX7_endOf cX7_endOf 4 (some .int), .fieldLink RX7 20 "CoastPullModel" "isStop" "[Z"] ++ wsX70)
def wsX7_isLeg : List Cond := .code yX7_isLeg cX7_isLeg 2 (some .boolean) :: ([.methodLink RX7 65 yX7_legs, .instanceMethod yX7_legs, .selects RX7 yX7_legs yX7_legs, .initialized RX7, .code yX7_legs cX7_legs 3 (some .int), .fieldLink RX7 7 "CoastPullModel" "cells" "I", .fieldLink RX7 20 "CoastPullModel" "isStop" "[Z", .methodLink RX7 50 yX7_in, .static yX7_in, .code yX7_in cX7_in 3 (some .boolean)] ++ wsX70)
def wsX7_leg : List Cond := .code yX7_leg cX7_leg 3 (some .int) :: ([.methodLink RX7 73 yX7_isLeg, .instanceMethod yX7_isLeg, .selects RX7 yX7_isLeg yX7_isLeg, .initialized RX7, .code yX7_isLeg cX7_isLeg 2 (some .boolean), .methodLink RX7 65 yX7_legs, .instanceMethod yX7_legs, .selects RX7 yX7_legs yX7_legs, .code yX7_legs cX7_legs 3 (some .int), .fieldLink RX7 7 "CoastPullModel" "cells" "I", .fieldLink RX7 20 "CoastPullModel" "isStop" "[Z", .methodLink RX7 50 yX7_in, .static yX7_in, .code yX7_in cX7_in 3 (some .boolean), .methodLink RX7 69 yX7_endOf, .instanceMethod yX7_endOf, .selects RX7 yX7_endOf yX7_endOf, .code yX7_endOf cX7_endOf 4 (some .int), .methodLink RX7 76 yX7_firstOf, .instanceMethod yX7_firstOf, .selects RX7 yX7_firstOf yX7_firstOf, .code yX7_firstOf cX7_firstOf 2 (some .int)] ++ wsX70)
def wsX7_forceOf : List Cond := .code yX7_forceOf cX7_forceOf 4 (some .int) :: ([.fieldLink RX7 24 "CoastPullModel" "train" "[I", .fieldLink RX7 13 "CoastPullModel" "grade" "[I"] ++ wsX70)
def wsX7_faultOf : List Cond := .code yX7_faultOf cX7_faultOf 5 (some .int) :: ([.fieldLink RX7 17 "CoastPullModel" "limit" "[I", .fieldLink RX7 24 "CoastPullModel" "train" "[I", .methodLink RX7 79 yX7_forceOf, .instanceMethod yX7_forceOf, .selects RX7 yX7_forceOf yX7_forceOf, .initialized RX7, .code yX7_forceOf cX7_forceOf 4 (some .int), .fieldLink RX7 13 "CoastPullModel" "grade" "[I"] ++ wsX70)
def wsX7_powerOf : List Cond := .code yX7_powerOf cX7_powerOf 5 (some .int) :: ([.fieldLink RX7 24 "CoastPullModel" "train" "[I", .methodLink RX7 79 yX7_forceOf, .instanceMethod yX7_forceOf, .selects RX7 yX7_forceOf yX7_forceOf, .initialized RX7, .code yX7_forceOf cX7_forceOf 4 (some .int), .fieldLink RX7 13 "CoastPullModel" "grade" "[I"] ++ wsX70)
def wsX7_force : List Cond := .code yX7_force cX7_force 4 (some .int) :: ([.methodLink RX7 61 yX7_isCell, .instanceMethod yX7_isCell, .selects RX7 yX7_isCell yX7_isCell, .initialized RX7, .code yX7_isCell cX7_isCell 2 (some .boolean), .fieldLink RX7 7 "CoastPullModel" "cells" "I", .methodLink RX7 50 yX7_in, .static yX7_in, .code yX7_in cX7_in 3 (some .boolean), .methodLink RX7 83 yX7_isSpeed, .static yX7_isSpeed, .code yX7_isSpeed cX7_isSpeed 1 (some .boolean), .methodLink RX7 79 yX7_forceOf, .instanceMethod yX7_forceOf, .selects RX7 yX7_forceOf yX7_forceOf, .code yX7_forceOf cX7_forceOf 4 (some .int), .fieldLink RX7 24 "CoastPullModel" "train" "[I", .fieldLink RX7 13 "CoastPullModel" "grade" "[I"] ++ wsX70)
def wsX7_fault : List Cond := .code yX7_fault cX7_fault 4 (some .int) :: ([.methodLink RX7 61 yX7_isCell, .instanceMethod yX7_isCell, .selects RX7 yX7_isCell yX7_isCell, .initialized RX7, .code yX7_isCell cX7_isCell 2 (some .boolean), .fieldLink RX7 7 "CoastPullModel" "cells" "I", .methodLink RX7 50 yX7_in, .static yX7_in, .code yX7_in cX7_in 3 (some .boolean), .methodLink RX7 83 yX7_isSpeed, .static yX7_isSpeed, .code yX7_isSpeed cX7_isSpeed 1 (some .boolean), .methodLink RX7 86 yX7_faultOf, .instanceMethod yX7_faultOf, .selects RX7 yX7_faultOf yX7_faultOf, .code yX7_faultOf cX7_faultOf 5 (some .int), .fieldLink RX7 17 "CoastPullModel" "limit" "[I", .fieldLink RX7 24 "CoastPullModel" "train" "[I", .methodLink RX7 79 yX7_forceOf, .instanceMethod yX7_forceOf, .selects RX7 yX7_forceOf yX7_forceOf, .code yX7_forceOf cX7_forceOf 4 (some .int), .fieldLink RX7 13 "CoastPullModel" "grade" "[I"] ++ wsX70)
def wsX7_time_r1 : List Cond := [Cond.constant RX7 92 (-1000000), Cond.methodLink RX7 89 yX7_fault, Cond.instanceMethod yX7_fault, Cond.selects RX7 yX7_fault yX7_fault, Cond.initialized RX7, Cond.code yX7_fault cX7_fault 4 (some .int), Cond.methodLink RX7 61 yX7_isCell, Cond.instanceMethod yX7_isCell, Cond.selects RX7 yX7_isCell yX7_isCell, Cond.code yX7_isCell cX7_isCell 2 (some .boolean), Cond.fieldLink RX7 7 "CoastPullModel" "cells" "I", Cond.methodLink RX7 50 yX7_in, Cond.static yX7_in, Cond.code yX7_in cX7_in 3 (some .boolean), Cond.methodLink RX7 83 yX7_isSpeed, Cond.static yX7_isSpeed, Cond.code yX7_isSpeed cX7_isSpeed 1 (some .boolean), Cond.methodLink RX7 86 yX7_faultOf, Cond.instanceMethod yX7_faultOf, Cond.selects RX7 yX7_faultOf yX7_faultOf, Cond.code yX7_faultOf cX7_faultOf 5 (some .int), Cond.fieldLink RX7 17 "CoastPullModel" "limit" "[I", Cond.fieldLink RX7 24 "CoastPullModel" "train" "[I", Cond.methodLink RX7 79 yX7_forceOf]
def wsX7_time_r2 : List Cond := [Cond.instanceMethod yX7_forceOf, Cond.selects RX7 yX7_forceOf yX7_forceOf, Cond.code yX7_forceOf cX7_forceOf 4 (some .int), Cond.fieldLink RX7 13 "CoastPullModel" "grade" "[I"]
def wsX7_time : List Cond := .code yX7_time cX7_time 5 (some .int) :: ((wsX7_time_r1 ++ wsX7_time_r2) ++ wsX70)
def wsX7_power_r1 : List Cond := [Cond.constant RX7 92 (-1000000), Cond.methodLink RX7 89 yX7_fault, Cond.instanceMethod yX7_fault, Cond.selects RX7 yX7_fault yX7_fault, Cond.initialized RX7, Cond.code yX7_fault cX7_fault 4 (some .int), Cond.methodLink RX7 61 yX7_isCell, Cond.instanceMethod yX7_isCell, Cond.selects RX7 yX7_isCell yX7_isCell, Cond.code yX7_isCell cX7_isCell 2 (some .boolean), Cond.fieldLink RX7 7 "CoastPullModel" "cells" "I", Cond.methodLink RX7 50 yX7_in, Cond.static yX7_in, Cond.code yX7_in cX7_in 3 (some .boolean), Cond.methodLink RX7 83 yX7_isSpeed, Cond.static yX7_isSpeed, Cond.code yX7_isSpeed cX7_isSpeed 1 (some .boolean), Cond.methodLink RX7 86 yX7_faultOf, Cond.instanceMethod yX7_faultOf, Cond.selects RX7 yX7_faultOf yX7_faultOf, Cond.code yX7_faultOf cX7_faultOf 5 (some .int), Cond.fieldLink RX7 17 "CoastPullModel" "limit" "[I", Cond.fieldLink RX7 24 "CoastPullModel" "train" "[I", Cond.methodLink RX7 79 yX7_forceOf]
def wsX7_power_r2 : List Cond := [Cond.instanceMethod yX7_forceOf, Cond.selects RX7 yX7_forceOf yX7_forceOf, Cond.code yX7_forceOf cX7_forceOf 4 (some .int), Cond.fieldLink RX7 13 "CoastPullModel" "grade" "[I", Cond.methodLink RX7 93 yX7_powerOf, Cond.instanceMethod yX7_powerOf, Cond.selects RX7 yX7_powerOf yX7_powerOf, Cond.code yX7_powerOf cX7_powerOf 5 (some .int)]
def wsX7_power : List Cond := .code yX7_power cX7_power 5 (some .int) :: ((wsX7_power_r1 ++ wsX7_power_r2) ++ wsX70)
def wsX7_place : List Cond := .code yX7_place cX7_place 3 (some .int) :: ([])
def wsX7_carry : List Cond := .code yX7_carry cX7_carry 10 none :: ([.fieldLink RX7 31 "CoastPullModel" "least" "[I", .constant RX7 100 (100000000), .methodLink RX7 93 yX7_powerOf, .instanceMethod yX7_powerOf, .selects RX7 yX7_powerOf yX7_powerOf, .initialized RX7, .code yX7_powerOf cX7_powerOf 5 (some .int), .fieldLink RX7 24 "CoastPullModel" "train" "[I", .methodLink RX7 79 yX7_forceOf, .instanceMethod yX7_forceOf, .selects RX7 yX7_forceOf yX7_forceOf, .code yX7_forceOf cX7_forceOf 4 (some .int), .fieldLink RX7 13 "CoastPullModel" "grade" "[I", .methodLink RX7 96 yX7_place, .instanceMethod yX7_place, .selects RX7 yX7_place yX7_place, .code yX7_place cX7_place 3 (some .int)] ++ wsX70)
def wsX7_work_r1 : List Cond := [Cond.fieldLink RX7 31 "CoastPullModel" "least" "[I", Cond.constant RX7 100 (100000000), Cond.methodLink RX7 76 yX7_firstOf, Cond.instanceMethod yX7_firstOf, Cond.selects RX7 yX7_firstOf yX7_firstOf, Cond.initialized RX7, Cond.code yX7_firstOf cX7_firstOf 2 (some .int), Cond.methodLink RX7 69 yX7_endOf, Cond.instanceMethod yX7_endOf, Cond.selects RX7 yX7_endOf yX7_endOf, Cond.code yX7_endOf cX7_endOf 4 (some .int), Cond.fieldLink RX7 20 "CoastPullModel" "isStop" "[Z", Cond.methodLink RX7 96 yX7_place, Cond.instanceMethod yX7_place, Cond.selects RX7 yX7_place yX7_place, Cond.code yX7_place cX7_place 3 (some .int), Cond.methodLink RX7 86 yX7_faultOf, Cond.instanceMethod yX7_faultOf, Cond.selects RX7 yX7_faultOf yX7_faultOf, Cond.code yX7_faultOf cX7_faultOf 5 (some .int), Cond.fieldLink RX7 17 "CoastPullModel" "limit" "[I", Cond.fieldLink RX7 24 "CoastPullModel" "train" "[I", Cond.methodLink RX7 79 yX7_forceOf, Cond.instanceMethod yX7_forceOf]
def wsX7_work_r2 : List Cond := [Cond.selects RX7 yX7_forceOf yX7_forceOf, Cond.code yX7_forceOf cX7_forceOf 4 (some .int), Cond.fieldLink RX7 13 "CoastPullModel" "grade" "[I", Cond.methodLink RX7 101 yX7_carry, Cond.instanceMethod yX7_carry, Cond.selects RX7 yX7_carry yX7_carry, Cond.code yX7_carry cX7_carry 10 none, Cond.methodLink RX7 93 yX7_powerOf, Cond.instanceMethod yX7_powerOf, Cond.selects RX7 yX7_powerOf yX7_powerOf, Cond.code yX7_powerOf cX7_powerOf 5 (some .int)]
def wsX7_work : List Cond := .code yX7_work cX7_work 7 none :: ((wsX7_work_r1 ++ wsX7_work_r2) ++ wsX70)
def wsX7_bestOf : List Cond := .code yX7_bestOf cX7_bestOf 6 (some .int) :: ([.constant RX7 92 (-1000000), .fieldLink RX7 31 "CoastPullModel" "least" "[I", .constant RX7 100 (100000000), .methodLink RX7 76 yX7_firstOf, .instanceMethod yX7_firstOf, .selects RX7 yX7_firstOf yX7_firstOf, .initialized RX7, .code yX7_firstOf cX7_firstOf 2 (some .int), .methodLink RX7 69 yX7_endOf, .instanceMethod yX7_endOf, .selects RX7 yX7_endOf yX7_endOf, .code yX7_endOf cX7_endOf 4 (some .int), .fieldLink RX7 20 "CoastPullModel" "isStop" "[Z", .methodLink RX7 96 yX7_place, .instanceMethod yX7_place, .selects RX7 yX7_place yX7_place, .code yX7_place cX7_place 3 (some .int)] ++ wsX70)
def wsX7_fastest_r1 : List Cond := [Cond.fieldLink RX7 31 "CoastPullModel" "least" "[I", Cond.constant RX7 100 (100000000), Cond.constant RX7 92 (-1000000), Cond.methodLink RX7 73 yX7_isLeg, Cond.instanceMethod yX7_isLeg, Cond.selects RX7 yX7_isLeg yX7_isLeg, Cond.initialized RX7, Cond.code yX7_isLeg cX7_isLeg 2 (some .boolean), Cond.methodLink RX7 65 yX7_legs, Cond.instanceMethod yX7_legs, Cond.selects RX7 yX7_legs yX7_legs, Cond.code yX7_legs cX7_legs 3 (some .int), Cond.fieldLink RX7 7 "CoastPullModel" "cells" "I", Cond.fieldLink RX7 20 "CoastPullModel" "isStop" "[Z", Cond.methodLink RX7 50 yX7_in, Cond.static yX7_in, Cond.code yX7_in cX7_in 3 (some .boolean), Cond.methodLink RX7 105 yX7_work, Cond.instanceMethod yX7_work, Cond.selects RX7 yX7_work yX7_work, Cond.code yX7_work cX7_work 7 none, Cond.methodLink RX7 76 yX7_firstOf, Cond.instanceMethod yX7_firstOf, Cond.selects RX7 yX7_firstOf yX7_firstOf]
def wsX7_fastest_r2 : List Cond := [Cond.code yX7_firstOf cX7_firstOf 2 (some .int), Cond.methodLink RX7 69 yX7_endOf, Cond.instanceMethod yX7_endOf, Cond.selects RX7 yX7_endOf yX7_endOf, Cond.code yX7_endOf cX7_endOf 4 (some .int), Cond.methodLink RX7 96 yX7_place, Cond.instanceMethod yX7_place, Cond.selects RX7 yX7_place yX7_place, Cond.code yX7_place cX7_place 3 (some .int), Cond.methodLink RX7 86 yX7_faultOf, Cond.instanceMethod yX7_faultOf, Cond.selects RX7 yX7_faultOf yX7_faultOf, Cond.code yX7_faultOf cX7_faultOf 5 (some .int), Cond.fieldLink RX7 17 "CoastPullModel" "limit" "[I", Cond.fieldLink RX7 24 "CoastPullModel" "train" "[I", Cond.methodLink RX7 79 yX7_forceOf, Cond.instanceMethod yX7_forceOf, Cond.selects RX7 yX7_forceOf yX7_forceOf, Cond.code yX7_forceOf cX7_forceOf 4 (some .int), Cond.fieldLink RX7 13 "CoastPullModel" "grade" "[I", Cond.methodLink RX7 101 yX7_carry, Cond.instanceMethod yX7_carry, Cond.selects RX7 yX7_carry yX7_carry, Cond.code yX7_carry cX7_carry 10 none]
def wsX7_fastest_r3 : List Cond := [Cond.methodLink RX7 93 yX7_powerOf, Cond.instanceMethod yX7_powerOf, Cond.selects RX7 yX7_powerOf yX7_powerOf, Cond.code yX7_powerOf cX7_powerOf 5 (some .int)]
def wsX7_fastest : List Cond := .code yX7_fastest cX7_fastest 4 (some .int) :: ((wsX7_fastest_r1 ++ (wsX7_fastest_r2 ++ wsX7_fastest_r3)) ++ wsX70)
def wsX7_bestTime_r1 : List Cond := [Cond.methodLink RX7 73 yX7_isLeg, Cond.instanceMethod yX7_isLeg, Cond.selects RX7 yX7_isLeg yX7_isLeg, Cond.initialized RX7, Cond.code yX7_isLeg cX7_isLeg 2 (some .boolean), Cond.methodLink RX7 65 yX7_legs, Cond.instanceMethod yX7_legs, Cond.selects RX7 yX7_legs yX7_legs, Cond.code yX7_legs cX7_legs 3 (some .int), Cond.fieldLink RX7 7 "CoastPullModel" "cells" "I", Cond.fieldLink RX7 20 "CoastPullModel" "isStop" "[Z", Cond.methodLink RX7 50 yX7_in, Cond.static yX7_in, Cond.code yX7_in cX7_in 3 (some .boolean), Cond.methodLink RX7 105 yX7_work, Cond.instanceMethod yX7_work, Cond.selects RX7 yX7_work yX7_work, Cond.code yX7_work cX7_work 7 none, Cond.fieldLink RX7 31 "CoastPullModel" "least" "[I", Cond.constant RX7 100 (100000000), Cond.methodLink RX7 76 yX7_firstOf, Cond.instanceMethod yX7_firstOf, Cond.selects RX7 yX7_firstOf yX7_firstOf, Cond.code yX7_firstOf cX7_firstOf 2 (some .int)]
def wsX7_bestTime_r2 : List Cond := [Cond.methodLink RX7 69 yX7_endOf, Cond.instanceMethod yX7_endOf, Cond.selects RX7 yX7_endOf yX7_endOf, Cond.code yX7_endOf cX7_endOf 4 (some .int), Cond.methodLink RX7 96 yX7_place, Cond.instanceMethod yX7_place, Cond.selects RX7 yX7_place yX7_place, Cond.code yX7_place cX7_place 3 (some .int), Cond.methodLink RX7 86 yX7_faultOf, Cond.instanceMethod yX7_faultOf, Cond.selects RX7 yX7_faultOf yX7_faultOf, Cond.code yX7_faultOf cX7_faultOf 5 (some .int), Cond.fieldLink RX7 17 "CoastPullModel" "limit" "[I", Cond.fieldLink RX7 24 "CoastPullModel" "train" "[I", Cond.methodLink RX7 79 yX7_forceOf, Cond.instanceMethod yX7_forceOf, Cond.selects RX7 yX7_forceOf yX7_forceOf, Cond.code yX7_forceOf cX7_forceOf 4 (some .int), Cond.fieldLink RX7 13 "CoastPullModel" "grade" "[I", Cond.methodLink RX7 101 yX7_carry, Cond.instanceMethod yX7_carry, Cond.selects RX7 yX7_carry yX7_carry, Cond.code yX7_carry cX7_carry 10 none, Cond.methodLink RX7 93 yX7_powerOf]
def wsX7_bestTime_r3 : List Cond := [Cond.instanceMethod yX7_powerOf, Cond.selects RX7 yX7_powerOf yX7_powerOf, Cond.code yX7_powerOf cX7_powerOf 5 (some .int), Cond.methodLink RX7 111 yX7_bestOf, Cond.instanceMethod yX7_bestOf, Cond.selects RX7 yX7_bestOf yX7_bestOf, Cond.code yX7_bestOf cX7_bestOf 6 (some .int), Cond.constant RX7 92 (-1000000)]
def wsX7_bestTime : List Cond := .code yX7_bestTime cX7_bestTime 3 (some .int) :: ((wsX7_bestTime_r1 ++ (wsX7_bestTime_r2 ++ wsX7_bestTime_r3)) ++ wsX70)
def wsX7_best_r1 : List Cond := [Cond.fieldLink RX7 31 "CoastPullModel" "least" "[I", Cond.methodLink RX7 108 yX7_bestTime, Cond.instanceMethod yX7_bestTime, Cond.selects RX7 yX7_bestTime yX7_bestTime, Cond.initialized RX7, Cond.code yX7_bestTime cX7_bestTime 3 (some .int), Cond.methodLink RX7 73 yX7_isLeg, Cond.instanceMethod yX7_isLeg, Cond.selects RX7 yX7_isLeg yX7_isLeg, Cond.code yX7_isLeg cX7_isLeg 2 (some .boolean), Cond.methodLink RX7 65 yX7_legs, Cond.instanceMethod yX7_legs, Cond.selects RX7 yX7_legs yX7_legs, Cond.code yX7_legs cX7_legs 3 (some .int), Cond.fieldLink RX7 7 "CoastPullModel" "cells" "I", Cond.fieldLink RX7 20 "CoastPullModel" "isStop" "[Z", Cond.methodLink RX7 50 yX7_in, Cond.static yX7_in, Cond.code yX7_in cX7_in 3 (some .boolean), Cond.methodLink RX7 105 yX7_work, Cond.instanceMethod yX7_work, Cond.selects RX7 yX7_work yX7_work, Cond.code yX7_work cX7_work 7 none, Cond.constant RX7 100 (100000000)]
def wsX7_best_r2 : List Cond := [Cond.methodLink RX7 76 yX7_firstOf, Cond.instanceMethod yX7_firstOf, Cond.selects RX7 yX7_firstOf yX7_firstOf, Cond.code yX7_firstOf cX7_firstOf 2 (some .int), Cond.methodLink RX7 69 yX7_endOf, Cond.instanceMethod yX7_endOf, Cond.selects RX7 yX7_endOf yX7_endOf, Cond.code yX7_endOf cX7_endOf 4 (some .int), Cond.methodLink RX7 96 yX7_place, Cond.instanceMethod yX7_place, Cond.selects RX7 yX7_place yX7_place, Cond.code yX7_place cX7_place 3 (some .int), Cond.methodLink RX7 86 yX7_faultOf, Cond.instanceMethod yX7_faultOf, Cond.selects RX7 yX7_faultOf yX7_faultOf, Cond.code yX7_faultOf cX7_faultOf 5 (some .int), Cond.fieldLink RX7 17 "CoastPullModel" "limit" "[I", Cond.fieldLink RX7 24 "CoastPullModel" "train" "[I", Cond.methodLink RX7 79 yX7_forceOf, Cond.instanceMethod yX7_forceOf, Cond.selects RX7 yX7_forceOf yX7_forceOf, Cond.code yX7_forceOf cX7_forceOf 4 (some .int), Cond.fieldLink RX7 13 "CoastPullModel" "grade" "[I", Cond.methodLink RX7 101 yX7_carry]
def wsX7_best_r3 : List Cond := [Cond.instanceMethod yX7_carry, Cond.selects RX7 yX7_carry yX7_carry, Cond.code yX7_carry cX7_carry 10 none, Cond.methodLink RX7 93 yX7_powerOf, Cond.instanceMethod yX7_powerOf, Cond.selects RX7 yX7_powerOf yX7_powerOf, Cond.code yX7_powerOf cX7_powerOf 5 (some .int), Cond.methodLink RX7 111 yX7_bestOf, Cond.instanceMethod yX7_bestOf, Cond.selects RX7 yX7_bestOf yX7_bestOf, Cond.code yX7_bestOf cX7_bestOf 6 (some .int), Cond.constant RX7 92 (-1000000)]
def wsX7_best : List Cond := .code yX7_best cX7_best 4 (some .int) :: ((wsX7_best_r1 ++ (wsX7_best_r2 ++ wsX7_best_r3)) ++ wsX70)
def wsX7_isOn : List Cond := .code yX7_isOn cX7_isOn 6 (some .boolean) :: ([.fieldLink RX7 31 "CoastPullModel" "least" "[I", .constant RX7 100 (100000000), .methodLink RX7 86 yX7_faultOf, .instanceMethod yX7_faultOf, .selects RX7 yX7_faultOf yX7_faultOf, .initialized RX7, .code yX7_faultOf cX7_faultOf 5 (some .int), .fieldLink RX7 17 "CoastPullModel" "limit" "[I", .fieldLink RX7 24 "CoastPullModel" "train" "[I", .methodLink RX7 79 yX7_forceOf, .instanceMethod yX7_forceOf, .selects RX7 yX7_forceOf yX7_forceOf, .code yX7_forceOf cX7_forceOf 4 (some .int), .fieldLink RX7 13 "CoastPullModel" "grade" "[I", .methodLink RX7 96 yX7_place, .instanceMethod yX7_place, .selects RX7 yX7_place yX7_place, .code yX7_place cX7_place 3 (some .int), .methodLink RX7 93 yX7_powerOf, .instanceMethod yX7_powerOf, .selects RX7 yX7_powerOf yX7_powerOf, .code yX7_powerOf cX7_powerOf 5 (some .int)] ++ wsX70)
def wsX7_bestSpeed_r1 : List Cond := [Cond.fieldLink RX7 7 "CoastPullModel" "cells" "I", Cond.constant RX7 92 (-1000000), Cond.methodLink RX7 73 yX7_isLeg, Cond.instanceMethod yX7_isLeg, Cond.selects RX7 yX7_isLeg yX7_isLeg, Cond.initialized RX7, Cond.code yX7_isLeg cX7_isLeg 2 (some .boolean), Cond.methodLink RX7 65 yX7_legs, Cond.instanceMethod yX7_legs, Cond.selects RX7 yX7_legs yX7_legs, Cond.code yX7_legs cX7_legs 3 (some .int), Cond.fieldLink RX7 20 "CoastPullModel" "isStop" "[Z", Cond.methodLink RX7 50 yX7_in, Cond.static yX7_in, Cond.code yX7_in cX7_in 3 (some .boolean), Cond.methodLink RX7 105 yX7_work, Cond.instanceMethod yX7_work, Cond.selects RX7 yX7_work yX7_work, Cond.code yX7_work cX7_work 7 none, Cond.fieldLink RX7 31 "CoastPullModel" "least" "[I", Cond.constant RX7 100 (100000000), Cond.methodLink RX7 76 yX7_firstOf, Cond.instanceMethod yX7_firstOf, Cond.selects RX7 yX7_firstOf yX7_firstOf]
def wsX7_bestSpeed_r2 : List Cond := [Cond.code yX7_firstOf cX7_firstOf 2 (some .int), Cond.methodLink RX7 69 yX7_endOf, Cond.instanceMethod yX7_endOf, Cond.selects RX7 yX7_endOf yX7_endOf, Cond.code yX7_endOf cX7_endOf 4 (some .int), Cond.methodLink RX7 96 yX7_place, Cond.instanceMethod yX7_place, Cond.selects RX7 yX7_place yX7_place, Cond.code yX7_place cX7_place 3 (some .int), Cond.methodLink RX7 86 yX7_faultOf, Cond.instanceMethod yX7_faultOf, Cond.selects RX7 yX7_faultOf yX7_faultOf, Cond.code yX7_faultOf cX7_faultOf 5 (some .int), Cond.fieldLink RX7 17 "CoastPullModel" "limit" "[I", Cond.fieldLink RX7 24 "CoastPullModel" "train" "[I", Cond.methodLink RX7 79 yX7_forceOf, Cond.instanceMethod yX7_forceOf, Cond.selects RX7 yX7_forceOf yX7_forceOf, Cond.code yX7_forceOf cX7_forceOf 4 (some .int), Cond.fieldLink RX7 13 "CoastPullModel" "grade" "[I", Cond.methodLink RX7 101 yX7_carry, Cond.instanceMethod yX7_carry, Cond.selects RX7 yX7_carry yX7_carry, Cond.code yX7_carry cX7_carry 10 none]
def wsX7_bestSpeed_r3 : List Cond := [Cond.methodLink RX7 93 yX7_powerOf, Cond.instanceMethod yX7_powerOf, Cond.selects RX7 yX7_powerOf yX7_powerOf, Cond.code yX7_powerOf cX7_powerOf 5 (some .int), Cond.methodLink RX7 111 yX7_bestOf, Cond.instanceMethod yX7_bestOf, Cond.selects RX7 yX7_bestOf yX7_bestOf, Cond.code yX7_bestOf cX7_bestOf 6 (some .int), Cond.methodLink RX7 114 yX7_isOn, Cond.instanceMethod yX7_isOn, Cond.selects RX7 yX7_isOn yX7_isOn, Cond.code yX7_isOn cX7_isOn 6 (some .boolean)]
def wsX7_bestSpeed : List Cond := .code yX7_bestSpeed cX7_bestSpeed 9 (some .int) :: ((wsX7_bestSpeed_r1 ++ (wsX7_bestSpeed_r2 ++ wsX7_bestSpeed_r3)) ++ wsX70)
def wsX7_draw_r1 : List Cond := [Cond.fieldLink RX7 118 "CoastPullModel" "pairs" "I", Cond.fieldLink RX7 31 "CoastPullModel" "least" "[I", Cond.constant RX7 100 (100000000), Cond.fieldLink RX7 37 "CoastPullModel" "pairPower" "[I", Cond.fieldLink RX7 34 "CoastPullModel" "pairTime" "[I", Cond.methodLink RX7 105 yX7_work, Cond.instanceMethod yX7_work, Cond.selects RX7 yX7_work yX7_work, Cond.initialized RX7, Cond.code yX7_work cX7_work 7 none, Cond.methodLink RX7 76 yX7_firstOf, Cond.instanceMethod yX7_firstOf, Cond.selects RX7 yX7_firstOf yX7_firstOf, Cond.code yX7_firstOf cX7_firstOf 2 (some .int), Cond.methodLink RX7 69 yX7_endOf, Cond.instanceMethod yX7_endOf, Cond.selects RX7 yX7_endOf yX7_endOf, Cond.code yX7_endOf cX7_endOf 4 (some .int), Cond.fieldLink RX7 20 "CoastPullModel" "isStop" "[Z", Cond.methodLink RX7 96 yX7_place, Cond.instanceMethod yX7_place, Cond.selects RX7 yX7_place yX7_place, Cond.code yX7_place cX7_place 3 (some .int), Cond.methodLink RX7 86 yX7_faultOf]
def wsX7_draw_r2 : List Cond := [Cond.instanceMethod yX7_faultOf, Cond.selects RX7 yX7_faultOf yX7_faultOf, Cond.code yX7_faultOf cX7_faultOf 5 (some .int), Cond.fieldLink RX7 17 "CoastPullModel" "limit" "[I", Cond.fieldLink RX7 24 "CoastPullModel" "train" "[I", Cond.methodLink RX7 79 yX7_forceOf, Cond.instanceMethod yX7_forceOf, Cond.selects RX7 yX7_forceOf yX7_forceOf, Cond.code yX7_forceOf cX7_forceOf 4 (some .int), Cond.fieldLink RX7 13 "CoastPullModel" "grade" "[I", Cond.methodLink RX7 101 yX7_carry, Cond.instanceMethod yX7_carry, Cond.selects RX7 yX7_carry yX7_carry, Cond.code yX7_carry cX7_carry 10 none, Cond.methodLink RX7 93 yX7_powerOf, Cond.instanceMethod yX7_powerOf, Cond.selects RX7 yX7_powerOf yX7_powerOf, Cond.code yX7_powerOf cX7_powerOf 5 (some .int)]
def wsX7_draw : List Cond := .code yX7_draw cX7_draw 4 none :: ((wsX7_draw_r1 ++ wsX7_draw_r2) ++ wsX70)
def wsX7_curve_r1 : List Cond := [Cond.fieldLink RX7 118 "CoastPullModel" "pairs" "I", Cond.methodLink RX7 73 yX7_isLeg, Cond.instanceMethod yX7_isLeg, Cond.selects RX7 yX7_isLeg yX7_isLeg, Cond.initialized RX7, Cond.code yX7_isLeg cX7_isLeg 2 (some .boolean), Cond.methodLink RX7 65 yX7_legs, Cond.instanceMethod yX7_legs, Cond.selects RX7 yX7_legs yX7_legs, Cond.code yX7_legs cX7_legs 3 (some .int), Cond.fieldLink RX7 7 "CoastPullModel" "cells" "I", Cond.fieldLink RX7 20 "CoastPullModel" "isStop" "[Z", Cond.methodLink RX7 50 yX7_in, Cond.static yX7_in, Cond.code yX7_in cX7_in 3 (some .boolean), Cond.methodLink RX7 121 yX7_draw, Cond.instanceMethod yX7_draw, Cond.selects RX7 yX7_draw yX7_draw, Cond.code yX7_draw cX7_draw 4 none, Cond.fieldLink RX7 31 "CoastPullModel" "least" "[I", Cond.constant RX7 100 (100000000), Cond.fieldLink RX7 37 "CoastPullModel" "pairPower" "[I", Cond.fieldLink RX7 34 "CoastPullModel" "pairTime" "[I", Cond.methodLink RX7 105 yX7_work]
def wsX7_curve_r2 : List Cond := [Cond.instanceMethod yX7_work, Cond.selects RX7 yX7_work yX7_work, Cond.code yX7_work cX7_work 7 none, Cond.methodLink RX7 76 yX7_firstOf, Cond.instanceMethod yX7_firstOf, Cond.selects RX7 yX7_firstOf yX7_firstOf, Cond.code yX7_firstOf cX7_firstOf 2 (some .int), Cond.methodLink RX7 69 yX7_endOf, Cond.instanceMethod yX7_endOf, Cond.selects RX7 yX7_endOf yX7_endOf, Cond.code yX7_endOf cX7_endOf 4 (some .int), Cond.methodLink RX7 96 yX7_place, Cond.instanceMethod yX7_place, Cond.selects RX7 yX7_place yX7_place, Cond.code yX7_place cX7_place 3 (some .int), Cond.methodLink RX7 86 yX7_faultOf, Cond.instanceMethod yX7_faultOf, Cond.selects RX7 yX7_faultOf yX7_faultOf, Cond.code yX7_faultOf cX7_faultOf 5 (some .int), Cond.fieldLink RX7 17 "CoastPullModel" "limit" "[I", Cond.fieldLink RX7 24 "CoastPullModel" "train" "[I", Cond.methodLink RX7 79 yX7_forceOf, Cond.instanceMethod yX7_forceOf, Cond.selects RX7 yX7_forceOf yX7_forceOf]
def wsX7_curve_r3 : List Cond := [Cond.code yX7_forceOf cX7_forceOf 4 (some .int), Cond.fieldLink RX7 13 "CoastPullModel" "grade" "[I", Cond.methodLink RX7 101 yX7_carry, Cond.instanceMethod yX7_carry, Cond.selects RX7 yX7_carry yX7_carry, Cond.code yX7_carry cX7_carry 10 none, Cond.methodLink RX7 93 yX7_powerOf, Cond.instanceMethod yX7_powerOf, Cond.selects RX7 yX7_powerOf yX7_powerOf, Cond.code yX7_powerOf cX7_powerOf 5 (some .int)]
def wsX7_curve : List Cond := .code yX7_curve cX7_curve 2 (some .int) :: ((wsX7_curve_r1 ++ (wsX7_curve_r2 ++ wsX7_curve_r3)) ++ wsX70)
def wsX7_point_r1 : List Cond := [Cond.fieldLink RX7 118 "CoastPullModel" "pairs" "I", Cond.constant RX7 92 (-1000000), Cond.fieldLink RX7 37 "CoastPullModel" "pairPower" "[I", Cond.fieldLink RX7 34 "CoastPullModel" "pairTime" "[I", Cond.methodLink RX7 73 yX7_isLeg, Cond.instanceMethod yX7_isLeg, Cond.selects RX7 yX7_isLeg yX7_isLeg, Cond.initialized RX7, Cond.code yX7_isLeg cX7_isLeg 2 (some .boolean), Cond.methodLink RX7 65 yX7_legs, Cond.instanceMethod yX7_legs, Cond.selects RX7 yX7_legs yX7_legs, Cond.code yX7_legs cX7_legs 3 (some .int), Cond.fieldLink RX7 7 "CoastPullModel" "cells" "I", Cond.fieldLink RX7 20 "CoastPullModel" "isStop" "[Z", Cond.methodLink RX7 50 yX7_in, Cond.static yX7_in, Cond.code yX7_in cX7_in 3 (some .boolean), Cond.methodLink RX7 121 yX7_draw, Cond.instanceMethod yX7_draw, Cond.selects RX7 yX7_draw yX7_draw, Cond.code yX7_draw cX7_draw 4 none, Cond.fieldLink RX7 31 "CoastPullModel" "least" "[I", Cond.constant RX7 100 (100000000)]
def wsX7_point_r2 : List Cond := [Cond.methodLink RX7 105 yX7_work, Cond.instanceMethod yX7_work, Cond.selects RX7 yX7_work yX7_work, Cond.code yX7_work cX7_work 7 none, Cond.methodLink RX7 76 yX7_firstOf, Cond.instanceMethod yX7_firstOf, Cond.selects RX7 yX7_firstOf yX7_firstOf, Cond.code yX7_firstOf cX7_firstOf 2 (some .int), Cond.methodLink RX7 69 yX7_endOf, Cond.instanceMethod yX7_endOf, Cond.selects RX7 yX7_endOf yX7_endOf, Cond.code yX7_endOf cX7_endOf 4 (some .int), Cond.methodLink RX7 96 yX7_place, Cond.instanceMethod yX7_place, Cond.selects RX7 yX7_place yX7_place, Cond.code yX7_place cX7_place 3 (some .int), Cond.methodLink RX7 86 yX7_faultOf, Cond.instanceMethod yX7_faultOf, Cond.selects RX7 yX7_faultOf yX7_faultOf, Cond.code yX7_faultOf cX7_faultOf 5 (some .int), Cond.fieldLink RX7 17 "CoastPullModel" "limit" "[I", Cond.fieldLink RX7 24 "CoastPullModel" "train" "[I", Cond.methodLink RX7 79 yX7_forceOf, Cond.instanceMethod yX7_forceOf]
def wsX7_point_r3 : List Cond := [Cond.selects RX7 yX7_forceOf yX7_forceOf, Cond.code yX7_forceOf cX7_forceOf 4 (some .int), Cond.fieldLink RX7 13 "CoastPullModel" "grade" "[I", Cond.methodLink RX7 101 yX7_carry, Cond.instanceMethod yX7_carry, Cond.selects RX7 yX7_carry yX7_carry, Cond.code yX7_carry cX7_carry 10 none, Cond.methodLink RX7 93 yX7_powerOf, Cond.instanceMethod yX7_powerOf, Cond.selects RX7 yX7_powerOf yX7_powerOf, Cond.code yX7_powerOf cX7_powerOf 5 (some .int)]
def wsX7_point : List Cond := .code yX7_point cX7_point 4 (some .int) :: ((wsX7_point_r1 ++ (wsX7_point_r2 ++ wsX7_point_r3)) ++ wsX70)
def wsX7_shareAll_r1 : List Cond := [Cond.fieldLink RX7 57 "CoastPullModel" "isShared" "Z", Cond.fieldLink RX7 40 "CoastPullModel" "shared" "[I", Cond.constant RX7 100 (100000000), Cond.fieldLink RX7 43 "CoastPullModel" "sharedTime" "[I", Cond.constant RX7 92 (-1000000), Cond.fieldLink RX7 118 "CoastPullModel" "pairs" "I", Cond.fieldLink RX7 34 "CoastPullModel" "pairTime" "[I", Cond.fieldLink RX7 37 "CoastPullModel" "pairPower" "[I", Cond.methodLink RX7 65 yX7_legs, Cond.instanceMethod yX7_legs, Cond.selects RX7 yX7_legs yX7_legs, Cond.initialized RX7, Cond.code yX7_legs cX7_legs 3 (some .int), Cond.fieldLink RX7 7 "CoastPullModel" "cells" "I", Cond.fieldLink RX7 20 "CoastPullModel" "isStop" "[Z", Cond.methodLink RX7 121 yX7_draw, Cond.instanceMethod yX7_draw, Cond.selects RX7 yX7_draw yX7_draw, Cond.code yX7_draw cX7_draw 4 none, Cond.fieldLink RX7 31 "CoastPullModel" "least" "[I", Cond.methodLink RX7 105 yX7_work, Cond.instanceMethod yX7_work, Cond.selects RX7 yX7_work yX7_work, Cond.code yX7_work cX7_work 7 none]
def wsX7_shareAll_r2 : List Cond := [Cond.methodLink RX7 76 yX7_firstOf, Cond.instanceMethod yX7_firstOf, Cond.selects RX7 yX7_firstOf yX7_firstOf, Cond.code yX7_firstOf cX7_firstOf 2 (some .int), Cond.methodLink RX7 69 yX7_endOf, Cond.instanceMethod yX7_endOf, Cond.selects RX7 yX7_endOf yX7_endOf, Cond.code yX7_endOf cX7_endOf 4 (some .int), Cond.methodLink RX7 96 yX7_place, Cond.instanceMethod yX7_place, Cond.selects RX7 yX7_place yX7_place, Cond.code yX7_place cX7_place 3 (some .int), Cond.methodLink RX7 86 yX7_faultOf, Cond.instanceMethod yX7_faultOf, Cond.selects RX7 yX7_faultOf yX7_faultOf, Cond.code yX7_faultOf cX7_faultOf 5 (some .int), Cond.fieldLink RX7 17 "CoastPullModel" "limit" "[I", Cond.fieldLink RX7 24 "CoastPullModel" "train" "[I", Cond.methodLink RX7 79 yX7_forceOf, Cond.instanceMethod yX7_forceOf, Cond.selects RX7 yX7_forceOf yX7_forceOf, Cond.code yX7_forceOf cX7_forceOf 4 (some .int), Cond.fieldLink RX7 13 "CoastPullModel" "grade" "[I", Cond.methodLink RX7 101 yX7_carry]
def wsX7_shareAll_r3 : List Cond := [Cond.instanceMethod yX7_carry, Cond.selects RX7 yX7_carry yX7_carry, Cond.code yX7_carry cX7_carry 10 none, Cond.methodLink RX7 93 yX7_powerOf, Cond.instanceMethod yX7_powerOf, Cond.selects RX7 yX7_powerOf yX7_powerOf, Cond.code yX7_powerOf cX7_powerOf 5 (some .int)]
def wsX7_shareAll : List Cond := .code yX7_shareAll cX7_shareAll 6 none :: ((wsX7_shareAll_r1 ++ (wsX7_shareAll_r2 ++ wsX7_shareAll_r3)) ++ wsX70)
def wsX7_share_r1 : List Cond := [Cond.fieldLink RX7 40 "CoastPullModel" "shared" "[I", Cond.constant RX7 100 (100000000), Cond.constant RX7 92 (-1000000), Cond.methodLink RX7 50 yX7_in, Cond.static yX7_in, Cond.initialized RX7, Cond.code yX7_in cX7_in 3 (some .boolean), Cond.methodLink RX7 124 yX7_shareAll, Cond.instanceMethod yX7_shareAll, Cond.selects RX7 yX7_shareAll yX7_shareAll, Cond.code yX7_shareAll cX7_shareAll 6 none, Cond.fieldLink RX7 57 "CoastPullModel" "isShared" "Z", Cond.fieldLink RX7 43 "CoastPullModel" "sharedTime" "[I", Cond.fieldLink RX7 118 "CoastPullModel" "pairs" "I", Cond.fieldLink RX7 34 "CoastPullModel" "pairTime" "[I", Cond.fieldLink RX7 37 "CoastPullModel" "pairPower" "[I", Cond.methodLink RX7 65 yX7_legs, Cond.instanceMethod yX7_legs, Cond.selects RX7 yX7_legs yX7_legs, Cond.code yX7_legs cX7_legs 3 (some .int), Cond.fieldLink RX7 7 "CoastPullModel" "cells" "I", Cond.fieldLink RX7 20 "CoastPullModel" "isStop" "[Z", Cond.methodLink RX7 121 yX7_draw, Cond.instanceMethod yX7_draw]
def wsX7_share_r2 : List Cond := [Cond.selects RX7 yX7_draw yX7_draw, Cond.code yX7_draw cX7_draw 4 none, Cond.fieldLink RX7 31 "CoastPullModel" "least" "[I", Cond.methodLink RX7 105 yX7_work, Cond.instanceMethod yX7_work, Cond.selects RX7 yX7_work yX7_work, Cond.code yX7_work cX7_work 7 none, Cond.methodLink RX7 76 yX7_firstOf, Cond.instanceMethod yX7_firstOf, Cond.selects RX7 yX7_firstOf yX7_firstOf, Cond.code yX7_firstOf cX7_firstOf 2 (some .int), Cond.methodLink RX7 69 yX7_endOf, Cond.instanceMethod yX7_endOf, Cond.selects RX7 yX7_endOf yX7_endOf, Cond.code yX7_endOf cX7_endOf 4 (some .int), Cond.methodLink RX7 96 yX7_place, Cond.instanceMethod yX7_place, Cond.selects RX7 yX7_place yX7_place, Cond.code yX7_place cX7_place 3 (some .int), Cond.methodLink RX7 86 yX7_faultOf, Cond.instanceMethod yX7_faultOf, Cond.selects RX7 yX7_faultOf yX7_faultOf, Cond.code yX7_faultOf cX7_faultOf 5 (some .int), Cond.fieldLink RX7 17 "CoastPullModel" "limit" "[I"]
def wsX7_share_r3 : List Cond := [Cond.fieldLink RX7 24 "CoastPullModel" "train" "[I", Cond.methodLink RX7 79 yX7_forceOf, Cond.instanceMethod yX7_forceOf, Cond.selects RX7 yX7_forceOf yX7_forceOf, Cond.code yX7_forceOf cX7_forceOf 4 (some .int), Cond.fieldLink RX7 13 "CoastPullModel" "grade" "[I", Cond.methodLink RX7 101 yX7_carry, Cond.instanceMethod yX7_carry, Cond.selects RX7 yX7_carry yX7_carry, Cond.code yX7_carry cX7_carry 10 none, Cond.methodLink RX7 93 yX7_powerOf, Cond.instanceMethod yX7_powerOf, Cond.selects RX7 yX7_powerOf yX7_powerOf, Cond.code yX7_powerOf cX7_powerOf 5 (some .int)]
def wsX7_share : List Cond := .code yX7_share cX7_share 2 (some .int) :: ((wsX7_share_r1 ++ (wsX7_share_r2 ++ wsX7_share_r3)) ++ wsX70)
def wsX7_shareTime_r1 : List Cond := [Cond.fieldLink RX7 40 "CoastPullModel" "shared" "[I", Cond.constant RX7 100 (100000000), Cond.constant RX7 92 (-1000000), Cond.fieldLink RX7 43 "CoastPullModel" "sharedTime" "[I", Cond.methodLink RX7 73 yX7_isLeg, Cond.instanceMethod yX7_isLeg, Cond.selects RX7 yX7_isLeg yX7_isLeg, Cond.initialized RX7, Cond.code yX7_isLeg cX7_isLeg 2 (some .boolean), Cond.methodLink RX7 65 yX7_legs, Cond.instanceMethod yX7_legs, Cond.selects RX7 yX7_legs yX7_legs, Cond.code yX7_legs cX7_legs 3 (some .int), Cond.fieldLink RX7 7 "CoastPullModel" "cells" "I", Cond.fieldLink RX7 20 "CoastPullModel" "isStop" "[Z", Cond.methodLink RX7 50 yX7_in, Cond.static yX7_in, Cond.code yX7_in cX7_in 3 (some .boolean), Cond.methodLink RX7 124 yX7_shareAll, Cond.instanceMethod yX7_shareAll, Cond.selects RX7 yX7_shareAll yX7_shareAll, Cond.code yX7_shareAll cX7_shareAll 6 none, Cond.fieldLink RX7 57 "CoastPullModel" "isShared" "Z", Cond.fieldLink RX7 118 "CoastPullModel" "pairs" "I"]
def wsX7_shareTime_r2 : List Cond := [Cond.fieldLink RX7 34 "CoastPullModel" "pairTime" "[I", Cond.fieldLink RX7 37 "CoastPullModel" "pairPower" "[I", Cond.methodLink RX7 121 yX7_draw, Cond.instanceMethod yX7_draw, Cond.selects RX7 yX7_draw yX7_draw, Cond.code yX7_draw cX7_draw 4 none, Cond.fieldLink RX7 31 "CoastPullModel" "least" "[I", Cond.methodLink RX7 105 yX7_work, Cond.instanceMethod yX7_work, Cond.selects RX7 yX7_work yX7_work, Cond.code yX7_work cX7_work 7 none, Cond.methodLink RX7 76 yX7_firstOf, Cond.instanceMethod yX7_firstOf, Cond.selects RX7 yX7_firstOf yX7_firstOf, Cond.code yX7_firstOf cX7_firstOf 2 (some .int), Cond.methodLink RX7 69 yX7_endOf, Cond.instanceMethod yX7_endOf, Cond.selects RX7 yX7_endOf yX7_endOf, Cond.code yX7_endOf cX7_endOf 4 (some .int), Cond.methodLink RX7 96 yX7_place, Cond.instanceMethod yX7_place, Cond.selects RX7 yX7_place yX7_place, Cond.code yX7_place cX7_place 3 (some .int), Cond.methodLink RX7 86 yX7_faultOf]
def wsX7_shareTime_r3 : List Cond := [Cond.instanceMethod yX7_faultOf, Cond.selects RX7 yX7_faultOf yX7_faultOf, Cond.code yX7_faultOf cX7_faultOf 5 (some .int), Cond.fieldLink RX7 17 "CoastPullModel" "limit" "[I", Cond.fieldLink RX7 24 "CoastPullModel" "train" "[I", Cond.methodLink RX7 79 yX7_forceOf, Cond.instanceMethod yX7_forceOf, Cond.selects RX7 yX7_forceOf yX7_forceOf, Cond.code yX7_forceOf cX7_forceOf 4 (some .int), Cond.fieldLink RX7 13 "CoastPullModel" "grade" "[I", Cond.methodLink RX7 101 yX7_carry, Cond.instanceMethod yX7_carry, Cond.selects RX7 yX7_carry yX7_carry, Cond.code yX7_carry cX7_carry 10 none, Cond.methodLink RX7 93 yX7_powerOf, Cond.instanceMethod yX7_powerOf, Cond.selects RX7 yX7_powerOf yX7_powerOf, Cond.code yX7_powerOf cX7_powerOf 5 (some .int)]
def wsX7_shareTime : List Cond := .code yX7_shareTime cX7_shareTime 5 (some .int) :: ((wsX7_shareTime_r1 ++ (wsX7_shareTime_r2 ++ wsX7_shareTime_r3)) ++ wsX70)
def wsX7_needs_r1 : List Cond := [Cond.fieldLink RX7 40 "CoastPullModel" "shared" "[I", Cond.constant RX7 100 (100000000), Cond.constant RX7 92 (-1000000), Cond.methodLink RX7 124 yX7_shareAll, Cond.instanceMethod yX7_shareAll, Cond.selects RX7 yX7_shareAll yX7_shareAll, Cond.initialized RX7, Cond.code yX7_shareAll cX7_shareAll 6 none, Cond.fieldLink RX7 57 "CoastPullModel" "isShared" "Z", Cond.fieldLink RX7 43 "CoastPullModel" "sharedTime" "[I", Cond.fieldLink RX7 118 "CoastPullModel" "pairs" "I", Cond.fieldLink RX7 34 "CoastPullModel" "pairTime" "[I", Cond.fieldLink RX7 37 "CoastPullModel" "pairPower" "[I", Cond.methodLink RX7 65 yX7_legs, Cond.instanceMethod yX7_legs, Cond.selects RX7 yX7_legs yX7_legs, Cond.code yX7_legs cX7_legs 3 (some .int), Cond.fieldLink RX7 7 "CoastPullModel" "cells" "I", Cond.fieldLink RX7 20 "CoastPullModel" "isStop" "[Z", Cond.methodLink RX7 121 yX7_draw, Cond.instanceMethod yX7_draw, Cond.selects RX7 yX7_draw yX7_draw, Cond.code yX7_draw cX7_draw 4 none, Cond.fieldLink RX7 31 "CoastPullModel" "least" "[I"]
def wsX7_needs_r2 : List Cond := [Cond.methodLink RX7 105 yX7_work, Cond.instanceMethod yX7_work, Cond.selects RX7 yX7_work yX7_work, Cond.code yX7_work cX7_work 7 none, Cond.methodLink RX7 76 yX7_firstOf, Cond.instanceMethod yX7_firstOf, Cond.selects RX7 yX7_firstOf yX7_firstOf, Cond.code yX7_firstOf cX7_firstOf 2 (some .int), Cond.methodLink RX7 69 yX7_endOf, Cond.instanceMethod yX7_endOf, Cond.selects RX7 yX7_endOf yX7_endOf, Cond.code yX7_endOf cX7_endOf 4 (some .int), Cond.methodLink RX7 96 yX7_place, Cond.instanceMethod yX7_place, Cond.selects RX7 yX7_place yX7_place, Cond.code yX7_place cX7_place 3 (some .int), Cond.methodLink RX7 86 yX7_faultOf, Cond.instanceMethod yX7_faultOf, Cond.selects RX7 yX7_faultOf yX7_faultOf, Cond.code yX7_faultOf cX7_faultOf 5 (some .int), Cond.fieldLink RX7 17 "CoastPullModel" "limit" "[I", Cond.fieldLink RX7 24 "CoastPullModel" "train" "[I", Cond.methodLink RX7 79 yX7_forceOf, Cond.instanceMethod yX7_forceOf]
def wsX7_needs_r3 : List Cond := [Cond.selects RX7 yX7_forceOf yX7_forceOf, Cond.code yX7_forceOf cX7_forceOf 4 (some .int), Cond.fieldLink RX7 13 "CoastPullModel" "grade" "[I", Cond.methodLink RX7 101 yX7_carry, Cond.instanceMethod yX7_carry, Cond.selects RX7 yX7_carry yX7_carry, Cond.code yX7_carry cX7_carry 10 none, Cond.methodLink RX7 93 yX7_powerOf, Cond.instanceMethod yX7_powerOf, Cond.selects RX7 yX7_powerOf yX7_powerOf, Cond.code yX7_powerOf cX7_powerOf 5 (some .int)]
def wsX7_needs : List Cond := .code yX7_needs cX7_needs 3 (some .int) :: ((wsX7_needs_r1 ++ (wsX7_needs_r2 ++ wsX7_needs_r3)) ++ wsX70)
def wsX7_log : List Cond := .code yX7_log cX7_log 2 (some .int) :: ([.fieldLink RX7 54 "CoastPullModel" "logged" "I", .fieldLink RX7 7 "CoastPullModel" "cells" "I", .fieldLink RX7 27 "CoastPullModel" "log" "[I", .methodLink RX7 83 yX7_isSpeed, .static yX7_isSpeed, .initialized RX7, .code yX7_isSpeed cX7_isSpeed 1 (some .boolean), .methodLink RX7 50 yX7_in, .static yX7_in, .code yX7_in cX7_in 3 (some .boolean)] ++ wsX70)
def wsX7_clear : List Cond := .code yX7_clear cX7_clear 2 (some .int) :: ([.fieldLink RX7 54 "CoastPullModel" "logged" "I"] ++ wsX70)
def wsX7_judged : List Cond := .code yX7_judged cX7_judged 10 (some .int) :: ([.constant RX7 92 (-1000000), .fieldLink RX7 54 "CoastPullModel" "logged" "I", .fieldLink RX7 27 "CoastPullModel" "log" "[I", .fieldLink RX7 20 "CoastPullModel" "isStop" "[Z", .methodLink RX7 86 yX7_faultOf, .instanceMethod yX7_faultOf, .selects RX7 yX7_faultOf yX7_faultOf, .initialized RX7, .code yX7_faultOf cX7_faultOf 5 (some .int), .fieldLink RX7 17 "CoastPullModel" "limit" "[I", .fieldLink RX7 24 "CoastPullModel" "train" "[I", .methodLink RX7 79 yX7_forceOf, .instanceMethod yX7_forceOf, .selects RX7 yX7_forceOf yX7_forceOf, .code yX7_forceOf cX7_forceOf 4 (some .int), .fieldLink RX7 13 "CoastPullModel" "grade" "[I", .methodLink RX7 93 yX7_powerOf, .instanceMethod yX7_powerOf, .selects RX7 yX7_powerOf yX7_powerOf, .code yX7_powerOf cX7_powerOf 5 (some .int)] ++ wsX70)
def wsX7_count : List Cond := .code yX7_count cX7_count 2 (some .int) :: ([.fieldLink RX7 7 "CoastPullModel" "cells" "I", .fieldLink RX7 54 "CoastPullModel" "logged" "I", .methodLink RX7 65 yX7_legs, .instanceMethod yX7_legs, .selects RX7 yX7_legs yX7_legs, .initialized RX7, .code yX7_legs cX7_legs 3 (some .int), .fieldLink RX7 20 "CoastPullModel" "isStop" "[Z"] ++ wsX70)
def wsJ9_abs_0f7a4 : List Cond := .code yJ9_abs_0f7a4 cJ9_abs_0f7a4 1 (some .int) :: ([])
def wsJ9_max_7cf53 : List Cond := .code yJ9_max_7cf53 cJ9_max_7cf53 2 (some .int) :: ([])
def wsJ9_min_f86c9 : List Cond := .code yJ9_min_f86c9 cJ9_min_f86c9 4 (some .long) :: ([])
def wsL_law_r1 : List Cond := [Cond.classLink RL 7 RX6, Cond.instantiable RX6 6, Cond.initialized RX6, Cond.classLink RL 10 RX7, Cond.instantiable RX7 14, Cond.initialized RX7, Cond.methodLink RL 9 yX6_init, Cond.instanceMethod yX6_init, Cond.code yX6_init cX6_init 1 none, Cond.methodLink RX6 3 objectInit, Cond.instanceMethod objectInit, Cond.code objectInit ⟨#[0xb1]⟩ 1 none, Cond.classLink RX6 9 RX0, Cond.instantiable RX0 6, Cond.initialized RX0, Cond.fieldLink RX6 12 "CoastPull" "rails" "LCoastPull$Line;", Cond.classLink RX6 16 RX4, Cond.instantiable RX4 1, Cond.initialized RX4, Cond.fieldLink RX6 19 "CoastPull" "engine" "LCoastPull$Train;", Cond.classLink RX6 23 RX3, Cond.instantiable RX3 2, Cond.initialized RX3, Cond.fieldLink RX6 28 "CoastPull" "steps" "LCoastPull$Steps;"]
def wsL_law_r2 : List Cond := [Cond.classLink RX6 32 RX5, Cond.instantiable RX5 8, Cond.initialized RX5, Cond.fieldLink RX6 37 "CoastPull" "ways" "LCoastPull$Ways;", Cond.classLink RX6 41 RX2, Cond.instantiable RX2 5, Cond.initialized RX2, Cond.fieldLink RX6 46 "CoastPull" "shares" "LCoastPull$Shares;", Cond.classLink RX6 50 RX1, Cond.instantiable RX1 4, Cond.initialized RX1, Cond.fieldLink RX6 53 "CoastPull" "book" "LCoastPull$Log;", Cond.methodLink RX6 11 yX0_init, Cond.instanceMethod yX0_init, Cond.code yX0_init cX0_init 1 none, Cond.methodLink RX0 3 objectInit, Cond.arrayClass .int, Cond.fieldLink RX0 9 "CoastPull$Line" "grades" "[I", Cond.fieldLink RX0 15 "CoastPull$Line" "limits" "[I", Cond.arrayClass .boolean, Cond.fieldLink RX0 18 "CoastPull$Line" "stops" "[Z", Cond.fieldLink RX0 22 "CoastPull$Line" "stopPosts" "[I", Cond.methodLink RX0 25 yX0_lay, Cond.instanceMethod yX0_lay]
def wsL_law_r3 : List Cond := [Cond.selects RX0 yX0_lay yX0_lay, Cond.code yX0_lay cX0_lay 3 none, Cond.fieldLink RX0 29 "CoastPull$Line" "cells" "I", Cond.methodLink RX0 33 yX0_findLegs, Cond.instanceMethod yX0_findLegs, Cond.selects RX0 yX0_findLegs yX0_findLegs, Cond.code yX0_findLegs cX0_findLegs 3 none, Cond.fieldLink RX0 36 "CoastPull$Line" "legs" "I", Cond.instanceMethod yX4_init, Cond.code yX4_init cX4_init 1 none, Cond.methodLink RX4 1 objectInit, Cond.fieldLink RX4 7 "CoastPull$Train" "AT_FIRST" "[I", Cond.methodLink RX4 13 ⟨"[I", "clone", "()Ljava/lang/Object;"⟩, Cond.sameMethod "[I" "java/lang/Object" "clone" "()Ljava/lang/Object;", Cond.native ⟨"java/lang/Object", "clone", "()Ljava/lang/Object;"⟩, Cond.instanceMethod ⟨"java/lang/Object", "clone", "()Ljava/lang/Object;"⟩, Cond.selects "[I" ⟨"[I", "clone", "()Ljava/lang/Object;"⟩ ⟨"java/lang/Object", "clone", "()Ljava/lang/Object;"⟩, Cond.classLink RX4 14 "[I", Cond.fieldLink RX4 18 "CoastPull$Train" "numbers" "[I", Cond.methodLink RX6 25 yX3_init, Cond.instanceMethod yX3_init, Cond.code yX3_init cX3_init 3 none, Cond.methodLink RX3 3 objectInit, Cond.fieldLink RX3 9 "CoastPull$Steps" "rails" "LCoastPull$Line;"]
def wsL_law_r4 : List Cond := [Cond.fieldLink RX3 15 "CoastPull$Steps" "engine" "LCoastPull$Train;", Cond.methodLink RX6 34 yX5_init, Cond.instanceMethod yX5_init, Cond.code yX5_init cX5_init 3 none, Cond.methodLink RX5 5 objectInit, Cond.arrayClass .long, Cond.fieldLink RX5 11 "CoastPull$Ways" "evenRow" "[J", Cond.fieldLink RX5 15 "CoastPull$Ways" "oddRow" "[J", Cond.fieldLink RX5 18 "CoastPull$Ways" "firstPair" "[I", Cond.fieldLink RX5 22 "CoastPull$Ways" "times" "[I", Cond.fieldLink RX5 25 "CoastPull$Ways" "choices" "[J", Cond.fieldLink RX5 28 "CoastPull$Ways" "upToDate" "Z", Cond.fieldLink RX5 32 "CoastPull$Ways" "rails" "LCoastPull$Line;", Cond.fieldLink RX5 36 "CoastPull$Ways" "steps" "LCoastPull$Steps;", Cond.methodLink RX6 43 yX2_init, Cond.instanceMethod yX2_init, Cond.code yX2_init cX2_init 3 none, Cond.methodLink RX2 3 objectInit, Cond.fieldLink RX2 9 "CoastPull$Shares" "choices" "[J", Cond.fieldLink RX2 15 "CoastPull$Shares" "placeValues" "[J", Cond.fieldLink RX2 18 "CoastPull$Shares" "upToDate" "Z", Cond.fieldLink RX2 22 "CoastPull$Shares" "rails" "LCoastPull$Line;", Cond.fieldLink RX2 26 "CoastPull$Shares" "ways" "LCoastPull$Ways;", Cond.methodLink RX6 52 yX1_init]
def wsL_law_r5 : List Cond := [Cond.instanceMethod yX1_init, Cond.code yX1_init cX1_init 3 none, Cond.methodLink RX1 3 objectInit, Cond.fieldLink RX1 9 "CoastPull$Log" "speeds" "[I", Cond.fieldLink RX1 15 "CoastPull$Log" "told" "I", Cond.fieldLink RX1 19 "CoastPull$Log" "rails" "LCoastPull$Line;", Cond.fieldLink RX1 23 "CoastPull$Log" "steps" "LCoastPull$Steps;", Cond.methodLink RL 12 yX7_init, Cond.instanceMethod yX7_init, Cond.code yX7_init cX7_init 1 none, Cond.methodLink RX7 1 objectInit, Cond.fieldLink RX7 7 "CoastPullModel" "cells" "I", Cond.fieldLink RX7 13 "CoastPullModel" "grade" "[I", Cond.fieldLink RX7 17 "CoastPullModel" "limit" "[I", Cond.fieldLink RX7 20 "CoastPullModel" "isStop" "[Z", Cond.fieldLink RX7 24 "CoastPullModel" "train" "[I", Cond.fieldLink RX7 27 "CoastPullModel" "log" "[I", Cond.constant RX7 30 (119119), Cond.fieldLink RX7 31 "CoastPullModel" "least" "[I", Cond.fieldLink RX7 34 "CoastPullModel" "pairTime" "[I", Cond.fieldLink RX7 37 "CoastPullModel" "pairPower" "[I", Cond.fieldLink RX7 40 "CoastPullModel" "shared" "[I", Cond.fieldLink RX7 43 "CoastPullModel" "sharedTime" "[I", Cond.methodLink RX7 46 yX7_begin]
def wsL_law_r6 : List Cond := [Cond.instanceMethod yX7_begin, Cond.selects RX7 yX7_begin yX7_begin, Cond.code yX7_begin cX7_begin 3 none, Cond.fieldLink RX7 54 "CoastPullModel" "logged" "I", Cond.fieldLink RX7 57 "CoastPullModel" "isShared" "Z", Cond.methodLink RL 13 yX6_line, Cond.instanceMethod yX6_line, Cond.selects RX6 yX6_line yX6_line, Cond.code yX6_line cX6_line 3 (some .int), Cond.methodLink RX6 57 yX0_cellCount, Cond.instanceMethod yX0_cellCount, Cond.selects RX0 yX0_cellCount yX0_cellCount, Cond.code yX0_cellCount cX0_cellCount 1 (some .int), Cond.methodLink RX6 61 yX0_lay, Cond.methodLink RX6 65 yX1_wipe, Cond.instanceMethod yX1_wipe, Cond.selects RX1 yX1_wipe yX1_wipe, Cond.code yX1_wipe cX1_wipe 1 none, Cond.methodLink RX6 68 yX6_forgetChoices, Cond.instanceMethod yX6_forgetChoices, Cond.selects RX6 yX6_forgetChoices yX6_forgetChoices, Cond.code yX6_forgetChoices cX6_forgetChoices 1 none, Cond.methodLink RX6 198 yX5_forget, Cond.instanceMethod yX5_forget]
def wsL_law_r7 : List Cond := [Cond.selects RX5 yX5_forget yX5_forget, Cond.code yX5_forget cX5_forget 1 none, Cond.methodLink RX6 201 yX2_forget, Cond.instanceMethod yX2_forget, Cond.selects RX2 yX2_forget yX2_forget, Cond.code yX2_forget cX2_forget 1 none, Cond.methodLink RL 17 yX7_line, Cond.instanceMethod yX7_line, Cond.selects RX7 yX7_line yX7_line, Cond.code yX7_line cX7_line 3 (some .int), Cond.methodLink RX7 50 yX7_in, Cond.static yX7_in, Cond.code yX7_in cX7_in 3 (some .boolean), Cond.methodLink RL 18 yX6_cell, Cond.instanceMethod yX6_cell, Cond.selects RX6 yX6_cell yX6_cell, Cond.code yX6_cell cX6_cell 5 (some .int), Cond.methodLink RX6 71 yX0_hasCell, Cond.instanceMethod yX0_hasCell, Cond.selects RX0 yX0_hasCell yX0_hasCell, Cond.code yX0_hasCell cX0_hasCell 2 (some .boolean), Cond.methodLink RX6 75 yX0_limitOf, Cond.instanceMethod yX0_limitOf, Cond.selects RX0 yX0_limitOf yX0_limitOf]
def wsL_law_r8 : List Cond := [Cond.code yX0_limitOf cX0_limitOf 2 (some .int), Cond.methodLink RX6 79 yX0_shape, Cond.instanceMethod yX0_shape, Cond.selects RX0 yX0_shape yX0_shape, Cond.code yX0_shape cX0_shape 4 none, Cond.methodLink RL 22 yX7_cell, Cond.instanceMethod yX7_cell, Cond.selects RX7 yX7_cell yX7_cell, Cond.code yX7_cell cX7_cell 5 (some .int), Cond.methodLink RX7 61 yX7_isCell, Cond.instanceMethod yX7_isCell, Cond.selects RX7 yX7_isCell yX7_isCell, Cond.code yX7_isCell cX7_isCell 2 (some .boolean), Cond.methodLink RL 23 yX6_stop, Cond.instanceMethod yX6_stop, Cond.selects RX6 yX6_stop yX6_stop, Cond.code yX6_stop cX6_stop 3 (some .int), Cond.methodLink RX6 83 yX0_hasPost, Cond.instanceMethod yX0_hasPost, Cond.selects RX0 yX0_hasPost yX0_hasPost, Cond.code yX0_hasPost cX0_hasPost 2 (some .boolean), Cond.methodLink RX6 86 yX0_isEnd, Cond.instanceMethod yX0_isEnd, Cond.selects RX0 yX0_isEnd yX0_isEnd]
def wsL_law_r9 : List Cond := [Cond.code yX0_isEnd cX0_isEnd 2 (some .boolean), Cond.methodLink RX6 89 yX0_markStop, Cond.instanceMethod yX0_markStop, Cond.selects RX0 yX0_markStop yX0_markStop, Cond.code yX0_markStop cX0_markStop 3 none, Cond.methodLink RX6 93 yX0_legCount, Cond.instanceMethod yX0_legCount, Cond.selects RX0 yX0_legCount yX0_legCount, Cond.code yX0_legCount cX0_legCount 1 (some .int), Cond.methodLink RL 27 yX7_stop, Cond.instanceMethod yX7_stop, Cond.selects RX7 yX7_stop yX7_stop, Cond.code yX7_stop cX7_stop 3 (some .int), Cond.methodLink RX7 65 yX7_legs, Cond.instanceMethod yX7_legs, Cond.selects RX7 yX7_legs yX7_legs, Cond.code yX7_legs cX7_legs 3 (some .int), Cond.methodLink RL 28 yX6_train, Cond.instanceMethod yX6_train, Cond.selects RX6 yX6_train yX6_train, Cond.code yX6_train cX6_train 4 (some .int), Cond.methodLink RX6 96 yX4_knows, Cond.instanceMethod yX4_knows, Cond.selects RX4 yX4_knows yX4_knows]
def wsL_law_r10 : List Cond := [Cond.code yX4_knows cX4_knows 2 (some .boolean), Cond.methodLink RX6 99 yX4_mayBe, Cond.instanceMethod yX4_mayBe, Cond.selects RX4 yX4_mayBe yX4_mayBe, Cond.code yX4_mayBe cX4_mayBe 3 (some .boolean), Cond.fieldLink RX4 21 "CoastPull$Train" "LEAST" "[I", Cond.fieldLink RX4 24 "CoastPull$Train" "MOST" "[I", Cond.methodLink RX6 103 yX4_number, Cond.instanceMethod yX4_number, Cond.selects RX4 yX4_number yX4_number, Cond.code yX4_number cX4_number 2 (some .int), Cond.methodLink RX6 106 yX4_put, Cond.instanceMethod yX4_put, Cond.selects RX4 yX4_put yX4_put, Cond.code yX4_put cX4_put 3 none, Cond.methodLink RL 32 yX7_train, Cond.instanceMethod yX7_train, Cond.selects RX7 yX7_train yX7_train, Cond.code yX7_train cX7_train 6 (some .int), Cond.methodLink RL 33 yX6_has, Cond.instanceMethod yX6_has, Cond.selects RX6 yX6_has yX6_has, Cond.code yX6_has cX6_has 2 (some .int), Cond.methodLink RL 36 yX7_has]
def wsL_law_r11 : List Cond := [Cond.instanceMethod yX7_has, Cond.selects RX7 yX7_has yX7_has, Cond.code yX7_has cX7_has 2 (some .int), Cond.methodLink RL 37 yX6_leg, Cond.instanceMethod yX6_leg, Cond.selects RX6 yX6_leg yX6_leg, Cond.code yX6_leg cX6_leg 3 (some .int), Cond.methodLink RX6 110 yX0_hasLeg, Cond.instanceMethod yX0_hasLeg, Cond.selects RX0 yX0_hasLeg yX0_hasLeg, Cond.code yX0_hasLeg cX0_hasLeg 2 (some .boolean), Cond.methodLink RX6 113 yX0_lastPost, Cond.instanceMethod yX0_lastPost, Cond.selects RX0 yX0_lastPost yX0_lastPost, Cond.code yX0_lastPost cX0_lastPost 2 (some .int), Cond.methodLink RX6 116 yX0_firstPost, Cond.instanceMethod yX0_firstPost, Cond.selects RX0 yX0_firstPost yX0_firstPost, Cond.code yX0_firstPost cX0_firstPost 2 (some .int), Cond.methodLink RL 40 yX7_leg, Cond.instanceMethod yX7_leg, Cond.selects RX7 yX7_leg yX7_leg, Cond.code yX7_leg cX7_leg 3 (some .int), Cond.methodLink RX7 73 yX7_isLeg]
def wsL_law_r12 : List Cond := [Cond.instanceMethod yX7_isLeg, Cond.selects RX7 yX7_isLeg yX7_isLeg, Cond.code yX7_isLeg cX7_isLeg 2 (some .boolean), Cond.methodLink RX7 69 yX7_endOf, Cond.instanceMethod yX7_endOf, Cond.selects RX7 yX7_endOf yX7_endOf, Cond.code yX7_endOf cX7_endOf 4 (some .int), Cond.methodLink RX7 76 yX7_firstOf, Cond.instanceMethod yX7_firstOf, Cond.selects RX7 yX7_firstOf yX7_firstOf, Cond.code yX7_firstOf cX7_firstOf 2 (some .int), Cond.methodLink RL 41 yX6_force, Cond.instanceMethod yX6_force, Cond.selects RX6 yX6_force yX6_force, Cond.code yX6_force cX6_force 5 (some .int), Cond.methodLink RX6 119 yX6_stepRefusal, Cond.instanceMethod yX6_stepRefusal, Cond.selects RX6 yX6_stepRefusal yX6_stepRefusal, Cond.code yX6_stepRefusal cX6_stepRefusal 4 (some .int), Cond.methodLink RX6 171 yX6_isSpeed, Cond.static yX6_isSpeed, Cond.code yX6_isSpeed cX6_isSpeed 1 (some .boolean), Cond.methodLink RX6 123 yX3_forceOf, Cond.instanceMethod yX3_forceOf]
def wsL_law_r13 : List Cond := [Cond.selects RX3 yX3_forceOf yX3_forceOf, Cond.code yX3_forceOf cX3_forceOf 5 (some .int), Cond.methodLink RX3 21 yX4_number, Cond.methodLink RX3 25 yX0_gradeOf, Cond.instanceMethod yX0_gradeOf, Cond.selects RX0 yX0_gradeOf yX0_gradeOf, Cond.code yX0_gradeOf cX0_gradeOf 2 (some .int), Cond.methodLink RL 44 yX7_force, Cond.instanceMethod yX7_force, Cond.selects RX7 yX7_force yX7_force, Cond.code yX7_force cX7_force 4 (some .int), Cond.methodLink RX7 83 yX7_isSpeed, Cond.static yX7_isSpeed, Cond.code yX7_isSpeed cX7_isSpeed 1 (some .boolean), Cond.methodLink RX7 79 yX7_forceOf, Cond.instanceMethod yX7_forceOf, Cond.selects RX7 yX7_forceOf yX7_forceOf, Cond.code yX7_forceOf cX7_forceOf 4 (some .int), Cond.methodLink RL 45 yX6_fault, Cond.instanceMethod yX6_fault, Cond.selects RX6 yX6_fault yX6_fault, Cond.code yX6_fault cX6_fault 5 (some .int), Cond.methodLink RX6 126 yX3_faultOf, Cond.instanceMethod yX3_faultOf]
def wsL_law_r14 : List Cond := [Cond.selects RX3 yX3_faultOf yX3_faultOf, Cond.code yX3_faultOf cX3_faultOf 5 (some .int), Cond.methodLink RX3 30 Lib.Math.max.name, Cond.static Lib.Math.max.name, Cond.initialized "java/lang/Math", Cond.code Lib.Math.max.name Lib.Math.max.code 2 (some .int), Cond.methodLink RX3 39 Lib.Math.abs.name, Cond.static Lib.Math.abs.name, Cond.code Lib.Math.abs.name Lib.Math.abs.code 1 (some .int), Cond.methodLink RX3 36 yX0_limitOf, Cond.methodLink RX3 42 yX3_forceOf, Cond.methodLink RL 48 yX7_fault, Cond.instanceMethod yX7_fault, Cond.selects RX7 yX7_fault yX7_fault, Cond.code yX7_fault cX7_fault 4 (some .int), Cond.methodLink RX7 86 yX7_faultOf, Cond.instanceMethod yX7_faultOf, Cond.selects RX7 yX7_faultOf yX7_faultOf, Cond.code yX7_faultOf cX7_faultOf 5 (some .int), Cond.methodLink RL 49 yX6_time, Cond.instanceMethod yX6_time, Cond.selects RX6 yX6_time yX6_time, Cond.code yX6_time cX6_time 5 (some .int), Cond.constant RX6 129 (-1000000)]
def wsL_law_r15 : List Cond := [Cond.methodLink RX6 130 yX3_timeOf, Cond.instanceMethod yX3_timeOf, Cond.selects RX3 yX3_timeOf yX3_timeOf, Cond.code yX3_timeOf cX3_timeOf 4 (some .int), Cond.methodLink RL 52 yX7_time, Cond.instanceMethod yX7_time, Cond.selects RX7 yX7_time yX7_time, Cond.code yX7_time cX7_time 5 (some .int), Cond.constant RX7 92 (-1000000), Cond.methodLink RX7 89 yX7_fault, Cond.methodLink RL 53 yX6_power, Cond.instanceMethod yX6_power, Cond.selects RX6 yX6_power yX6_power, Cond.code yX6_power cX6_power 5 (some .int), Cond.methodLink RX6 134 yX3_powerOf, Cond.instanceMethod yX3_powerOf, Cond.selects RX3 yX3_powerOf yX3_powerOf, Cond.code yX3_powerOf cX3_powerOf 5 (some .int), Cond.methodLink RL 56 yX7_power, Cond.instanceMethod yX7_power, Cond.selects RX7 yX7_power yX7_power, Cond.code yX7_power cX7_power 5 (some .int), Cond.methodLink RX7 93 yX7_powerOf, Cond.instanceMethod yX7_powerOf]
def wsL_law_r16 : List Cond := [Cond.selects RX7 yX7_powerOf yX7_powerOf, Cond.code yX7_powerOf cX7_powerOf 5 (some .int), Cond.methodLink RL 57 yX6_fastest, Cond.instanceMethod yX6_fastest, Cond.selects RX6 yX6_fastest yX6_fastest, Cond.code yX6_fastest cX6_fastest 2 (some .int), Cond.methodLink RX6 137 yX5_bringUpToDate, Cond.instanceMethod yX5_bringUpToDate, Cond.selects RX5 yX5_bringUpToDate yX5_bringUpToDate, Cond.code yX5_bringUpToDate cX5_bringUpToDate 3 none, Cond.methodLink RX5 40 yX0_legCount, Cond.methodLink RX5 46 yX5_driveOver, Cond.instanceMethod yX5_driveOver, Cond.selects RX5 yX5_driveOver yX5_driveOver, Cond.code yX5_driveOver cX5_driveOver 8 (some (.array .long)), Cond.constantLong RX5 61 (4611686018427387904), Cond.methodLink RX5 54 yX0_firstPost, Cond.methodLink RX5 58 yX0_lastPost, Cond.methodLink RX5 63 yJ7_fill_d0a16, Cond.static yJ7_fill_d0a16, Cond.initialized RJ7, Cond.code yJ7_fill_d0a16 cJ7_fill_d0a16 5 none, Cond.methodLink RX5 69 yX5_driveThrough, Cond.instanceMethod yX5_driveThrough]
def wsL_law_r17 : List Cond := [Cond.selects RX5 yX5_driveThrough yX5_driveThrough, Cond.code yX5_driveThrough cX5_driveThrough 13 none, Cond.methodLink RX5 73 yX3_faultOf, Cond.methodLink RX5 79 yX3_powerOf, Cond.methodLink RX5 82 yX5_speedPlace, Cond.static yX5_speedPlace, Cond.code yX5_speedPlace cX5_speedPlace 1 (some .int), Cond.methodLink RX5 85 yX3_timeOf, Cond.methodLink RX5 89 yX5_spread, Cond.static yX5_spread, Cond.code yX5_spread cX5_spread 10 none, Cond.methodLink RX5 93 Lib.MathLoose.min_long.x, Cond.static Lib.MathLoose.min_long.x, Cond.code Lib.MathLoose.min_long.x Lib.MathLoose.min_long.code 4 (some .long), Cond.methodLink RX5 50 yX5_gatherPairs, Cond.instanceMethod yX5_gatherPairs, Cond.selects RX5 yX5_gatherPairs yX5_gatherPairs, Cond.code yX5_gatherPairs cX5_gatherPairs 9 (some .int), Cond.constantLong RX5 99 (16384), Cond.methodLink RX6 140 yX5_pairCount, Cond.instanceMethod yX5_pairCount, Cond.selects RX5 yX5_pairCount yX5_pairCount, Cond.code yX5_pairCount cX5_pairCount 2 (some .int), Cond.methodLink RX6 143 yX5_pairTime]
def wsL_law_r18 : List Cond := [Cond.instanceMethod yX5_pairTime, Cond.selects RX5 yX5_pairTime yX5_pairTime, Cond.code yX5_pairTime cX5_pairTime 3 (some .int), Cond.methodLink RL 60 yX7_fastest, Cond.instanceMethod yX7_fastest, Cond.selects RX7 yX7_fastest yX7_fastest, Cond.code yX7_fastest cX7_fastest 4 (some .int), Cond.constant RX7 100 (100000000), Cond.methodLink RX7 105 yX7_work, Cond.instanceMethod yX7_work, Cond.selects RX7 yX7_work yX7_work, Cond.code yX7_work cX7_work 7 none, Cond.methodLink RX7 96 yX7_place, Cond.instanceMethod yX7_place, Cond.selects RX7 yX7_place yX7_place, Cond.code yX7_place cX7_place 3 (some .int), Cond.methodLink RX7 101 yX7_carry, Cond.instanceMethod yX7_carry, Cond.selects RX7 yX7_carry yX7_carry, Cond.code yX7_carry cX7_carry 10 none, Cond.methodLink RL 61 yX6_best, Cond.instanceMethod yX6_best, Cond.selects RX6 yX6_best yX6_best, Cond.code yX6_best cX6_best 5 (some .int)]
def wsL_law_r19 : List Cond := [Cond.methodLink RX6 146 yX6_driveRefusal, Cond.instanceMethod yX6_driveRefusal, Cond.selects RX6 yX6_driveRefusal yX6_driveRefusal, Cond.code yX6_driveRefusal cX6_driveRefusal 3 (some .int), Cond.methodLink RX6 155 yX6_isTime, Cond.static yX6_isTime, Cond.code yX6_isTime cX6_isTime 1 (some .boolean), Cond.methodLink RX6 149 yX5_pairWithin, Cond.instanceMethod yX5_pairWithin, Cond.selects RX5 yX5_pairWithin yX5_pairWithin, Cond.code yX5_pairWithin cX5_pairWithin 4 (some .int), Cond.methodLink RX5 101 yX5_pairCount, Cond.methodLink RX5 104 yX5_pairTime, Cond.methodLink RX6 152 yX5_pairPower, Cond.instanceMethod yX5_pairPower, Cond.selects RX5 yX5_pairPower yX5_pairPower, Cond.code yX5_pairPower cX5_pairPower 3 (some .int), Cond.methodLink RL 64 yX7_best, Cond.instanceMethod yX7_best, Cond.selects RX7 yX7_best yX7_best, Cond.code yX7_best cX7_best 4 (some .int), Cond.methodLink RX7 108 yX7_bestTime, Cond.instanceMethod yX7_bestTime, Cond.selects RX7 yX7_bestTime yX7_bestTime]
def wsL_law_r20 : List Cond := [Cond.code yX7_bestTime cX7_bestTime 3 (some .int), Cond.methodLink RX7 111 yX7_bestOf, Cond.instanceMethod yX7_bestOf, Cond.selects RX7 yX7_bestOf yX7_bestOf, Cond.code yX7_bestOf cX7_bestOf 6 (some .int), Cond.methodLink RL 65 yX6_bestTime, Cond.instanceMethod yX6_bestTime, Cond.selects RX6 yX6_bestTime yX6_bestTime, Cond.code yX6_bestTime cX6_bestTime 5 (some .int), Cond.methodLink RL 68 yX7_bestTime, Cond.methodLink RL 69 yX6_bestSpeed, Cond.instanceMethod yX6_bestSpeed, Cond.selects RX6 yX6_bestSpeed yX6_bestSpeed, Cond.code yX6_bestSpeed cX6_bestSpeed 5 (some .int), Cond.methodLink RX6 158 yX5_pairSpeed, Cond.instanceMethod yX5_pairSpeed, Cond.selects RX5 yX5_pairSpeed yX5_pairSpeed, Cond.code yX5_pairSpeed cX5_pairSpeed 5 (some .int), Cond.methodLink RL 72 yX7_bestSpeed, Cond.instanceMethod yX7_bestSpeed, Cond.selects RX7 yX7_bestSpeed yX7_bestSpeed, Cond.code yX7_bestSpeed cX7_bestSpeed 9 (some .int), Cond.methodLink RX7 114 yX7_isOn, Cond.instanceMethod yX7_isOn]
def wsL_law_r21 : List Cond := [Cond.selects RX7 yX7_isOn yX7_isOn, Cond.code yX7_isOn cX7_isOn 6 (some .boolean), Cond.methodLink RL 73 yX6_curve, Cond.instanceMethod yX6_curve, Cond.selects RX6 yX6_curve yX6_curve, Cond.code yX6_curve cX6_curve 2 (some .int), Cond.methodLink RL 76 yX7_curve, Cond.instanceMethod yX7_curve, Cond.selects RX7 yX7_curve yX7_curve, Cond.code yX7_curve cX7_curve 2 (some .int), Cond.fieldLink RX7 118 "CoastPullModel" "pairs" "I", Cond.methodLink RX7 121 yX7_draw, Cond.instanceMethod yX7_draw, Cond.selects RX7 yX7_draw yX7_draw, Cond.code yX7_draw cX7_draw 4 none, Cond.methodLink RL 77 yX6_point, Cond.instanceMethod yX6_point, Cond.selects RX6 yX6_point yX6_point, Cond.code yX6_point cX6_point 4 (some .int), Cond.methodLink RL 81 yX7_point, Cond.instanceMethod yX7_point, Cond.selects RX7 yX7_point yX7_point, Cond.code yX7_point cX7_point 4 (some .int), Cond.methodLink RL 82 yX6_share]
def wsL_law_r22 : List Cond := [Cond.instanceMethod yX6_share, Cond.selects RX6 yX6_share yX6_share, Cond.code yX6_share cX6_share 2 (some .int), Cond.methodLink RX6 161 yX2_bringUpToDate, Cond.instanceMethod yX2_bringUpToDate, Cond.selects RX2 yX2_bringUpToDate yX2_bringUpToDate, Cond.code yX2_bringUpToDate cX2_bringUpToDate 5 none, Cond.methodLink RX2 52 Lib.Math.max.name, Cond.methodLink RX2 30 yJ7_fill_d0a16, Cond.methodLink RX2 36 yX0_legCount, Cond.methodLink RX2 42 yX2_bestFrom, Cond.instanceMethod yX2_bestFrom, Cond.selects RX2 yX2_bestFrom yX2_bestFrom, Cond.code yX2_bestFrom cX2_bestFrom 10 (some .long), Cond.constantLong RX2 58 (4611686018427387904), Cond.methodLink RX2 66 Lib.MathLoose.min_long.x, Cond.methodLink RX2 46 yX5_pairCount, Cond.methodLink RX2 60 yX5_pairTime, Cond.methodLink RX2 63 yX5_pairPower, Cond.methodLink RX6 162 yX2_isThere, Cond.instanceMethod yX2_isThere, Cond.selects RX2 yX2_isThere yX2_isThere, Cond.code yX2_isThere cX2_isThere 2 (some .boolean), Cond.methodLink RX6 165 yX2_powerTogether]
def wsL_law_r23 : List Cond := [Cond.instanceMethod yX2_powerTogether, Cond.selects RX2 yX2_powerTogether yX2_powerTogether, Cond.code yX2_powerTogether cX2_powerTogether 2 (some .int), Cond.methodLink RL 85 yX7_share, Cond.instanceMethod yX7_share, Cond.selects RX7 yX7_share yX7_share, Cond.code yX7_share cX7_share 2 (some .int), Cond.methodLink RX7 124 yX7_shareAll, Cond.instanceMethod yX7_shareAll, Cond.selects RX7 yX7_shareAll yX7_shareAll, Cond.code yX7_shareAll cX7_shareAll 6 none, Cond.methodLink RL 86 yX6_shareTime, Cond.instanceMethod yX6_shareTime, Cond.selects RX6 yX6_shareTime yX6_shareTime, Cond.code yX6_shareTime cX6_shareTime 3 (some .int), Cond.methodLink RX6 168 yX2_legTime, Cond.instanceMethod yX2_legTime, Cond.selects RX2 yX2_legTime yX2_legTime, Cond.code yX2_legTime cX2_legTime 8 (some .int), Cond.constant RX2 70 (-1000000), Cond.constantLong RX2 71 (281474976710655), Cond.methodLink RL 89 yX7_shareTime, Cond.instanceMethod yX7_shareTime, Cond.selects RX7 yX7_shareTime yX7_shareTime]
def wsL_law_r24 : List Cond := [Cond.code yX7_shareTime cX7_shareTime 5 (some .int), Cond.methodLink RL 90 yX6_needs, Cond.instanceMethod yX6_needs, Cond.selects RX6 yX6_needs yX6_needs, Cond.code yX6_needs cX6_needs 3 (some .int), Cond.methodLink RL 93 yX7_needs, Cond.instanceMethod yX7_needs, Cond.selects RX7 yX7_needs yX7_needs, Cond.code yX7_needs cX7_needs 3 (some .int), Cond.methodLink RL 94 yX6_log, Cond.instanceMethod yX6_log, Cond.selects RX6 yX6_log yX6_log, Cond.code yX6_log cX6_log 2 (some .int), Cond.methodLink RX6 174 yX1_isFull, Cond.instanceMethod yX1_isFull, Cond.selects RX1 yX1_isFull yX1_isFull, Cond.code yX1_isFull cX1_isFull 1 (some .boolean), Cond.methodLink RX1 27 yX0_cellCount, Cond.methodLink RX6 178 yX1_add, Cond.instanceMethod yX1_add, Cond.selects RX1 yX1_add yX1_add, Cond.code yX1_add cX1_add 2 none, Cond.methodLink RX6 181 yX1_size, Cond.instanceMethod yX1_size]
def wsL_law_r25 : List Cond := [Cond.selects RX1 yX1_size yX1_size, Cond.code yX1_size cX1_size 1 (some .int), Cond.methodLink RL 97 yX7_log, Cond.instanceMethod yX7_log, Cond.selects RX7 yX7_log yX7_log, Cond.code yX7_log cX7_log 2 (some .int), Cond.methodLink RL 98 yX6_clear, Cond.instanceMethod yX6_clear, Cond.selects RX6 yX6_clear yX6_clear, Cond.code yX6_clear cX6_clear 2 (some .int), Cond.methodLink RL 102 yX7_clear, Cond.instanceMethod yX7_clear, Cond.selects RX7 yX7_clear yX7_clear, Cond.code yX7_clear cX7_clear 2 (some .int), Cond.methodLink RL 103 yX6_judged, Cond.instanceMethod yX6_judged, Cond.selects RX6 yX6_judged yX6_judged, Cond.code yX6_judged cX6_judged 2 (some .int), Cond.methodLink RX6 184 yX1_timeTogether, Cond.instanceMethod yX1_timeTogether, Cond.selects RX1 yX1_timeTogether yX1_timeTogether, Cond.code yX1_timeTogether cX1_timeTogether 3 (some .int), Cond.methodLink RX1 39 yX1_isFaulty, Cond.instanceMethod yX1_isFaulty]
def wsL_law_r26 : List Cond := [Cond.selects RX1 yX1_isFaulty yX1_isFaulty, Cond.code yX1_isFaulty cX1_isFaulty 2 (some .boolean), Cond.methodLink RX1 33 yX3_faultOf, Cond.methodLink RX1 43 yX3_timeOf, Cond.methodLink RX6 187 yX1_powerTogether, Cond.instanceMethod yX1_powerTogether, Cond.selects RX1 yX1_powerTogether yX1_powerTogether, Cond.code yX1_powerTogether cX1_powerTogether 3 (some .int), Cond.methodLink RX1 47 yX3_powerOf, Cond.methodLink RX6 189 yX1_faultCount, Cond.instanceMethod yX1_faultCount, Cond.selects RX1 yX1_faultCount yX1_faultCount, Cond.code yX1_faultCount cX1_faultCount 3 (some .int), Cond.methodLink RX6 192 yX1_firstFaultCell, Cond.instanceMethod yX1_firstFaultCell, Cond.selects RX1 yX1_firstFaultCell yX1_firstFaultCell, Cond.code yX1_firstFaultCell cX1_firstFaultCell 2 (some .int), Cond.constant RX1 50 (-1000000), Cond.methodLink RX6 195 yX1_stopsPassed, Cond.instanceMethod yX1_stopsPassed, Cond.selects RX1 yX1_stopsPassed yX1_stopsPassed, Cond.code yX1_stopsPassed cX1_stopsPassed 3 (some .int), Cond.methodLink RX1 51 yX0_isStop, Cond.instanceMethod yX0_isStop]
def wsL_law_r27 : List Cond := [Cond.selects RX0 yX0_isStop yX0_isStop, Cond.code yX0_isStop cX0_isStop 2 (some .boolean), Cond.methodLink RL 106 yX7_judged, Cond.instanceMethod yX7_judged, Cond.selects RX7 yX7_judged yX7_judged, Cond.code yX7_judged cX7_judged 10 (some .int), Cond.methodLink RL 107 yX6_count, Cond.instanceMethod yX6_count, Cond.selects RX6 yX6_count yX6_count, Cond.code yX6_count cX6_count 2 (some .int), Cond.methodLink RL 110 yX7_count, Cond.instanceMethod yX7_count, Cond.selects RX7 yX7_count yX7_count, Cond.code yX7_count cX7_count 2 (some .int)]
def wsL_law : List Cond := (wsL_law_r1 ++ (wsL_law_r2 ++ (wsL_law_r3 ++ (wsL_law_r4 ++ (wsL_law_r5 ++ (wsL_law_r6 ++ (wsL_law_r7 ++ (wsL_law_r8 ++ (wsL_law_r9 ++ (wsL_law_r10 ++ (wsL_law_r11 ++ (wsL_law_r12 ++ (wsL_law_r13 ++ (wsL_law_r14 ++ (wsL_law_r15 ++ (wsL_law_r16 ++ (wsL_law_r17 ++ (wsL_law_r18 ++ (wsL_law_r19 ++ (wsL_law_r20 ++ (wsL_law_r21 ++ (wsL_law_r22 ++ (wsL_law_r23 ++ (wsL_law_r24 ++ (wsL_law_r25 ++ (wsL_law_r26 ++ wsL_law_r27)))))))))))))))))))))))))) ++ wsX60 ++ wsX70 ++ wsX00 ++ wsX40 ++ wsX30 ++ wsX50 ++ wsX20 ++ wsX10 ++ ([] : List Cond)
abbrev vwCl : List vw_C := [(RX0, TX0, 6), (RX1, TX1, 4), (RX2, TX2, 5), (RX3, TX3, 2), (RX4, TX4, 1), (RX5, TX5, 8), (RX6, TX6, 6), (RX7, TX7, 14)]
end
section
set_option maxRecDepth 20000 in
theorem ggX0_init_X0_lay : GoodIn wsX0_init wsX0_lay := goodIn_r _ [14, 15, 5, 6, 8, 16, 17, 18, 13, 19, 9, 20, 21, 22, 23, 24, 25, 26] (by decide +kernel) (by decide +kernel)
set_option maxRecDepth 20000 in
theorem gX0_init_X0_lay : GoodIn wsX0_init (wsV RX0 25 RX0 yX0_lay wsX0_lay) := goodIn_app (goodIn_of _ (by decide +kernel)) ggX0_init_X0_lay
theorem dX0_init_0 : decode cX0_init 0 = .ok (.aload_n 0, 1) := by decide +kernel
theorem dX0_init_1 : decode cX0_init 1 = .ok (.invokespecial 3, 3) := by decide +kernel
theorem dX0_init_4 : decode cX0_init 4 = .ok (.aload_n 0, 1) := by decide +kernel
theorem dX0_init_5 : decode cX0_init 5 = .ok (.bipush 16, 2) := by decide +kernel
theorem dX0_init_7 : decode cX0_init 7 = .ok (.newarray .int, 2) := by decide +kernel
theorem dX0_init_9 : decode cX0_init 9 = .ok (.putfield 9, 3) := by decide +kernel
theorem dX0_init_12 : decode cX0_init 12 = .ok (.aload_n 0, 1) := by decide +kernel
theorem dX0_init_13 : decode cX0_init 13 = .ok (.bipush 16, 2) := by decide +kernel
theorem dX0_init_15 : decode cX0_init 15 = .ok (.newarray .int, 2) := by decide +kernel
theorem dX0_init_17 : decode cX0_init 17 = .ok (.putfield 15, 3) := by decide +kernel
theorem dX0_init_20 : decode cX0_init 20 = .ok (.aload_n 0, 1) := by decide +kernel
theorem dX0_init_21 : decode cX0_init 21 = .ok (.bipush 17, 2) := by decide +kernel
theorem dX0_init_23 : decode cX0_init 23 = .ok (.newarray .boolean, 2) := by decide +kernel
theorem dX0_init_25 : decode cX0_init 25 = .ok (.putfield 18, 3) := by decide +kernel
theorem dX0_init_28 : decode cX0_init 28 = .ok (.aload_n 0, 1) := by decide +kernel
theorem dX0_init_29 : decode cX0_init 29 = .ok (.bipush 17, 2) := by decide +kernel
theorem dX0_init_31 : decode cX0_init 31 = .ok (.newarray .int, 2) := by decide +kernel
theorem dX0_init_33 : decode cX0_init 33 = .ok (.putfield 22, 3) := by decide +kernel
theorem dX0_init_36 : decode cX0_init 36 = .ok (.aload_n 0, 1) := by decide +kernel
theorem dX0_init_37 : decode cX0_init 37 = .ok (.iconst 1, 1) := by decide +kernel
theorem dX0_init_38 : decode cX0_init 38 = .ok (.invokevirtual 25, 3) := by decide +kernel
theorem dX0_init_41 : decode cX0_init 41 = .ok (.return_, 1) := by decide +kernel
set_option maxRecDepth 20000 in
theorem ggX0_lay_X0_findLegs : GoodIn wsX0_lay wsX0_findLegs := goodIn_r _ [9, 1, 4, 10, 11, 12, 13, 14, 15, 16, 17] (by decide +kernel) (by decide +kernel)
set_option maxRecDepth 20000 in
theorem gX0_lay_X0_findLegs : GoodIn wsX0_lay (wsV RX0 33 RX0 yX0_findLegs wsX0_findLegs) := goodIn_app (goodIn_of _ (by decide +kernel)) ggX0_lay_X0_findLegs
theorem dX0_lay_0 : decode cX0_lay 0 = .ok (.aload_n 0, 1) := by decide +kernel
theorem dX0_lay_1 : decode cX0_lay 1 = .ok (.iload_n 1, 1) := by decide +kernel
theorem dX0_lay_2 : decode cX0_lay 2 = .ok (.putfield 29, 3) := by decide +kernel
theorem dX0_lay_5 : decode cX0_lay 5 = .ok (.iconst 0, 1) := by decide +kernel
theorem dX0_lay_6 : decode cX0_lay 6 = .ok (.istore_n 2, 1) := by decide +kernel
theorem dX0_lay_7 : decode cX0_lay 7 = .ok (.iload_n 2, 1) := by decide +kernel
theorem dX0_lay_8 : decode cX0_lay 8 = .ok (.bipush 16, 2) := by decide +kernel
theorem dX0_lay_10 : decode cX0_lay 10 = .ok (.if_icmp .ge 24, 3) := by decide +kernel
theorem dX0_lay_13 : decode cX0_lay 13 = .ok (.aload_n 0, 1) := by decide +kernel
theorem dX0_lay_14 : decode cX0_lay 14 = .ok (.getfield 9, 3) := by decide +kernel
theorem dX0_lay_17 : decode cX0_lay 17 = .ok (.iload_n 2, 1) := by decide +kernel
theorem dX0_lay_18 : decode cX0_lay 18 = .ok (.iconst 0, 1) := by decide +kernel
theorem dX0_lay_19 : decode cX0_lay 19 = .ok (.iastore, 1) := by decide +kernel
theorem dX0_lay_20 : decode cX0_lay 20 = .ok (.aload_n 0, 1) := by decide +kernel
theorem dX0_lay_21 : decode cX0_lay 21 = .ok (.getfield 15, 3) := by decide +kernel
theorem dX0_lay_24 : decode cX0_lay 24 = .ok (.iload_n 2, 1) := by decide +kernel
theorem dX0_lay_25 : decode cX0_lay 25 = .ok (.bipush 6, 2) := by decide +kernel
theorem dX0_lay_27 : decode cX0_lay 27 = .ok (.iastore, 1) := by decide +kernel
theorem dX0_lay_28 : decode cX0_lay 28 = .ok (.iinc 2 1, 3) := by decide +kernel
theorem dX0_lay_31 : decode cX0_lay 31 = .ok (.goto (-24), 3) := by decide +kernel
theorem dX0_lay_34 : decode cX0_lay 34 = .ok (.iconst 0, 1) := by decide +kernel
theorem dX0_lay_35 : decode cX0_lay 35 = .ok (.istore_n 2, 1) := by decide +kernel
theorem dX0_lay_36 : decode cX0_lay 36 = .ok (.iload_n 2, 1) := by decide +kernel
theorem dX0_lay_37 : decode cX0_lay 37 = .ok (.bipush 16, 2) := by decide +kernel
theorem dX0_lay_39 : decode cX0_lay 39 = .ok (.if_icmp .gt 29, 3) := by decide +kernel
theorem dX0_lay_42 : decode cX0_lay 42 = .ok (.aload_n 0, 1) := by decide +kernel
theorem dX0_lay_43 : decode cX0_lay 43 = .ok (.getfield 18, 3) := by decide +kernel
theorem dX0_lay_46 : decode cX0_lay 46 = .ok (.iload_n 2, 1) := by decide +kernel
theorem dX0_lay_47 : decode cX0_lay 47 = .ok (.iload_n 2, 1) := by decide +kernel
theorem dX0_lay_48 : decode cX0_lay 48 = .ok (.ifCond .eq 8, 3) := by decide +kernel
theorem dX0_lay_51 : decode cX0_lay 51 = .ok (.iload_n 2, 1) := by decide +kernel
theorem dX0_lay_52 : decode cX0_lay 52 = .ok (.iload_n 1, 1) := by decide +kernel
theorem dX0_lay_53 : decode cX0_lay 53 = .ok (.if_icmp .ne 7, 3) := by decide +kernel
theorem dX0_lay_56 : decode cX0_lay 56 = .ok (.iconst 1, 1) := by decide +kernel
theorem dX0_lay_57 : decode cX0_lay 57 = .ok (.goto 4, 3) := by decide +kernel
theorem dX0_lay_60 : decode cX0_lay 60 = .ok (.iconst 0, 1) := by decide +kernel
theorem dX0_lay_61 : decode cX0_lay 61 = .ok (.bastore, 1) := by decide +kernel
theorem dX0_lay_62 : decode cX0_lay 62 = .ok (.iinc 2 1, 3) := by decide +kernel
theorem dX0_lay_65 : decode cX0_lay 65 = .ok (.goto (-29), 3) := by decide +kernel
theorem dX0_lay_68 : decode cX0_lay 68 = .ok (.aload_n 0, 1) := by decide +kernel
theorem dX0_lay_69 : decode cX0_lay 69 = .ok (.invokevirtual 33, 3) := by decide +kernel
theorem dX0_lay_72 : decode cX0_lay 72 = .ok (.return_, 1) := by decide +kernel
theorem dX0_shape_0 : decode cX0_shape 0 = .ok (.aload_n 0, 1) := by decide +kernel
theorem dX0_shape_1 : decode cX0_shape 1 = .ok (.getfield 9, 3) := by decide +kernel
theorem dX0_shape_4 : decode cX0_shape 4 = .ok (.iload_n 1, 1) := by decide +kernel
theorem dX0_shape_5 : decode cX0_shape 5 = .ok (.iload_n 2, 1) := by decide +kernel
theorem dX0_shape_6 : decode cX0_shape 6 = .ok (.iastore, 1) := by decide +kernel
theorem dX0_shape_7 : decode cX0_shape 7 = .ok (.aload_n 0, 1) := by decide +kernel
theorem dX0_shape_8 : decode cX0_shape 8 = .ok (.getfield 15, 3) := by decide +kernel
theorem dX0_shape_11 : decode cX0_shape 11 = .ok (.iload_n 1, 1) := by decide +kernel
theorem dX0_shape_12 : decode cX0_shape 12 = .ok (.iload_n 3, 1) := by decide +kernel
theorem dX0_shape_13 : decode cX0_shape 13 = .ok (.iastore, 1) := by decide +kernel
theorem dX0_shape_14 : decode cX0_shape 14 = .ok (.return_, 1) := by decide +kernel
set_option maxRecDepth 20000 in
theorem ggX0_markStop_X0_findLegs : GoodIn wsX0_markStop wsX0_findLegs := goodIn_r _ [6, 7, 1, 8, 9, 10, 11, 12, 13, 14, 15] (by decide +kernel) (by decide +kernel)
set_option maxRecDepth 20000 in
theorem gX0_markStop_X0_findLegs : GoodIn wsX0_markStop (wsV RX0 33 RX0 yX0_findLegs wsX0_findLegs) := goodIn_app (goodIn_of _ (by decide +kernel)) ggX0_markStop_X0_findLegs
theorem dX0_markStop_0 : decode cX0_markStop 0 = .ok (.aload_n 0, 1) := by decide +kernel
theorem dX0_markStop_1 : decode cX0_markStop 1 = .ok (.getfield 18, 3) := by decide +kernel
theorem dX0_markStop_4 : decode cX0_markStop 4 = .ok (.iload_n 1, 1) := by decide +kernel
theorem dX0_markStop_5 : decode cX0_markStop 5 = .ok (.iload_n 2, 1) := by decide +kernel
theorem dX0_markStop_6 : decode cX0_markStop 6 = .ok (.bastore, 1) := by decide +kernel
theorem dX0_markStop_7 : decode cX0_markStop 7 = .ok (.aload_n 0, 1) := by decide +kernel
theorem dX0_markStop_8 : decode cX0_markStop 8 = .ok (.invokevirtual 33, 3) := by decide +kernel
theorem dX0_markStop_11 : decode cX0_markStop 11 = .ok (.return_, 1) := by decide +kernel
theorem dX0_findLegs_0 : decode cX0_findLegs 0 = .ok (.iconst 0, 1) := by decide +kernel
theorem dX0_findLegs_1 : decode cX0_findLegs 1 = .ok (.istore_n 1, 1) := by decide +kernel
theorem dX0_findLegs_2 : decode cX0_findLegs 2 = .ok (.iconst 0, 1) := by decide +kernel
theorem dX0_findLegs_3 : decode cX0_findLegs 3 = .ok (.istore_n 2, 1) := by decide +kernel
theorem dX0_findLegs_4 : decode cX0_findLegs 4 = .ok (.iload_n 2, 1) := by decide +kernel
theorem dX0_findLegs_5 : decode cX0_findLegs 5 = .ok (.aload_n 0, 1) := by decide +kernel
theorem dX0_findLegs_6 : decode cX0_findLegs 6 = .ok (.getfield 29, 3) := by decide +kernel
theorem dX0_findLegs_9 : decode cX0_findLegs 9 = .ok (.if_icmp .gt 28, 3) := by decide +kernel
theorem dX0_findLegs_12 : decode cX0_findLegs 12 = .ok (.aload_n 0, 1) := by decide +kernel
theorem dX0_findLegs_13 : decode cX0_findLegs 13 = .ok (.getfield 18, 3) := by decide +kernel
theorem dX0_findLegs_16 : decode cX0_findLegs 16 = .ok (.iload_n 2, 1) := by decide +kernel
theorem dX0_findLegs_17 : decode cX0_findLegs 17 = .ok (.baload, 1) := by decide +kernel
theorem dX0_findLegs_18 : decode cX0_findLegs 18 = .ok (.ifCond .eq 13, 3) := by decide +kernel
theorem dX0_findLegs_21 : decode cX0_findLegs 21 = .ok (.aload_n 0, 1) := by decide +kernel
theorem dX0_findLegs_22 : decode cX0_findLegs 22 = .ok (.getfield 22, 3) := by decide +kernel
theorem dX0_findLegs_25 : decode cX0_findLegs 25 = .ok (.iload_n 1, 1) := by decide +kernel
theorem dX0_findLegs_26 : decode cX0_findLegs 26 = .ok (.iload_n 2, 1) := by decide +kernel
theorem dX0_findLegs_27 : decode cX0_findLegs 27 = .ok (.iastore, 1) := by decide +kernel
theorem dX0_findLegs_28 : decode cX0_findLegs 28 = .ok (.iinc 1 1, 3) := by decide +kernel
theorem dX0_findLegs_31 : decode cX0_findLegs 31 = .ok (.iinc 2 1, 3) := by decide +kernel
theorem dX0_findLegs_34 : decode cX0_findLegs 34 = .ok (.goto (-30), 3) := by decide +kernel
theorem dX0_findLegs_37 : decode cX0_findLegs 37 = .ok (.aload_n 0, 1) := by decide +kernel
theorem dX0_findLegs_38 : decode cX0_findLegs 38 = .ok (.iload_n 1, 1) := by decide +kernel
theorem dX0_findLegs_39 : decode cX0_findLegs 39 = .ok (.iconst 1, 1) := by decide +kernel
theorem dX0_findLegs_40 : decode cX0_findLegs 40 = .ok (.isub, 1) := by decide +kernel
theorem dX0_findLegs_41 : decode cX0_findLegs 41 = .ok (.putfield 36, 3) := by decide +kernel
theorem dX0_findLegs_44 : decode cX0_findLegs 44 = .ok (.return_, 1) := by decide +kernel
theorem dX0_cellCount_0 : decode cX0_cellCount 0 = .ok (.aload_n 0, 1) := by decide +kernel
theorem dX0_cellCount_1 : decode cX0_cellCount 1 = .ok (.getfield 29, 3) := by decide +kernel
theorem dX0_cellCount_4 : decode cX0_cellCount 4 = .ok (.ireturn, 1) := by decide +kernel
theorem dX0_legCount_0 : decode cX0_legCount 0 = .ok (.aload_n 0, 1) := by decide +kernel
theorem dX0_legCount_1 : decode cX0_legCount 1 = .ok (.getfield 36, 3) := by decide +kernel
theorem dX0_legCount_4 : decode cX0_legCount 4 = .ok (.ireturn, 1) := by decide +kernel
theorem dX0_hasCell_0 : decode cX0_hasCell 0 = .ok (.iload_n 1, 1) := by decide +kernel
theorem dX0_hasCell_1 : decode cX0_hasCell 1 = .ok (.ifCond .lt 15, 3) := by decide +kernel
theorem dX0_hasCell_4 : decode cX0_hasCell 4 = .ok (.iload_n 1, 1) := by decide +kernel
theorem dX0_hasCell_5 : decode cX0_hasCell 5 = .ok (.aload_n 0, 1) := by decide +kernel
theorem dX0_hasCell_6 : decode cX0_hasCell 6 = .ok (.getfield 29, 3) := by decide +kernel
theorem dX0_hasCell_9 : decode cX0_hasCell 9 = .ok (.if_icmp .ge 7, 3) := by decide +kernel
theorem dX0_hasCell_12 : decode cX0_hasCell 12 = .ok (.iconst 1, 1) := by decide +kernel
theorem dX0_hasCell_13 : decode cX0_hasCell 13 = .ok (.goto 4, 3) := by decide +kernel
theorem dX0_hasCell_16 : decode cX0_hasCell 16 = .ok (.iconst 0, 1) := by decide +kernel
theorem dX0_hasCell_17 : decode cX0_hasCell 17 = .ok (.ireturn, 1) := by decide +kernel
theorem dX0_hasPost_0 : decode cX0_hasPost 0 = .ok (.iload_n 1, 1) := by decide +kernel
theorem dX0_hasPost_1 : decode cX0_hasPost 1 = .ok (.ifCond .lt 15, 3) := by decide +kernel
theorem dX0_hasPost_4 : decode cX0_hasPost 4 = .ok (.iload_n 1, 1) := by decide +kernel
theorem dX0_hasPost_5 : decode cX0_hasPost 5 = .ok (.aload_n 0, 1) := by decide +kernel
theorem dX0_hasPost_6 : decode cX0_hasPost 6 = .ok (.getfield 29, 3) := by decide +kernel
theorem dX0_hasPost_9 : decode cX0_hasPost 9 = .ok (.if_icmp .gt 7, 3) := by decide +kernel
theorem dX0_hasPost_12 : decode cX0_hasPost 12 = .ok (.iconst 1, 1) := by decide +kernel
theorem dX0_hasPost_13 : decode cX0_hasPost 13 = .ok (.goto 4, 3) := by decide +kernel
theorem dX0_hasPost_16 : decode cX0_hasPost 16 = .ok (.iconst 0, 1) := by decide +kernel
theorem dX0_hasPost_17 : decode cX0_hasPost 17 = .ok (.ireturn, 1) := by decide +kernel
theorem dX0_hasLeg_0 : decode cX0_hasLeg 0 = .ok (.iload_n 1, 1) := by decide +kernel
theorem dX0_hasLeg_1 : decode cX0_hasLeg 1 = .ok (.ifCond .lt 15, 3) := by decide +kernel
theorem dX0_hasLeg_4 : decode cX0_hasLeg 4 = .ok (.iload_n 1, 1) := by decide +kernel
theorem dX0_hasLeg_5 : decode cX0_hasLeg 5 = .ok (.aload_n 0, 1) := by decide +kernel
theorem dX0_hasLeg_6 : decode cX0_hasLeg 6 = .ok (.getfield 36, 3) := by decide +kernel
theorem dX0_hasLeg_9 : decode cX0_hasLeg 9 = .ok (.if_icmp .ge 7, 3) := by decide +kernel
theorem dX0_hasLeg_12 : decode cX0_hasLeg 12 = .ok (.iconst 1, 1) := by decide +kernel
theorem dX0_hasLeg_13 : decode cX0_hasLeg 13 = .ok (.goto 4, 3) := by decide +kernel
theorem dX0_hasLeg_16 : decode cX0_hasLeg 16 = .ok (.iconst 0, 1) := by decide +kernel
theorem dX0_hasLeg_17 : decode cX0_hasLeg 17 = .ok (.ireturn, 1) := by decide +kernel
theorem dX0_isEnd_0 : decode cX0_isEnd 0 = .ok (.iload_n 1, 1) := by decide +kernel
theorem dX0_isEnd_1 : decode cX0_isEnd 1 = .ok (.ifCond .eq 11, 3) := by decide +kernel
theorem dX0_isEnd_4 : decode cX0_isEnd 4 = .ok (.iload_n 1, 1) := by decide +kernel
theorem dX0_isEnd_5 : decode cX0_isEnd 5 = .ok (.aload_n 0, 1) := by decide +kernel
theorem dX0_isEnd_6 : decode cX0_isEnd 6 = .ok (.getfield 29, 3) := by decide +kernel
theorem dX0_isEnd_9 : decode cX0_isEnd 9 = .ok (.if_icmp .ne 7, 3) := by decide +kernel
theorem dX0_isEnd_12 : decode cX0_isEnd 12 = .ok (.iconst 1, 1) := by decide +kernel
theorem dX0_isEnd_13 : decode cX0_isEnd 13 = .ok (.goto 4, 3) := by decide +kernel
theorem dX0_isEnd_16 : decode cX0_isEnd 16 = .ok (.iconst 0, 1) := by decide +kernel
theorem dX0_isEnd_17 : decode cX0_isEnd 17 = .ok (.ireturn, 1) := by decide +kernel
theorem dX0_isStop_0 : decode cX0_isStop 0 = .ok (.aload_n 0, 1) := by decide +kernel
theorem dX0_isStop_1 : decode cX0_isStop 1 = .ok (.getfield 18, 3) := by decide +kernel
theorem dX0_isStop_4 : decode cX0_isStop 4 = .ok (.iload_n 1, 1) := by decide +kernel
theorem dX0_isStop_5 : decode cX0_isStop 5 = .ok (.baload, 1) := by decide +kernel
theorem dX0_isStop_6 : decode cX0_isStop 6 = .ok (.ireturn, 1) := by decide +kernel
theorem dX0_gradeOf_0 : decode cX0_gradeOf 0 = .ok (.aload_n 0, 1) := by decide +kernel
theorem dX0_gradeOf_1 : decode cX0_gradeOf 1 = .ok (.getfield 9, 3) := by decide +kernel
theorem dX0_gradeOf_4 : decode cX0_gradeOf 4 = .ok (.iload_n 1, 1) := by decide +kernel
theorem dX0_gradeOf_5 : decode cX0_gradeOf 5 = .ok (.iaload, 1) := by decide +kernel
theorem dX0_gradeOf_6 : decode cX0_gradeOf 6 = .ok (.ireturn, 1) := by decide +kernel
theorem dX0_limitOf_0 : decode cX0_limitOf 0 = .ok (.aload_n 0, 1) := by decide +kernel
theorem dX0_limitOf_1 : decode cX0_limitOf 1 = .ok (.getfield 15, 3) := by decide +kernel
theorem dX0_limitOf_4 : decode cX0_limitOf 4 = .ok (.iload_n 1, 1) := by decide +kernel
theorem dX0_limitOf_5 : decode cX0_limitOf 5 = .ok (.iaload, 1) := by decide +kernel
theorem dX0_limitOf_6 : decode cX0_limitOf 6 = .ok (.ireturn, 1) := by decide +kernel
theorem dX0_firstPost_0 : decode cX0_firstPost 0 = .ok (.aload_n 0, 1) := by decide +kernel
theorem dX0_firstPost_1 : decode cX0_firstPost 1 = .ok (.getfield 22, 3) := by decide +kernel
theorem dX0_firstPost_4 : decode cX0_firstPost 4 = .ok (.iload_n 1, 1) := by decide +kernel
theorem dX0_firstPost_5 : decode cX0_firstPost 5 = .ok (.iaload, 1) := by decide +kernel
theorem dX0_firstPost_6 : decode cX0_firstPost 6 = .ok (.ireturn, 1) := by decide +kernel
theorem dX0_lastPost_0 : decode cX0_lastPost 0 = .ok (.aload_n 0, 1) := by decide +kernel
theorem dX0_lastPost_1 : decode cX0_lastPost 1 = .ok (.getfield 22, 3) := by decide +kernel
theorem dX0_lastPost_4 : decode cX0_lastPost 4 = .ok (.iload_n 1, 1) := by decide +kernel
theorem dX0_lastPost_5 : decode cX0_lastPost 5 = .ok (.iconst 1, 1) := by decide +kernel
theorem dX0_lastPost_6 : decode cX0_lastPost 6 = .ok (.iadd, 1) := by decide +kernel
theorem dX0_lastPost_7 : decode cX0_lastPost 7 = .ok (.iaload, 1) := by decide +kernel
theorem dX0_lastPost_8 : decode cX0_lastPost 8 = .ok (.ireturn, 1) := by decide +kernel
theorem dX1_init_0 : decode cX1_init 0 = .ok (.aload_n 0, 1) := by decide +kernel
theorem dX1_init_1 : decode cX1_init 1 = .ok (.invokespecial 3, 3) := by decide +kernel
theorem dX1_init_4 : decode cX1_init 4 = .ok (.aload_n 0, 1) := by decide +kernel
theorem dX1_init_5 : decode cX1_init 5 = .ok (.bipush 17, 2) := by decide +kernel
theorem dX1_init_7 : decode cX1_init 7 = .ok (.newarray .int, 2) := by decide +kernel
theorem dX1_init_9 : decode cX1_init 9 = .ok (.putfield 9, 3) := by decide +kernel
theorem dX1_init_12 : decode cX1_init 12 = .ok (.aload_n 0, 1) := by decide +kernel
theorem dX1_init_13 : decode cX1_init 13 = .ok (.iconst 0, 1) := by decide +kernel
theorem dX1_init_14 : decode cX1_init 14 = .ok (.putfield 15, 3) := by decide +kernel
theorem dX1_init_17 : decode cX1_init 17 = .ok (.aload_n 0, 1) := by decide +kernel
theorem dX1_init_18 : decode cX1_init 18 = .ok (.aload_n 1, 1) := by decide +kernel
theorem dX1_init_19 : decode cX1_init 19 = .ok (.putfield 19, 3) := by decide +kernel
theorem dX1_init_22 : decode cX1_init 22 = .ok (.aload_n 0, 1) := by decide +kernel
theorem dX1_init_23 : decode cX1_init 23 = .ok (.aload_n 2, 1) := by decide +kernel
theorem dX1_init_24 : decode cX1_init 24 = .ok (.putfield 23, 3) := by decide +kernel
theorem dX1_init_27 : decode cX1_init 27 = .ok (.return_, 1) := by decide +kernel
theorem dX1_size_0 : decode cX1_size 0 = .ok (.aload_n 0, 1) := by decide +kernel
theorem dX1_size_1 : decode cX1_size 1 = .ok (.getfield 15, 3) := by decide +kernel
theorem dX1_size_4 : decode cX1_size 4 = .ok (.ireturn, 1) := by decide +kernel
set_option maxRecDepth 20000 in
theorem ggX1_isFull_X0_cellCount : GoodIn wsX1_isFull wsX0_cellCount := goodIn_r _ [7, 8, 13, 14, 15, 16, 17, 18] (by decide +kernel) (by decide +kernel)
set_option maxRecDepth 20000 in
theorem gX1_isFull_X0_cellCount : GoodIn wsX1_isFull (wsV RX1 27 RX0 yX0_cellCount wsX0_cellCount) := goodIn_app (goodIn_of _ (by decide +kernel)) ggX1_isFull_X0_cellCount
theorem dX1_isFull_0 : decode cX1_isFull 0 = .ok (.aload_n 0, 1) := by decide +kernel
theorem dX1_isFull_1 : decode cX1_isFull 1 = .ok (.getfield 15, 3) := by decide +kernel
theorem dX1_isFull_4 : decode cX1_isFull 4 = .ok (.aload_n 0, 1) := by decide +kernel
theorem dX1_isFull_5 : decode cX1_isFull 5 = .ok (.getfield 19, 3) := by decide +kernel
theorem dX1_isFull_8 : decode cX1_isFull 8 = .ok (.invokevirtual 27, 3) := by decide +kernel
theorem dX1_isFull_11 : decode cX1_isFull 11 = .ok (.if_icmp .le 7, 3) := by decide +kernel
theorem dX1_isFull_14 : decode cX1_isFull 14 = .ok (.iconst 1, 1) := by decide +kernel
theorem dX1_isFull_15 : decode cX1_isFull 15 = .ok (.goto 4, 3) := by decide +kernel
theorem dX1_isFull_18 : decode cX1_isFull 18 = .ok (.iconst 0, 1) := by decide +kernel
theorem dX1_isFull_19 : decode cX1_isFull 19 = .ok (.ireturn, 1) := by decide +kernel
theorem dX1_add_0 : decode cX1_add 0 = .ok (.aload_n 0, 1) := by decide +kernel
theorem dX1_add_1 : decode cX1_add 1 = .ok (.getfield 9, 3) := by decide +kernel
theorem dX1_add_4 : decode cX1_add 4 = .ok (.aload_n 0, 1) := by decide +kernel
theorem dX1_add_5 : decode cX1_add 5 = .ok (.getfield 15, 3) := by decide +kernel
theorem dX1_add_8 : decode cX1_add 8 = .ok (.iload_n 1, 1) := by decide +kernel
theorem dX1_add_9 : decode cX1_add 9 = .ok (.iastore, 1) := by decide +kernel
theorem dX1_add_10 : decode cX1_add 10 = .ok (.aload_n 0, 1) := by decide +kernel
theorem dX1_add_11 : decode cX1_add 11 = .ok (.dup, 1) := by decide +kernel
theorem dX1_add_12 : decode cX1_add 12 = .ok (.getfield 15, 3) := by decide +kernel
theorem dX1_add_15 : decode cX1_add 15 = .ok (.iconst 1, 1) := by decide +kernel
theorem dX1_add_16 : decode cX1_add 16 = .ok (.iadd, 1) := by decide +kernel
theorem dX1_add_17 : decode cX1_add 17 = .ok (.putfield 15, 3) := by decide +kernel
theorem dX1_add_20 : decode cX1_add 20 = .ok (.return_, 1) := by decide +kernel
theorem dX1_wipe_0 : decode cX1_wipe 0 = .ok (.aload_n 0, 1) := by decide +kernel
theorem dX1_wipe_1 : decode cX1_wipe 1 = .ok (.iconst 0, 1) := by decide +kernel
theorem dX1_wipe_2 : decode cX1_wipe 2 = .ok (.putfield 15, 3) := by decide +kernel
theorem dX1_wipe_5 : decode cX1_wipe 5 = .ok (.return_, 1) := by decide +kernel
set_option maxRecDepth 20000 in
theorem ggX1_isFaulty_X3_faultOf : GoodIn wsX1_isFaulty wsX3_faultOf := goodIn_r _ [7, 8, 9, 10, 11, 12, 13, 14, 15, 16, 17, 18, 19, 20, 21, 22, 23, 24, 25, 6, 26, 27, 28, 29, 30, 31, 32, 33, 34, 35, 36, 37, 42, 43, 44, 45, 46, 47, 48, 49, 50] (by decide +kernel) (by decide +kernel)
set_option maxRecDepth 20000 in
theorem gX1_isFaulty_X3_faultOf : GoodIn wsX1_isFaulty (wsV RX1 33 RX3 yX3_faultOf wsX3_faultOf) := goodIn_app (goodIn_of _ (by decide +kernel)) ggX1_isFaulty_X3_faultOf
theorem dX1_isFaulty_0 : decode cX1_isFaulty 0 = .ok (.aload_n 0, 1) := by decide +kernel
theorem dX1_isFaulty_1 : decode cX1_isFaulty 1 = .ok (.getfield 23, 3) := by decide +kernel
theorem dX1_isFaulty_4 : decode cX1_isFaulty 4 = .ok (.iload_n 1, 1) := by decide +kernel
theorem dX1_isFaulty_5 : decode cX1_isFaulty 5 = .ok (.aload_n 0, 1) := by decide +kernel
theorem dX1_isFaulty_6 : decode cX1_isFaulty 6 = .ok (.getfield 9, 3) := by decide +kernel
theorem dX1_isFaulty_9 : decode cX1_isFaulty 9 = .ok (.iload_n 1, 1) := by decide +kernel
theorem dX1_isFaulty_10 : decode cX1_isFaulty 10 = .ok (.iaload, 1) := by decide +kernel
theorem dX1_isFaulty_11 : decode cX1_isFaulty 11 = .ok (.aload_n 0, 1) := by decide +kernel
theorem dX1_isFaulty_12 : decode cX1_isFaulty 12 = .ok (.getfield 9, 3) := by decide +kernel
theorem dX1_isFaulty_15 : decode cX1_isFaulty 15 = .ok (.iload_n 1, 1) := by decide +kernel
theorem dX1_isFaulty_16 : decode cX1_isFaulty 16 = .ok (.iconst 1, 1) := by decide +kernel
theorem dX1_isFaulty_17 : decode cX1_isFaulty 17 = .ok (.iadd, 1) := by decide +kernel
theorem dX1_isFaulty_18 : decode cX1_isFaulty 18 = .ok (.iaload, 1) := by decide +kernel
theorem dX1_isFaulty_19 : decode cX1_isFaulty 19 = .ok (.invokevirtual 33, 3) := by decide +kernel
theorem dX1_isFaulty_22 : decode cX1_isFaulty 22 = .ok (.ifCond .eq 7, 3) := by decide +kernel
theorem dX1_isFaulty_25 : decode cX1_isFaulty 25 = .ok (.iconst 1, 1) := by decide +kernel
theorem dX1_isFaulty_26 : decode cX1_isFaulty 26 = .ok (.goto 4, 3) := by decide +kernel
theorem dX1_isFaulty_29 : decode cX1_isFaulty 29 = .ok (.iconst 0, 1) := by decide +kernel
theorem dX1_isFaulty_30 : decode cX1_isFaulty 30 = .ok (.ireturn, 1) := by decide +kernel
set_option maxRecDepth 20000 in
theorem ggX1_timeTogether_X1_isFaulty : GoodIn wsX1_timeTogether wsX1_isFaulty := goodIn_r _ [8, 2, 3, 9, 10, 11, 12, 13, 14, 15, 16, 17, 18, 19, 20, 21, 22, 23, 24, 25, 26, 27, 28, 29, 30, 31, 32, 33, 34, 35, 36, 37, 38, 39, 40, 41, 42, 43, 48, 49, 50, 51, 52, 53, 54, 55, 56, 57, 58, 59, 60] (by decide +kernel) (by decide +kernel)
set_option maxRecDepth 20000 in
theorem gX1_timeTogether_X1_isFaulty : GoodIn wsX1_timeTogether (wsV RX1 39 RX1 yX1_isFaulty wsX1_isFaulty) := goodIn_app (goodIn_of _ (by decide +kernel)) ggX1_timeTogether_X1_isFaulty
set_option maxRecDepth 20000 in
theorem ggX1_timeTogether_X3_timeOf : GoodIn wsX1_timeTogether wsX3_timeOf := goodIn_r _ [47] (by decide +kernel) (by decide +kernel)
set_option maxRecDepth 20000 in
theorem gX1_timeTogether_X3_timeOf : GoodIn wsX1_timeTogether (wsV RX1 43 RX3 yX3_timeOf wsX3_timeOf) := goodIn_app (goodIn_of _ (by decide +kernel)) ggX1_timeTogether_X3_timeOf
theorem dX1_timeTogether_0 : decode cX1_timeTogether 0 = .ok (.iconst 0, 1) := by decide +kernel
theorem dX1_timeTogether_1 : decode cX1_timeTogether 1 = .ok (.istore_n 1, 1) := by decide +kernel
theorem dX1_timeTogether_2 : decode cX1_timeTogether 2 = .ok (.iconst 0, 1) := by decide +kernel
theorem dX1_timeTogether_3 : decode cX1_timeTogether 3 = .ok (.istore_n 2, 1) := by decide +kernel
theorem dX1_timeTogether_4 : decode cX1_timeTogether 4 = .ok (.iload_n 2, 1) := by decide +kernel
theorem dX1_timeTogether_5 : decode cX1_timeTogether 5 = .ok (.iconst 1, 1) := by decide +kernel
theorem dX1_timeTogether_6 : decode cX1_timeTogether 6 = .ok (.iadd, 1) := by decide +kernel
theorem dX1_timeTogether_7 : decode cX1_timeTogether 7 = .ok (.aload_n 0, 1) := by decide +kernel
theorem dX1_timeTogether_8 : decode cX1_timeTogether 8 = .ok (.getfield 15, 3) := by decide +kernel
theorem dX1_timeTogether_11 : decode cX1_timeTogether 11 = .ok (.if_icmp .ge 45, 3) := by decide +kernel
theorem dX1_timeTogether_14 : decode cX1_timeTogether 14 = .ok (.iload_n 1, 1) := by decide +kernel
theorem dX1_timeTogether_15 : decode cX1_timeTogether 15 = .ok (.aload_n 0, 1) := by decide +kernel
theorem dX1_timeTogether_16 : decode cX1_timeTogether 16 = .ok (.iload_n 2, 1) := by decide +kernel
theorem dX1_timeTogether_17 : decode cX1_timeTogether 17 = .ok (.invokevirtual 39, 3) := by decide +kernel
theorem dX1_timeTogether_20 : decode cX1_timeTogether 20 = .ok (.ifCond .eq 7, 3) := by decide +kernel
theorem dX1_timeTogether_23 : decode cX1_timeTogether 23 = .ok (.iconst 0, 1) := by decide +kernel
theorem dX1_timeTogether_24 : decode cX1_timeTogether 24 = .ok (.goto 24, 3) := by decide +kernel
theorem dX1_timeTogether_27 : decode cX1_timeTogether 27 = .ok (.aload_n 0, 1) := by decide +kernel
theorem dX1_timeTogether_28 : decode cX1_timeTogether 28 = .ok (.getfield 23, 3) := by decide +kernel
theorem dX1_timeTogether_31 : decode cX1_timeTogether 31 = .ok (.aload_n 0, 1) := by decide +kernel
theorem dX1_timeTogether_32 : decode cX1_timeTogether 32 = .ok (.getfield 9, 3) := by decide +kernel
theorem dX1_timeTogether_35 : decode cX1_timeTogether 35 = .ok (.iload_n 2, 1) := by decide +kernel
theorem dX1_timeTogether_36 : decode cX1_timeTogether 36 = .ok (.iaload, 1) := by decide +kernel
theorem dX1_timeTogether_37 : decode cX1_timeTogether 37 = .ok (.aload_n 0, 1) := by decide +kernel
theorem dX1_timeTogether_38 : decode cX1_timeTogether 38 = .ok (.getfield 9, 3) := by decide +kernel
theorem dX1_timeTogether_41 : decode cX1_timeTogether 41 = .ok (.iload_n 2, 1) := by decide +kernel
theorem dX1_timeTogether_42 : decode cX1_timeTogether 42 = .ok (.iconst 1, 1) := by decide +kernel
theorem dX1_timeTogether_43 : decode cX1_timeTogether 43 = .ok (.iadd, 1) := by decide +kernel
theorem dX1_timeTogether_44 : decode cX1_timeTogether 44 = .ok (.iaload, 1) := by decide +kernel
theorem dX1_timeTogether_45 : decode cX1_timeTogether 45 = .ok (.invokevirtual 43, 3) := by decide +kernel
theorem dX1_timeTogether_48 : decode cX1_timeTogether 48 = .ok (.iadd, 1) := by decide +kernel
theorem dX1_timeTogether_49 : decode cX1_timeTogether 49 = .ok (.istore_n 1, 1) := by decide +kernel
theorem dX1_timeTogether_50 : decode cX1_timeTogether 50 = .ok (.iinc 2 1, 3) := by decide +kernel
theorem dX1_timeTogether_53 : decode cX1_timeTogether 53 = .ok (.goto (-49), 3) := by decide +kernel
theorem dX1_timeTogether_56 : decode cX1_timeTogether 56 = .ok (.iload_n 1, 1) := by decide +kernel
theorem dX1_timeTogether_57 : decode cX1_timeTogether 57 = .ok (.ireturn, 1) := by decide +kernel
set_option maxRecDepth 20000 in
theorem ggX1_powerTogether_X1_isFaulty : GoodIn wsX1_powerTogether wsX1_isFaulty := goodIn_r _ [8, 2, 3, 9, 10, 11, 12, 13, 14, 15, 16, 17, 18, 19, 20, 21, 22, 23, 24, 25, 26, 27, 28, 29, 30, 31, 32, 33, 34, 35, 36, 37, 38, 39, 40, 41, 42, 43, 48, 49, 50, 51, 52, 53, 54, 55, 56, 57, 58, 59, 60] (by decide +kernel) (by decide +kernel)
set_option maxRecDepth 20000 in
theorem gX1_powerTogether_X1_isFaulty : GoodIn wsX1_powerTogether (wsV RX1 39 RX1 yX1_isFaulty wsX1_isFaulty) := goodIn_app (goodIn_of _ (by decide +kernel)) ggX1_powerTogether_X1_isFaulty
set_option maxRecDepth 20000 in
theorem ggX1_powerTogether_X3_powerOf : GoodIn wsX1_powerTogether wsX3_powerOf := goodIn_r _ [47, 22, 29, 30, 31, 12, 32, 18, 33, 34, 35, 36, 37, 38, 39, 40, 41, 26, 42, 43, 52, 53, 60, 54, 55, 56, 57, 58, 59] (by decide +kernel) (by decide +kernel)
set_option maxRecDepth 20000 in
theorem gX1_powerTogether_X3_powerOf : GoodIn wsX1_powerTogether (wsV RX1 47 RX3 yX3_powerOf wsX3_powerOf) := goodIn_app (goodIn_of _ (by decide +kernel)) ggX1_powerTogether_X3_powerOf
theorem dX1_powerTogether_0 : decode cX1_powerTogether 0 = .ok (.iconst 0, 1) := by decide +kernel
theorem dX1_powerTogether_1 : decode cX1_powerTogether 1 = .ok (.istore_n 1, 1) := by decide +kernel
theorem dX1_powerTogether_2 : decode cX1_powerTogether 2 = .ok (.iconst 0, 1) := by decide +kernel
theorem dX1_powerTogether_3 : decode cX1_powerTogether 3 = .ok (.istore_n 2, 1) := by decide +kernel
theorem dX1_powerTogether_4 : decode cX1_powerTogether 4 = .ok (.iload_n 2, 1) := by decide +kernel
theorem dX1_powerTogether_5 : decode cX1_powerTogether 5 = .ok (.iconst 1, 1) := by decide +kernel
theorem dX1_powerTogether_6 : decode cX1_powerTogether 6 = .ok (.iadd, 1) := by decide +kernel
theorem dX1_powerTogether_7 : decode cX1_powerTogether 7 = .ok (.aload_n 0, 1) := by decide +kernel
theorem dX1_powerTogether_8 : decode cX1_powerTogether 8 = .ok (.getfield 15, 3) := by decide +kernel
theorem dX1_powerTogether_11 : decode cX1_powerTogether 11 = .ok (.if_icmp .ge 46, 3) := by decide +kernel
theorem dX1_powerTogether_14 : decode cX1_powerTogether 14 = .ok (.iload_n 1, 1) := by decide +kernel
theorem dX1_powerTogether_15 : decode cX1_powerTogether 15 = .ok (.aload_n 0, 1) := by decide +kernel
theorem dX1_powerTogether_16 : decode cX1_powerTogether 16 = .ok (.iload_n 2, 1) := by decide +kernel
theorem dX1_powerTogether_17 : decode cX1_powerTogether 17 = .ok (.invokevirtual 39, 3) := by decide +kernel
theorem dX1_powerTogether_20 : decode cX1_powerTogether 20 = .ok (.ifCond .eq 7, 3) := by decide +kernel
theorem dX1_powerTogether_23 : decode cX1_powerTogether 23 = .ok (.iconst 0, 1) := by decide +kernel
theorem dX1_powerTogether_24 : decode cX1_powerTogether 24 = .ok (.goto 25, 3) := by decide +kernel
theorem dX1_powerTogether_27 : decode cX1_powerTogether 27 = .ok (.aload_n 0, 1) := by decide +kernel
theorem dX1_powerTogether_28 : decode cX1_powerTogether 28 = .ok (.getfield 23, 3) := by decide +kernel
theorem dX1_powerTogether_31 : decode cX1_powerTogether 31 = .ok (.iload_n 2, 1) := by decide +kernel
theorem dX1_powerTogether_32 : decode cX1_powerTogether 32 = .ok (.aload_n 0, 1) := by decide +kernel
theorem dX1_powerTogether_33 : decode cX1_powerTogether 33 = .ok (.getfield 9, 3) := by decide +kernel
theorem dX1_powerTogether_36 : decode cX1_powerTogether 36 = .ok (.iload_n 2, 1) := by decide +kernel
theorem dX1_powerTogether_37 : decode cX1_powerTogether 37 = .ok (.iaload, 1) := by decide +kernel
theorem dX1_powerTogether_38 : decode cX1_powerTogether 38 = .ok (.aload_n 0, 1) := by decide +kernel
theorem dX1_powerTogether_39 : decode cX1_powerTogether 39 = .ok (.getfield 9, 3) := by decide +kernel
theorem dX1_powerTogether_42 : decode cX1_powerTogether 42 = .ok (.iload_n 2, 1) := by decide +kernel
theorem dX1_powerTogether_43 : decode cX1_powerTogether 43 = .ok (.iconst 1, 1) := by decide +kernel
theorem dX1_powerTogether_44 : decode cX1_powerTogether 44 = .ok (.iadd, 1) := by decide +kernel
theorem dX1_powerTogether_45 : decode cX1_powerTogether 45 = .ok (.iaload, 1) := by decide +kernel
theorem dX1_powerTogether_46 : decode cX1_powerTogether 46 = .ok (.invokevirtual 47, 3) := by decide +kernel
theorem dX1_powerTogether_49 : decode cX1_powerTogether 49 = .ok (.iadd, 1) := by decide +kernel
theorem dX1_powerTogether_50 : decode cX1_powerTogether 50 = .ok (.istore_n 1, 1) := by decide +kernel
theorem dX1_powerTogether_51 : decode cX1_powerTogether 51 = .ok (.iinc 2 1, 3) := by decide +kernel
theorem dX1_powerTogether_54 : decode cX1_powerTogether 54 = .ok (.goto (-50), 3) := by decide +kernel
theorem dX1_powerTogether_57 : decode cX1_powerTogether 57 = .ok (.iload_n 1, 1) := by decide +kernel
theorem dX1_powerTogether_58 : decode cX1_powerTogether 58 = .ok (.ireturn, 1) := by decide +kernel
set_option maxRecDepth 20000 in
theorem ggX1_faultCount_X1_isFaulty : GoodIn wsX1_faultCount wsX1_isFaulty := goodIn_r _ [6, 7, 8, 9, 10, 11, 12, 13, 14, 15, 16, 17, 18, 19, 20, 21, 22, 23, 24, 25, 26, 27, 28, 29, 30, 31, 32, 33, 34, 35, 36, 37, 38, 39, 40, 41, 42, 43, 44, 45, 46, 47, 48, 49, 50, 51, 52, 53, 54, 55, 56] (by decide +kernel) (by decide +kernel)
set_option maxRecDepth 20000 in
theorem gX1_faultCount_X1_isFaulty : GoodIn wsX1_faultCount (wsV RX1 39 RX1 yX1_isFaulty wsX1_isFaulty) := goodIn_app (goodIn_of _ (by decide +kernel)) ggX1_faultCount_X1_isFaulty
theorem dX1_faultCount_0 : decode cX1_faultCount 0 = .ok (.iconst 0, 1) := by decide +kernel
theorem dX1_faultCount_1 : decode cX1_faultCount 1 = .ok (.istore_n 1, 1) := by decide +kernel
theorem dX1_faultCount_2 : decode cX1_faultCount 2 = .ok (.iconst 0, 1) := by decide +kernel
theorem dX1_faultCount_3 : decode cX1_faultCount 3 = .ok (.istore_n 2, 1) := by decide +kernel
theorem dX1_faultCount_4 : decode cX1_faultCount 4 = .ok (.iload_n 2, 1) := by decide +kernel
theorem dX1_faultCount_5 : decode cX1_faultCount 5 = .ok (.iconst 1, 1) := by decide +kernel
theorem dX1_faultCount_6 : decode cX1_faultCount 6 = .ok (.iadd, 1) := by decide +kernel
theorem dX1_faultCount_7 : decode cX1_faultCount 7 = .ok (.aload_n 0, 1) := by decide +kernel
theorem dX1_faultCount_8 : decode cX1_faultCount 8 = .ok (.getfield 15, 3) := by decide +kernel
theorem dX1_faultCount_11 : decode cX1_faultCount 11 = .ok (.if_icmp .ge 25, 3) := by decide +kernel
theorem dX1_faultCount_14 : decode cX1_faultCount 14 = .ok (.iload_n 1, 1) := by decide +kernel
theorem dX1_faultCount_15 : decode cX1_faultCount 15 = .ok (.aload_n 0, 1) := by decide +kernel
theorem dX1_faultCount_16 : decode cX1_faultCount 16 = .ok (.iload_n 2, 1) := by decide +kernel
theorem dX1_faultCount_17 : decode cX1_faultCount 17 = .ok (.invokevirtual 39, 3) := by decide +kernel
theorem dX1_faultCount_20 : decode cX1_faultCount 20 = .ok (.ifCond .eq 7, 3) := by decide +kernel
theorem dX1_faultCount_23 : decode cX1_faultCount 23 = .ok (.iconst 1, 1) := by decide +kernel
theorem dX1_faultCount_24 : decode cX1_faultCount 24 = .ok (.goto 4, 3) := by decide +kernel
theorem dX1_faultCount_27 : decode cX1_faultCount 27 = .ok (.iconst 0, 1) := by decide +kernel
theorem dX1_faultCount_28 : decode cX1_faultCount 28 = .ok (.iadd, 1) := by decide +kernel
theorem dX1_faultCount_29 : decode cX1_faultCount 29 = .ok (.istore_n 1, 1) := by decide +kernel
theorem dX1_faultCount_30 : decode cX1_faultCount 30 = .ok (.iinc 2 1, 3) := by decide +kernel
theorem dX1_faultCount_33 : decode cX1_faultCount 33 = .ok (.goto (-29), 3) := by decide +kernel
theorem dX1_faultCount_36 : decode cX1_faultCount 36 = .ok (.iload_n 1, 1) := by decide +kernel
theorem dX1_faultCount_37 : decode cX1_faultCount 37 = .ok (.ireturn, 1) := by decide +kernel
set_option maxRecDepth 20000 in
theorem ggX1_firstFaultCell_X1_isFaulty : GoodIn wsX1_firstFaultCell wsX1_isFaulty := goodIn_r _ [7, 8, 9, 10, 11, 12, 13, 14, 15, 16, 17, 18, 19, 20, 21, 22, 23, 24, 25, 26, 27, 28, 29, 30, 31, 32, 33, 34, 35, 36, 37, 38, 39, 40, 41, 42, 43, 44, 45, 46, 47, 48, 49, 50, 51, 52, 53, 54, 55, 56, 57] (by decide +kernel) (by decide +kernel)
set_option maxRecDepth 20000 in
theorem gX1_firstFaultCell_X1_isFaulty : GoodIn wsX1_firstFaultCell (wsV RX1 39 RX1 yX1_isFaulty wsX1_isFaulty) := goodIn_app (goodIn_of _ (by decide +kernel)) ggX1_firstFaultCell_X1_isFaulty
theorem dX1_firstFaultCell_0 : decode cX1_firstFaultCell 0 = .ok (.iconst 0, 1) := by decide +kernel
theorem dX1_firstFaultCell_1 : decode cX1_firstFaultCell 1 = .ok (.istore_n 1, 1) := by decide +kernel
theorem dX1_firstFaultCell_2 : decode cX1_firstFaultCell 2 = .ok (.iload_n 1, 1) := by decide +kernel
theorem dX1_firstFaultCell_3 : decode cX1_firstFaultCell 3 = .ok (.iconst 1, 1) := by decide +kernel
theorem dX1_firstFaultCell_4 : decode cX1_firstFaultCell 4 = .ok (.iadd, 1) := by decide +kernel
theorem dX1_firstFaultCell_5 : decode cX1_firstFaultCell 5 = .ok (.aload_n 0, 1) := by decide +kernel
theorem dX1_firstFaultCell_6 : decode cX1_firstFaultCell 6 = .ok (.getfield 15, 3) := by decide +kernel
theorem dX1_firstFaultCell_9 : decode cX1_firstFaultCell 9 = .ok (.if_icmp .ge 19, 3) := by decide +kernel
theorem dX1_firstFaultCell_12 : decode cX1_firstFaultCell 12 = .ok (.aload_n 0, 1) := by decide +kernel
theorem dX1_firstFaultCell_13 : decode cX1_firstFaultCell 13 = .ok (.iload_n 1, 1) := by decide +kernel
theorem dX1_firstFaultCell_14 : decode cX1_firstFaultCell 14 = .ok (.invokevirtual 39, 3) := by decide +kernel
theorem dX1_firstFaultCell_17 : decode cX1_firstFaultCell 17 = .ok (.ifCond .eq 5, 3) := by decide +kernel
theorem dX1_firstFaultCell_20 : decode cX1_firstFaultCell 20 = .ok (.iload_n 1, 1) := by decide +kernel
theorem dX1_firstFaultCell_21 : decode cX1_firstFaultCell 21 = .ok (.ireturn, 1) := by decide +kernel
theorem dX1_firstFaultCell_22 : decode cX1_firstFaultCell 22 = .ok (.iinc 1 1, 3) := by decide +kernel
theorem dX1_firstFaultCell_25 : decode cX1_firstFaultCell 25 = .ok (.goto (-23), 3) := by decide +kernel
theorem dX1_firstFaultCell_28 : decode cX1_firstFaultCell 28 = .ok (.ldc 50, 2) := by decide +kernel
theorem dX1_firstFaultCell_30 : decode cX1_firstFaultCell 30 = .ok (.ireturn, 1) := by decide +kernel
set_option maxRecDepth 20000 in
theorem ggX1_stopsPassed_X0_isStop : GoodIn wsX1_stopsPassed wsX0_isStop := goodIn_r _ [8, 9, 14, 15, 16, 17, 18, 19] (by decide +kernel) (by decide +kernel)
set_option maxRecDepth 20000 in
theorem gX1_stopsPassed_X0_isStop : GoodIn wsX1_stopsPassed (wsV RX1 51 RX0 yX0_isStop wsX0_isStop) := goodIn_app (goodIn_of _ (by decide +kernel)) ggX1_stopsPassed_X0_isStop
theorem dX1_stopsPassed_0 : decode cX1_stopsPassed 0 = .ok (.iconst 0, 1) := by decide +kernel
theorem dX1_stopsPassed_1 : decode cX1_stopsPassed 1 = .ok (.istore_n 1, 1) := by decide +kernel
theorem dX1_stopsPassed_2 : decode cX1_stopsPassed 2 = .ok (.iconst 0, 1) := by decide +kernel
theorem dX1_stopsPassed_3 : decode cX1_stopsPassed 3 = .ok (.istore_n 2, 1) := by decide +kernel
theorem dX1_stopsPassed_4 : decode cX1_stopsPassed 4 = .ok (.iload_n 2, 1) := by decide +kernel
theorem dX1_stopsPassed_5 : decode cX1_stopsPassed 5 = .ok (.aload_n 0, 1) := by decide +kernel
theorem dX1_stopsPassed_6 : decode cX1_stopsPassed 6 = .ok (.getfield 15, 3) := by decide +kernel
theorem dX1_stopsPassed_9 : decode cX1_stopsPassed 9 = .ok (.if_icmp .ge 37, 3) := by decide +kernel
theorem dX1_stopsPassed_12 : decode cX1_stopsPassed 12 = .ok (.iload_n 1, 1) := by decide +kernel
theorem dX1_stopsPassed_13 : decode cX1_stopsPassed 13 = .ok (.aload_n 0, 1) := by decide +kernel
theorem dX1_stopsPassed_14 : decode cX1_stopsPassed 14 = .ok (.getfield 19, 3) := by decide +kernel
theorem dX1_stopsPassed_17 : decode cX1_stopsPassed 17 = .ok (.iload_n 2, 1) := by decide +kernel
theorem dX1_stopsPassed_18 : decode cX1_stopsPassed 18 = .ok (.invokevirtual 51, 3) := by decide +kernel
theorem dX1_stopsPassed_21 : decode cX1_stopsPassed 21 = .ok (.ifCond .eq 16, 3) := by decide +kernel
theorem dX1_stopsPassed_24 : decode cX1_stopsPassed 24 = .ok (.aload_n 0, 1) := by decide +kernel
theorem dX1_stopsPassed_25 : decode cX1_stopsPassed 25 = .ok (.getfield 9, 3) := by decide +kernel
theorem dX1_stopsPassed_28 : decode cX1_stopsPassed 28 = .ok (.iload_n 2, 1) := by decide +kernel
theorem dX1_stopsPassed_29 : decode cX1_stopsPassed 29 = .ok (.iaload, 1) := by decide +kernel
theorem dX1_stopsPassed_30 : decode cX1_stopsPassed 30 = .ok (.ifCond .eq 7, 3) := by decide +kernel
theorem dX1_stopsPassed_33 : decode cX1_stopsPassed 33 = .ok (.iconst 1, 1) := by decide +kernel
theorem dX1_stopsPassed_34 : decode cX1_stopsPassed 34 = .ok (.goto 4, 3) := by decide +kernel
theorem dX1_stopsPassed_37 : decode cX1_stopsPassed 37 = .ok (.iconst 0, 1) := by decide +kernel
theorem dX1_stopsPassed_38 : decode cX1_stopsPassed 38 = .ok (.iadd, 1) := by decide +kernel
theorem dX1_stopsPassed_39 : decode cX1_stopsPassed 39 = .ok (.istore_n 1, 1) := by decide +kernel
theorem dX1_stopsPassed_40 : decode cX1_stopsPassed 40 = .ok (.iinc 2 1, 3) := by decide +kernel
theorem dX1_stopsPassed_43 : decode cX1_stopsPassed 43 = .ok (.goto (-39), 3) := by decide +kernel
theorem dX1_stopsPassed_46 : decode cX1_stopsPassed 46 = .ok (.iload_n 1, 1) := by decide +kernel
theorem dX1_stopsPassed_47 : decode cX1_stopsPassed 47 = .ok (.ireturn, 1) := by decide +kernel
theorem dX2_init_0 : decode cX2_init 0 = .ok (.aload_n 0, 1) := by decide +kernel
theorem dX2_init_1 : decode cX2_init 1 = .ok (.invokespecial 3, 3) := by decide +kernel
theorem dX2_init_4 : decode cX2_init 4 = .ok (.aload_n 0, 1) := by decide +kernel
theorem dX2_init_5 : decode cX2_init 5 = .ok (.sipush 1001, 3) := by decide +kernel
theorem dX2_init_8 : decode cX2_init 8 = .ok (.newarray .long, 2) := by decide +kernel
theorem dX2_init_10 : decode cX2_init 10 = .ok (.putfield 9, 3) := by decide +kernel
theorem dX2_init_13 : decode cX2_init 13 = .ok (.aload_n 0, 1) := by decide +kernel
theorem dX2_init_14 : decode cX2_init 14 = .ok (.bipush 16, 2) := by decide +kernel
theorem dX2_init_16 : decode cX2_init 16 = .ok (.newarray .long, 2) := by decide +kernel
theorem dX2_init_18 : decode cX2_init 18 = .ok (.putfield 15, 3) := by decide +kernel
theorem dX2_init_21 : decode cX2_init 21 = .ok (.aload_n 0, 1) := by decide +kernel
theorem dX2_init_22 : decode cX2_init 22 = .ok (.iconst 0, 1) := by decide +kernel
theorem dX2_init_23 : decode cX2_init 23 = .ok (.putfield 18, 3) := by decide +kernel
theorem dX2_init_26 : decode cX2_init 26 = .ok (.aload_n 0, 1) := by decide +kernel
theorem dX2_init_27 : decode cX2_init 27 = .ok (.aload_n 1, 1) := by decide +kernel
theorem dX2_init_28 : decode cX2_init 28 = .ok (.putfield 22, 3) := by decide +kernel
theorem dX2_init_31 : decode cX2_init 31 = .ok (.aload_n 0, 1) := by decide +kernel
theorem dX2_init_32 : decode cX2_init 32 = .ok (.aload_n 2, 1) := by decide +kernel
theorem dX2_init_33 : decode cX2_init 33 = .ok (.putfield 26, 3) := by decide +kernel
theorem dX2_init_36 : decode cX2_init 36 = .ok (.return_, 1) := by decide +kernel
theorem dX2_forget_0 : decode cX2_forget 0 = .ok (.aload_n 0, 1) := by decide +kernel
theorem dX2_forget_1 : decode cX2_forget 1 = .ok (.iconst 0, 1) := by decide +kernel
theorem dX2_forget_2 : decode cX2_forget 2 = .ok (.putfield 18, 3) := by decide +kernel
theorem dX2_forget_5 : decode cX2_forget 5 = .ok (.return_, 1) := by decide +kernel
set_option maxRecDepth 20000 in
theorem ggX2_bringUpToDate_J7_fill_d0a16 : GoodIn wsX2_bringUpToDate wsJ7_fill_d0a16 := goodIn_r _ [13] (by decide +kernel) (by decide +kernel)
set_option maxRecDepth 20000 in
theorem gX2_bringUpToDate_J7_fill_d0a16 : GoodIn wsX2_bringUpToDate (va_wsS RX2 30 yJ7_fill_d0a16 wsJ7_fill_d0a16) := goodIn_app (goodIn_of _ (by decide +kernel)) ggX2_bringUpToDate_J7_fill_d0a16
set_option maxRecDepth 20000 in
theorem ggX2_bringUpToDate_X0_legCount : GoodIn wsX2_bringUpToDate wsX0_legCount := goodIn_r _ [18, 19, 50, 51, 52, 53, 54, 55] (by decide +kernel) (by decide +kernel)
set_option maxRecDepth 20000 in
theorem gX2_bringUpToDate_X0_legCount : GoodIn wsX2_bringUpToDate (wsV RX2 36 RX0 yX0_legCount wsX0_legCount) := goodIn_app (goodIn_of _ (by decide +kernel)) ggX2_bringUpToDate_X0_legCount
set_option maxRecDepth 20000 in
theorem ggX2_bringUpToDate_X2_bestFrom : GoodIn wsX2_bringUpToDate wsX2_bestFrom := goodIn_r _ [24, 25, 5, 2, 4, 26, 27, 8, 28, 29, 30, 31, 32, 33, 34, 35, 36, 37, 38, 39, 40, 41, 42, 43, 44, 45, 46, 47, 48, 49, 56, 57, 58, 59, 60, 61, 62, 63] (by decide +kernel) (by decide +kernel)
set_option maxRecDepth 20000 in
theorem gX2_bringUpToDate_X2_bestFrom : GoodIn wsX2_bringUpToDate (wsV RX2 42 RX2 yX2_bestFrom wsX2_bestFrom) := goodIn_app (goodIn_of _ (by decide +kernel)) ggX2_bringUpToDate_X2_bestFrom
set_option maxRecDepth 20000 in
theorem ggX2_bringUpToDate_X5_pairCount : GoodIn wsX2_bringUpToDate wsX5_pairCount := goodIn_r _ [33, 34, 56, 57, 58, 59, 60, 61, 62, 63] (by decide +kernel) (by decide +kernel)
set_option maxRecDepth 20000 in
theorem gX2_bringUpToDate_X5_pairCount : GoodIn wsX2_bringUpToDate (wsV RX2 46 RX5 yX5_pairCount wsX5_pairCount) := goodIn_app (goodIn_of _ (by decide +kernel)) ggX2_bringUpToDate_X5_pairCount
theorem dX2_bringUpToDate_0 : decode cX2_bringUpToDate 0 = .ok (.aload_n 0, 1) := by decide +kernel
theorem dX2_bringUpToDate_1 : decode cX2_bringUpToDate 1 = .ok (.getfield 18, 3) := by decide +kernel
theorem dX2_bringUpToDate_4 : decode cX2_bringUpToDate 4 = .ok (.ifCond .eq 4, 3) := by decide +kernel
theorem dX2_bringUpToDate_7 : decode cX2_bringUpToDate 7 = .ok (.return_, 1) := by decide +kernel
theorem dX2_bringUpToDate_8 : decode cX2_bringUpToDate 8 = .ok (.aload_n 0, 1) := by decide +kernel
theorem dX2_bringUpToDate_9 : decode cX2_bringUpToDate 9 = .ok (.getfield 9, 3) := by decide +kernel
theorem dX2_bringUpToDate_12 : decode cX2_bringUpToDate 12 = .ok (.lconst 0, 1) := by decide +kernel
theorem dX2_bringUpToDate_13 : decode cX2_bringUpToDate 13 = .ok (.invokestatic 30, 3) := by decide +kernel
theorem dX2_bringUpToDate_16 : decode cX2_bringUpToDate 16 = .ok (.lconst 1, 1) := by decide +kernel
theorem dX2_bringUpToDate_17 : decode cX2_bringUpToDate 17 = .ok (.lstore_n 1, 1) := by decide +kernel
theorem dX2_bringUpToDate_18 : decode cX2_bringUpToDate 18 = .ok (.aload_n 0, 1) := by decide +kernel
theorem dX2_bringUpToDate_19 : decode cX2_bringUpToDate 19 = .ok (.getfield 22, 3) := by decide +kernel
theorem dX2_bringUpToDate_22 : decode cX2_bringUpToDate 22 = .ok (.invokevirtual 36, 3) := by decide +kernel
theorem dX2_bringUpToDate_25 : decode cX2_bringUpToDate 25 = .ok (.iconst 1, 1) := by decide +kernel
theorem dX2_bringUpToDate_26 : decode cX2_bringUpToDate 26 = .ok (.isub, 1) := by decide +kernel
theorem dX2_bringUpToDate_27 : decode cX2_bringUpToDate 27 = .ok (.istore_n 3, 1) := by decide +kernel
theorem dX2_bringUpToDate_28 : decode cX2_bringUpToDate 28 = .ok (.iload_n 3, 1) := by decide +kernel
theorem dX2_bringUpToDate_29 : decode cX2_bringUpToDate 29 = .ok (.ifCond .lt 62, 3) := by decide +kernel
theorem dX2_bringUpToDate_32 : decode cX2_bringUpToDate 32 = .ok (.aload_n 0, 1) := by decide +kernel
theorem dX2_bringUpToDate_33 : decode cX2_bringUpToDate 33 = .ok (.getfield 15, 3) := by decide +kernel
theorem dX2_bringUpToDate_36 : decode cX2_bringUpToDate 36 = .ok (.iload_n 3, 1) := by decide +kernel
theorem dX2_bringUpToDate_37 : decode cX2_bringUpToDate 37 = .ok (.lload_n 1, 1) := by decide +kernel
theorem dX2_bringUpToDate_38 : decode cX2_bringUpToDate 38 = .ok (.lastore, 1) := by decide +kernel
theorem dX2_bringUpToDate_39 : decode cX2_bringUpToDate 39 = .ok (.sipush 1000, 3) := by decide +kernel
theorem dX2_bringUpToDate_42 : decode cX2_bringUpToDate 42 = .ok (.istore 4, 2) := by decide +kernel
theorem dX2_bringUpToDate_44 : decode cX2_bringUpToDate 44 = .ok (.iload 4, 2) := by decide +kernel
theorem dX2_bringUpToDate_46 : decode cX2_bringUpToDate 46 = .ok (.ifCond .lt 23, 3) := by decide +kernel
theorem dX2_bringUpToDate_49 : decode cX2_bringUpToDate 49 = .ok (.aload_n 0, 1) := by decide +kernel
theorem dX2_bringUpToDate_50 : decode cX2_bringUpToDate 50 = .ok (.getfield 9, 3) := by decide +kernel
theorem dX2_bringUpToDate_53 : decode cX2_bringUpToDate 53 = .ok (.iload 4, 2) := by decide +kernel
theorem dX2_bringUpToDate_55 : decode cX2_bringUpToDate 55 = .ok (.aload_n 0, 1) := by decide +kernel
theorem dX2_bringUpToDate_56 : decode cX2_bringUpToDate 56 = .ok (.iload_n 3, 1) := by decide +kernel
theorem dX2_bringUpToDate_57 : decode cX2_bringUpToDate 57 = .ok (.iload 4, 2) := by decide +kernel
theorem dX2_bringUpToDate_59 : decode cX2_bringUpToDate 59 = .ok (.invokevirtual 42, 3) := by decide +kernel
theorem dX2_bringUpToDate_62 : decode cX2_bringUpToDate 62 = .ok (.lastore, 1) := by decide +kernel
theorem dX2_bringUpToDate_63 : decode cX2_bringUpToDate 63 = .ok (.iinc 4 (-1), 3) := by decide +kernel
theorem dX2_bringUpToDate_66 : decode cX2_bringUpToDate 66 = .ok (.goto (-22), 3) := by decide +kernel
theorem dX2_bringUpToDate_69 : decode cX2_bringUpToDate 69 = .ok (.lload_n 1, 1) := by decide +kernel
theorem dX2_bringUpToDate_70 : decode cX2_bringUpToDate 70 = .ok (.iconst 1, 1) := by decide +kernel
theorem dX2_bringUpToDate_71 : decode cX2_bringUpToDate 71 = .ok (.aload_n 0, 1) := by decide +kernel
theorem dX2_bringUpToDate_72 : decode cX2_bringUpToDate 72 = .ok (.getfield 26, 3) := by decide +kernel
theorem dX2_bringUpToDate_75 : decode cX2_bringUpToDate 75 = .ok (.iload_n 3, 1) := by decide +kernel
theorem dX2_bringUpToDate_76 : decode cX2_bringUpToDate 76 = .ok (.invokevirtual 46, 3) := by decide +kernel
theorem dX2_bringUpToDate_79 : decode cX2_bringUpToDate 79 = .ok (.invokestatic 52, 3) := by decide +kernel
theorem dX2_bringUpToDate_82 : decode cX2_bringUpToDate 82 = .ok (.i2l, 1) := by decide +kernel
theorem dX2_bringUpToDate_83 : decode cX2_bringUpToDate 83 = .ok (.lmul, 1) := by decide +kernel
theorem dX2_bringUpToDate_84 : decode cX2_bringUpToDate 84 = .ok (.lstore_n 1, 1) := by decide +kernel
theorem dX2_bringUpToDate_85 : decode cX2_bringUpToDate 85 = .ok (.iinc 3 (-1), 3) := by decide +kernel
theorem dX2_bringUpToDate_88 : decode cX2_bringUpToDate 88 = .ok (.goto (-60), 3) := by decide +kernel
theorem dX2_bringUpToDate_91 : decode cX2_bringUpToDate 91 = .ok (.aload_n 0, 1) := by decide +kernel
theorem dX2_bringUpToDate_92 : decode cX2_bringUpToDate 92 = .ok (.iconst 1, 1) := by decide +kernel
theorem dX2_bringUpToDate_93 : decode cX2_bringUpToDate 93 = .ok (.putfield 18, 3) := by decide +kernel
theorem dX2_bringUpToDate_96 : decode cX2_bringUpToDate 96 = .ok (.return_, 1) := by decide +kernel
set_option maxRecDepth 20000 in
theorem ggX2_bestFrom_X5_pairCount : GoodIn wsX2_bestFrom wsX5_pairCount := goodIn_r _ [13, 14, 30, 31, 32, 33, 34, 35, 36, 37] (by decide +kernel) (by decide +kernel)
set_option maxRecDepth 20000 in
theorem gX2_bestFrom_X5_pairCount : GoodIn wsX2_bestFrom (wsV RX2 46 RX5 yX5_pairCount wsX5_pairCount) := goodIn_app (goodIn_of _ (by decide +kernel)) ggX2_bestFrom_X5_pairCount
set_option maxRecDepth 20000 in
theorem ggX2_bestFrom_X5_pairTime : GoodIn wsX2_bestFrom wsX5_pairTime := goodIn_r _ [18, 19, 14, 30, 31, 32, 33, 34, 35, 36, 37] (by decide +kernel) (by decide +kernel)
set_option maxRecDepth 20000 in
theorem gX2_bestFrom_X5_pairTime : GoodIn wsX2_bestFrom (wsV RX2 60 RX5 yX5_pairTime wsX5_pairTime) := goodIn_app (goodIn_of _ (by decide +kernel)) ggX2_bestFrom_X5_pairTime
set_option maxRecDepth 20000 in
theorem ggX2_bestFrom_X5_pairPower : GoodIn wsX2_bestFrom wsX5_pairPower := goodIn_r _ [23, 24, 14, 30, 31, 32, 33, 34, 35, 36, 37] (by decide +kernel) (by decide +kernel)
set_option maxRecDepth 20000 in
theorem gX2_bestFrom_X5_pairPower : GoodIn wsX2_bestFrom (wsV RX2 63 RX5 yX5_pairPower wsX5_pairPower) := goodIn_app (goodIn_of _ (by decide +kernel)) ggX2_bestFrom_X5_pairPower
theorem dX2_bestFrom_0 : decode cX2_bestFrom 0 = .ok (.ldc2_w 58, 3) := by decide +kernel
theorem dX2_bestFrom_3 : decode cX2_bestFrom 3 = .ok (.lstore_n 3, 1) := by decide +kernel
theorem dX2_bestFrom_4 : decode cX2_bestFrom 4 = .ok (.aload_n 0, 1) := by decide +kernel
theorem dX2_bestFrom_5 : decode cX2_bestFrom 5 = .ok (.getfield 26, 3) := by decide +kernel
theorem dX2_bestFrom_8 : decode cX2_bestFrom 8 = .ok (.iload_n 1, 1) := by decide +kernel
theorem dX2_bestFrom_9 : decode cX2_bestFrom 9 = .ok (.invokevirtual 46, 3) := by decide +kernel
theorem dX2_bestFrom_12 : decode cX2_bestFrom 12 = .ok (.istore 5, 2) := by decide +kernel
theorem dX2_bestFrom_14 : decode cX2_bestFrom 14 = .ok (.iconst 0, 1) := by decide +kernel
theorem dX2_bestFrom_15 : decode cX2_bestFrom 15 = .ok (.istore 6, 2) := by decide +kernel
theorem dX2_bestFrom_17 : decode cX2_bestFrom 17 = .ok (.iload 6, 2) := by decide +kernel
theorem dX2_bestFrom_19 : decode cX2_bestFrom 19 = .ok (.iload 5, 2) := by decide +kernel
theorem dX2_bestFrom_21 : decode cX2_bestFrom 21 = .ok (.if_icmp .ge 87, 3) := by decide +kernel
theorem dX2_bestFrom_24 : decode cX2_bestFrom 24 = .ok (.iload_n 2, 1) := by decide +kernel
theorem dX2_bestFrom_25 : decode cX2_bestFrom 25 = .ok (.aload_n 0, 1) := by decide +kernel
theorem dX2_bestFrom_26 : decode cX2_bestFrom 26 = .ok (.getfield 26, 3) := by decide +kernel
theorem dX2_bestFrom_29 : decode cX2_bestFrom 29 = .ok (.iload_n 1, 1) := by decide +kernel
theorem dX2_bestFrom_30 : decode cX2_bestFrom 30 = .ok (.iload 6, 2) := by decide +kernel
theorem dX2_bestFrom_32 : decode cX2_bestFrom 32 = .ok (.invokevirtual 60, 3) := by decide +kernel
theorem dX2_bestFrom_35 : decode cX2_bestFrom 35 = .ok (.isub, 1) := by decide +kernel
theorem dX2_bestFrom_36 : decode cX2_bestFrom 36 = .ok (.istore 7, 2) := by decide +kernel
theorem dX2_bestFrom_38 : decode cX2_bestFrom 38 = .ok (.iload 7, 2) := by decide +kernel
theorem dX2_bestFrom_40 : decode cX2_bestFrom 40 = .ok (.ifCond .ge 6, 3) := by decide +kernel
theorem dX2_bestFrom_43 : decode cX2_bestFrom 43 = .ok (.goto 65, 3) := by decide +kernel
theorem dX2_bestFrom_46 : decode cX2_bestFrom 46 = .ok (.aload_n 0, 1) := by decide +kernel
theorem dX2_bestFrom_47 : decode cX2_bestFrom 47 = .ok (.getfield 9, 3) := by decide +kernel
theorem dX2_bestFrom_50 : decode cX2_bestFrom 50 = .ok (.iload 7, 2) := by decide +kernel
theorem dX2_bestFrom_52 : decode cX2_bestFrom 52 = .ok (.laload, 1) := by decide +kernel
theorem dX2_bestFrom_53 : decode cX2_bestFrom 53 = .ok (.ldc2_w 58, 3) := by decide +kernel
theorem dX2_bestFrom_56 : decode cX2_bestFrom 56 = .ok (.lcmp, 1) := by decide +kernel
theorem dX2_bestFrom_57 : decode cX2_bestFrom 57 = .ok (.ifCond .eq 45, 3) := by decide +kernel
theorem dX2_bestFrom_60 : decode cX2_bestFrom 60 = .ok (.aload_n 0, 1) := by decide +kernel
theorem dX2_bestFrom_61 : decode cX2_bestFrom 61 = .ok (.getfield 26, 3) := by decide +kernel
theorem dX2_bestFrom_64 : decode cX2_bestFrom 64 = .ok (.iload_n 1, 1) := by decide +kernel
theorem dX2_bestFrom_65 : decode cX2_bestFrom 65 = .ok (.iload 6, 2) := by decide +kernel
theorem dX2_bestFrom_67 : decode cX2_bestFrom 67 = .ok (.invokevirtual 63, 3) := by decide +kernel
theorem dX2_bestFrom_70 : decode cX2_bestFrom 70 = .ok (.i2l, 1) := by decide +kernel
theorem dX2_bestFrom_71 : decode cX2_bestFrom 71 = .ok (.bipush 48, 2) := by decide +kernel
theorem dX2_bestFrom_73 : decode cX2_bestFrom 73 = .ok (.lshl, 1) := by decide +kernel
theorem dX2_bestFrom_74 : decode cX2_bestFrom 74 = .ok (.iload 6, 2) := by decide +kernel
theorem dX2_bestFrom_76 : decode cX2_bestFrom 76 = .ok (.i2l, 1) := by decide +kernel
theorem dX2_bestFrom_77 : decode cX2_bestFrom 77 = .ok (.aload_n 0, 1) := by decide +kernel
theorem dX2_bestFrom_78 : decode cX2_bestFrom 78 = .ok (.getfield 15, 3) := by decide +kernel
theorem dX2_bestFrom_81 : decode cX2_bestFrom 81 = .ok (.iload_n 1, 1) := by decide +kernel
theorem dX2_bestFrom_82 : decode cX2_bestFrom 82 = .ok (.laload, 1) := by decide +kernel
theorem dX2_bestFrom_83 : decode cX2_bestFrom 83 = .ok (.lmul, 1) := by decide +kernel
theorem dX2_bestFrom_84 : decode cX2_bestFrom 84 = .ok (.ladd, 1) := by decide +kernel
theorem dX2_bestFrom_85 : decode cX2_bestFrom 85 = .ok (.lstore 8, 2) := by decide +kernel
theorem dX2_bestFrom_87 : decode cX2_bestFrom 87 = .ok (.lload_n 3, 1) := by decide +kernel
theorem dX2_bestFrom_88 : decode cX2_bestFrom 88 = .ok (.aload_n 0, 1) := by decide +kernel
theorem dX2_bestFrom_89 : decode cX2_bestFrom 89 = .ok (.getfield 9, 3) := by decide +kernel
theorem dX2_bestFrom_92 : decode cX2_bestFrom 92 = .ok (.iload 7, 2) := by decide +kernel
theorem dX2_bestFrom_94 : decode cX2_bestFrom 94 = .ok (.laload, 1) := by decide +kernel
theorem dX2_bestFrom_95 : decode cX2_bestFrom 95 = .ok (.lload 8, 2) := by decide +kernel
theorem dX2_bestFrom_97 : decode cX2_bestFrom 97 = .ok (.ladd, 1) := by decide +kernel
theorem dX2_bestFrom_98 : decode cX2_bestFrom 98 = .ok (.invokestatic 66, 3) := by decide +kernel
theorem dX2_bestFrom_101 : decode cX2_bestFrom 101 = .ok (.lstore_n 3, 1) := by decide +kernel
theorem dX2_bestFrom_102 : decode cX2_bestFrom 102 = .ok (.iinc 6 1, 3) := by decide +kernel
theorem dX2_bestFrom_105 : decode cX2_bestFrom 105 = .ok (.goto (-88), 3) := by decide +kernel
theorem dX2_bestFrom_108 : decode cX2_bestFrom 108 = .ok (.lload_n 3, 1) := by decide +kernel
theorem dX2_bestFrom_109 : decode cX2_bestFrom 109 = .ok (.lreturn, 1) := by decide +kernel
theorem dX2_isThere_0 : decode cX2_isThere 0 = .ok (.aload_n 0, 1) := by decide +kernel
theorem dX2_isThere_1 : decode cX2_isThere 1 = .ok (.getfield 9, 3) := by decide +kernel
theorem dX2_isThere_4 : decode cX2_isThere 4 = .ok (.iload_n 1, 1) := by decide +kernel
theorem dX2_isThere_5 : decode cX2_isThere 5 = .ok (.laload, 1) := by decide +kernel
theorem dX2_isThere_6 : decode cX2_isThere 6 = .ok (.ldc2_w 58, 3) := by decide +kernel
theorem dX2_isThere_9 : decode cX2_isThere 9 = .ok (.lcmp, 1) := by decide +kernel
theorem dX2_isThere_10 : decode cX2_isThere 10 = .ok (.ifCond .eq 7, 3) := by decide +kernel
theorem dX2_isThere_13 : decode cX2_isThere 13 = .ok (.iconst 1, 1) := by decide +kernel
theorem dX2_isThere_14 : decode cX2_isThere 14 = .ok (.goto 4, 3) := by decide +kernel
theorem dX2_isThere_17 : decode cX2_isThere 17 = .ok (.iconst 0, 1) := by decide +kernel
theorem dX2_isThere_18 : decode cX2_isThere 18 = .ok (.ireturn, 1) := by decide +kernel
theorem dX2_powerTogether_0 : decode cX2_powerTogether 0 = .ok (.aload_n 0, 1) := by decide +kernel
theorem dX2_powerTogether_1 : decode cX2_powerTogether 1 = .ok (.getfield 9, 3) := by decide +kernel
theorem dX2_powerTogether_4 : decode cX2_powerTogether 4 = .ok (.iload_n 1, 1) := by decide +kernel
theorem dX2_powerTogether_5 : decode cX2_powerTogether 5 = .ok (.laload, 1) := by decide +kernel
theorem dX2_powerTogether_6 : decode cX2_powerTogether 6 = .ok (.bipush 48, 2) := by decide +kernel
theorem dX2_powerTogether_8 : decode cX2_powerTogether 8 = .ok (.lshr, 1) := by decide +kernel
theorem dX2_powerTogether_9 : decode cX2_powerTogether 9 = .ok (.l2i, 1) := by decide +kernel
theorem dX2_powerTogether_10 : decode cX2_powerTogether 10 = .ok (.ireturn, 1) := by decide +kernel
set_option maxRecDepth 20000 in
theorem ggX2_legTime_X5_pairCount : GoodIn wsX2_legTime wsX5_pairCount := goodIn_r _ [10, 11, 22, 23, 24, 25, 26, 27, 28, 29] (by decide +kernel) (by decide +kernel)
set_option maxRecDepth 20000 in
theorem gX2_legTime_X5_pairCount : GoodIn wsX2_legTime (wsV RX2 46 RX5 yX5_pairCount wsX5_pairCount) := goodIn_app (goodIn_of _ (by decide +kernel)) ggX2_legTime_X5_pairCount
set_option maxRecDepth 20000 in
theorem ggX2_legTime_X5_pairTime : GoodIn wsX2_legTime wsX5_pairTime := goodIn_r _ [15, 16, 11, 22, 23, 24, 25, 26, 27, 28, 29] (by decide +kernel) (by decide +kernel)
set_option maxRecDepth 20000 in
theorem gX2_legTime_X5_pairTime : GoodIn wsX2_legTime (wsV RX2 60 RX5 yX5_pairTime wsX5_pairTime) := goodIn_app (goodIn_of _ (by decide +kernel)) ggX2_legTime_X5_pairTime
theorem dX2_legTime_0 : decode cX2_legTime 0 = .ok (.aload_n 0, 1) := by decide +kernel
theorem dX2_legTime_1 : decode cX2_legTime 1 = .ok (.getfield 26, 3) := by decide +kernel
theorem dX2_legTime_4 : decode cX2_legTime 4 = .ok (.iload_n 2, 1) := by decide +kernel
theorem dX2_legTime_5 : decode cX2_legTime 5 = .ok (.invokevirtual 46, 3) := by decide +kernel
theorem dX2_legTime_8 : decode cX2_legTime 8 = .ok (.istore_n 3, 1) := by decide +kernel
theorem dX2_legTime_9 : decode cX2_legTime 9 = .ok (.aload_n 0, 1) := by decide +kernel
theorem dX2_legTime_10 : decode cX2_legTime 10 = .ok (.getfield 15, 3) := by decide +kernel
theorem dX2_legTime_13 : decode cX2_legTime 13 = .ok (.iload_n 2, 1) := by decide +kernel
theorem dX2_legTime_14 : decode cX2_legTime 14 = .ok (.laload, 1) := by decide +kernel
theorem dX2_legTime_15 : decode cX2_legTime 15 = .ok (.lstore 4, 2) := by decide +kernel
theorem dX2_legTime_17 : decode cX2_legTime 17 = .ok (.iload_n 3, 1) := by decide +kernel
theorem dX2_legTime_18 : decode cX2_legTime 18 = .ok (.ifCond .le 10, 3) := by decide +kernel
theorem dX2_legTime_21 : decode cX2_legTime 21 = .ok (.lload 4, 2) := by decide +kernel
theorem dX2_legTime_23 : decode cX2_legTime 23 = .ok (.lconst 0, 1) := by decide +kernel
theorem dX2_legTime_24 : decode cX2_legTime 24 = .ok (.lcmp, 1) := by decide +kernel
theorem dX2_legTime_25 : decode cX2_legTime 25 = .ok (.ifCond .gt 6, 3) := by decide +kernel
theorem dX2_legTime_28 : decode cX2_legTime 28 = .ok (.ldc 70, 2) := by decide +kernel
theorem dX2_legTime_30 : decode cX2_legTime 30 = .ok (.ireturn, 1) := by decide +kernel
theorem dX2_legTime_31 : decode cX2_legTime 31 = .ok (.aload_n 0, 1) := by decide +kernel
theorem dX2_legTime_32 : decode cX2_legTime 32 = .ok (.getfield 9, 3) := by decide +kernel
theorem dX2_legTime_35 : decode cX2_legTime 35 = .ok (.iload_n 1, 1) := by decide +kernel
theorem dX2_legTime_36 : decode cX2_legTime 36 = .ok (.laload, 1) := by decide +kernel
theorem dX2_legTime_37 : decode cX2_legTime 37 = .ok (.ldc2_w 71, 3) := by decide +kernel
theorem dX2_legTime_40 : decode cX2_legTime 40 = .ok (.land, 1) := by decide +kernel
theorem dX2_legTime_41 : decode cX2_legTime 41 = .ok (.lstore 6, 2) := by decide +kernel
theorem dX2_legTime_43 : decode cX2_legTime 43 = .ok (.aload_n 0, 1) := by decide +kernel
theorem dX2_legTime_44 : decode cX2_legTime 44 = .ok (.getfield 26, 3) := by decide +kernel
theorem dX2_legTime_47 : decode cX2_legTime 47 = .ok (.iload_n 2, 1) := by decide +kernel
theorem dX2_legTime_48 : decode cX2_legTime 48 = .ok (.lload 6, 2) := by decide +kernel
theorem dX2_legTime_50 : decode cX2_legTime 50 = .ok (.lload 4, 2) := by decide +kernel
theorem dX2_legTime_52 : decode cX2_legTime 52 = .ok (.ldiv, 1) := by decide +kernel
theorem dX2_legTime_53 : decode cX2_legTime 53 = .ok (.iload_n 3, 1) := by decide +kernel
theorem dX2_legTime_54 : decode cX2_legTime 54 = .ok (.i2l, 1) := by decide +kernel
theorem dX2_legTime_55 : decode cX2_legTime 55 = .ok (.lrem, 1) := by decide +kernel
theorem dX2_legTime_56 : decode cX2_legTime 56 = .ok (.l2i, 1) := by decide +kernel
theorem dX2_legTime_57 : decode cX2_legTime 57 = .ok (.invokevirtual 60, 3) := by decide +kernel
theorem dX2_legTime_60 : decode cX2_legTime 60 = .ok (.ireturn, 1) := by decide +kernel
theorem dX3_init_0 : decode cX3_init 0 = .ok (.aload_n 0, 1) := by decide +kernel
theorem dX3_init_1 : decode cX3_init 1 = .ok (.invokespecial 3, 3) := by decide +kernel
theorem dX3_init_4 : decode cX3_init 4 = .ok (.aload_n 0, 1) := by decide +kernel
theorem dX3_init_5 : decode cX3_init 5 = .ok (.aload_n 1, 1) := by decide +kernel
theorem dX3_init_6 : decode cX3_init 6 = .ok (.putfield 9, 3) := by decide +kernel
theorem dX3_init_9 : decode cX3_init 9 = .ok (.aload_n 0, 1) := by decide +kernel
theorem dX3_init_10 : decode cX3_init 10 = .ok (.aload_n 2, 1) := by decide +kernel
theorem dX3_init_11 : decode cX3_init 11 = .ok (.putfield 15, 3) := by decide +kernel
theorem dX3_init_14 : decode cX3_init 14 = .ok (.return_, 1) := by decide +kernel
set_option maxRecDepth 20000 in
theorem ggX3_forceOf_X4_number : GoodIn wsX3_forceOf wsX4_number := goodIn_r _ [7, 8, 17] (by decide +kernel) (by decide +kernel)
set_option maxRecDepth 20000 in
theorem gX3_forceOf_X4_number : GoodIn wsX3_forceOf (wsV RX3 21 RX4 yX4_number wsX4_number) := goodIn_app (goodIn_of _ (by decide +kernel)) ggX3_forceOf_X4_number
set_option maxRecDepth 20000 in
theorem ggX3_forceOf_X0_gradeOf : GoodIn wsX3_forceOf wsX0_gradeOf := goodIn_r _ [13, 14, 18, 19, 20, 21, 22, 23] (by decide +kernel) (by decide +kernel)
set_option maxRecDepth 20000 in
theorem gX3_forceOf_X0_gradeOf : GoodIn wsX3_forceOf (wsV RX3 25 RX0 yX0_gradeOf wsX0_gradeOf) := goodIn_app (goodIn_of _ (by decide +kernel)) ggX3_forceOf_X0_gradeOf
theorem dX3_forceOf_0 : decode cX3_forceOf 0 = .ok (.aload_n 0, 1) := by decide +kernel
theorem dX3_forceOf_1 : decode cX3_forceOf 1 = .ok (.getfield 15, 3) := by decide +kernel
theorem dX3_forceOf_4 : decode cX3_forceOf 4 = .ok (.iconst 0, 1) := by decide +kernel
theorem dX3_forceOf_5 : decode cX3_forceOf 5 = .ok (.invokevirtual 21, 3) := by decide +kernel
theorem dX3_forceOf_8 : decode cX3_forceOf 8 = .ok (.istore 4, 2) := by decide +kernel
theorem dX3_forceOf_10 : decode cX3_forceOf 10 = .ok (.iload 4, 2) := by decide +kernel
theorem dX3_forceOf_12 : decode cX3_forceOf 12 = .ok (.iload_n 3, 1) := by decide +kernel
theorem dX3_forceOf_13 : decode cX3_forceOf 13 = .ok (.iload_n 3, 1) := by decide +kernel
theorem dX3_forceOf_14 : decode cX3_forceOf 14 = .ok (.imul, 1) := by decide +kernel
theorem dX3_forceOf_15 : decode cX3_forceOf 15 = .ok (.iload_n 2, 1) := by decide +kernel
theorem dX3_forceOf_16 : decode cX3_forceOf 16 = .ok (.iload_n 2, 1) := by decide +kernel
theorem dX3_forceOf_17 : decode cX3_forceOf 17 = .ok (.imul, 1) := by decide +kernel
theorem dX3_forceOf_18 : decode cX3_forceOf 18 = .ok (.isub, 1) := by decide +kernel
theorem dX3_forceOf_19 : decode cX3_forceOf 19 = .ok (.imul, 1) := by decide +kernel
theorem dX3_forceOf_20 : decode cX3_forceOf 20 = .ok (.iload 4, 2) := by decide +kernel
theorem dX3_forceOf_22 : decode cX3_forceOf 22 = .ok (.aload_n 0, 1) := by decide +kernel
theorem dX3_forceOf_23 : decode cX3_forceOf 23 = .ok (.getfield 9, 3) := by decide +kernel
theorem dX3_forceOf_26 : decode cX3_forceOf 26 = .ok (.iload_n 1, 1) := by decide +kernel
theorem dX3_forceOf_27 : decode cX3_forceOf 27 = .ok (.invokevirtual 25, 3) := by decide +kernel
theorem dX3_forceOf_30 : decode cX3_forceOf 30 = .ok (.imul, 1) := by decide +kernel
theorem dX3_forceOf_31 : decode cX3_forceOf 31 = .ok (.iadd, 1) := by decide +kernel
theorem dX3_forceOf_32 : decode cX3_forceOf 32 = .ok (.aload_n 0, 1) := by decide +kernel
theorem dX3_forceOf_33 : decode cX3_forceOf 33 = .ok (.getfield 15, 3) := by decide +kernel
theorem dX3_forceOf_36 : decode cX3_forceOf 36 = .ok (.iconst 1, 1) := by decide +kernel
theorem dX3_forceOf_37 : decode cX3_forceOf 37 = .ok (.invokevirtual 21, 3) := by decide +kernel
theorem dX3_forceOf_40 : decode cX3_forceOf 40 = .ok (.iload_n 2, 1) := by decide +kernel
theorem dX3_forceOf_41 : decode cX3_forceOf 41 = .ok (.iload_n 3, 1) := by decide +kernel
theorem dX3_forceOf_42 : decode cX3_forceOf 42 = .ok (.iadd, 1) := by decide +kernel
theorem dX3_forceOf_43 : decode cX3_forceOf 43 = .ok (.imul, 1) := by decide +kernel
theorem dX3_forceOf_44 : decode cX3_forceOf 44 = .ok (.iadd, 1) := by decide +kernel
theorem dX3_forceOf_45 : decode cX3_forceOf 45 = .ok (.ireturn, 1) := by decide +kernel
set_option maxRecDepth 20000 in
theorem ggX3_faultOf_X0_limitOf : GoodIn wsX3_faultOf wsX0_limitOf := goodIn_r _ [14, 15, 34, 35, 36, 37, 38, 39] (by decide +kernel) (by decide +kernel)
set_option maxRecDepth 20000 in
theorem gX3_faultOf_X0_limitOf : GoodIn wsX3_faultOf (wsV RX3 36 RX0 yX0_limitOf wsX0_limitOf) := goodIn_app (goodIn_of _ (by decide +kernel)) ggX3_faultOf_X0_limitOf
set_option maxRecDepth 20000 in
theorem ggX3_faultOf_X3_forceOf : GoodIn wsX3_faultOf wsX3_forceOf := goodIn_r _ [20, 9, 5, 21, 22, 23, 24, 25, 26, 27, 28, 29, 13, 30, 31, 32, 33, 40, 34, 35, 36, 37, 38, 39] (by decide +kernel) (by decide +kernel)
set_option maxRecDepth 20000 in
theorem gX3_faultOf_X3_forceOf : GoodIn wsX3_faultOf (wsV RX3 42 RX3 yX3_forceOf wsX3_forceOf) := goodIn_app (goodIn_of _ (by decide +kernel)) ggX3_faultOf_X3_forceOf
set_option maxRecDepth 20000 in
theorem ggX3_faultOf_X4_number : GoodIn wsX3_faultOf wsX4_number := goodIn_r _ [25, 26, 40] (by decide +kernel) (by decide +kernel)
set_option maxRecDepth 20000 in
theorem gX3_faultOf_X4_number : GoodIn wsX3_faultOf (wsV RX3 21 RX4 yX4_number wsX4_number) := goodIn_app (goodIn_of _ (by decide +kernel)) ggX3_faultOf_X4_number
theorem dX3_faultOf_0 : decode cX3_faultOf 0 = .ok (.iload_n 2, 1) := by decide +kernel
theorem dX3_faultOf_1 : decode cX3_faultOf 1 = .ok (.iload_n 3, 1) := by decide +kernel
theorem dX3_faultOf_2 : decode cX3_faultOf 2 = .ok (.invokestatic 30, 3) := by decide +kernel
theorem dX3_faultOf_5 : decode cX3_faultOf 5 = .ok (.aload_n 0, 1) := by decide +kernel
theorem dX3_faultOf_6 : decode cX3_faultOf 6 = .ok (.getfield 9, 3) := by decide +kernel
theorem dX3_faultOf_9 : decode cX3_faultOf 9 = .ok (.iload_n 1, 1) := by decide +kernel
theorem dX3_faultOf_10 : decode cX3_faultOf 10 = .ok (.invokevirtual 36, 3) := by decide +kernel
theorem dX3_faultOf_13 : decode cX3_faultOf 13 = .ok (.if_icmp .le 5, 3) := by decide +kernel
theorem dX3_faultOf_16 : decode cX3_faultOf 16 = .ok (.iconst 1, 1) := by decide +kernel
theorem dX3_faultOf_17 : decode cX3_faultOf 17 = .ok (.ireturn, 1) := by decide +kernel
theorem dX3_faultOf_18 : decode cX3_faultOf 18 = .ok (.iload_n 2, 1) := by decide +kernel
theorem dX3_faultOf_19 : decode cX3_faultOf 19 = .ok (.ifCond .ne 9, 3) := by decide +kernel
theorem dX3_faultOf_22 : decode cX3_faultOf 22 = .ok (.iload_n 3, 1) := by decide +kernel
theorem dX3_faultOf_23 : decode cX3_faultOf 23 = .ok (.ifCond .ne 5, 3) := by decide +kernel
theorem dX3_faultOf_26 : decode cX3_faultOf 26 = .ok (.iconst 2, 1) := by decide +kernel
theorem dX3_faultOf_27 : decode cX3_faultOf 27 = .ok (.ireturn, 1) := by decide +kernel
theorem dX3_faultOf_28 : decode cX3_faultOf 28 = .ok (.iload_n 2, 1) := by decide +kernel
theorem dX3_faultOf_29 : decode cX3_faultOf 29 = .ok (.iload_n 3, 1) := by decide +kernel
theorem dX3_faultOf_30 : decode cX3_faultOf 30 = .ok (.isub, 1) := by decide +kernel
theorem dX3_faultOf_31 : decode cX3_faultOf 31 = .ok (.invokestatic 39, 3) := by decide +kernel
theorem dX3_faultOf_34 : decode cX3_faultOf 34 = .ok (.iconst 2, 1) := by decide +kernel
theorem dX3_faultOf_35 : decode cX3_faultOf 35 = .ok (.if_icmp .le 5, 3) := by decide +kernel
theorem dX3_faultOf_38 : decode cX3_faultOf 38 = .ok (.iconst 3, 1) := by decide +kernel
theorem dX3_faultOf_39 : decode cX3_faultOf 39 = .ok (.ireturn, 1) := by decide +kernel
theorem dX3_faultOf_40 : decode cX3_faultOf 40 = .ok (.aload_n 0, 1) := by decide +kernel
theorem dX3_faultOf_41 : decode cX3_faultOf 41 = .ok (.iload_n 1, 1) := by decide +kernel
theorem dX3_faultOf_42 : decode cX3_faultOf 42 = .ok (.iload_n 2, 1) := by decide +kernel
theorem dX3_faultOf_43 : decode cX3_faultOf 43 = .ok (.iload_n 3, 1) := by decide +kernel
theorem dX3_faultOf_44 : decode cX3_faultOf 44 = .ok (.invokevirtual 42, 3) := by decide +kernel
theorem dX3_faultOf_47 : decode cX3_faultOf 47 = .ok (.istore 4, 2) := by decide +kernel
theorem dX3_faultOf_49 : decode cX3_faultOf 49 = .ok (.iload 4, 2) := by decide +kernel
theorem dX3_faultOf_51 : decode cX3_faultOf 51 = .ok (.aload_n 0, 1) := by decide +kernel
theorem dX3_faultOf_52 : decode cX3_faultOf 52 = .ok (.getfield 15, 3) := by decide +kernel
theorem dX3_faultOf_55 : decode cX3_faultOf 55 = .ok (.iconst 2, 1) := by decide +kernel
theorem dX3_faultOf_56 : decode cX3_faultOf 56 = .ok (.invokevirtual 21, 3) := by decide +kernel
theorem dX3_faultOf_59 : decode cX3_faultOf 59 = .ok (.if_icmp .le 5, 3) := by decide +kernel
theorem dX3_faultOf_62 : decode cX3_faultOf 62 = .ok (.iconst 4, 1) := by decide +kernel
theorem dX3_faultOf_63 : decode cX3_faultOf 63 = .ok (.ireturn, 1) := by decide +kernel
theorem dX3_faultOf_64 : decode cX3_faultOf 64 = .ok (.iload 4, 2) := by decide +kernel
theorem dX3_faultOf_66 : decode cX3_faultOf 66 = .ok (.aload_n 0, 1) := by decide +kernel
theorem dX3_faultOf_67 : decode cX3_faultOf 67 = .ok (.getfield 15, 3) := by decide +kernel
theorem dX3_faultOf_70 : decode cX3_faultOf 70 = .ok (.iconst 3, 1) := by decide +kernel
theorem dX3_faultOf_71 : decode cX3_faultOf 71 = .ok (.invokevirtual 21, 3) := by decide +kernel
theorem dX3_faultOf_74 : decode cX3_faultOf 74 = .ok (.ineg, 1) := by decide +kernel
theorem dX3_faultOf_75 : decode cX3_faultOf 75 = .ok (.if_icmp .ge 7, 3) := by decide +kernel
theorem dX3_faultOf_78 : decode cX3_faultOf 78 = .ok (.iconst 5, 1) := by decide +kernel
theorem dX3_faultOf_79 : decode cX3_faultOf 79 = .ok (.goto 4, 3) := by decide +kernel
theorem dX3_faultOf_82 : decode cX3_faultOf 82 = .ok (.iconst 0, 1) := by decide +kernel
theorem dX3_faultOf_83 : decode cX3_faultOf 83 = .ok (.ireturn, 1) := by decide +kernel
theorem dX3_timeOf_0 : decode cX3_timeOf 0 = .ok (.iload_n 1, 1) := by decide +kernel
theorem dX3_timeOf_1 : decode cX3_timeOf 1 = .ok (.iload_n 2, 1) := by decide +kernel
theorem dX3_timeOf_2 : decode cX3_timeOf 2 = .ok (.iadd, 1) := by decide +kernel
theorem dX3_timeOf_3 : decode cX3_timeOf 3 = .ok (.istore_n 3, 1) := by decide +kernel
theorem dX3_timeOf_4 : decode cX3_timeOf 4 = .ok (.iload_n 3, 1) := by decide +kernel
theorem dX3_timeOf_5 : decode cX3_timeOf 5 = .ok (.ifCond .le 10, 3) := by decide +kernel
theorem dX3_timeOf_8 : decode cX3_timeOf 8 = .ok (.bipush 60, 2) := by decide +kernel
theorem dX3_timeOf_10 : decode cX3_timeOf 10 = .ok (.iload_n 3, 1) := by decide +kernel
theorem dX3_timeOf_11 : decode cX3_timeOf 11 = .ok (.idiv, 1) := by decide +kernel
theorem dX3_timeOf_12 : decode cX3_timeOf 12 = .ok (.goto 4, 3) := by decide +kernel
theorem dX3_timeOf_15 : decode cX3_timeOf 15 = .ok (.iconst 0, 1) := by decide +kernel
theorem dX3_timeOf_16 : decode cX3_timeOf 16 = .ok (.ireturn, 1) := by decide +kernel
set_option maxRecDepth 20000 in
theorem ggX3_powerOf_X3_forceOf : GoodIn wsX3_powerOf wsX3_forceOf := goodIn_r _ [6, 1, 7, 8, 9, 10, 11, 12, 13, 14, 15, 16, 17, 18, 19, 20, 21, 22, 23, 24, 25, 26, 27, 28] (by decide +kernel) (by decide +kernel)
set_option maxRecDepth 20000 in
theorem gX3_powerOf_X3_forceOf : GoodIn wsX3_powerOf (wsV RX3 42 RX3 yX3_forceOf wsX3_forceOf) := goodIn_app (goodIn_of _ (by decide +kernel)) ggX3_powerOf_X3_forceOf
set_option maxRecDepth 20000 in
theorem ggX3_powerOf_X4_number : GoodIn wsX3_powerOf wsX4_number := goodIn_r _ [12, 13, 22] (by decide +kernel) (by decide +kernel)
set_option maxRecDepth 20000 in
theorem gX3_powerOf_X4_number : GoodIn wsX3_powerOf (wsV RX3 21 RX4 yX4_number wsX4_number) := goodIn_app (goodIn_of _ (by decide +kernel)) ggX3_powerOf_X4_number
theorem dX3_powerOf_0 : decode cX3_powerOf 0 = .ok (.aload_n 0, 1) := by decide +kernel
theorem dX3_powerOf_1 : decode cX3_powerOf 1 = .ok (.iload_n 1, 1) := by decide +kernel
theorem dX3_powerOf_2 : decode cX3_powerOf 2 = .ok (.iload_n 2, 1) := by decide +kernel
theorem dX3_powerOf_3 : decode cX3_powerOf 3 = .ok (.iload_n 3, 1) := by decide +kernel
theorem dX3_powerOf_4 : decode cX3_powerOf 4 = .ok (.invokevirtual 42, 3) := by decide +kernel
theorem dX3_powerOf_7 : decode cX3_powerOf 7 = .ok (.istore 4, 2) := by decide +kernel
theorem dX3_powerOf_9 : decode cX3_powerOf 9 = .ok (.iload 4, 2) := by decide +kernel
theorem dX3_powerOf_11 : decode cX3_powerOf 11 = .ok (.ifCond .le 8, 3) := by decide +kernel
theorem dX3_powerOf_14 : decode cX3_powerOf 14 = .ok (.iload 4, 2) := by decide +kernel
theorem dX3_powerOf_16 : decode cX3_powerOf 16 = .ok (.goto 19, 3) := by decide +kernel
theorem dX3_powerOf_19 : decode cX3_powerOf 19 = .ok (.aload_n 0, 1) := by decide +kernel
theorem dX3_powerOf_20 : decode cX3_powerOf 20 = .ok (.getfield 15, 3) := by decide +kernel
theorem dX3_powerOf_23 : decode cX3_powerOf 23 = .ok (.iconst 4, 1) := by decide +kernel
theorem dX3_powerOf_24 : decode cX3_powerOf 24 = .ok (.invokevirtual 21, 3) := by decide +kernel
theorem dX3_powerOf_27 : decode cX3_powerOf 27 = .ok (.iload 4, 2) := by decide +kernel
theorem dX3_powerOf_29 : decode cX3_powerOf 29 = .ok (.ineg, 1) := by decide +kernel
theorem dX3_powerOf_30 : decode cX3_powerOf 30 = .ok (.imul, 1) := by decide +kernel
theorem dX3_powerOf_31 : decode cX3_powerOf 31 = .ok (.bipush 10, 2) := by decide +kernel
theorem dX3_powerOf_33 : decode cX3_powerOf 33 = .ok (.idiv, 1) := by decide +kernel
theorem dX3_powerOf_34 : decode cX3_powerOf 34 = .ok (.ineg, 1) := by decide +kernel
theorem dX3_powerOf_35 : decode cX3_powerOf 35 = .ok (.ireturn, 1) := by decide +kernel
theorem dX4_init_0 : decode cX4_init 0 = .ok (.aload_n 0, 1) := by decide +kernel
theorem dX4_init_1 : decode cX4_init 1 = .ok (.invokespecial 1, 3) := by decide +kernel
theorem dX4_init_4 : decode cX4_init 4 = .ok (.aload_n 0, 1) := by decide +kernel
theorem dX4_init_5 : decode cX4_init 5 = .ok (.getstatic 7, 3) := by decide +kernel
theorem dX4_init_8 : decode cX4_init 8 = .ok (.invokevirtual 13, 3) := by decide +kernel
theorem dX4_init_11 : decode cX4_init 11 = .ok (.checkcast 14, 3) := by decide +kernel
theorem dX4_init_14 : decode cX4_init 14 = .ok (.putfield 18, 3) := by decide +kernel
theorem dX4_init_17 : decode cX4_init 17 = .ok (.return_, 1) := by decide +kernel
theorem dX4_knows_0 : decode cX4_knows 0 = .ok (.iload_n 1, 1) := by decide +kernel
theorem dX4_knows_1 : decode cX4_knows 1 = .ok (.ifCond .lt 16, 3) := by decide +kernel
theorem dX4_knows_4 : decode cX4_knows 4 = .ok (.iload_n 1, 1) := by decide +kernel
theorem dX4_knows_5 : decode cX4_knows 5 = .ok (.aload_n 0, 1) := by decide +kernel
theorem dX4_knows_6 : decode cX4_knows 6 = .ok (.getfield 18, 3) := by decide +kernel
theorem dX4_knows_9 : decode cX4_knows 9 = .ok (.arraylength, 1) := by decide +kernel
theorem dX4_knows_10 : decode cX4_knows 10 = .ok (.if_icmp .ge 7, 3) := by decide +kernel
theorem dX4_knows_13 : decode cX4_knows 13 = .ok (.iconst 1, 1) := by decide +kernel
theorem dX4_knows_14 : decode cX4_knows 14 = .ok (.goto 4, 3) := by decide +kernel
theorem dX4_knows_17 : decode cX4_knows 17 = .ok (.iconst 0, 1) := by decide +kernel
theorem dX4_knows_18 : decode cX4_knows 18 = .ok (.ireturn, 1) := by decide +kernel
theorem dX4_mayBe_0 : decode cX4_mayBe 0 = .ok (.iload_n 2, 1) := by decide +kernel
theorem dX4_mayBe_1 : decode cX4_mayBe 1 = .ok (.getstatic 21, 3) := by decide +kernel
theorem dX4_mayBe_4 : decode cX4_mayBe 4 = .ok (.iload_n 1, 1) := by decide +kernel
theorem dX4_mayBe_5 : decode cX4_mayBe 5 = .ok (.iaload, 1) := by decide +kernel
theorem dX4_mayBe_6 : decode cX4_mayBe 6 = .ok (.if_icmp .lt 16, 3) := by decide +kernel
theorem dX4_mayBe_9 : decode cX4_mayBe 9 = .ok (.iload_n 2, 1) := by decide +kernel
theorem dX4_mayBe_10 : decode cX4_mayBe 10 = .ok (.getstatic 24, 3) := by decide +kernel
theorem dX4_mayBe_13 : decode cX4_mayBe 13 = .ok (.iload_n 1, 1) := by decide +kernel
theorem dX4_mayBe_14 : decode cX4_mayBe 14 = .ok (.iaload, 1) := by decide +kernel
theorem dX4_mayBe_15 : decode cX4_mayBe 15 = .ok (.if_icmp .gt 7, 3) := by decide +kernel
theorem dX4_mayBe_18 : decode cX4_mayBe 18 = .ok (.iconst 1, 1) := by decide +kernel
theorem dX4_mayBe_19 : decode cX4_mayBe 19 = .ok (.goto 4, 3) := by decide +kernel
theorem dX4_mayBe_22 : decode cX4_mayBe 22 = .ok (.iconst 0, 1) := by decide +kernel
theorem dX4_mayBe_23 : decode cX4_mayBe 23 = .ok (.ireturn, 1) := by decide +kernel
theorem dX4_number_0 : decode cX4_number 0 = .ok (.aload_n 0, 1) := by decide +kernel
theorem dX4_number_1 : decode cX4_number 1 = .ok (.getfield 18, 3) := by decide +kernel
theorem dX4_number_4 : decode cX4_number 4 = .ok (.iload_n 1, 1) := by decide +kernel
theorem dX4_number_5 : decode cX4_number 5 = .ok (.iaload, 1) := by decide +kernel
theorem dX4_number_6 : decode cX4_number 6 = .ok (.ireturn, 1) := by decide +kernel
theorem dX4_put_0 : decode cX4_put 0 = .ok (.aload_n 0, 1) := by decide +kernel
theorem dX4_put_1 : decode cX4_put 1 = .ok (.getfield 18, 3) := by decide +kernel
theorem dX4_put_4 : decode cX4_put 4 = .ok (.iload_n 1, 1) := by decide +kernel
theorem dX4_put_5 : decode cX4_put 5 = .ok (.iload_n 2, 1) := by decide +kernel
theorem dX4_put_6 : decode cX4_put 6 = .ok (.iastore, 1) := by decide +kernel
theorem dX4_put_7 : decode cX4_put 7 = .ok (.return_, 1) := by decide +kernel
theorem dX5_init_0 : decode cX5_init 0 = .ok (.aload_n 0, 1) := by decide +kernel
theorem dX5_init_1 : decode cX5_init 1 = .ok (.invokespecial 5, 3) := by decide +kernel
theorem dX5_init_4 : decode cX5_init 4 = .ok (.aload_n 0, 1) := by decide +kernel
theorem dX5_init_5 : decode cX5_init 5 = .ok (.sipush 3787, 3) := by decide +kernel
theorem dX5_init_8 : decode cX5_init 8 = .ok (.newarray .long, 2) := by decide +kernel
theorem dX5_init_10 : decode cX5_init 10 = .ok (.putfield 11, 3) := by decide +kernel
theorem dX5_init_13 : decode cX5_init 13 = .ok (.aload_n 0, 1) := by decide +kernel
theorem dX5_init_14 : decode cX5_init 14 = .ok (.sipush 3787, 3) := by decide +kernel
theorem dX5_init_17 : decode cX5_init 17 = .ok (.newarray .long, 2) := by decide +kernel
theorem dX5_init_19 : decode cX5_init 19 = .ok (.putfield 15, 3) := by decide +kernel
theorem dX5_init_22 : decode cX5_init 22 = .ok (.aload_n 0, 1) := by decide +kernel
theorem dX5_init_23 : decode cX5_init 23 = .ok (.bipush 17, 2) := by decide +kernel
theorem dX5_init_25 : decode cX5_init 25 = .ok (.newarray .int, 2) := by decide +kernel
theorem dX5_init_27 : decode cX5_init 27 = .ok (.putfield 18, 3) := by decide +kernel
theorem dX5_init_30 : decode cX5_init 30 = .ok (.aload_n 0, 1) := by decide +kernel
theorem dX5_init_31 : decode cX5_init 31 = .ok (.sipush 968, 3) := by decide +kernel
theorem dX5_init_34 : decode cX5_init 34 = .ok (.newarray .int, 2) := by decide +kernel
theorem dX5_init_36 : decode cX5_init 36 = .ok (.putfield 22, 3) := by decide +kernel
theorem dX5_init_39 : decode cX5_init 39 = .ok (.aload_n 0, 1) := by decide +kernel
theorem dX5_init_40 : decode cX5_init 40 = .ok (.sipush 968, 3) := by decide +kernel
theorem dX5_init_43 : decode cX5_init 43 = .ok (.newarray .long, 2) := by decide +kernel
theorem dX5_init_45 : decode cX5_init 45 = .ok (.putfield 25, 3) := by decide +kernel
theorem dX5_init_48 : decode cX5_init 48 = .ok (.aload_n 0, 1) := by decide +kernel
theorem dX5_init_49 : decode cX5_init 49 = .ok (.iconst 0, 1) := by decide +kernel
theorem dX5_init_50 : decode cX5_init 50 = .ok (.putfield 28, 3) := by decide +kernel
theorem dX5_init_53 : decode cX5_init 53 = .ok (.aload_n 0, 1) := by decide +kernel
theorem dX5_init_54 : decode cX5_init 54 = .ok (.aload_n 1, 1) := by decide +kernel
theorem dX5_init_55 : decode cX5_init 55 = .ok (.putfield 32, 3) := by decide +kernel
theorem dX5_init_58 : decode cX5_init 58 = .ok (.aload_n 0, 1) := by decide +kernel
theorem dX5_init_59 : decode cX5_init 59 = .ok (.aload_n 2, 1) := by decide +kernel
theorem dX5_init_60 : decode cX5_init 60 = .ok (.putfield 36, 3) := by decide +kernel
theorem dX5_init_63 : decode cX5_init 63 = .ok (.return_, 1) := by decide +kernel
theorem dX5_forget_0 : decode cX5_forget 0 = .ok (.aload_n 0, 1) := by decide +kernel
theorem dX5_forget_1 : decode cX5_forget 1 = .ok (.iconst 0, 1) := by decide +kernel
theorem dX5_forget_2 : decode cX5_forget 2 = .ok (.putfield 28, 3) := by decide +kernel
theorem dX5_forget_5 : decode cX5_forget 5 = .ok (.return_, 1) := by decide +kernel
set_option maxRecDepth 20000 in
theorem ggX5_bringUpToDate_X0_legCount : GoodIn wsX5_bringUpToDate wsX0_legCount := goodIn_r _ [8, 9, 102, 103, 104, 105, 106, 107] (by decide +kernel) (by decide +kernel)
set_option maxRecDepth 20000 in
theorem gX5_bringUpToDate_X0_legCount : GoodIn wsX5_bringUpToDate (wsV RX5 40 RX0 yX0_legCount wsX0_legCount) := goodIn_app (goodIn_of _ (by decide +kernel)) ggX5_bringUpToDate_X0_legCount
set_option maxRecDepth 20000 in
theorem ggX5_bringUpToDate_X5_driveOver : GoodIn wsX5_bringUpToDate wsX5_driveOver := goodIn_r _ [14, 2, 15, 16, 17, 18, 19, 20, 7, 21, 22, 23, 24, 25, 26, 27, 28, 29, 30, 31, 32, 33, 13, 34, 35, 36, 37, 38, 39, 40, 41, 42, 43, 44, 45, 46, 47, 48, 49, 50, 51, 52, 53, 54, 55, 56, 57, 58, 59, 60, 61, 62, 63, 64, 65, 66, 67, 68, 69, 70, 71, 72, 73, 74, 75, 76, 77, 78, 79, 80, 81, 82, 83, 84, 85, 86, 94, 95, 96, 97, 98, 99, 100, 101, 102, 103, 104, 105, 106, 107, 108, 109, 110] (by decide +kernel) (by decide +kernel)
set_option maxRecDepth 20000 in
theorem gX5_bringUpToDate_X5_driveOver : GoodIn wsX5_bringUpToDate (wsV RX5 46 RX5 yX5_driveOver wsX5_driveOver) := goodIn_app (goodIn_of _ (by decide +kernel)) ggX5_bringUpToDate_X5_driveOver
set_option maxRecDepth 20000 in
theorem ggX5_bringUpToDate_X5_gatherPairs : GoodIn wsX5_bringUpToDate wsX5_gatherPairs := goodIn_r _ [90, 91, 92, 93, 94, 95, 96, 97, 98, 99, 100, 101] (by decide +kernel) (by decide +kernel)
set_option maxRecDepth 20000 in
theorem gX5_bringUpToDate_X5_gatherPairs : GoodIn wsX5_bringUpToDate (wsV RX5 50 RX5 yX5_gatherPairs wsX5_gatherPairs) := goodIn_app (goodIn_of _ (by decide +kernel)) ggX5_bringUpToDate_X5_gatherPairs
theorem dX5_bringUpToDate_0 : decode cX5_bringUpToDate 0 = .ok (.aload_n 0, 1) := by decide +kernel
theorem dX5_bringUpToDate_1 : decode cX5_bringUpToDate 1 = .ok (.getfield 28, 3) := by decide +kernel
theorem dX5_bringUpToDate_4 : decode cX5_bringUpToDate 4 = .ok (.ifCond .eq 4, 3) := by decide +kernel
theorem dX5_bringUpToDate_7 : decode cX5_bringUpToDate 7 = .ok (.return_, 1) := by decide +kernel
theorem dX5_bringUpToDate_8 : decode cX5_bringUpToDate 8 = .ok (.iconst 0, 1) := by decide +kernel
theorem dX5_bringUpToDate_9 : decode cX5_bringUpToDate 9 = .ok (.istore_n 1, 1) := by decide +kernel
theorem dX5_bringUpToDate_10 : decode cX5_bringUpToDate 10 = .ok (.iconst 0, 1) := by decide +kernel
theorem dX5_bringUpToDate_11 : decode cX5_bringUpToDate 11 = .ok (.istore_n 2, 1) := by decide +kernel
theorem dX5_bringUpToDate_12 : decode cX5_bringUpToDate 12 = .ok (.iload_n 2, 1) := by decide +kernel
theorem dX5_bringUpToDate_13 : decode cX5_bringUpToDate 13 = .ok (.aload_n 0, 1) := by decide +kernel
theorem dX5_bringUpToDate_14 : decode cX5_bringUpToDate 14 = .ok (.getfield 32, 3) := by decide +kernel
theorem dX5_bringUpToDate_17 : decode cX5_bringUpToDate 17 = .ok (.invokevirtual 40, 3) := by decide +kernel
theorem dX5_bringUpToDate_20 : decode cX5_bringUpToDate 20 = .ok (.if_icmp .ge 27, 3) := by decide +kernel
theorem dX5_bringUpToDate_23 : decode cX5_bringUpToDate 23 = .ok (.aload_n 0, 1) := by decide +kernel
theorem dX5_bringUpToDate_24 : decode cX5_bringUpToDate 24 = .ok (.getfield 18, 3) := by decide +kernel
theorem dX5_bringUpToDate_27 : decode cX5_bringUpToDate 27 = .ok (.iload_n 2, 1) := by decide +kernel
theorem dX5_bringUpToDate_28 : decode cX5_bringUpToDate 28 = .ok (.iload_n 1, 1) := by decide +kernel
theorem dX5_bringUpToDate_29 : decode cX5_bringUpToDate 29 = .ok (.iastore, 1) := by decide +kernel
theorem dX5_bringUpToDate_30 : decode cX5_bringUpToDate 30 = .ok (.aload_n 0, 1) := by decide +kernel
theorem dX5_bringUpToDate_31 : decode cX5_bringUpToDate 31 = .ok (.aload_n 0, 1) := by decide +kernel
theorem dX5_bringUpToDate_32 : decode cX5_bringUpToDate 32 = .ok (.iload_n 2, 1) := by decide +kernel
theorem dX5_bringUpToDate_33 : decode cX5_bringUpToDate 33 = .ok (.invokevirtual 46, 3) := by decide +kernel
theorem dX5_bringUpToDate_36 : decode cX5_bringUpToDate 36 = .ok (.iload_n 1, 1) := by decide +kernel
theorem dX5_bringUpToDate_37 : decode cX5_bringUpToDate 37 = .ok (.invokevirtual 50, 3) := by decide +kernel
theorem dX5_bringUpToDate_40 : decode cX5_bringUpToDate 40 = .ok (.istore_n 1, 1) := by decide +kernel
theorem dX5_bringUpToDate_41 : decode cX5_bringUpToDate 41 = .ok (.iinc 2 1, 3) := by decide +kernel
theorem dX5_bringUpToDate_44 : decode cX5_bringUpToDate 44 = .ok (.goto (-32), 3) := by decide +kernel
theorem dX5_bringUpToDate_47 : decode cX5_bringUpToDate 47 = .ok (.aload_n 0, 1) := by decide +kernel
theorem dX5_bringUpToDate_48 : decode cX5_bringUpToDate 48 = .ok (.getfield 18, 3) := by decide +kernel
theorem dX5_bringUpToDate_51 : decode cX5_bringUpToDate 51 = .ok (.aload_n 0, 1) := by decide +kernel
theorem dX5_bringUpToDate_52 : decode cX5_bringUpToDate 52 = .ok (.getfield 32, 3) := by decide +kernel
theorem dX5_bringUpToDate_55 : decode cX5_bringUpToDate 55 = .ok (.invokevirtual 40, 3) := by decide +kernel
theorem dX5_bringUpToDate_58 : decode cX5_bringUpToDate 58 = .ok (.iload_n 1, 1) := by decide +kernel
theorem dX5_bringUpToDate_59 : decode cX5_bringUpToDate 59 = .ok (.iastore, 1) := by decide +kernel
theorem dX5_bringUpToDate_60 : decode cX5_bringUpToDate 60 = .ok (.aload_n 0, 1) := by decide +kernel
theorem dX5_bringUpToDate_61 : decode cX5_bringUpToDate 61 = .ok (.iconst 1, 1) := by decide +kernel
theorem dX5_bringUpToDate_62 : decode cX5_bringUpToDate 62 = .ok (.putfield 28, 3) := by decide +kernel
theorem dX5_bringUpToDate_65 : decode cX5_bringUpToDate 65 = .ok (.return_, 1) := by decide +kernel
set_option maxRecDepth 20000 in
theorem ggX5_driveOver_X0_firstPost : GoodIn wsX5_driveOver wsX0_firstPost := goodIn_r _ [9, 10, 84, 85, 86, 87, 88, 89] (by decide +kernel) (by decide +kernel)
set_option maxRecDepth 20000 in
theorem gX5_driveOver_X0_firstPost : GoodIn wsX5_driveOver (wsV RX5 54 RX0 yX0_firstPost wsX0_firstPost) := goodIn_app (goodIn_of _ (by decide +kernel)) ggX5_driveOver_X0_firstPost
set_option maxRecDepth 20000 in
theorem ggX5_driveOver_X0_lastPost : GoodIn wsX5_driveOver wsX0_lastPost := goodIn_r _ [14, 10, 84, 85, 86, 87, 88, 89] (by decide +kernel) (by decide +kernel)
set_option maxRecDepth 20000 in
theorem gX5_driveOver_X0_lastPost : GoodIn wsX5_driveOver (wsV RX5 58 RX0 yX0_lastPost wsX0_lastPost) := goodIn_app (goodIn_of _ (by decide +kernel)) ggX5_driveOver_X0_lastPost
set_option maxRecDepth 20000 in
theorem ggX5_driveOver_J7_fill_d0a16 : GoodIn wsX5_driveOver wsJ7_fill_d0a16 := goodIn_r _ [18] (by decide +kernel) (by decide +kernel)
set_option maxRecDepth 20000 in
theorem gX5_driveOver_J7_fill_d0a16 : GoodIn wsX5_driveOver (va_wsS RX5 63 yJ7_fill_d0a16 wsJ7_fill_d0a16) := goodIn_app (goodIn_of _ (by decide +kernel)) ggX5_driveOver_J7_fill_d0a16
set_option maxRecDepth 20000 in
theorem ggX5_driveOver_X5_driveThrough : GoodIn wsX5_driveOver wsX5_driveThrough := goodIn_r _ [23, 24, 25, 26, 27, 28, 29, 30, 31, 32, 33, 34, 35, 36, 37, 38, 39, 40, 41, 8, 42, 43, 44, 45, 46, 47, 48, 49, 50, 51, 52, 53, 54, 55, 56, 57, 58, 59, 60, 61, 62, 63, 64, 22, 65, 66, 67, 68, 69, 70, 71, 72, 4, 73, 74, 75, 76, 77, 78, 79, 80, 81, 82, 83, 90, 91, 84, 85, 86, 87, 88, 89, 92] (by decide +kernel) (by decide +kernel)
set_option maxRecDepth 20000 in
theorem gX5_driveOver_X5_driveThrough : GoodIn wsX5_driveOver (wsV RX5 69 RX5 yX5_driveThrough wsX5_driveThrough) := goodIn_app (goodIn_of _ (by decide +kernel)) ggX5_driveOver_X5_driveThrough
theorem dX5_driveOver_0 : decode cX5_driveOver 0 = .ok (.aload_n 0, 1) := by decide +kernel
theorem dX5_driveOver_1 : decode cX5_driveOver 1 = .ok (.getfield 32, 3) := by decide +kernel
theorem dX5_driveOver_4 : decode cX5_driveOver 4 = .ok (.iload_n 1, 1) := by decide +kernel
theorem dX5_driveOver_5 : decode cX5_driveOver 5 = .ok (.invokevirtual 54, 3) := by decide +kernel
theorem dX5_driveOver_8 : decode cX5_driveOver 8 = .ok (.istore_n 2, 1) := by decide +kernel
theorem dX5_driveOver_9 : decode cX5_driveOver 9 = .ok (.aload_n 0, 1) := by decide +kernel
theorem dX5_driveOver_10 : decode cX5_driveOver 10 = .ok (.getfield 32, 3) := by decide +kernel
theorem dX5_driveOver_13 : decode cX5_driveOver 13 = .ok (.iload_n 1, 1) := by decide +kernel
theorem dX5_driveOver_14 : decode cX5_driveOver 14 = .ok (.invokevirtual 58, 3) := by decide +kernel
theorem dX5_driveOver_17 : decode cX5_driveOver 17 = .ok (.istore_n 3, 1) := by decide +kernel
theorem dX5_driveOver_18 : decode cX5_driveOver 18 = .ok (.aload_n 0, 1) := by decide +kernel
theorem dX5_driveOver_19 : decode cX5_driveOver 19 = .ok (.getfield 11, 3) := by decide +kernel
theorem dX5_driveOver_22 : decode cX5_driveOver 22 = .ok (.astore 4, 2) := by decide +kernel
theorem dX5_driveOver_24 : decode cX5_driveOver 24 = .ok (.aload_n 0, 1) := by decide +kernel
theorem dX5_driveOver_25 : decode cX5_driveOver 25 = .ok (.getfield 15, 3) := by decide +kernel
theorem dX5_driveOver_28 : decode cX5_driveOver 28 = .ok (.astore 5, 2) := by decide +kernel
theorem dX5_driveOver_30 : decode cX5_driveOver 30 = .ok (.aload 4, 2) := by decide +kernel
theorem dX5_driveOver_32 : decode cX5_driveOver 32 = .ok (.ldc2_w 61, 3) := by decide +kernel
theorem dX5_driveOver_35 : decode cX5_driveOver 35 = .ok (.invokestatic 63, 3) := by decide +kernel
theorem dX5_driveOver_38 : decode cX5_driveOver 38 = .ok (.aload 4, 2) := by decide +kernel
theorem dX5_driveOver_40 : decode cX5_driveOver 40 = .ok (.iconst 0, 1) := by decide +kernel
theorem dX5_driveOver_41 : decode cX5_driveOver 41 = .ok (.lconst 0, 1) := by decide +kernel
theorem dX5_driveOver_42 : decode cX5_driveOver 42 = .ok (.lastore, 1) := by decide +kernel
theorem dX5_driveOver_43 : decode cX5_driveOver 43 = .ok (.iload_n 2, 1) := by decide +kernel
theorem dX5_driveOver_44 : decode cX5_driveOver 44 = .ok (.istore 6, 2) := by decide +kernel
theorem dX5_driveOver_46 : decode cX5_driveOver 46 = .ok (.iload 6, 2) := by decide +kernel
theorem dX5_driveOver_48 : decode cX5_driveOver 48 = .ok (.iload_n 3, 1) := by decide +kernel
theorem dX5_driveOver_49 : decode cX5_driveOver 49 = .ok (.if_icmp .ge 56, 3) := by decide +kernel
theorem dX5_driveOver_52 : decode cX5_driveOver 52 = .ok (.aload 5, 2) := by decide +kernel
theorem dX5_driveOver_54 : decode cX5_driveOver 54 = .ok (.ldc2_w 61, 3) := by decide +kernel
theorem dX5_driveOver_57 : decode cX5_driveOver 57 = .ok (.invokestatic 63, 3) := by decide +kernel
theorem dX5_driveOver_60 : decode cX5_driveOver 60 = .ok (.aload_n 0, 1) := by decide +kernel
theorem dX5_driveOver_61 : decode cX5_driveOver 61 = .ok (.iload 6, 2) := by decide +kernel
theorem dX5_driveOver_63 : decode cX5_driveOver 63 = .ok (.iload 6, 2) := by decide +kernel
theorem dX5_driveOver_65 : decode cX5_driveOver 65 = .ok (.iload_n 2, 1) := by decide +kernel
theorem dX5_driveOver_66 : decode cX5_driveOver 66 = .ok (.isub, 1) := by decide +kernel
theorem dX5_driveOver_67 : decode cX5_driveOver 67 = .ok (.iload 6, 2) := by decide +kernel
theorem dX5_driveOver_69 : decode cX5_driveOver 69 = .ok (.iconst 1, 1) := by decide +kernel
theorem dX5_driveOver_70 : decode cX5_driveOver 70 = .ok (.iadd, 1) := by decide +kernel
theorem dX5_driveOver_71 : decode cX5_driveOver 71 = .ok (.iload_n 3, 1) := by decide +kernel
theorem dX5_driveOver_72 : decode cX5_driveOver 72 = .ok (.if_icmp .ne 7, 3) := by decide +kernel
theorem dX5_driveOver_75 : decode cX5_driveOver 75 = .ok (.iconst 1, 1) := by decide +kernel
theorem dX5_driveOver_76 : decode cX5_driveOver 76 = .ok (.goto 4, 3) := by decide +kernel
theorem dX5_driveOver_79 : decode cX5_driveOver 79 = .ok (.iconst 0, 1) := by decide +kernel
theorem dX5_driveOver_80 : decode cX5_driveOver 80 = .ok (.aload 4, 2) := by decide +kernel
theorem dX5_driveOver_82 : decode cX5_driveOver 82 = .ok (.aload 5, 2) := by decide +kernel
theorem dX5_driveOver_84 : decode cX5_driveOver 84 = .ok (.invokevirtual 69, 3) := by decide +kernel
theorem dX5_driveOver_87 : decode cX5_driveOver 87 = .ok (.aload 4, 2) := by decide +kernel
theorem dX5_driveOver_89 : decode cX5_driveOver 89 = .ok (.astore 7, 2) := by decide +kernel
theorem dX5_driveOver_91 : decode cX5_driveOver 91 = .ok (.aload 5, 2) := by decide +kernel
theorem dX5_driveOver_93 : decode cX5_driveOver 93 = .ok (.astore 4, 2) := by decide +kernel
theorem dX5_driveOver_95 : decode cX5_driveOver 95 = .ok (.aload 7, 2) := by decide +kernel
theorem dX5_driveOver_97 : decode cX5_driveOver 97 = .ok (.astore 5, 2) := by decide +kernel
theorem dX5_driveOver_99 : decode cX5_driveOver 99 = .ok (.iinc 6 1, 3) := by decide +kernel
theorem dX5_driveOver_102 : decode cX5_driveOver 102 = .ok (.goto (-56), 3) := by decide +kernel
theorem dX5_driveOver_105 : decode cX5_driveOver 105 = .ok (.aload 4, 2) := by decide +kernel
theorem dX5_driveOver_107 : decode cX5_driveOver 107 = .ok (.areturn, 1) := by decide +kernel
set_option maxRecDepth 20000 in
theorem ggX5_driveThrough_X3_faultOf : GoodIn wsX5_driveThrough wsX3_faultOf := goodIn_r _ [6, 7, 8, 9, 10, 11, 12, 13, 14, 15, 16, 17, 18, 19, 20, 21, 22, 23, 24, 5, 25, 26, 27, 28, 29, 30, 31, 32, 33, 34, 35, 36, 64, 65, 66, 67, 68, 69, 70, 71, 72] (by decide +kernel) (by decide +kernel)
set_option maxRecDepth 20000 in
theorem gX5_driveThrough_X3_faultOf : GoodIn wsX5_driveThrough (wsV RX5 73 RX3 yX3_faultOf wsX3_faultOf) := goodIn_app (goodIn_of _ (by decide +kernel)) ggX5_driveThrough_X3_faultOf
set_option maxRecDepth 20000 in
theorem ggX5_driveThrough_X3_powerOf : GoodIn wsX5_driveThrough wsX3_powerOf := goodIn_r _ [40, 15, 22, 23, 24, 5, 25, 11, 26, 27, 28, 29, 30, 31, 32, 33, 34, 19, 35, 36, 64, 65, 72, 66, 67, 68, 69, 70, 71] (by decide +kernel) (by decide +kernel)
set_option maxRecDepth 20000 in
theorem gX5_driveThrough_X3_powerOf : GoodIn wsX5_driveThrough (wsV RX5 79 RX3 yX3_powerOf wsX3_powerOf) := goodIn_app (goodIn_of _ (by decide +kernel)) ggX5_driveThrough_X3_powerOf
set_option maxRecDepth 20000 in
theorem ggX5_driveThrough_X5_speedPlace : GoodIn wsX5_driveThrough wsX5_speedPlace := goodIn_r _ [44] (by decide +kernel) (by decide +kernel)
set_option maxRecDepth 20000 in
theorem gX5_driveThrough_X5_speedPlace : GoodIn wsX5_driveThrough (va_wsS RX5 82 yX5_speedPlace wsX5_speedPlace) := goodIn_app (goodIn_of _ (by decide +kernel)) ggX5_driveThrough_X5_speedPlace
set_option maxRecDepth 20000 in
theorem ggX5_driveThrough_X3_timeOf : GoodIn wsX5_driveThrough wsX3_timeOf := goodIn_r _ [48] (by decide +kernel) (by decide +kernel)
set_option maxRecDepth 20000 in
theorem gX5_driveThrough_X3_timeOf : GoodIn wsX5_driveThrough (wsV RX5 85 RX3 yX3_timeOf wsX3_timeOf) := goodIn_app (goodIn_of _ (by decide +kernel)) ggX5_driveThrough_X3_timeOf
set_option maxRecDepth 20000 in
theorem ggX5_driveThrough_X5_spread : GoodIn wsX5_driveThrough wsX5_spread := goodIn_r _ [51, 52, 53, 54, 9, 55] (by decide +kernel) (by decide +kernel)
set_option maxRecDepth 20000 in
theorem gX5_driveThrough_X5_spread : GoodIn wsX5_driveThrough (va_wsS RX5 89 yX5_spread wsX5_spread) := goodIn_app (goodIn_of _ (by decide +kernel)) ggX5_driveThrough_X5_spread
theorem dX5_driveThrough_0 : decode cX5_driveThrough 0 = .ok (.iload_n 3, 1) := by decide +kernel
theorem dX5_driveThrough_1 : decode cX5_driveThrough 1 = .ok (.ifCond .eq 7, 3) := by decide +kernel
theorem dX5_driveThrough_4 : decode cX5_driveThrough 4 = .ok (.iconst 0, 1) := by decide +kernel
theorem dX5_driveThrough_5 : decode cX5_driveThrough 5 = .ok (.goto 4, 3) := by decide +kernel
theorem dX5_driveThrough_8 : decode cX5_driveThrough 8 = .ok (.iconst 1, 1) := by decide +kernel
theorem dX5_driveThrough_9 : decode cX5_driveThrough 9 = .ok (.istore 6, 2) := by decide +kernel
theorem dX5_driveThrough_11 : decode cX5_driveThrough 11 = .ok (.iload_n 3, 1) := by decide +kernel
theorem dX5_driveThrough_12 : decode cX5_driveThrough 12 = .ok (.ifCond .eq 7, 3) := by decide +kernel
theorem dX5_driveThrough_15 : decode cX5_driveThrough 15 = .ok (.iconst 0, 1) := by decide +kernel
theorem dX5_driveThrough_16 : decode cX5_driveThrough 16 = .ok (.goto 5, 3) := by decide +kernel
theorem dX5_driveThrough_19 : decode cX5_driveThrough 19 = .ok (.bipush 6, 2) := by decide +kernel
theorem dX5_driveThrough_21 : decode cX5_driveThrough 21 = .ok (.istore 7, 2) := by decide +kernel
theorem dX5_driveThrough_23 : decode cX5_driveThrough 23 = .ok (.bipush 30, 2) := by decide +kernel
theorem dX5_driveThrough_25 : decode cX5_driveThrough 25 = .ok (.iload_n 2, 1) := by decide +kernel
theorem dX5_driveThrough_26 : decode cX5_driveThrough 26 = .ok (.iconst 1, 1) := by decide +kernel
theorem dX5_driveThrough_27 : decode cX5_driveThrough 27 = .ok (.iadd, 1) := by decide +kernel
theorem dX5_driveThrough_28 : decode cX5_driveThrough 28 = .ok (.imul, 1) := by decide +kernel
theorem dX5_driveThrough_29 : decode cX5_driveThrough 29 = .ok (.istore 8, 2) := by decide +kernel
theorem dX5_driveThrough_31 : decode cX5_driveThrough 31 = .ok (.iconst 0, 1) := by decide +kernel
theorem dX5_driveThrough_32 : decode cX5_driveThrough 32 = .ok (.istore 9, 2) := by decide +kernel
theorem dX5_driveThrough_34 : decode cX5_driveThrough 34 = .ok (.iload 9, 2) := by decide +kernel
theorem dX5_driveThrough_36 : decode cX5_driveThrough 36 = .ok (.bipush 6, 2) := by decide +kernel
theorem dX5_driveThrough_38 : decode cX5_driveThrough 38 = .ok (.if_icmp .gt 105, 3) := by decide +kernel
theorem dX5_driveThrough_41 : decode cX5_driveThrough 41 = .ok (.iload 6, 2) := by decide +kernel
theorem dX5_driveThrough_43 : decode cX5_driveThrough 43 = .ok (.istore 10, 2) := by decide +kernel
theorem dX5_driveThrough_45 : decode cX5_driveThrough 45 = .ok (.iload 10, 2) := by decide +kernel
theorem dX5_driveThrough_47 : decode cX5_driveThrough 47 = .ok (.iload 7, 2) := by decide +kernel
theorem dX5_driveThrough_49 : decode cX5_driveThrough 49 = .ok (.if_icmp .gt 88, 3) := by decide +kernel
theorem dX5_driveThrough_52 : decode cX5_driveThrough 52 = .ok (.aload_n 0, 1) := by decide +kernel
theorem dX5_driveThrough_53 : decode cX5_driveThrough 53 = .ok (.getfield 36, 3) := by decide +kernel
theorem dX5_driveThrough_56 : decode cX5_driveThrough 56 = .ok (.iload_n 1, 1) := by decide +kernel
theorem dX5_driveThrough_57 : decode cX5_driveThrough 57 = .ok (.iload 9, 2) := by decide +kernel
theorem dX5_driveThrough_59 : decode cX5_driveThrough 59 = .ok (.iload 10, 2) := by decide +kernel
theorem dX5_driveThrough_61 : decode cX5_driveThrough 61 = .ok (.invokevirtual 73, 3) := by decide +kernel
theorem dX5_driveThrough_64 : decode cX5_driveThrough 64 = .ok (.ifCond .ne 67, 3) := by decide +kernel
theorem dX5_driveThrough_67 : decode cX5_driveThrough 67 = .ok (.aload_n 0, 1) := by decide +kernel
theorem dX5_driveThrough_68 : decode cX5_driveThrough 68 = .ok (.getfield 36, 3) := by decide +kernel
theorem dX5_driveThrough_71 : decode cX5_driveThrough 71 = .ok (.iload_n 1, 1) := by decide +kernel
theorem dX5_driveThrough_72 : decode cX5_driveThrough 72 = .ok (.iload 9, 2) := by decide +kernel
theorem dX5_driveThrough_74 : decode cX5_driveThrough 74 = .ok (.iload 10, 2) := by decide +kernel
theorem dX5_driveThrough_76 : decode cX5_driveThrough 76 = .ok (.invokevirtual 79, 3) := by decide +kernel
theorem dX5_driveThrough_79 : decode cX5_driveThrough 79 = .ok (.i2l, 1) := by decide +kernel
theorem dX5_driveThrough_80 : decode cX5_driveThrough 80 = .ok (.bipush 48, 2) := by decide +kernel
theorem dX5_driveThrough_82 : decode cX5_driveThrough 82 = .ok (.lshl, 1) := by decide +kernel
theorem dX5_driveThrough_83 : decode cX5_driveThrough 83 = .ok (.iload 10, 2) := by decide +kernel
theorem dX5_driveThrough_85 : decode cX5_driveThrough 85 = .ok (.i2l, 1) := by decide +kernel
theorem dX5_driveThrough_86 : decode cX5_driveThrough 86 = .ok (.iload_n 2, 1) := by decide +kernel
theorem dX5_driveThrough_87 : decode cX5_driveThrough 87 = .ok (.iconst 1, 1) := by decide +kernel
theorem dX5_driveThrough_88 : decode cX5_driveThrough 88 = .ok (.iadd, 1) := by decide +kernel
theorem dX5_driveThrough_89 : decode cX5_driveThrough 89 = .ok (.invokestatic 82, 3) := by decide +kernel
theorem dX5_driveThrough_92 : decode cX5_driveThrough 92 = .ok (.lshl, 1) := by decide +kernel
theorem dX5_driveThrough_93 : decode cX5_driveThrough 93 = .ok (.ladd, 1) := by decide +kernel
theorem dX5_driveThrough_94 : decode cX5_driveThrough 94 = .ok (.lstore 11, 2) := by decide +kernel
theorem dX5_driveThrough_96 : decode cX5_driveThrough 96 = .ok (.aload 4, 2) := by decide +kernel
theorem dX5_driveThrough_98 : decode cX5_driveThrough 98 = .ok (.iload 9, 2) := by decide +kernel
theorem dX5_driveThrough_100 : decode cX5_driveThrough 100 = .ok (.sipush 541, 3) := by decide +kernel
theorem dX5_driveThrough_103 : decode cX5_driveThrough 103 = .ok (.imul, 1) := by decide +kernel
theorem dX5_driveThrough_104 : decode cX5_driveThrough 104 = .ok (.aload 5, 2) := by decide +kernel
theorem dX5_driveThrough_106 : decode cX5_driveThrough 106 = .ok (.iload 10, 2) := by decide +kernel
theorem dX5_driveThrough_108 : decode cX5_driveThrough 108 = .ok (.sipush 541, 3) := by decide +kernel
theorem dX5_driveThrough_111 : decode cX5_driveThrough 111 = .ok (.imul, 1) := by decide +kernel
theorem dX5_driveThrough_112 : decode cX5_driveThrough 112 = .ok (.aload_n 0, 1) := by decide +kernel
theorem dX5_driveThrough_113 : decode cX5_driveThrough 113 = .ok (.getfield 36, 3) := by decide +kernel
theorem dX5_driveThrough_116 : decode cX5_driveThrough 116 = .ok (.iload 9, 2) := by decide +kernel
theorem dX5_driveThrough_118 : decode cX5_driveThrough 118 = .ok (.iload 10, 2) := by decide +kernel
theorem dX5_driveThrough_120 : decode cX5_driveThrough 120 = .ok (.invokevirtual 85, 3) := by decide +kernel
theorem dX5_driveThrough_123 : decode cX5_driveThrough 123 = .ok (.iadd, 1) := by decide +kernel
theorem dX5_driveThrough_124 : decode cX5_driveThrough 124 = .ok (.iload 8, 2) := by decide +kernel
theorem dX5_driveThrough_126 : decode cX5_driveThrough 126 = .ok (.lload 11, 2) := by decide +kernel
theorem dX5_driveThrough_128 : decode cX5_driveThrough 128 = .ok (.invokestatic 89, 3) := by decide +kernel
theorem dX5_driveThrough_131 : decode cX5_driveThrough 131 = .ok (.iinc 10 1, 3) := by decide +kernel
theorem dX5_driveThrough_134 : decode cX5_driveThrough 134 = .ok (.goto (-89), 3) := by decide +kernel
theorem dX5_driveThrough_137 : decode cX5_driveThrough 137 = .ok (.iinc 9 1, 3) := by decide +kernel
theorem dX5_driveThrough_140 : decode cX5_driveThrough 140 = .ok (.goto (-106), 3) := by decide +kernel
theorem dX5_driveThrough_143 : decode cX5_driveThrough 143 = .ok (.return_, 1) := by decide +kernel
theorem dX5_spread_0 : decode cX5_spread 0 = .ok (.iconst 0, 1) := by decide +kernel
theorem dX5_spread_1 : decode cX5_spread 1 = .ok (.istore 7, 2) := by decide +kernel
theorem dX5_spread_3 : decode cX5_spread 3 = .ok (.iload 7, 2) := by decide +kernel
theorem dX5_spread_5 : decode cX5_spread 5 = .ok (.iload 4, 2) := by decide +kernel
theorem dX5_spread_7 : decode cX5_spread 7 = .ok (.if_icmp .gt 46, 3) := by decide +kernel
theorem dX5_spread_10 : decode cX5_spread 10 = .ok (.aload_n 0, 1) := by decide +kernel
theorem dX5_spread_11 : decode cX5_spread 11 = .ok (.iload_n 1, 1) := by decide +kernel
theorem dX5_spread_12 : decode cX5_spread 12 = .ok (.iload 7, 2) := by decide +kernel
theorem dX5_spread_14 : decode cX5_spread 14 = .ok (.iadd, 1) := by decide +kernel
theorem dX5_spread_15 : decode cX5_spread 15 = .ok (.laload, 1) := by decide +kernel
theorem dX5_spread_16 : decode cX5_spread 16 = .ok (.lstore 8, 2) := by decide +kernel
theorem dX5_spread_18 : decode cX5_spread 18 = .ok (.lload 8, 2) := by decide +kernel
theorem dX5_spread_20 : decode cX5_spread 20 = .ok (.ldc2_w 61, 3) := by decide +kernel
theorem dX5_spread_23 : decode cX5_spread 23 = .ok (.lcmp, 1) := by decide +kernel
theorem dX5_spread_24 : decode cX5_spread 24 = .ok (.ifCond .eq 23, 3) := by decide +kernel
theorem dX5_spread_27 : decode cX5_spread 27 = .ok (.aload_n 2, 1) := by decide +kernel
theorem dX5_spread_28 : decode cX5_spread 28 = .ok (.iload_n 3, 1) := by decide +kernel
theorem dX5_spread_29 : decode cX5_spread 29 = .ok (.iload 7, 2) := by decide +kernel
theorem dX5_spread_31 : decode cX5_spread 31 = .ok (.iadd, 1) := by decide +kernel
theorem dX5_spread_32 : decode cX5_spread 32 = .ok (.aload_n 2, 1) := by decide +kernel
theorem dX5_spread_33 : decode cX5_spread 33 = .ok (.iload_n 3, 1) := by decide +kernel
theorem dX5_spread_34 : decode cX5_spread 34 = .ok (.iload 7, 2) := by decide +kernel
theorem dX5_spread_36 : decode cX5_spread 36 = .ok (.iadd, 1) := by decide +kernel
theorem dX5_spread_37 : decode cX5_spread 37 = .ok (.laload, 1) := by decide +kernel
theorem dX5_spread_38 : decode cX5_spread 38 = .ok (.lload 8, 2) := by decide +kernel
theorem dX5_spread_40 : decode cX5_spread 40 = .ok (.lload 5, 2) := by decide +kernel
theorem dX5_spread_42 : decode cX5_spread 42 = .ok (.ladd, 1) := by decide +kernel
theorem dX5_spread_43 : decode cX5_spread 43 = .ok (.invokestatic 93, 3) := by decide +kernel
theorem dX5_spread_46 : decode cX5_spread 46 = .ok (.lastore, 1) := by decide +kernel
theorem dX5_spread_47 : decode cX5_spread 47 = .ok (.iinc 7 1, 3) := by decide +kernel
theorem dX5_spread_50 : decode cX5_spread 50 = .ok (.goto (-47), 3) := by decide +kernel
theorem dX5_spread_53 : decode cX5_spread 53 = .ok (.return_, 1) := by decide +kernel
theorem dX5_gatherPairs_0 : decode cX5_gatherPairs 0 = .ok (.iload_n 2, 1) := by decide +kernel
theorem dX5_gatherPairs_1 : decode cX5_gatherPairs 1 = .ok (.istore_n 3, 1) := by decide +kernel
theorem dX5_gatherPairs_2 : decode cX5_gatherPairs 2 = .ok (.ldc2_w 99, 3) := by decide +kernel
theorem dX5_gatherPairs_5 : decode cX5_gatherPairs 5 = .ok (.lstore 4, 2) := by decide +kernel
theorem dX5_gatherPairs_7 : decode cX5_gatherPairs 7 = .ok (.iconst 0, 1) := by decide +kernel
theorem dX5_gatherPairs_8 : decode cX5_gatherPairs 8 = .ok (.istore 6, 2) := by decide +kernel
theorem dX5_gatherPairs_10 : decode cX5_gatherPairs 10 = .ok (.iload 6, 2) := by decide +kernel
theorem dX5_gatherPairs_12 : decode cX5_gatherPairs 12 = .ok (.sipush 541, 3) := by decide +kernel
theorem dX5_gatherPairs_15 : decode cX5_gatherPairs 15 = .ok (.if_icmp .ge 58, 3) := by decide +kernel
theorem dX5_gatherPairs_18 : decode cX5_gatherPairs 18 = .ok (.iload_n 3, 1) := by decide +kernel
theorem dX5_gatherPairs_19 : decode cX5_gatherPairs 19 = .ok (.sipush 968, 3) := by decide +kernel
theorem dX5_gatherPairs_22 : decode cX5_gatherPairs 22 = .ok (.if_icmp .ge 51, 3) := by decide +kernel
theorem dX5_gatherPairs_25 : decode cX5_gatherPairs 25 = .ok (.aload_n 1, 1) := by decide +kernel
theorem dX5_gatherPairs_26 : decode cX5_gatherPairs 26 = .ok (.iload 6, 2) := by decide +kernel
theorem dX5_gatherPairs_28 : decode cX5_gatherPairs 28 = .ok (.laload, 1) := by decide +kernel
theorem dX5_gatherPairs_29 : decode cX5_gatherPairs 29 = .ok (.bipush 48, 2) := by decide +kernel
theorem dX5_gatherPairs_31 : decode cX5_gatherPairs 31 = .ok (.lshr, 1) := by decide +kernel
theorem dX5_gatherPairs_32 : decode cX5_gatherPairs 32 = .ok (.lstore 7, 2) := by decide +kernel
theorem dX5_gatherPairs_34 : decode cX5_gatherPairs 34 = .ok (.lload 7, 2) := by decide +kernel
theorem dX5_gatherPairs_36 : decode cX5_gatherPairs 36 = .ok (.lload 4, 2) := by decide +kernel
theorem dX5_gatherPairs_38 : decode cX5_gatherPairs 38 = .ok (.lcmp, 1) := by decide +kernel
theorem dX5_gatherPairs_39 : decode cX5_gatherPairs 39 = .ok (.ifCond .ge 28, 3) := by decide +kernel
theorem dX5_gatherPairs_42 : decode cX5_gatherPairs 42 = .ok (.lload 7, 2) := by decide +kernel
theorem dX5_gatherPairs_44 : decode cX5_gatherPairs 44 = .ok (.lstore 4, 2) := by decide +kernel
theorem dX5_gatherPairs_46 : decode cX5_gatherPairs 46 = .ok (.aload_n 0, 1) := by decide +kernel
theorem dX5_gatherPairs_47 : decode cX5_gatherPairs 47 = .ok (.getfield 22, 3) := by decide +kernel
theorem dX5_gatherPairs_50 : decode cX5_gatherPairs 50 = .ok (.iload_n 3, 1) := by decide +kernel
theorem dX5_gatherPairs_51 : decode cX5_gatherPairs 51 = .ok (.iload 6, 2) := by decide +kernel
theorem dX5_gatherPairs_53 : decode cX5_gatherPairs 53 = .ok (.iastore, 1) := by decide +kernel
theorem dX5_gatherPairs_54 : decode cX5_gatherPairs 54 = .ok (.aload_n 0, 1) := by decide +kernel
theorem dX5_gatherPairs_55 : decode cX5_gatherPairs 55 = .ok (.getfield 25, 3) := by decide +kernel
theorem dX5_gatherPairs_58 : decode cX5_gatherPairs 58 = .ok (.iload_n 3, 1) := by decide +kernel
theorem dX5_gatherPairs_59 : decode cX5_gatherPairs 59 = .ok (.aload_n 1, 1) := by decide +kernel
theorem dX5_gatherPairs_60 : decode cX5_gatherPairs 60 = .ok (.iload 6, 2) := by decide +kernel
theorem dX5_gatherPairs_62 : decode cX5_gatherPairs 62 = .ok (.laload, 1) := by decide +kernel
theorem dX5_gatherPairs_63 : decode cX5_gatherPairs 63 = .ok (.lastore, 1) := by decide +kernel
theorem dX5_gatherPairs_64 : decode cX5_gatherPairs 64 = .ok (.iinc 3 1, 3) := by decide +kernel
theorem dX5_gatherPairs_67 : decode cX5_gatherPairs 67 = .ok (.iinc 6 1, 3) := by decide +kernel
theorem dX5_gatherPairs_70 : decode cX5_gatherPairs 70 = .ok (.goto (-60), 3) := by decide +kernel
theorem dX5_gatherPairs_73 : decode cX5_gatherPairs 73 = .ok (.iload_n 3, 1) := by decide +kernel
theorem dX5_gatherPairs_74 : decode cX5_gatherPairs 74 = .ok (.ireturn, 1) := by decide +kernel
theorem dX5_speedPlace_0 : decode cX5_speedPlace 0 = .ok (.iconst 3, 1) := by decide +kernel
theorem dX5_speedPlace_1 : decode cX5_speedPlace 1 = .ok (.bipush 16, 2) := by decide +kernel
theorem dX5_speedPlace_3 : decode cX5_speedPlace 3 = .ok (.iload_n 0, 1) := by decide +kernel
theorem dX5_speedPlace_4 : decode cX5_speedPlace 4 = .ok (.isub, 1) := by decide +kernel
theorem dX5_speedPlace_5 : decode cX5_speedPlace 5 = .ok (.imul, 1) := by decide +kernel
theorem dX5_speedPlace_6 : decode cX5_speedPlace 6 = .ok (.ireturn, 1) := by decide +kernel
theorem dX5_pairCount_0 : decode cX5_pairCount 0 = .ok (.aload_n 0, 1) := by decide +kernel
theorem dX5_pairCount_1 : decode cX5_pairCount 1 = .ok (.getfield 18, 3) := by decide +kernel
theorem dX5_pairCount_4 : decode cX5_pairCount 4 = .ok (.iload_n 1, 1) := by decide +kernel
theorem dX5_pairCount_5 : decode cX5_pairCount 5 = .ok (.iconst 1, 1) := by decide +kernel
theorem dX5_pairCount_6 : decode cX5_pairCount 6 = .ok (.iadd, 1) := by decide +kernel
theorem dX5_pairCount_7 : decode cX5_pairCount 7 = .ok (.iaload, 1) := by decide +kernel
theorem dX5_pairCount_8 : decode cX5_pairCount 8 = .ok (.aload_n 0, 1) := by decide +kernel
theorem dX5_pairCount_9 : decode cX5_pairCount 9 = .ok (.getfield 18, 3) := by decide +kernel
theorem dX5_pairCount_12 : decode cX5_pairCount 12 = .ok (.iload_n 1, 1) := by decide +kernel
theorem dX5_pairCount_13 : decode cX5_pairCount 13 = .ok (.iaload, 1) := by decide +kernel
theorem dX5_pairCount_14 : decode cX5_pairCount 14 = .ok (.isub, 1) := by decide +kernel
theorem dX5_pairCount_15 : decode cX5_pairCount 15 = .ok (.ireturn, 1) := by decide +kernel
theorem dX5_pairTime_0 : decode cX5_pairTime 0 = .ok (.aload_n 0, 1) := by decide +kernel
theorem dX5_pairTime_1 : decode cX5_pairTime 1 = .ok (.getfield 22, 3) := by decide +kernel
theorem dX5_pairTime_4 : decode cX5_pairTime 4 = .ok (.aload_n 0, 1) := by decide +kernel
theorem dX5_pairTime_5 : decode cX5_pairTime 5 = .ok (.getfield 18, 3) := by decide +kernel
theorem dX5_pairTime_8 : decode cX5_pairTime 8 = .ok (.iload_n 1, 1) := by decide +kernel
theorem dX5_pairTime_9 : decode cX5_pairTime 9 = .ok (.iaload, 1) := by decide +kernel
theorem dX5_pairTime_10 : decode cX5_pairTime 10 = .ok (.iload_n 2, 1) := by decide +kernel
theorem dX5_pairTime_11 : decode cX5_pairTime 11 = .ok (.iadd, 1) := by decide +kernel
theorem dX5_pairTime_12 : decode cX5_pairTime 12 = .ok (.iaload, 1) := by decide +kernel
theorem dX5_pairTime_13 : decode cX5_pairTime 13 = .ok (.ireturn, 1) := by decide +kernel
theorem dX5_pairPower_0 : decode cX5_pairPower 0 = .ok (.aload_n 0, 1) := by decide +kernel
theorem dX5_pairPower_1 : decode cX5_pairPower 1 = .ok (.getfield 25, 3) := by decide +kernel
theorem dX5_pairPower_4 : decode cX5_pairPower 4 = .ok (.aload_n 0, 1) := by decide +kernel
theorem dX5_pairPower_5 : decode cX5_pairPower 5 = .ok (.getfield 18, 3) := by decide +kernel
theorem dX5_pairPower_8 : decode cX5_pairPower 8 = .ok (.iload_n 1, 1) := by decide +kernel
theorem dX5_pairPower_9 : decode cX5_pairPower 9 = .ok (.iaload, 1) := by decide +kernel
theorem dX5_pairPower_10 : decode cX5_pairPower 10 = .ok (.iload_n 2, 1) := by decide +kernel
theorem dX5_pairPower_11 : decode cX5_pairPower 11 = .ok (.iadd, 1) := by decide +kernel
theorem dX5_pairPower_12 : decode cX5_pairPower 12 = .ok (.laload, 1) := by decide +kernel
theorem dX5_pairPower_13 : decode cX5_pairPower 13 = .ok (.bipush 48, 2) := by decide +kernel
theorem dX5_pairPower_15 : decode cX5_pairPower 15 = .ok (.lshr, 1) := by decide +kernel
theorem dX5_pairPower_16 : decode cX5_pairPower 16 = .ok (.l2i, 1) := by decide +kernel
theorem dX5_pairPower_17 : decode cX5_pairPower 17 = .ok (.ireturn, 1) := by decide +kernel
set_option maxRecDepth 20000 in
theorem ggX5_pairSpeed_X0_firstPost : GoodIn wsX5_pairSpeed wsX0_firstPost := goodIn_r _ [8, 9, 22, 23, 24, 25, 26, 27] (by decide +kernel) (by decide +kernel)
set_option maxRecDepth 20000 in
theorem gX5_pairSpeed_X0_firstPost : GoodIn wsX5_pairSpeed (wsV RX5 54 RX0 yX0_firstPost wsX0_firstPost) := goodIn_app (goodIn_of _ (by decide +kernel)) ggX5_pairSpeed_X0_firstPost
set_option maxRecDepth 20000 in
theorem ggX5_pairSpeed_X5_speedPlace : GoodIn wsX5_pairSpeed wsX5_speedPlace := goodIn_r _ [13] (by decide +kernel) (by decide +kernel)
set_option maxRecDepth 20000 in
theorem gX5_pairSpeed_X5_speedPlace : GoodIn wsX5_pairSpeed (va_wsS RX5 82 yX5_speedPlace wsX5_speedPlace) := goodIn_app (goodIn_of _ (by decide +kernel)) ggX5_pairSpeed_X5_speedPlace
theorem dX5_pairSpeed_0 : decode cX5_pairSpeed 0 = .ok (.iload_n 3, 1) := by decide +kernel
theorem dX5_pairSpeed_1 : decode cX5_pairSpeed 1 = .ok (.aload_n 0, 1) := by decide +kernel
theorem dX5_pairSpeed_2 : decode cX5_pairSpeed 2 = .ok (.getfield 32, 3) := by decide +kernel
theorem dX5_pairSpeed_5 : decode cX5_pairSpeed 5 = .ok (.iload_n 1, 1) := by decide +kernel
theorem dX5_pairSpeed_6 : decode cX5_pairSpeed 6 = .ok (.invokevirtual 54, 3) := by decide +kernel
theorem dX5_pairSpeed_9 : decode cX5_pairSpeed 9 = .ok (.isub, 1) := by decide +kernel
theorem dX5_pairSpeed_10 : decode cX5_pairSpeed 10 = .ok (.istore 4, 2) := by decide +kernel
theorem dX5_pairSpeed_12 : decode cX5_pairSpeed 12 = .ok (.iload 4, 2) := by decide +kernel
theorem dX5_pairSpeed_14 : decode cX5_pairSpeed 14 = .ok (.ifCond .ne 5, 3) := by decide +kernel
theorem dX5_pairSpeed_17 : decode cX5_pairSpeed 17 = .ok (.iconst 0, 1) := by decide +kernel
theorem dX5_pairSpeed_18 : decode cX5_pairSpeed 18 = .ok (.ireturn, 1) := by decide +kernel
theorem dX5_pairSpeed_19 : decode cX5_pairSpeed 19 = .ok (.aload_n 0, 1) := by decide +kernel
theorem dX5_pairSpeed_20 : decode cX5_pairSpeed 20 = .ok (.getfield 25, 3) := by decide +kernel
theorem dX5_pairSpeed_23 : decode cX5_pairSpeed 23 = .ok (.aload_n 0, 1) := by decide +kernel
theorem dX5_pairSpeed_24 : decode cX5_pairSpeed 24 = .ok (.getfield 18, 3) := by decide +kernel
theorem dX5_pairSpeed_27 : decode cX5_pairSpeed 27 = .ok (.iload_n 1, 1) := by decide +kernel
theorem dX5_pairSpeed_28 : decode cX5_pairSpeed 28 = .ok (.iaload, 1) := by decide +kernel
theorem dX5_pairSpeed_29 : decode cX5_pairSpeed 29 = .ok (.iload_n 2, 1) := by decide +kernel
theorem dX5_pairSpeed_30 : decode cX5_pairSpeed 30 = .ok (.iadd, 1) := by decide +kernel
theorem dX5_pairSpeed_31 : decode cX5_pairSpeed 31 = .ok (.laload, 1) := by decide +kernel
theorem dX5_pairSpeed_32 : decode cX5_pairSpeed 32 = .ok (.iload 4, 2) := by decide +kernel
theorem dX5_pairSpeed_34 : decode cX5_pairSpeed 34 = .ok (.invokestatic 82, 3) := by decide +kernel
theorem dX5_pairSpeed_37 : decode cX5_pairSpeed 37 = .ok (.lshr, 1) := by decide +kernel
theorem dX5_pairSpeed_38 : decode cX5_pairSpeed 38 = .ok (.l2i, 1) := by decide +kernel
theorem dX5_pairSpeed_39 : decode cX5_pairSpeed 39 = .ok (.bipush 7, 2) := by decide +kernel
theorem dX5_pairSpeed_41 : decode cX5_pairSpeed 41 = .ok (.iand, 1) := by decide +kernel
theorem dX5_pairSpeed_42 : decode cX5_pairSpeed 42 = .ok (.ireturn, 1) := by decide +kernel
set_option maxRecDepth 20000 in
theorem ggX5_pairWithin_X5_pairCount : GoodIn wsX5_pairWithin wsX5_pairCount := goodIn_r _ [5, 6, 12, 13, 14, 15, 16, 17, 18, 19] (by decide +kernel) (by decide +kernel)
set_option maxRecDepth 20000 in
theorem gX5_pairWithin_X5_pairCount : GoodIn wsX5_pairWithin (wsV RX5 101 RX5 yX5_pairCount wsX5_pairCount) := goodIn_app (goodIn_of _ (by decide +kernel)) ggX5_pairWithin_X5_pairCount
set_option maxRecDepth 20000 in
theorem ggX5_pairWithin_X5_pairTime : GoodIn wsX5_pairWithin wsX5_pairTime := goodIn_r _ [10, 11, 6, 12, 13, 14, 15, 16, 17, 18, 19] (by decide +kernel) (by decide +kernel)
set_option maxRecDepth 20000 in
theorem gX5_pairWithin_X5_pairTime : GoodIn wsX5_pairWithin (wsV RX5 104 RX5 yX5_pairTime wsX5_pairTime) := goodIn_app (goodIn_of _ (by decide +kernel)) ggX5_pairWithin_X5_pairTime
theorem dX5_pairWithin_0 : decode cX5_pairWithin 0 = .ok (.aload_n 0, 1) := by decide +kernel
theorem dX5_pairWithin_1 : decode cX5_pairWithin 1 = .ok (.iload_n 1, 1) := by decide +kernel
theorem dX5_pairWithin_2 : decode cX5_pairWithin 2 = .ok (.invokevirtual 101, 3) := by decide +kernel
theorem dX5_pairWithin_5 : decode cX5_pairWithin 5 = .ok (.iconst 1, 1) := by decide +kernel
theorem dX5_pairWithin_6 : decode cX5_pairWithin 6 = .ok (.isub, 1) := by decide +kernel
theorem dX5_pairWithin_7 : decode cX5_pairWithin 7 = .ok (.istore_n 3, 1) := by decide +kernel
theorem dX5_pairWithin_8 : decode cX5_pairWithin 8 = .ok (.iload_n 3, 1) := by decide +kernel
theorem dX5_pairWithin_9 : decode cX5_pairWithin 9 = .ok (.ifCond .lt 19, 3) := by decide +kernel
theorem dX5_pairWithin_12 : decode cX5_pairWithin 12 = .ok (.aload_n 0, 1) := by decide +kernel
theorem dX5_pairWithin_13 : decode cX5_pairWithin 13 = .ok (.iload_n 1, 1) := by decide +kernel
theorem dX5_pairWithin_14 : decode cX5_pairWithin 14 = .ok (.iload_n 3, 1) := by decide +kernel
theorem dX5_pairWithin_15 : decode cX5_pairWithin 15 = .ok (.invokevirtual 104, 3) := by decide +kernel
theorem dX5_pairWithin_18 : decode cX5_pairWithin 18 = .ok (.iload_n 2, 1) := by decide +kernel
theorem dX5_pairWithin_19 : decode cX5_pairWithin 19 = .ok (.if_icmp .le 9, 3) := by decide +kernel
theorem dX5_pairWithin_22 : decode cX5_pairWithin 22 = .ok (.iinc 3 (-1), 3) := by decide +kernel
theorem dX5_pairWithin_25 : decode cX5_pairWithin 25 = .ok (.goto (-17), 3) := by decide +kernel
theorem dX5_pairWithin_28 : decode cX5_pairWithin 28 = .ok (.iload_n 3, 1) := by decide +kernel
theorem dX5_pairWithin_29 : decode cX5_pairWithin 29 = .ok (.ireturn, 1) := by decide +kernel
end
section
set_option maxRecDepth 20000 in
theorem ggX6_init_X0_init : GoodIn wsX6_init wsX0_init := goodIn_r _ [30, 31, 2, 3, 32, 33, 34, 35, 36, 37, 38, 39, 40, 6, 41, 42, 43, 44, 45, 46, 47, 95, 96, 97, 98, 99, 100] (by decide +kernel) (by decide +kernel)
set_option maxRecDepth 20000 in
theorem gX6_init_X0_init : GoodIn wsX6_init (wsX0_init) := ggX6_init_X0_init
set_option maxRecDepth 20000 in
theorem ggX6_init_X4_init : GoodIn wsX6_init wsX4_init := goodIn_r _ [49, 50, 2, 3, 51, 52, 53, 54, 55, 56, 57, 58, 107] (by decide +kernel) (by decide +kernel)
set_option maxRecDepth 20000 in
theorem gX6_init_X4_init_n18 : GoodIn wsX6_init (wsX4_init) := ggX6_init_X4_init
set_option maxRecDepth 20000 in
theorem ggX6_init_X3_init : GoodIn wsX6_init wsX3_init := goodIn_r _ [61, 62, 2, 3, 63, 64, 108, 109] (by decide +kernel) (by decide +kernel)
set_option maxRecDepth 20000 in
theorem gX6_init_X3_init : GoodIn wsX6_init (wsX3_init) := ggX6_init_X3_init
set_option maxRecDepth 20000 in
theorem ggX6_init_X5_init : GoodIn wsX6_init wsX5_init := goodIn_r _ [67, 68, 2, 3, 69, 70, 71, 32, 72, 73, 74, 75, 76, 77, 110, 111, 112, 113, 114, 115, 116, 117] (by decide +kernel) (by decide +kernel)
set_option maxRecDepth 20000 in
theorem gX6_init_X5_init : GoodIn wsX6_init (wsX5_init) := ggX6_init_X5_init
set_option maxRecDepth 20000 in
theorem ggX6_init_X2_init : GoodIn wsX6_init wsX2_init := goodIn_r _ [80, 81, 2, 3, 69, 82, 83, 84, 85, 86, 118, 119, 120, 121, 122] (by decide +kernel) (by decide +kernel)
set_option maxRecDepth 20000 in
theorem gX6_init_X2_init : GoodIn wsX6_init (wsX2_init) := ggX6_init_X2_init
set_option maxRecDepth 20000 in
theorem ggX6_init_X1_init : GoodIn wsX6_init wsX1_init := goodIn_r _ [89, 90, 2, 3, 32, 91, 92, 93, 94, 123, 124, 125, 126] (by decide +kernel) (by decide +kernel)
set_option maxRecDepth 20000 in
theorem gX6_init_X1_init : GoodIn wsX6_init (wsX1_init) := ggX6_init_X1_init
theorem dX6_init_0 : decode cX6_init 0 = .ok (.aload_n 0, 1) := by decide +kernel
theorem dX6_init_1 : decode cX6_init 1 = .ok (.invokespecial 3, 3) := by decide +kernel
theorem dX6_init_4 : decode cX6_init 4 = .ok (.aload_n 0, 1) := by decide +kernel
theorem dX6_init_5 : decode cX6_init 5 = .ok (.new 9, 3) := by decide +kernel
theorem dX6_init_8 : decode cX6_init 8 = .ok (.dup, 1) := by decide +kernel
theorem dX6_init_9 : decode cX6_init 9 = .ok (.invokespecial 11, 3) := by decide +kernel
theorem dX6_init_12 : decode cX6_init 12 = .ok (.putfield 12, 3) := by decide +kernel
theorem dX6_init_15 : decode cX6_init 15 = .ok (.aload_n 0, 1) := by decide +kernel
theorem dX6_init_16 : decode cX6_init 16 = .ok (.new 16, 3) := by decide +kernel
theorem dX6_init_19 : decode cX6_init 19 = .ok (.dup, 1) := by decide +kernel
theorem dX6_init_20 : decode cX6_init 20 = .ok (.invokespecial 18, 3) := by decide +kernel
theorem dX6_init_23 : decode cX6_init 23 = .ok (.putfield 19, 3) := by decide +kernel
theorem dX6_init_26 : decode cX6_init 26 = .ok (.aload_n 0, 1) := by decide +kernel
theorem dX6_init_27 : decode cX6_init 27 = .ok (.new 23, 3) := by decide +kernel
theorem dX6_init_30 : decode cX6_init 30 = .ok (.dup, 1) := by decide +kernel
theorem dX6_init_31 : decode cX6_init 31 = .ok (.aload_n 0, 1) := by decide +kernel
theorem dX6_init_32 : decode cX6_init 32 = .ok (.getfield 12, 3) := by decide +kernel
theorem dX6_init_35 : decode cX6_init 35 = .ok (.aload_n 0, 1) := by decide +kernel
theorem dX6_init_36 : decode cX6_init 36 = .ok (.getfield 19, 3) := by decide +kernel
theorem dX6_init_39 : decode cX6_init 39 = .ok (.invokespecial 25, 3) := by decide +kernel
theorem dX6_init_42 : decode cX6_init 42 = .ok (.putfield 28, 3) := by decide +kernel
theorem dX6_init_45 : decode cX6_init 45 = .ok (.aload_n 0, 1) := by decide +kernel
theorem dX6_init_46 : decode cX6_init 46 = .ok (.new 32, 3) := by decide +kernel
theorem dX6_init_49 : decode cX6_init 49 = .ok (.dup, 1) := by decide +kernel
theorem dX6_init_50 : decode cX6_init 50 = .ok (.aload_n 0, 1) := by decide +kernel
theorem dX6_init_51 : decode cX6_init 51 = .ok (.getfield 12, 3) := by decide +kernel
theorem dX6_init_54 : decode cX6_init 54 = .ok (.aload_n 0, 1) := by decide +kernel
theorem dX6_init_55 : decode cX6_init 55 = .ok (.getfield 28, 3) := by decide +kernel
theorem dX6_init_58 : decode cX6_init 58 = .ok (.invokespecial 34, 3) := by decide +kernel
theorem dX6_init_61 : decode cX6_init 61 = .ok (.putfield 37, 3) := by decide +kernel
theorem dX6_init_64 : decode cX6_init 64 = .ok (.aload_n 0, 1) := by decide +kernel
theorem dX6_init_65 : decode cX6_init 65 = .ok (.new 41, 3) := by decide +kernel
theorem dX6_init_68 : decode cX6_init 68 = .ok (.dup, 1) := by decide +kernel
theorem dX6_init_69 : decode cX6_init 69 = .ok (.aload_n 0, 1) := by decide +kernel
theorem dX6_init_70 : decode cX6_init 70 = .ok (.getfield 12, 3) := by decide +kernel
theorem dX6_init_73 : decode cX6_init 73 = .ok (.aload_n 0, 1) := by decide +kernel
theorem dX6_init_74 : decode cX6_init 74 = .ok (.getfield 37, 3) := by decide +kernel
theorem dX6_init_77 : decode cX6_init 77 = .ok (.invokespecial 43, 3) := by decide +kernel
theorem dX6_init_80 : decode cX6_init 80 = .ok (.putfield 46, 3) := by decide +kernel
theorem dX6_init_83 : decode cX6_init 83 = .ok (.aload_n 0, 1) := by decide +kernel
theorem dX6_init_84 : decode cX6_init 84 = .ok (.new 50, 3) := by decide +kernel
theorem dX6_init_87 : decode cX6_init 87 = .ok (.dup, 1) := by decide +kernel
theorem dX6_init_88 : decode cX6_init 88 = .ok (.aload_n 0, 1) := by decide +kernel
theorem dX6_init_89 : decode cX6_init 89 = .ok (.getfield 12, 3) := by decide +kernel
theorem dX6_init_92 : decode cX6_init 92 = .ok (.aload_n 0, 1) := by decide +kernel
theorem dX6_init_93 : decode cX6_init 93 = .ok (.getfield 28, 3) := by decide +kernel
theorem dX6_init_96 : decode cX6_init 96 = .ok (.invokespecial 52, 3) := by decide +kernel
theorem dX6_init_99 : decode cX6_init 99 = .ok (.putfield 53, 3) := by decide +kernel
theorem dX6_init_102 : decode cX6_init 102 = .ok (.return_, 1) := by decide +kernel
set_option maxRecDepth 20000 in
theorem ggX6_line_X0_cellCount : GoodIn wsX6_line wsX0_cellCount := goodIn_r _ [7, 8, 53, 54, 55, 56, 57, 58] (by decide +kernel) (by decide +kernel)
set_option maxRecDepth 20000 in
theorem gX6_line_X0_cellCount : GoodIn wsX6_line (wsV RX6 57 RX0 yX0_cellCount wsX0_cellCount) := goodIn_app (goodIn_of _ (by decide +kernel)) ggX6_line_X0_cellCount
set_option maxRecDepth 20000 in
theorem ggX6_line_X0_lay : GoodIn wsX6_line wsX0_lay := goodIn_r _ [12, 8, 13, 14, 15, 16, 17, 18, 6, 19, 20, 21, 53, 54, 55, 56, 57, 58] (by decide +kernel) (by decide +kernel)
set_option maxRecDepth 20000 in
theorem gX6_line_X0_lay : GoodIn wsX6_line (wsV RX6 61 RX0 yX0_lay wsX0_lay) := goodIn_app (goodIn_of _ (by decide +kernel)) ggX6_line_X0_lay
set_option maxRecDepth 20000 in
theorem ggX6_line_X1_wipe : GoodIn wsX6_line wsX1_wipe := goodIn_r _ [26, 27, 59, 60, 61, 62] (by decide +kernel) (by decide +kernel)
set_option maxRecDepth 20000 in
theorem gX6_line_X1_wipe : GoodIn wsX6_line (wsV RX6 65 RX1 yX1_wipe wsX1_wipe) := goodIn_app (goodIn_of _ (by decide +kernel)) ggX6_line_X1_wipe
set_option maxRecDepth 20000 in
theorem ggX6_line_X6_forgetChoices : GoodIn wsX6_line wsX6_forgetChoices := goodIn_r _ [32, 33, 34, 35, 36, 37, 38, 39, 40, 41, 42, 43, 44, 45, 46, 47, 48, 49, 50, 51, 52, 63, 64, 65, 66, 67, 68, 69, 70, 71, 72, 73, 74, 75] (by decide +kernel) (by decide +kernel)
set_option maxRecDepth 20000 in
theorem gX6_line_X6_forgetChoices : GoodIn wsX6_line (wsV RX6 68 RX6 yX6_forgetChoices wsX6_forgetChoices) := goodIn_app (goodIn_of _ (by decide +kernel)) ggX6_line_X6_forgetChoices
theorem dX6_line_0 : decode cX6_line 0 = .ok (.iload_n 1, 1) := by decide +kernel
theorem dX6_line_1 : decode cX6_line 1 = .ok (.iconst 1, 1) := by decide +kernel
theorem dX6_line_2 : decode cX6_line 2 = .ok (.if_icmp .lt 9, 3) := by decide +kernel
theorem dX6_line_5 : decode cX6_line 5 = .ok (.iload_n 1, 1) := by decide +kernel
theorem dX6_line_6 : decode cX6_line 6 = .ok (.bipush 16, 2) := by decide +kernel
theorem dX6_line_8 : decode cX6_line 8 = .ok (.if_icmp .le 6, 3) := by decide +kernel
theorem dX6_line_11 : decode cX6_line 11 = .ok (.bipush (-2), 2) := by decide +kernel
theorem dX6_line_13 : decode cX6_line 13 = .ok (.ireturn, 1) := by decide +kernel
theorem dX6_line_14 : decode cX6_line 14 = .ok (.aload_n 0, 1) := by decide +kernel
theorem dX6_line_15 : decode cX6_line 15 = .ok (.getfield 12, 3) := by decide +kernel
theorem dX6_line_18 : decode cX6_line 18 = .ok (.invokevirtual 57, 3) := by decide +kernel
theorem dX6_line_21 : decode cX6_line 21 = .ok (.istore_n 2, 1) := by decide +kernel
theorem dX6_line_22 : decode cX6_line 22 = .ok (.aload_n 0, 1) := by decide +kernel
theorem dX6_line_23 : decode cX6_line 23 = .ok (.getfield 12, 3) := by decide +kernel
theorem dX6_line_26 : decode cX6_line 26 = .ok (.iload_n 1, 1) := by decide +kernel
theorem dX6_line_27 : decode cX6_line 27 = .ok (.invokevirtual 61, 3) := by decide +kernel
theorem dX6_line_30 : decode cX6_line 30 = .ok (.aload_n 0, 1) := by decide +kernel
theorem dX6_line_31 : decode cX6_line 31 = .ok (.getfield 53, 3) := by decide +kernel
theorem dX6_line_34 : decode cX6_line 34 = .ok (.invokevirtual 65, 3) := by decide +kernel
theorem dX6_line_37 : decode cX6_line 37 = .ok (.aload_n 0, 1) := by decide +kernel
theorem dX6_line_38 : decode cX6_line 38 = .ok (.invokevirtual 68, 3) := by decide +kernel
theorem dX6_line_41 : decode cX6_line 41 = .ok (.iload_n 2, 1) := by decide +kernel
theorem dX6_line_42 : decode cX6_line 42 = .ok (.ireturn, 1) := by decide +kernel
set_option maxRecDepth 20000 in
theorem ggX6_cell_X0_hasCell : GoodIn wsX6_cell wsX0_hasCell := goodIn_r _ [6, 7, 43, 44, 45, 46, 47, 48] (by decide +kernel) (by decide +kernel)
set_option maxRecDepth 20000 in
theorem gX6_cell_X0_hasCell : GoodIn wsX6_cell (wsV RX6 71 RX0 yX0_hasCell wsX0_hasCell) := goodIn_app (goodIn_of _ (by decide +kernel)) ggX6_cell_X0_hasCell
set_option maxRecDepth 20000 in
theorem ggX6_cell_X0_limitOf : GoodIn wsX6_cell wsX0_limitOf := goodIn_r _ [11, 12, 43, 44, 45, 46, 47, 48] (by decide +kernel) (by decide +kernel)
set_option maxRecDepth 20000 in
theorem gX6_cell_X0_limitOf : GoodIn wsX6_cell (wsV RX6 75 RX0 yX0_limitOf wsX0_limitOf) := goodIn_app (goodIn_of _ (by decide +kernel)) ggX6_cell_X0_limitOf
set_option maxRecDepth 20000 in
theorem ggX6_cell_X0_shape : GoodIn wsX6_cell wsX0_shape := goodIn_r _ [16, 17, 12, 43, 44, 45, 46, 47, 48] (by decide +kernel) (by decide +kernel)
set_option maxRecDepth 20000 in
theorem gX6_cell_X0_shape : GoodIn wsX6_cell (wsV RX6 79 RX0 yX0_shape wsX0_shape) := goodIn_app (goodIn_of _ (by decide +kernel)) ggX6_cell_X0_shape
set_option maxRecDepth 20000 in
theorem ggX6_cell_X6_forgetChoices : GoodIn wsX6_cell wsX6_forgetChoices := goodIn_r _ [22, 23, 24, 25, 26, 27, 28, 29, 30, 31, 32, 33, 34, 35, 36, 37, 38, 39, 40, 41, 42, 49, 50, 51, 52, 53, 54, 55, 56, 57, 58, 59, 60, 61] (by decide +kernel) (by decide +kernel)
set_option maxRecDepth 20000 in
theorem gX6_cell_X6_forgetChoices : GoodIn wsX6_cell (wsV RX6 68 RX6 yX6_forgetChoices wsX6_forgetChoices) := goodIn_app (goodIn_of _ (by decide +kernel)) ggX6_cell_X6_forgetChoices
theorem dX6_cell_0 : decode cX6_cell 0 = .ok (.aload_n 0, 1) := by decide +kernel
theorem dX6_cell_1 : decode cX6_cell 1 = .ok (.getfield 12, 3) := by decide +kernel
theorem dX6_cell_4 : decode cX6_cell 4 = .ok (.iload_n 1, 1) := by decide +kernel
theorem dX6_cell_5 : decode cX6_cell 5 = .ok (.invokevirtual 71, 3) := by decide +kernel
theorem dX6_cell_8 : decode cX6_cell 8 = .ok (.ifCond .ne 5, 3) := by decide +kernel
theorem dX6_cell_11 : decode cX6_cell 11 = .ok (.iconst (-1), 1) := by decide +kernel
theorem dX6_cell_12 : decode cX6_cell 12 = .ok (.ireturn, 1) := by decide +kernel
theorem dX6_cell_13 : decode cX6_cell 13 = .ok (.iload_n 2, 1) := by decide +kernel
theorem dX6_cell_14 : decode cX6_cell 14 = .ok (.bipush (-4), 2) := by decide +kernel
theorem dX6_cell_16 : decode cX6_cell 16 = .ok (.if_icmp .lt 19, 3) := by decide +kernel
theorem dX6_cell_19 : decode cX6_cell 19 = .ok (.iload_n 2, 1) := by decide +kernel
theorem dX6_cell_20 : decode cX6_cell 20 = .ok (.iconst 4, 1) := by decide +kernel
theorem dX6_cell_21 : decode cX6_cell 21 = .ok (.if_icmp .gt 14, 3) := by decide +kernel
theorem dX6_cell_24 : decode cX6_cell 24 = .ok (.iload_n 3, 1) := by decide +kernel
theorem dX6_cell_25 : decode cX6_cell 25 = .ok (.iconst 1, 1) := by decide +kernel
theorem dX6_cell_26 : decode cX6_cell 26 = .ok (.if_icmp .lt 9, 3) := by decide +kernel
theorem dX6_cell_29 : decode cX6_cell 29 = .ok (.iload_n 3, 1) := by decide +kernel
theorem dX6_cell_30 : decode cX6_cell 30 = .ok (.bipush 6, 2) := by decide +kernel
theorem dX6_cell_32 : decode cX6_cell 32 = .ok (.if_icmp .le 6, 3) := by decide +kernel
theorem dX6_cell_35 : decode cX6_cell 35 = .ok (.bipush (-2), 2) := by decide +kernel
theorem dX6_cell_37 : decode cX6_cell 37 = .ok (.ireturn, 1) := by decide +kernel
theorem dX6_cell_38 : decode cX6_cell 38 = .ok (.aload_n 0, 1) := by decide +kernel
theorem dX6_cell_39 : decode cX6_cell 39 = .ok (.getfield 12, 3) := by decide +kernel
theorem dX6_cell_42 : decode cX6_cell 42 = .ok (.iload_n 1, 1) := by decide +kernel
theorem dX6_cell_43 : decode cX6_cell 43 = .ok (.invokevirtual 75, 3) := by decide +kernel
theorem dX6_cell_46 : decode cX6_cell 46 = .ok (.istore 4, 2) := by decide +kernel
theorem dX6_cell_48 : decode cX6_cell 48 = .ok (.aload_n 0, 1) := by decide +kernel
theorem dX6_cell_49 : decode cX6_cell 49 = .ok (.getfield 12, 3) := by decide +kernel
theorem dX6_cell_52 : decode cX6_cell 52 = .ok (.iload_n 1, 1) := by decide +kernel
theorem dX6_cell_53 : decode cX6_cell 53 = .ok (.iload_n 2, 1) := by decide +kernel
theorem dX6_cell_54 : decode cX6_cell 54 = .ok (.iload_n 3, 1) := by decide +kernel
theorem dX6_cell_55 : decode cX6_cell 55 = .ok (.invokevirtual 79, 3) := by decide +kernel
theorem dX6_cell_58 : decode cX6_cell 58 = .ok (.aload_n 0, 1) := by decide +kernel
theorem dX6_cell_59 : decode cX6_cell 59 = .ok (.invokevirtual 68, 3) := by decide +kernel
theorem dX6_cell_62 : decode cX6_cell 62 = .ok (.iload 4, 2) := by decide +kernel
theorem dX6_cell_64 : decode cX6_cell 64 = .ok (.ireturn, 1) := by decide +kernel
set_option maxRecDepth 20000 in
theorem ggX6_stop_X0_hasPost : GoodIn wsX6_stop wsX0_hasPost := goodIn_r _ [6, 7, 52, 53, 54, 55, 56, 57] (by decide +kernel) (by decide +kernel)
set_option maxRecDepth 20000 in
theorem gX6_stop_X0_hasPost : GoodIn wsX6_stop (wsV RX6 83 RX0 yX0_hasPost wsX0_hasPost) := goodIn_app (goodIn_of _ (by decide +kernel)) ggX6_stop_X0_hasPost
set_option maxRecDepth 20000 in
theorem ggX6_stop_X0_isEnd : GoodIn wsX6_stop wsX0_isEnd := goodIn_r _ [11, 7, 52, 53, 54, 55, 56, 57] (by decide +kernel) (by decide +kernel)
set_option maxRecDepth 20000 in
theorem gX6_stop_X0_isEnd : GoodIn wsX6_stop (wsV RX6 86 RX0 yX0_isEnd wsX0_isEnd) := goodIn_app (goodIn_of _ (by decide +kernel)) ggX6_stop_X0_isEnd
set_option maxRecDepth 20000 in
theorem ggX6_stop_X0_markStop : GoodIn wsX6_stop wsX0_markStop := goodIn_r _ [15, 16, 17, 18, 19, 5, 20, 7, 21, 22, 52, 53, 54, 55, 56, 57] (by decide +kernel) (by decide +kernel)
set_option maxRecDepth 20000 in
theorem gX6_stop_X0_markStop : GoodIn wsX6_stop (wsV RX6 89 RX0 yX0_markStop wsX0_markStop) := goodIn_app (goodIn_of _ (by decide +kernel)) ggX6_stop_X0_markStop
set_option maxRecDepth 20000 in
theorem ggX6_stop_X6_forgetChoices : GoodIn wsX6_stop wsX6_forgetChoices := goodIn_r _ [27, 28, 29, 30, 31, 32, 33, 34, 35, 36, 37, 38, 39, 40, 41, 46, 47, 48, 49, 50, 51, 58, 59, 60, 61, 62, 63, 64, 65, 66, 67, 68, 69, 70] (by decide +kernel) (by decide +kernel)
set_option maxRecDepth 20000 in
theorem gX6_stop_X6_forgetChoices : GoodIn wsX6_stop (wsV RX6 68 RX6 yX6_forgetChoices wsX6_forgetChoices) := goodIn_app (goodIn_of _ (by decide +kernel)) ggX6_stop_X6_forgetChoices
set_option maxRecDepth 20000 in
theorem ggX6_stop_X0_legCount : GoodIn wsX6_stop wsX0_legCount := goodIn_r _ [45, 22, 52, 53, 54, 55, 56, 57] (by decide +kernel) (by decide +kernel)
set_option maxRecDepth 20000 in
theorem gX6_stop_X0_legCount : GoodIn wsX6_stop (wsV RX6 93 RX0 yX0_legCount wsX0_legCount) := goodIn_app (goodIn_of _ (by decide +kernel)) ggX6_stop_X0_legCount
theorem dX6_stop_0 : decode cX6_stop 0 = .ok (.aload_n 0, 1) := by decide +kernel
theorem dX6_stop_1 : decode cX6_stop 1 = .ok (.getfield 12, 3) := by decide +kernel
theorem dX6_stop_4 : decode cX6_stop 4 = .ok (.iload_n 1, 1) := by decide +kernel
theorem dX6_stop_5 : decode cX6_stop 5 = .ok (.invokevirtual 83, 3) := by decide +kernel
theorem dX6_stop_8 : decode cX6_stop 8 = .ok (.ifCond .ne 5, 3) := by decide +kernel
theorem dX6_stop_11 : decode cX6_stop 11 = .ok (.iconst (-1), 1) := by decide +kernel
theorem dX6_stop_12 : decode cX6_stop 12 = .ok (.ireturn, 1) := by decide +kernel
theorem dX6_stop_13 : decode cX6_stop 13 = .ok (.aload_n 0, 1) := by decide +kernel
theorem dX6_stop_14 : decode cX6_stop 14 = .ok (.getfield 12, 3) := by decide +kernel
theorem dX6_stop_17 : decode cX6_stop 17 = .ok (.iload_n 1, 1) := by decide +kernel
theorem dX6_stop_18 : decode cX6_stop 18 = .ok (.invokevirtual 86, 3) := by decide +kernel
theorem dX6_stop_21 : decode cX6_stop 21 = .ok (.ifCond .eq 6, 3) := by decide +kernel
theorem dX6_stop_24 : decode cX6_stop 24 = .ok (.bipush (-3), 2) := by decide +kernel
theorem dX6_stop_26 : decode cX6_stop 26 = .ok (.ireturn, 1) := by decide +kernel
theorem dX6_stop_27 : decode cX6_stop 27 = .ok (.aload_n 0, 1) := by decide +kernel
theorem dX6_stop_28 : decode cX6_stop 28 = .ok (.getfield 12, 3) := by decide +kernel
theorem dX6_stop_31 : decode cX6_stop 31 = .ok (.iload_n 1, 1) := by decide +kernel
theorem dX6_stop_32 : decode cX6_stop 32 = .ok (.iload_n 2, 1) := by decide +kernel
theorem dX6_stop_33 : decode cX6_stop 33 = .ok (.invokevirtual 89, 3) := by decide +kernel
theorem dX6_stop_36 : decode cX6_stop 36 = .ok (.aload_n 0, 1) := by decide +kernel
theorem dX6_stop_37 : decode cX6_stop 37 = .ok (.invokevirtual 68, 3) := by decide +kernel
theorem dX6_stop_40 : decode cX6_stop 40 = .ok (.aload_n 0, 1) := by decide +kernel
theorem dX6_stop_41 : decode cX6_stop 41 = .ok (.getfield 12, 3) := by decide +kernel
theorem dX6_stop_44 : decode cX6_stop 44 = .ok (.invokevirtual 93, 3) := by decide +kernel
theorem dX6_stop_47 : decode cX6_stop 47 = .ok (.ireturn, 1) := by decide +kernel
set_option maxRecDepth 20000 in
theorem ggX6_train_X4_knows : GoodIn wsX6_train wsX4_knows := goodIn_r _ [6, 7, 47] (by decide +kernel) (by decide +kernel)
set_option maxRecDepth 20000 in
theorem gX6_train_X4_knows : GoodIn wsX6_train (wsV RX6 96 RX4 yX4_knows wsX4_knows) := goodIn_app (goodIn_of _ (by decide +kernel)) ggX6_train_X4_knows
set_option maxRecDepth 20000 in
theorem ggX6_train_X4_mayBe : GoodIn wsX6_train wsX4_mayBe := goodIn_r _ [11, 12, 13] (by decide +kernel) (by decide +kernel)
set_option maxRecDepth 20000 in
theorem gX6_train_X4_mayBe : GoodIn wsX6_train (wsV RX6 99 RX4 yX4_mayBe wsX4_mayBe) := goodIn_app (goodIn_of _ (by decide +kernel)) ggX6_train_X4_mayBe
set_option maxRecDepth 20000 in
theorem ggX6_train_X4_number : GoodIn wsX6_train wsX4_number := goodIn_r _ [17, 7, 47] (by decide +kernel) (by decide +kernel)
set_option maxRecDepth 20000 in
theorem gX6_train_X4_number : GoodIn wsX6_train (wsV RX6 103 RX4 yX4_number wsX4_number) := goodIn_app (goodIn_of _ (by decide +kernel)) ggX6_train_X4_number
set_option maxRecDepth 20000 in
theorem ggX6_train_X4_put : GoodIn wsX6_train wsX4_put := goodIn_r _ [21, 7, 47] (by decide +kernel) (by decide +kernel)
set_option maxRecDepth 20000 in
theorem gX6_train_X4_put : GoodIn wsX6_train (wsV RX6 106 RX4 yX4_put wsX4_put) := goodIn_app (goodIn_of _ (by decide +kernel)) ggX6_train_X4_put
set_option maxRecDepth 20000 in
theorem ggX6_train_X6_forgetChoices : GoodIn wsX6_train wsX6_forgetChoices := goodIn_r _ [26, 27, 28, 29, 30, 31, 32, 33, 34, 35, 36, 37, 38, 39, 40, 41, 42, 43, 44, 45, 46, 48, 49, 50, 51, 52, 53, 54, 55, 56, 57, 58, 59, 60] (by decide +kernel) (by decide +kernel)
set_option maxRecDepth 20000 in
theorem gX6_train_X6_forgetChoices : GoodIn wsX6_train (wsV RX6 68 RX6 yX6_forgetChoices wsX6_forgetChoices) := goodIn_app (goodIn_of _ (by decide +kernel)) ggX6_train_X6_forgetChoices
theorem dX6_train_0 : decode cX6_train 0 = .ok (.aload_n 0, 1) := by decide +kernel
theorem dX6_train_1 : decode cX6_train 1 = .ok (.getfield 19, 3) := by decide +kernel
theorem dX6_train_4 : decode cX6_train 4 = .ok (.iload_n 1, 1) := by decide +kernel
theorem dX6_train_5 : decode cX6_train 5 = .ok (.invokevirtual 96, 3) := by decide +kernel
theorem dX6_train_8 : decode cX6_train 8 = .ok (.ifCond .eq 15, 3) := by decide +kernel
theorem dX6_train_11 : decode cX6_train 11 = .ok (.aload_n 0, 1) := by decide +kernel
theorem dX6_train_12 : decode cX6_train 12 = .ok (.getfield 19, 3) := by decide +kernel
theorem dX6_train_15 : decode cX6_train 15 = .ok (.iload_n 1, 1) := by decide +kernel
theorem dX6_train_16 : decode cX6_train 16 = .ok (.iload_n 2, 1) := by decide +kernel
theorem dX6_train_17 : decode cX6_train 17 = .ok (.invokevirtual 99, 3) := by decide +kernel
theorem dX6_train_20 : decode cX6_train 20 = .ok (.ifCond .ne 6, 3) := by decide +kernel
theorem dX6_train_23 : decode cX6_train 23 = .ok (.bipush (-2), 2) := by decide +kernel
theorem dX6_train_25 : decode cX6_train 25 = .ok (.ireturn, 1) := by decide +kernel
theorem dX6_train_26 : decode cX6_train 26 = .ok (.aload_n 0, 1) := by decide +kernel
theorem dX6_train_27 : decode cX6_train 27 = .ok (.getfield 19, 3) := by decide +kernel
theorem dX6_train_30 : decode cX6_train 30 = .ok (.iload_n 1, 1) := by decide +kernel
theorem dX6_train_31 : decode cX6_train 31 = .ok (.invokevirtual 103, 3) := by decide +kernel
theorem dX6_train_34 : decode cX6_train 34 = .ok (.istore_n 3, 1) := by decide +kernel
theorem dX6_train_35 : decode cX6_train 35 = .ok (.aload_n 0, 1) := by decide +kernel
theorem dX6_train_36 : decode cX6_train 36 = .ok (.getfield 19, 3) := by decide +kernel
theorem dX6_train_39 : decode cX6_train 39 = .ok (.iload_n 1, 1) := by decide +kernel
theorem dX6_train_40 : decode cX6_train 40 = .ok (.iload_n 2, 1) := by decide +kernel
theorem dX6_train_41 : decode cX6_train 41 = .ok (.invokevirtual 106, 3) := by decide +kernel
theorem dX6_train_44 : decode cX6_train 44 = .ok (.aload_n 0, 1) := by decide +kernel
theorem dX6_train_45 : decode cX6_train 45 = .ok (.invokevirtual 68, 3) := by decide +kernel
theorem dX6_train_48 : decode cX6_train 48 = .ok (.iload_n 3, 1) := by decide +kernel
theorem dX6_train_49 : decode cX6_train 49 = .ok (.ireturn, 1) := by decide +kernel
set_option maxRecDepth 20000 in
theorem ggX6_has_X4_knows : GoodIn wsX6_has wsX4_knows := goodIn_r _ [6, 7, 18] (by decide +kernel) (by decide +kernel)
set_option maxRecDepth 20000 in
theorem gX6_has_X4_knows : GoodIn wsX6_has (wsV RX6 96 RX4 yX4_knows wsX4_knows) := goodIn_app (goodIn_of _ (by decide +kernel)) ggX6_has_X4_knows
set_option maxRecDepth 20000 in
theorem ggX6_has_X4_number : GoodIn wsX6_has wsX4_number := goodIn_r _ [11, 7, 18] (by decide +kernel) (by decide +kernel)
set_option maxRecDepth 20000 in
theorem gX6_has_X4_number : GoodIn wsX6_has (wsV RX6 103 RX4 yX4_number wsX4_number) := goodIn_app (goodIn_of _ (by decide +kernel)) ggX6_has_X4_number
theorem dX6_has_0 : decode cX6_has 0 = .ok (.aload_n 0, 1) := by decide +kernel
theorem dX6_has_1 : decode cX6_has 1 = .ok (.getfield 19, 3) := by decide +kernel
theorem dX6_has_4 : decode cX6_has 4 = .ok (.iload_n 1, 1) := by decide +kernel
theorem dX6_has_5 : decode cX6_has 5 = .ok (.invokevirtual 96, 3) := by decide +kernel
theorem dX6_has_8 : decode cX6_has 8 = .ok (.ifCond .eq 14, 3) := by decide +kernel
theorem dX6_has_11 : decode cX6_has 11 = .ok (.aload_n 0, 1) := by decide +kernel
theorem dX6_has_12 : decode cX6_has 12 = .ok (.getfield 19, 3) := by decide +kernel
theorem dX6_has_15 : decode cX6_has 15 = .ok (.iload_n 1, 1) := by decide +kernel
theorem dX6_has_16 : decode cX6_has 16 = .ok (.invokevirtual 103, 3) := by decide +kernel
theorem dX6_has_19 : decode cX6_has 19 = .ok (.goto 5, 3) := by decide +kernel
theorem dX6_has_22 : decode cX6_has 22 = .ok (.bipush (-2), 2) := by decide +kernel
theorem dX6_has_24 : decode cX6_has 24 = .ok (.ireturn, 1) := by decide +kernel
set_option maxRecDepth 20000 in
theorem ggX6_leg_X0_hasLeg : GoodIn wsX6_leg wsX0_hasLeg := goodIn_r _ [6, 7, 23, 24, 25, 26, 27, 28] (by decide +kernel) (by decide +kernel)
set_option maxRecDepth 20000 in
theorem gX6_leg_X0_hasLeg : GoodIn wsX6_leg (wsV RX6 110 RX0 yX0_hasLeg wsX0_hasLeg) := goodIn_app (goodIn_of _ (by decide +kernel)) ggX6_leg_X0_hasLeg
set_option maxRecDepth 20000 in
theorem ggX6_leg_X0_lastPost : GoodIn wsX6_leg wsX0_lastPost := goodIn_r _ [11, 12, 23, 24, 25, 26, 27, 28] (by decide +kernel) (by decide +kernel)
set_option maxRecDepth 20000 in
theorem gX6_leg_X0_lastPost : GoodIn wsX6_leg (wsV RX6 113 RX0 yX0_lastPost wsX0_lastPost) := goodIn_app (goodIn_of _ (by decide +kernel)) ggX6_leg_X0_lastPost
set_option maxRecDepth 20000 in
theorem ggX6_leg_X0_firstPost : GoodIn wsX6_leg wsX0_firstPost := goodIn_r _ [16, 12, 23, 24, 25, 26, 27, 28] (by decide +kernel) (by decide +kernel)
set_option maxRecDepth 20000 in
theorem gX6_leg_X0_firstPost : GoodIn wsX6_leg (wsV RX6 116 RX0 yX0_firstPost wsX0_firstPost) := goodIn_app (goodIn_of _ (by decide +kernel)) ggX6_leg_X0_firstPost
theorem dX6_leg_0 : decode cX6_leg 0 = .ok (.aload_n 0, 1) := by decide +kernel
theorem dX6_leg_1 : decode cX6_leg 1 = .ok (.getfield 12, 3) := by decide +kernel
theorem dX6_leg_4 : decode cX6_leg 4 = .ok (.iload_n 1, 1) := by decide +kernel
theorem dX6_leg_5 : decode cX6_leg 5 = .ok (.invokevirtual 110, 3) := by decide +kernel
theorem dX6_leg_8 : decode cX6_leg 8 = .ok (.ifCond .ne 5, 3) := by decide +kernel
theorem dX6_leg_11 : decode cX6_leg 11 = .ok (.iconst (-1), 1) := by decide +kernel
theorem dX6_leg_12 : decode cX6_leg 12 = .ok (.ireturn, 1) := by decide +kernel
theorem dX6_leg_13 : decode cX6_leg 13 = .ok (.iload_n 2, 1) := by decide +kernel
theorem dX6_leg_14 : decode cX6_leg 14 = .ok (.ifCond .eq 14, 3) := by decide +kernel
theorem dX6_leg_17 : decode cX6_leg 17 = .ok (.aload_n 0, 1) := by decide +kernel
theorem dX6_leg_18 : decode cX6_leg 18 = .ok (.getfield 12, 3) := by decide +kernel
theorem dX6_leg_21 : decode cX6_leg 21 = .ok (.iload_n 1, 1) := by decide +kernel
theorem dX6_leg_22 : decode cX6_leg 22 = .ok (.invokevirtual 113, 3) := by decide +kernel
theorem dX6_leg_25 : decode cX6_leg 25 = .ok (.goto 11, 3) := by decide +kernel
theorem dX6_leg_28 : decode cX6_leg 28 = .ok (.aload_n 0, 1) := by decide +kernel
theorem dX6_leg_29 : decode cX6_leg 29 = .ok (.getfield 12, 3) := by decide +kernel
theorem dX6_leg_32 : decode cX6_leg 32 = .ok (.iload_n 1, 1) := by decide +kernel
theorem dX6_leg_33 : decode cX6_leg 33 = .ok (.invokevirtual 116, 3) := by decide +kernel
theorem dX6_leg_36 : decode cX6_leg 36 = .ok (.ireturn, 1) := by decide +kernel
set_option maxRecDepth 20000 in
theorem ggX6_force_X6_stepRefusal : GoodIn wsX6_force wsX6_stepRefusal := goodIn_r _ [6, 7, 8, 9, 10, 11, 12, 13, 14, 15, 5, 16, 35, 36, 37, 38, 39, 40, 41, 42, 43, 44, 45, 46] (by decide +kernel) (by decide +kernel)
set_option maxRecDepth 20000 in
theorem gX6_force_X6_stepRefusal : GoodIn wsX6_force (wsV RX6 119 RX6 yX6_stepRefusal wsX6_stepRefusal) := goodIn_app (goodIn_of _ (by decide +kernel)) ggX6_force_X6_stepRefusal
set_option maxRecDepth 20000 in
theorem ggX6_force_X3_forceOf : GoodIn wsX6_force wsX3_forceOf := goodIn_r _ [21, 22, 23, 24, 25, 26, 27, 28, 29, 30, 31, 32, 11, 33, 34, 47, 48, 49, 41, 42, 43, 44, 45, 46] (by decide +kernel) (by decide +kernel)
set_option maxRecDepth 20000 in
theorem gX6_force_X3_forceOf : GoodIn wsX6_force (wsV RX6 123 RX3 yX3_forceOf wsX3_forceOf) := goodIn_app (goodIn_of _ (by decide +kernel)) ggX6_force_X3_forceOf
theorem dX6_force_0 : decode cX6_force 0 = .ok (.aload_n 0, 1) := by decide +kernel
theorem dX6_force_1 : decode cX6_force 1 = .ok (.iload_n 1, 1) := by decide +kernel
theorem dX6_force_2 : decode cX6_force 2 = .ok (.iload_n 2, 1) := by decide +kernel
theorem dX6_force_3 : decode cX6_force 3 = .ok (.iload_n 3, 1) := by decide +kernel
theorem dX6_force_4 : decode cX6_force 4 = .ok (.invokevirtual 119, 3) := by decide +kernel
theorem dX6_force_7 : decode cX6_force 7 = .ok (.istore 4, 2) := by decide +kernel
theorem dX6_force_9 : decode cX6_force 9 = .ok (.iload 4, 2) := by decide +kernel
theorem dX6_force_11 : decode cX6_force 11 = .ok (.ifCond .eq 8, 3) := by decide +kernel
theorem dX6_force_14 : decode cX6_force 14 = .ok (.iload 4, 2) := by decide +kernel
theorem dX6_force_16 : decode cX6_force 16 = .ok (.goto 13, 3) := by decide +kernel
theorem dX6_force_19 : decode cX6_force 19 = .ok (.aload_n 0, 1) := by decide +kernel
theorem dX6_force_20 : decode cX6_force 20 = .ok (.getfield 28, 3) := by decide +kernel
theorem dX6_force_23 : decode cX6_force 23 = .ok (.iload_n 1, 1) := by decide +kernel
theorem dX6_force_24 : decode cX6_force 24 = .ok (.iload_n 2, 1) := by decide +kernel
theorem dX6_force_25 : decode cX6_force 25 = .ok (.iload_n 3, 1) := by decide +kernel
theorem dX6_force_26 : decode cX6_force 26 = .ok (.invokevirtual 123, 3) := by decide +kernel
theorem dX6_force_29 : decode cX6_force 29 = .ok (.ireturn, 1) := by decide +kernel
set_option maxRecDepth 20000 in
theorem ggX6_fault_X6_stepRefusal : GoodIn wsX6_fault wsX6_stepRefusal := goodIn_r _ [6, 7, 8, 9, 10, 11, 12, 13, 14, 15, 5, 16, 51, 52, 53, 54, 55, 56, 57, 58, 59, 60, 61, 62] (by decide +kernel) (by decide +kernel)
set_option maxRecDepth 20000 in
theorem gX6_fault_X6_stepRefusal : GoodIn wsX6_fault (wsV RX6 119 RX6 yX6_stepRefusal wsX6_stepRefusal) := goodIn_app (goodIn_of _ (by decide +kernel)) ggX6_fault_X6_stepRefusal
set_option maxRecDepth 20000 in
theorem ggX6_fault_X3_faultOf : GoodIn wsX6_fault wsX3_faultOf := goodIn_r _ [21, 22, 23, 24, 25, 26, 27, 28, 29, 30, 31, 32, 33, 11, 34, 35, 36, 37, 38, 20, 39, 40, 41, 42, 43, 44, 45, 46, 47, 48, 49, 50, 63, 64, 57, 58, 59, 60, 61, 62, 65] (by decide +kernel) (by decide +kernel)
set_option maxRecDepth 20000 in
theorem gX6_fault_X3_faultOf : GoodIn wsX6_fault (wsV RX6 126 RX3 yX3_faultOf wsX3_faultOf) := goodIn_app (goodIn_of _ (by decide +kernel)) ggX6_fault_X3_faultOf
theorem dX6_fault_0 : decode cX6_fault 0 = .ok (.aload_n 0, 1) := by decide +kernel
theorem dX6_fault_1 : decode cX6_fault 1 = .ok (.iload_n 1, 1) := by decide +kernel
theorem dX6_fault_2 : decode cX6_fault 2 = .ok (.iload_n 2, 1) := by decide +kernel
theorem dX6_fault_3 : decode cX6_fault 3 = .ok (.iload_n 3, 1) := by decide +kernel
theorem dX6_fault_4 : decode cX6_fault 4 = .ok (.invokevirtual 119, 3) := by decide +kernel
theorem dX6_fault_7 : decode cX6_fault 7 = .ok (.istore 4, 2) := by decide +kernel
theorem dX6_fault_9 : decode cX6_fault 9 = .ok (.iload 4, 2) := by decide +kernel
theorem dX6_fault_11 : decode cX6_fault 11 = .ok (.ifCond .eq 8, 3) := by decide +kernel
theorem dX6_fault_14 : decode cX6_fault 14 = .ok (.iload 4, 2) := by decide +kernel
theorem dX6_fault_16 : decode cX6_fault 16 = .ok (.goto 13, 3) := by decide +kernel
theorem dX6_fault_19 : decode cX6_fault 19 = .ok (.aload_n 0, 1) := by decide +kernel
theorem dX6_fault_20 : decode cX6_fault 20 = .ok (.getfield 28, 3) := by decide +kernel
theorem dX6_fault_23 : decode cX6_fault 23 = .ok (.iload_n 1, 1) := by decide +kernel
theorem dX6_fault_24 : decode cX6_fault 24 = .ok (.iload_n 2, 1) := by decide +kernel
theorem dX6_fault_25 : decode cX6_fault 25 = .ok (.iload_n 3, 1) := by decide +kernel
theorem dX6_fault_26 : decode cX6_fault 26 = .ok (.invokevirtual 126, 3) := by decide +kernel
theorem dX6_fault_29 : decode cX6_fault 29 = .ok (.ireturn, 1) := by decide +kernel
set_option maxRecDepth 20000 in
theorem ggX6_time_X6_stepRefusal : GoodIn wsX6_time wsX6_stepRefusal := goodIn_r _ [7, 8, 9, 10, 11, 12, 13, 14, 15, 16, 6, 17, 56, 57, 58, 59, 60, 61, 62, 63, 64, 65, 66, 67] (by decide +kernel) (by decide +kernel)
set_option maxRecDepth 20000 in
theorem gX6_time_X6_stepRefusal : GoodIn wsX6_time (wsV RX6 119 RX6 yX6_stepRefusal wsX6_stepRefusal) := goodIn_app (goodIn_of _ (by decide +kernel)) ggX6_time_X6_stepRefusal
set_option maxRecDepth 20000 in
theorem ggX6_time_X3_faultOf : GoodIn wsX6_time wsX3_faultOf := goodIn_r _ [22, 23, 24, 25, 26, 27, 28, 29, 30, 31, 32, 33, 34, 12, 35, 36, 37, 38, 39, 21, 40, 41, 42, 43, 44, 45, 46, 47, 48, 49, 50, 51, 68, 69, 62, 63, 64, 65, 66, 67, 70] (by decide +kernel) (by decide +kernel)
set_option maxRecDepth 20000 in
theorem gX6_time_X3_faultOf : GoodIn wsX6_time (wsV RX6 126 RX3 yX3_faultOf wsX3_faultOf) := goodIn_app (goodIn_of _ (by decide +kernel)) ggX6_time_X3_faultOf
set_option maxRecDepth 20000 in
theorem ggX6_time_X3_timeOf : GoodIn wsX6_time wsX3_timeOf := goodIn_r _ [55] (by decide +kernel) (by decide +kernel)
set_option maxRecDepth 20000 in
theorem gX6_time_X3_timeOf : GoodIn wsX6_time (wsV RX6 130 RX3 yX3_timeOf wsX3_timeOf) := goodIn_app (goodIn_of _ (by decide +kernel)) ggX6_time_X3_timeOf
theorem dX6_time_0 : decode cX6_time 0 = .ok (.aload_n 0, 1) := by decide +kernel
theorem dX6_time_1 : decode cX6_time 1 = .ok (.iload_n 1, 1) := by decide +kernel
theorem dX6_time_2 : decode cX6_time 2 = .ok (.iload_n 2, 1) := by decide +kernel
theorem dX6_time_3 : decode cX6_time 3 = .ok (.iload_n 3, 1) := by decide +kernel
theorem dX6_time_4 : decode cX6_time 4 = .ok (.invokevirtual 119, 3) := by decide +kernel
theorem dX6_time_7 : decode cX6_time 7 = .ok (.istore 4, 2) := by decide +kernel
theorem dX6_time_9 : decode cX6_time 9 = .ok (.iload 4, 2) := by decide +kernel
theorem dX6_time_11 : decode cX6_time 11 = .ok (.ifCond .eq 6, 3) := by decide +kernel
theorem dX6_time_14 : decode cX6_time 14 = .ok (.iload 4, 2) := by decide +kernel
theorem dX6_time_16 : decode cX6_time 16 = .ok (.ireturn, 1) := by decide +kernel
theorem dX6_time_17 : decode cX6_time 17 = .ok (.aload_n 0, 1) := by decide +kernel
theorem dX6_time_18 : decode cX6_time 18 = .ok (.getfield 28, 3) := by decide +kernel
theorem dX6_time_21 : decode cX6_time 21 = .ok (.iload_n 1, 1) := by decide +kernel
theorem dX6_time_22 : decode cX6_time 22 = .ok (.iload_n 2, 1) := by decide +kernel
theorem dX6_time_23 : decode cX6_time 23 = .ok (.iload_n 3, 1) := by decide +kernel
theorem dX6_time_24 : decode cX6_time 24 = .ok (.invokevirtual 126, 3) := by decide +kernel
theorem dX6_time_27 : decode cX6_time 27 = .ok (.ifCond .eq 8, 3) := by decide +kernel
theorem dX6_time_30 : decode cX6_time 30 = .ok (.ldc 129, 2) := by decide +kernel
theorem dX6_time_32 : decode cX6_time 32 = .ok (.goto 12, 3) := by decide +kernel
theorem dX6_time_35 : decode cX6_time 35 = .ok (.aload_n 0, 1) := by decide +kernel
theorem dX6_time_36 : decode cX6_time 36 = .ok (.getfield 28, 3) := by decide +kernel
theorem dX6_time_39 : decode cX6_time 39 = .ok (.iload_n 2, 1) := by decide +kernel
theorem dX6_time_40 : decode cX6_time 40 = .ok (.iload_n 3, 1) := by decide +kernel
theorem dX6_time_41 : decode cX6_time 41 = .ok (.invokevirtual 130, 3) := by decide +kernel
theorem dX6_time_44 : decode cX6_time 44 = .ok (.ireturn, 1) := by decide +kernel
set_option maxRecDepth 20000 in
theorem ggX6_power_X6_stepRefusal : GoodIn wsX6_power wsX6_stepRefusal := goodIn_r _ [7, 8, 9, 10, 11, 12, 13, 14, 15, 16, 6, 17, 56, 57, 58, 59, 60, 61, 62, 63, 64, 65, 66, 67] (by decide +kernel) (by decide +kernel)
set_option maxRecDepth 20000 in
theorem gX6_power_X6_stepRefusal : GoodIn wsX6_power (wsV RX6 119 RX6 yX6_stepRefusal wsX6_stepRefusal) := goodIn_app (goodIn_of _ (by decide +kernel)) ggX6_power_X6_stepRefusal
set_option maxRecDepth 20000 in
theorem ggX6_power_X3_faultOf : GoodIn wsX6_power wsX3_faultOf := goodIn_r _ [22, 23, 24, 25, 26, 27, 28, 29, 30, 31, 32, 33, 34, 12, 35, 36, 37, 38, 39, 21, 40, 41, 42, 43, 44, 45, 46, 47, 48, 49, 50, 51, 68, 69, 62, 63, 64, 65, 66, 67, 70] (by decide +kernel) (by decide +kernel)
set_option maxRecDepth 20000 in
theorem gX6_power_X3_faultOf : GoodIn wsX6_power (wsV RX6 126 RX3 yX3_faultOf wsX3_faultOf) := goodIn_app (goodIn_of _ (by decide +kernel)) ggX6_power_X3_faultOf
set_option maxRecDepth 20000 in
theorem ggX6_power_X3_powerOf : GoodIn wsX6_power wsX3_powerOf := goodIn_r _ [55, 31, 37, 38, 39, 21, 40, 27, 41, 42, 43, 44, 45, 46, 47, 48, 49, 12, 50, 51, 68, 69, 70, 62, 63, 64, 65, 66, 67] (by decide +kernel) (by decide +kernel)
set_option maxRecDepth 20000 in
theorem gX6_power_X3_powerOf : GoodIn wsX6_power (wsV RX6 134 RX3 yX3_powerOf wsX3_powerOf) := goodIn_app (goodIn_of _ (by decide +kernel)) ggX6_power_X3_powerOf
theorem dX6_power_0 : decode cX6_power 0 = .ok (.aload_n 0, 1) := by decide +kernel
theorem dX6_power_1 : decode cX6_power 1 = .ok (.iload_n 1, 1) := by decide +kernel
theorem dX6_power_2 : decode cX6_power 2 = .ok (.iload_n 2, 1) := by decide +kernel
theorem dX6_power_3 : decode cX6_power 3 = .ok (.iload_n 3, 1) := by decide +kernel
theorem dX6_power_4 : decode cX6_power 4 = .ok (.invokevirtual 119, 3) := by decide +kernel
theorem dX6_power_7 : decode cX6_power 7 = .ok (.istore 4, 2) := by decide +kernel
theorem dX6_power_9 : decode cX6_power 9 = .ok (.iload 4, 2) := by decide +kernel
theorem dX6_power_11 : decode cX6_power 11 = .ok (.ifCond .eq 6, 3) := by decide +kernel
theorem dX6_power_14 : decode cX6_power 14 = .ok (.iload 4, 2) := by decide +kernel
theorem dX6_power_16 : decode cX6_power 16 = .ok (.ireturn, 1) := by decide +kernel
theorem dX6_power_17 : decode cX6_power 17 = .ok (.aload_n 0, 1) := by decide +kernel
theorem dX6_power_18 : decode cX6_power 18 = .ok (.getfield 28, 3) := by decide +kernel
theorem dX6_power_21 : decode cX6_power 21 = .ok (.iload_n 1, 1) := by decide +kernel
theorem dX6_power_22 : decode cX6_power 22 = .ok (.iload_n 2, 1) := by decide +kernel
theorem dX6_power_23 : decode cX6_power 23 = .ok (.iload_n 3, 1) := by decide +kernel
theorem dX6_power_24 : decode cX6_power 24 = .ok (.invokevirtual 126, 3) := by decide +kernel
theorem dX6_power_27 : decode cX6_power 27 = .ok (.ifCond .eq 8, 3) := by decide +kernel
theorem dX6_power_30 : decode cX6_power 30 = .ok (.ldc 129, 2) := by decide +kernel
theorem dX6_power_32 : decode cX6_power 32 = .ok (.goto 13, 3) := by decide +kernel
theorem dX6_power_35 : decode cX6_power 35 = .ok (.aload_n 0, 1) := by decide +kernel
theorem dX6_power_36 : decode cX6_power 36 = .ok (.getfield 28, 3) := by decide +kernel
theorem dX6_power_39 : decode cX6_power 39 = .ok (.iload_n 1, 1) := by decide +kernel
theorem dX6_power_40 : decode cX6_power 40 = .ok (.iload_n 2, 1) := by decide +kernel
theorem dX6_power_41 : decode cX6_power 41 = .ok (.iload_n 3, 1) := by decide +kernel
theorem dX6_power_42 : decode cX6_power 42 = .ok (.invokevirtual 134, 3) := by decide +kernel
theorem dX6_power_45 : decode cX6_power 45 = .ok (.ireturn, 1) := by decide +kernel
set_option maxRecDepth 20000 in
theorem ggX6_fastest_X0_hasLeg : GoodIn wsX6_fastest wsX0_hasLeg := goodIn_r _ [8, 9, 119, 120, 121, 122, 123, 124] (by decide +kernel) (by decide +kernel)
set_option maxRecDepth 20000 in
theorem gX6_fastest_X0_hasLeg : GoodIn wsX6_fastest (wsV RX6 110 RX0 yX0_hasLeg wsX0_hasLeg) := goodIn_app (goodIn_of _ (by decide +kernel)) ggX6_fastest_X0_hasLeg
set_option maxRecDepth 20000 in
theorem ggX6_fastest_X5_bringUpToDate : GoodIn wsX6_fastest wsX5_bringUpToDate := goodIn_r _ [14, 15, 16, 17, 18, 19, 20, 7, 21, 9, 22, 23, 24, 13, 25, 26, 27, 28, 29, 30, 31, 32, 33, 34, 35, 36, 37, 38, 39, 40, 41, 42, 43, 44, 45, 46, 47, 48, 49, 50, 51, 52, 53, 54, 55, 56, 57, 58, 59, 60, 61, 62, 63, 64, 65, 66, 67, 68, 69, 70, 71, 72, 73, 74, 75, 76, 77, 78, 79, 80, 81, 82, 83, 84, 85, 86, 87, 88, 89, 90, 91, 92, 93, 94, 95, 96, 97, 98, 99, 100, 101, 102, 103, 104, 125, 126, 127, 128, 129, 130, 131, 132, 119, 120, 121, 122, 123, 124, 133, 134, 135] (by decide +kernel) (by decide +kernel)
set_option maxRecDepth 20000 in
theorem gX6_fastest_X5_bringUpToDate : GoodIn wsX6_fastest (wsV RX6 137 RX5 yX5_bringUpToDate wsX5_bringUpToDate) := goodIn_app (goodIn_of _ (by decide +kernel)) ggX6_fastest_X5_bringUpToDate
set_option maxRecDepth 20000 in
theorem ggX6_fastest_X5_pairCount : GoodIn wsX6_fastest wsX5_pairCount := goodIn_r _ [108, 17, 125, 126, 127, 128, 129, 130, 131, 132] (by decide +kernel) (by decide +kernel)
set_option maxRecDepth 20000 in
theorem gX6_fastest_X5_pairCount : GoodIn wsX6_fastest (wsV RX6 140 RX5 yX5_pairCount wsX5_pairCount) := goodIn_app (goodIn_of _ (by decide +kernel)) ggX6_fastest_X5_pairCount
set_option maxRecDepth 20000 in
theorem ggX6_fastest_X5_pairTime : GoodIn wsX6_fastest wsX5_pairTime := goodIn_r _ [112, 103, 17, 125, 126, 127, 128, 129, 130, 131, 132] (by decide +kernel) (by decide +kernel)
set_option maxRecDepth 20000 in
theorem gX6_fastest_X5_pairTime : GoodIn wsX6_fastest (wsV RX6 143 RX5 yX5_pairTime wsX5_pairTime) := goodIn_app (goodIn_of _ (by decide +kernel)) ggX6_fastest_X5_pairTime
theorem dX6_fastest_0 : decode cX6_fastest 0 = .ok (.aload_n 0, 1) := by decide +kernel
theorem dX6_fastest_1 : decode cX6_fastest 1 = .ok (.getfield 12, 3) := by decide +kernel
theorem dX6_fastest_4 : decode cX6_fastest 4 = .ok (.iload_n 1, 1) := by decide +kernel
theorem dX6_fastest_5 : decode cX6_fastest 5 = .ok (.invokevirtual 110, 3) := by decide +kernel
theorem dX6_fastest_8 : decode cX6_fastest 8 = .ok (.ifCond .ne 5, 3) := by decide +kernel
theorem dX6_fastest_11 : decode cX6_fastest 11 = .ok (.iconst (-1), 1) := by decide +kernel
theorem dX6_fastest_12 : decode cX6_fastest 12 = .ok (.ireturn, 1) := by decide +kernel
theorem dX6_fastest_13 : decode cX6_fastest 13 = .ok (.aload_n 0, 1) := by decide +kernel
theorem dX6_fastest_14 : decode cX6_fastest 14 = .ok (.getfield 37, 3) := by decide +kernel
theorem dX6_fastest_17 : decode cX6_fastest 17 = .ok (.invokevirtual 137, 3) := by decide +kernel
theorem dX6_fastest_20 : decode cX6_fastest 20 = .ok (.aload_n 0, 1) := by decide +kernel
theorem dX6_fastest_21 : decode cX6_fastest 21 = .ok (.getfield 37, 3) := by decide +kernel
theorem dX6_fastest_24 : decode cX6_fastest 24 = .ok (.iload_n 1, 1) := by decide +kernel
theorem dX6_fastest_25 : decode cX6_fastest 25 = .ok (.invokevirtual 140, 3) := by decide +kernel
theorem dX6_fastest_28 : decode cX6_fastest 28 = .ok (.ifCond .ne 8, 3) := by decide +kernel
theorem dX6_fastest_31 : decode cX6_fastest 31 = .ok (.ldc 129, 2) := by decide +kernel
theorem dX6_fastest_33 : decode cX6_fastest 33 = .ok (.goto 12, 3) := by decide +kernel
theorem dX6_fastest_36 : decode cX6_fastest 36 = .ok (.aload_n 0, 1) := by decide +kernel
theorem dX6_fastest_37 : decode cX6_fastest 37 = .ok (.getfield 37, 3) := by decide +kernel
theorem dX6_fastest_40 : decode cX6_fastest 40 = .ok (.iload_n 1, 1) := by decide +kernel
theorem dX6_fastest_41 : decode cX6_fastest 41 = .ok (.iconst 0, 1) := by decide +kernel
theorem dX6_fastest_42 : decode cX6_fastest 42 = .ok (.invokevirtual 143, 3) := by decide +kernel
theorem dX6_fastest_45 : decode cX6_fastest 45 = .ok (.ireturn, 1) := by decide +kernel
set_option maxRecDepth 20000 in
theorem ggX6_best_X6_driveRefusal : GoodIn wsX6_best wsX6_driveRefusal := goodIn_r _ [7, 8, 9, 10, 11, 12, 13, 14, 15, 16, 6, 17, 129, 130, 131, 132, 133, 134, 135, 136, 137, 138, 139, 140] (by decide +kernel) (by decide +kernel)
set_option maxRecDepth 20000 in
theorem gX6_best_X6_driveRefusal : GoodIn wsX6_best (wsV RX6 146 RX6 yX6_driveRefusal wsX6_driveRefusal) := goodIn_app (goodIn_of _ (by decide +kernel)) ggX6_best_X6_driveRefusal
set_option maxRecDepth 20000 in
theorem ggX6_best_X5_bringUpToDate : GoodIn wsX6_best wsX5_bringUpToDate := goodIn_r _ [22, 23, 24, 25, 26, 27, 28, 12, 29, 14, 30, 31, 32, 21, 33, 34, 35, 36, 37, 38, 39, 40, 41, 42, 43, 44, 45, 46, 47, 48, 49, 50, 51, 52, 53, 54, 55, 56, 57, 58, 59, 60, 61, 62, 63, 64, 65, 66, 67, 68, 69, 70, 71, 72, 73, 74, 75, 76, 77, 78, 79, 80, 81, 82, 83, 84, 85, 86, 87, 88, 89, 90, 91, 92, 93, 94, 95, 96, 97, 98, 99, 100, 101, 102, 103, 104, 105, 106, 107, 108, 109, 110, 111, 112, 141, 142, 143, 144, 145, 146, 147, 148, 135, 136, 137, 138, 139, 140, 149, 150, 151] (by decide +kernel) (by decide +kernel)
set_option maxRecDepth 20000 in
theorem gX6_best_X5_bringUpToDate : GoodIn wsX6_best (wsV RX6 137 RX5 yX5_bringUpToDate wsX5_bringUpToDate) := goodIn_app (goodIn_of _ (by decide +kernel)) ggX6_best_X5_bringUpToDate
set_option maxRecDepth 20000 in
theorem ggX6_best_X5_pairWithin : GoodIn wsX6_best wsX5_pairWithin := goodIn_r _ [116, 117, 118, 119, 21, 120, 25, 121, 122, 123, 124, 111, 141, 142, 143, 144, 145, 146, 147, 148] (by decide +kernel) (by decide +kernel)
set_option maxRecDepth 20000 in
theorem gX6_best_X5_pairWithin : GoodIn wsX6_best (wsV RX6 149 RX5 yX5_pairWithin wsX5_pairWithin) := goodIn_app (goodIn_of _ (by decide +kernel)) ggX6_best_X5_pairWithin
set_option maxRecDepth 20000 in
theorem ggX6_best_X5_pairPower : GoodIn wsX6_best wsX5_pairPower := goodIn_r _ [128, 112, 25, 141, 142, 143, 144, 145, 146, 147, 148] (by decide +kernel) (by decide +kernel)
set_option maxRecDepth 20000 in
theorem gX6_best_X5_pairPower : GoodIn wsX6_best (wsV RX6 152 RX5 yX5_pairPower wsX5_pairPower) := goodIn_app (goodIn_of _ (by decide +kernel)) ggX6_best_X5_pairPower
theorem dX6_best_0 : decode cX6_best 0 = .ok (.aload_n 0, 1) := by decide +kernel
theorem dX6_best_1 : decode cX6_best 1 = .ok (.iload_n 1, 1) := by decide +kernel
theorem dX6_best_2 : decode cX6_best 2 = .ok (.iload_n 2, 1) := by decide +kernel
theorem dX6_best_3 : decode cX6_best 3 = .ok (.invokevirtual 146, 3) := by decide +kernel
theorem dX6_best_6 : decode cX6_best 6 = .ok (.istore_n 3, 1) := by decide +kernel
theorem dX6_best_7 : decode cX6_best 7 = .ok (.iload_n 3, 1) := by decide +kernel
theorem dX6_best_8 : decode cX6_best 8 = .ok (.ifCond .eq 5, 3) := by decide +kernel
theorem dX6_best_11 : decode cX6_best 11 = .ok (.iload_n 3, 1) := by decide +kernel
theorem dX6_best_12 : decode cX6_best 12 = .ok (.ireturn, 1) := by decide +kernel
theorem dX6_best_13 : decode cX6_best 13 = .ok (.aload_n 0, 1) := by decide +kernel
theorem dX6_best_14 : decode cX6_best 14 = .ok (.getfield 37, 3) := by decide +kernel
theorem dX6_best_17 : decode cX6_best 17 = .ok (.invokevirtual 137, 3) := by decide +kernel
theorem dX6_best_20 : decode cX6_best 20 = .ok (.aload_n 0, 1) := by decide +kernel
theorem dX6_best_21 : decode cX6_best 21 = .ok (.getfield 37, 3) := by decide +kernel
theorem dX6_best_24 : decode cX6_best 24 = .ok (.iload_n 1, 1) := by decide +kernel
theorem dX6_best_25 : decode cX6_best 25 = .ok (.iload_n 2, 1) := by decide +kernel
theorem dX6_best_26 : decode cX6_best 26 = .ok (.invokevirtual 149, 3) := by decide +kernel
theorem dX6_best_29 : decode cX6_best 29 = .ok (.istore 4, 2) := by decide +kernel
theorem dX6_best_31 : decode cX6_best 31 = .ok (.iload 4, 2) := by decide +kernel
theorem dX6_best_33 : decode cX6_best 33 = .ok (.ifCond .ge 8, 3) := by decide +kernel
theorem dX6_best_36 : decode cX6_best 36 = .ok (.ldc 129, 2) := by decide +kernel
theorem dX6_best_38 : decode cX6_best 38 = .ok (.goto 13, 3) := by decide +kernel
theorem dX6_best_41 : decode cX6_best 41 = .ok (.aload_n 0, 1) := by decide +kernel
theorem dX6_best_42 : decode cX6_best 42 = .ok (.getfield 37, 3) := by decide +kernel
theorem dX6_best_45 : decode cX6_best 45 = .ok (.iload_n 1, 1) := by decide +kernel
theorem dX6_best_46 : decode cX6_best 46 = .ok (.iload 4, 2) := by decide +kernel
theorem dX6_best_48 : decode cX6_best 48 = .ok (.invokevirtual 152, 3) := by decide +kernel
theorem dX6_best_51 : decode cX6_best 51 = .ok (.ireturn, 1) := by decide +kernel
set_option maxRecDepth 20000 in
theorem ggX6_bestTime_X6_driveRefusal : GoodIn wsX6_bestTime wsX6_driveRefusal := goodIn_r _ [7, 8, 9, 10, 11, 12, 13, 14, 15, 16, 6, 17, 126, 127, 128, 129, 130, 131, 132, 133, 134, 135, 136, 137] (by decide +kernel) (by decide +kernel)
set_option maxRecDepth 20000 in
theorem gX6_bestTime_X6_driveRefusal : GoodIn wsX6_bestTime (wsV RX6 146 RX6 yX6_driveRefusal wsX6_driveRefusal) := goodIn_app (goodIn_of _ (by decide +kernel)) ggX6_bestTime_X6_driveRefusal
set_option maxRecDepth 20000 in
theorem ggX6_bestTime_X5_bringUpToDate : GoodIn wsX6_bestTime wsX5_bringUpToDate := goodIn_r _ [22, 23, 24, 25, 26, 27, 28, 12, 29, 14, 30, 31, 32, 21, 33, 34, 35, 36, 37, 38, 39, 40, 41, 42, 43, 44, 45, 46, 47, 48, 49, 50, 51, 52, 53, 54, 55, 56, 57, 58, 59, 60, 61, 62, 63, 64, 65, 66, 67, 68, 69, 70, 71, 72, 73, 74, 75, 76, 77, 78, 79, 80, 81, 82, 83, 84, 85, 86, 87, 88, 89, 90, 91, 92, 93, 94, 95, 96, 97, 98, 99, 100, 101, 102, 103, 104, 105, 106, 107, 108, 109, 110, 111, 112, 138, 139, 140, 141, 142, 143, 144, 145, 132, 133, 134, 135, 136, 137, 146, 147, 148] (by decide +kernel) (by decide +kernel)
set_option maxRecDepth 20000 in
theorem gX6_bestTime_X5_bringUpToDate : GoodIn wsX6_bestTime (wsV RX6 137 RX5 yX5_bringUpToDate wsX5_bringUpToDate) := goodIn_app (goodIn_of _ (by decide +kernel)) ggX6_bestTime_X5_bringUpToDate
set_option maxRecDepth 20000 in
theorem ggX6_bestTime_X5_pairWithin : GoodIn wsX6_bestTime wsX5_pairWithin := goodIn_r _ [116, 117, 118, 119, 21, 120, 25, 121, 122, 123, 124, 111, 138, 139, 140, 141, 142, 143, 144, 145] (by decide +kernel) (by decide +kernel)
set_option maxRecDepth 20000 in
theorem gX6_bestTime_X5_pairWithin : GoodIn wsX6_bestTime (wsV RX6 149 RX5 yX5_pairWithin wsX5_pairWithin) := goodIn_app (goodIn_of _ (by decide +kernel)) ggX6_bestTime_X5_pairWithin
set_option maxRecDepth 20000 in
theorem ggX6_bestTime_X5_pairTime : GoodIn wsX6_bestTime wsX5_pairTime := goodIn_r _ [124, 111, 25, 138, 139, 140, 141, 142, 143, 144, 145] (by decide +kernel) (by decide +kernel)
set_option maxRecDepth 20000 in
theorem gX6_bestTime_X5_pairTime : GoodIn wsX6_bestTime (wsV RX6 143 RX5 yX5_pairTime wsX5_pairTime) := goodIn_app (goodIn_of _ (by decide +kernel)) ggX6_bestTime_X5_pairTime
theorem dX6_bestTime_0 : decode cX6_bestTime 0 = .ok (.aload_n 0, 1) := by decide +kernel
theorem dX6_bestTime_1 : decode cX6_bestTime 1 = .ok (.iload_n 1, 1) := by decide +kernel
theorem dX6_bestTime_2 : decode cX6_bestTime 2 = .ok (.iload_n 2, 1) := by decide +kernel
theorem dX6_bestTime_3 : decode cX6_bestTime 3 = .ok (.invokevirtual 146, 3) := by decide +kernel
theorem dX6_bestTime_6 : decode cX6_bestTime 6 = .ok (.istore_n 3, 1) := by decide +kernel
theorem dX6_bestTime_7 : decode cX6_bestTime 7 = .ok (.iload_n 3, 1) := by decide +kernel
theorem dX6_bestTime_8 : decode cX6_bestTime 8 = .ok (.ifCond .eq 5, 3) := by decide +kernel
theorem dX6_bestTime_11 : decode cX6_bestTime 11 = .ok (.iload_n 3, 1) := by decide +kernel
theorem dX6_bestTime_12 : decode cX6_bestTime 12 = .ok (.ireturn, 1) := by decide +kernel
theorem dX6_bestTime_13 : decode cX6_bestTime 13 = .ok (.aload_n 0, 1) := by decide +kernel
theorem dX6_bestTime_14 : decode cX6_bestTime 14 = .ok (.getfield 37, 3) := by decide +kernel
theorem dX6_bestTime_17 : decode cX6_bestTime 17 = .ok (.invokevirtual 137, 3) := by decide +kernel
theorem dX6_bestTime_20 : decode cX6_bestTime 20 = .ok (.aload_n 0, 1) := by decide +kernel
theorem dX6_bestTime_21 : decode cX6_bestTime 21 = .ok (.getfield 37, 3) := by decide +kernel
theorem dX6_bestTime_24 : decode cX6_bestTime 24 = .ok (.iload_n 1, 1) := by decide +kernel
theorem dX6_bestTime_25 : decode cX6_bestTime 25 = .ok (.iload_n 2, 1) := by decide +kernel
theorem dX6_bestTime_26 : decode cX6_bestTime 26 = .ok (.invokevirtual 149, 3) := by decide +kernel
theorem dX6_bestTime_29 : decode cX6_bestTime 29 = .ok (.istore 4, 2) := by decide +kernel
theorem dX6_bestTime_31 : decode cX6_bestTime 31 = .ok (.iload 4, 2) := by decide +kernel
theorem dX6_bestTime_33 : decode cX6_bestTime 33 = .ok (.ifCond .ge 8, 3) := by decide +kernel
theorem dX6_bestTime_36 : decode cX6_bestTime 36 = .ok (.ldc 129, 2) := by decide +kernel
theorem dX6_bestTime_38 : decode cX6_bestTime 38 = .ok (.goto 13, 3) := by decide +kernel
theorem dX6_bestTime_41 : decode cX6_bestTime 41 = .ok (.aload_n 0, 1) := by decide +kernel
theorem dX6_bestTime_42 : decode cX6_bestTime 42 = .ok (.getfield 37, 3) := by decide +kernel
theorem dX6_bestTime_45 : decode cX6_bestTime 45 = .ok (.iload_n 1, 1) := by decide +kernel
theorem dX6_bestTime_46 : decode cX6_bestTime 46 = .ok (.iload 4, 2) := by decide +kernel
theorem dX6_bestTime_48 : decode cX6_bestTime 48 = .ok (.invokevirtual 143, 3) := by decide +kernel
theorem dX6_bestTime_51 : decode cX6_bestTime 51 = .ok (.ireturn, 1) := by decide +kernel
set_option maxRecDepth 20000 in
theorem ggX6_bestSpeed_X0_hasLeg : GoodIn wsX6_bestSpeed wsX0_hasLeg := goodIn_r _ [8, 9, 138, 139, 140, 141, 142, 143] (by decide +kernel) (by decide +kernel)
set_option maxRecDepth 20000 in
theorem gX6_bestSpeed_X0_hasLeg : GoodIn wsX6_bestSpeed (wsV RX6 110 RX0 yX0_hasLeg wsX0_hasLeg) := goodIn_app (goodIn_of _ (by decide +kernel)) ggX6_bestSpeed_X0_hasLeg
set_option maxRecDepth 20000 in
theorem ggX6_bestSpeed_X0_hasPost : GoodIn wsX6_bestSpeed wsX0_hasPost := goodIn_r _ [13, 14, 138, 139, 140, 141, 142, 143] (by decide +kernel) (by decide +kernel)
set_option maxRecDepth 20000 in
theorem gX6_bestSpeed_X0_hasPost : GoodIn wsX6_bestSpeed (wsV RX6 83 RX0 yX0_hasPost wsX0_hasPost) := goodIn_app (goodIn_of _ (by decide +kernel)) ggX6_bestSpeed_X0_hasPost
set_option maxRecDepth 20000 in
theorem ggX6_bestSpeed_X6_isTime : GoodIn wsX6_bestSpeed wsX6_isTime := goodIn_r _ [18] (by decide +kernel) (by decide +kernel)
set_option maxRecDepth 20000 in
theorem gX6_bestSpeed_X6_isTime : GoodIn wsX6_bestSpeed (va_wsS RX6 155 yX6_isTime wsX6_isTime) := goodIn_app (goodIn_of _ (by decide +kernel)) ggX6_bestSpeed_X6_isTime
set_option maxRecDepth 20000 in
theorem ggX6_bestSpeed_X0_firstPost : GoodIn wsX6_bestSpeed wsX0_firstPost := goodIn_r _ [22, 23, 138, 139, 140, 141, 142, 143] (by decide +kernel) (by decide +kernel)
set_option maxRecDepth 20000 in
theorem gX6_bestSpeed_X0_firstPost : GoodIn wsX6_bestSpeed (wsV RX6 116 RX0 yX0_firstPost wsX0_firstPost) := goodIn_app (goodIn_of _ (by decide +kernel)) ggX6_bestSpeed_X0_firstPost
set_option maxRecDepth 20000 in
theorem ggX6_bestSpeed_X0_lastPost : GoodIn wsX6_bestSpeed wsX0_lastPost := goodIn_r _ [27, 23, 138, 139, 140, 141, 142, 143] (by decide +kernel) (by decide +kernel)
set_option maxRecDepth 20000 in
theorem gX6_bestSpeed_X0_lastPost : GoodIn wsX6_bestSpeed (wsV RX6 113 RX0 yX0_lastPost wsX0_lastPost) := goodIn_app (goodIn_of _ (by decide +kernel)) ggX6_bestSpeed_X0_lastPost
set_option maxRecDepth 20000 in
theorem ggX6_bestSpeed_X5_bringUpToDate : GoodIn wsX6_bestSpeed wsX5_bringUpToDate := goodIn_r _ [32, 33, 34, 35, 36, 37, 38, 7, 39, 9, 40, 41, 42, 31, 43, 44, 45, 46, 47, 20, 21, 22, 23, 48, 25, 26, 27, 49, 50, 51, 52, 53, 54, 55, 56, 57, 58, 59, 60, 61, 62, 63, 64, 65, 66, 67, 68, 69, 70, 71, 72, 73, 74, 75, 76, 77, 78, 79, 80, 81, 82, 83, 84, 85, 86, 87, 88, 89, 90, 91, 92, 93, 94, 95, 96, 97, 98, 99, 100, 101, 102, 103, 104, 105, 106, 107, 108, 109, 110, 111, 112, 113, 114, 115, 144, 145, 146, 147, 148, 149, 150, 151, 138, 139, 140, 141, 142, 143, 152, 153, 154] (by decide +kernel) (by decide +kernel)
set_option maxRecDepth 20000 in
theorem gX6_bestSpeed_X5_bringUpToDate : GoodIn wsX6_bestSpeed (wsV RX6 137 RX5 yX5_bringUpToDate wsX5_bringUpToDate) := goodIn_app (goodIn_of _ (by decide +kernel)) ggX6_bestSpeed_X5_bringUpToDate
set_option maxRecDepth 20000 in
theorem ggX6_bestSpeed_X5_pairWithin : GoodIn wsX6_bestSpeed wsX5_pairWithin := goodIn_r _ [119, 120, 121, 122, 31, 123, 35, 124, 125, 126, 127, 114, 144, 145, 146, 147, 148, 149, 150, 151] (by decide +kernel) (by decide +kernel)
set_option maxRecDepth 20000 in
theorem gX6_bestSpeed_X5_pairWithin : GoodIn wsX6_bestSpeed (wsV RX6 149 RX5 yX5_pairWithin wsX5_pairWithin) := goodIn_app (goodIn_of _ (by decide +kernel)) ggX6_bestSpeed_X5_pairWithin
set_option maxRecDepth 20000 in
theorem ggX6_bestSpeed_X5_pairSpeed : GoodIn wsX6_bestSpeed wsX5_pairSpeed := goodIn_r _ [131, 34, 115, 35, 47, 20, 21, 7, 22, 23, 96, 97, 31, 98, 144, 145, 146, 147, 148, 149, 150, 151, 138, 139, 140, 141, 142, 143] (by decide +kernel) (by decide +kernel)
set_option maxRecDepth 20000 in
theorem gX6_bestSpeed_X5_pairSpeed : GoodIn wsX6_bestSpeed (wsV RX6 158 RX5 yX5_pairSpeed wsX5_pairSpeed) := goodIn_app (goodIn_of _ (by decide +kernel)) ggX6_bestSpeed_X5_pairSpeed
theorem dX6_bestSpeed_0 : decode cX6_bestSpeed 0 = .ok (.aload_n 0, 1) := by decide +kernel
theorem dX6_bestSpeed_1 : decode cX6_bestSpeed 1 = .ok (.getfield 12, 3) := by decide +kernel
theorem dX6_bestSpeed_4 : decode cX6_bestSpeed 4 = .ok (.iload_n 1, 1) := by decide +kernel
theorem dX6_bestSpeed_5 : decode cX6_bestSpeed 5 = .ok (.invokevirtual 110, 3) := by decide +kernel
theorem dX6_bestSpeed_8 : decode cX6_bestSpeed 8 = .ok (.ifCond .eq 14, 3) := by decide +kernel
theorem dX6_bestSpeed_11 : decode cX6_bestSpeed 11 = .ok (.aload_n 0, 1) := by decide +kernel
theorem dX6_bestSpeed_12 : decode cX6_bestSpeed 12 = .ok (.getfield 12, 3) := by decide +kernel
theorem dX6_bestSpeed_15 : decode cX6_bestSpeed 15 = .ok (.iload_n 3, 1) := by decide +kernel
theorem dX6_bestSpeed_16 : decode cX6_bestSpeed 16 = .ok (.invokevirtual 83, 3) := by decide +kernel
theorem dX6_bestSpeed_19 : decode cX6_bestSpeed 19 = .ok (.ifCond .ne 5, 3) := by decide +kernel
theorem dX6_bestSpeed_22 : decode cX6_bestSpeed 22 = .ok (.iconst (-1), 1) := by decide +kernel
theorem dX6_bestSpeed_23 : decode cX6_bestSpeed 23 = .ok (.ireturn, 1) := by decide +kernel
theorem dX6_bestSpeed_24 : decode cX6_bestSpeed 24 = .ok (.iload_n 2, 1) := by decide +kernel
theorem dX6_bestSpeed_25 : decode cX6_bestSpeed 25 = .ok (.invokestatic 155, 3) := by decide +kernel
theorem dX6_bestSpeed_28 : decode cX6_bestSpeed 28 = .ok (.ifCond .ne 6, 3) := by decide +kernel
theorem dX6_bestSpeed_31 : decode cX6_bestSpeed 31 = .ok (.bipush (-2), 2) := by decide +kernel
theorem dX6_bestSpeed_33 : decode cX6_bestSpeed 33 = .ok (.ireturn, 1) := by decide +kernel
theorem dX6_bestSpeed_34 : decode cX6_bestSpeed 34 = .ok (.iload_n 3, 1) := by decide +kernel
theorem dX6_bestSpeed_35 : decode cX6_bestSpeed 35 = .ok (.aload_n 0, 1) := by decide +kernel
theorem dX6_bestSpeed_36 : decode cX6_bestSpeed 36 = .ok (.getfield 12, 3) := by decide +kernel
theorem dX6_bestSpeed_39 : decode cX6_bestSpeed 39 = .ok (.iload_n 1, 1) := by decide +kernel
theorem dX6_bestSpeed_40 : decode cX6_bestSpeed 40 = .ok (.invokevirtual 116, 3) := by decide +kernel
theorem dX6_bestSpeed_43 : decode cX6_bestSpeed 43 = .ok (.if_icmp .lt 15, 3) := by decide +kernel
theorem dX6_bestSpeed_46 : decode cX6_bestSpeed 46 = .ok (.iload_n 3, 1) := by decide +kernel
theorem dX6_bestSpeed_47 : decode cX6_bestSpeed 47 = .ok (.aload_n 0, 1) := by decide +kernel
theorem dX6_bestSpeed_48 : decode cX6_bestSpeed 48 = .ok (.getfield 12, 3) := by decide +kernel
theorem dX6_bestSpeed_51 : decode cX6_bestSpeed 51 = .ok (.iload_n 1, 1) := by decide +kernel
theorem dX6_bestSpeed_52 : decode cX6_bestSpeed 52 = .ok (.invokevirtual 113, 3) := by decide +kernel
theorem dX6_bestSpeed_55 : decode cX6_bestSpeed 55 = .ok (.if_icmp .le 6, 3) := by decide +kernel
theorem dX6_bestSpeed_58 : decode cX6_bestSpeed 58 = .ok (.ldc 129, 2) := by decide +kernel
theorem dX6_bestSpeed_60 : decode cX6_bestSpeed 60 = .ok (.ireturn, 1) := by decide +kernel
theorem dX6_bestSpeed_61 : decode cX6_bestSpeed 61 = .ok (.aload_n 0, 1) := by decide +kernel
theorem dX6_bestSpeed_62 : decode cX6_bestSpeed 62 = .ok (.getfield 37, 3) := by decide +kernel
theorem dX6_bestSpeed_65 : decode cX6_bestSpeed 65 = .ok (.invokevirtual 137, 3) := by decide +kernel
theorem dX6_bestSpeed_68 : decode cX6_bestSpeed 68 = .ok (.aload_n 0, 1) := by decide +kernel
theorem dX6_bestSpeed_69 : decode cX6_bestSpeed 69 = .ok (.getfield 37, 3) := by decide +kernel
theorem dX6_bestSpeed_72 : decode cX6_bestSpeed 72 = .ok (.iload_n 1, 1) := by decide +kernel
theorem dX6_bestSpeed_73 : decode cX6_bestSpeed 73 = .ok (.iload_n 2, 1) := by decide +kernel
theorem dX6_bestSpeed_74 : decode cX6_bestSpeed 74 = .ok (.invokevirtual 149, 3) := by decide +kernel
theorem dX6_bestSpeed_77 : decode cX6_bestSpeed 77 = .ok (.istore 4, 2) := by decide +kernel
theorem dX6_bestSpeed_79 : decode cX6_bestSpeed 79 = .ok (.iload 4, 2) := by decide +kernel
theorem dX6_bestSpeed_81 : decode cX6_bestSpeed 81 = .ok (.ifCond .ge 8, 3) := by decide +kernel
theorem dX6_bestSpeed_84 : decode cX6_bestSpeed 84 = .ok (.ldc 129, 2) := by decide +kernel
theorem dX6_bestSpeed_86 : decode cX6_bestSpeed 86 = .ok (.goto 14, 3) := by decide +kernel
theorem dX6_bestSpeed_89 : decode cX6_bestSpeed 89 = .ok (.aload_n 0, 1) := by decide +kernel
theorem dX6_bestSpeed_90 : decode cX6_bestSpeed 90 = .ok (.getfield 37, 3) := by decide +kernel
theorem dX6_bestSpeed_93 : decode cX6_bestSpeed 93 = .ok (.iload_n 1, 1) := by decide +kernel
theorem dX6_bestSpeed_94 : decode cX6_bestSpeed 94 = .ok (.iload 4, 2) := by decide +kernel
theorem dX6_bestSpeed_96 : decode cX6_bestSpeed 96 = .ok (.iload_n 3, 1) := by decide +kernel
theorem dX6_bestSpeed_97 : decode cX6_bestSpeed 97 = .ok (.invokevirtual 158, 3) := by decide +kernel
theorem dX6_bestSpeed_100 : decode cX6_bestSpeed 100 = .ok (.ireturn, 1) := by decide +kernel
set_option maxRecDepth 20000 in
theorem ggX6_curve_X0_hasLeg : GoodIn wsX6_curve wsX0_hasLeg := goodIn_r _ [7, 8, 114, 115, 116, 117, 118, 119] (by decide +kernel) (by decide +kernel)
set_option maxRecDepth 20000 in
theorem gX6_curve_X0_hasLeg : GoodIn wsX6_curve (wsV RX6 110 RX0 yX0_hasLeg wsX0_hasLeg) := goodIn_app (goodIn_of _ (by decide +kernel)) ggX6_curve_X0_hasLeg
set_option maxRecDepth 20000 in
theorem ggX6_curve_X5_bringUpToDate : GoodIn wsX6_curve wsX5_bringUpToDate := goodIn_r _ [13, 14, 15, 16, 17, 18, 19, 6, 20, 8, 21, 22, 23, 12, 24, 25, 26, 27, 28, 29, 30, 31, 32, 33, 34, 35, 36, 37, 38, 39, 40, 41, 42, 43, 44, 45, 46, 47, 48, 49, 50, 51, 52, 53, 54, 55, 56, 57, 58, 59, 60, 61, 62, 63, 64, 65, 66, 67, 68, 69, 70, 71, 72, 73, 74, 75, 76, 77, 78, 79, 80, 81, 82, 83, 84, 85, 86, 87, 88, 89, 90, 91, 92, 93, 94, 95, 96, 97, 98, 99, 100, 101, 102, 103, 120, 121, 122, 123, 124, 125, 126, 127, 114, 115, 116, 117, 118, 119, 128, 129, 130] (by decide +kernel) (by decide +kernel)
set_option maxRecDepth 20000 in
theorem gX6_curve_X5_bringUpToDate : GoodIn wsX6_curve (wsV RX6 137 RX5 yX5_bringUpToDate wsX5_bringUpToDate) := goodIn_app (goodIn_of _ (by decide +kernel)) ggX6_curve_X5_bringUpToDate
set_option maxRecDepth 20000 in
theorem ggX6_curve_X5_pairCount : GoodIn wsX6_curve wsX5_pairCount := goodIn_r _ [107, 16, 120, 121, 122, 123, 124, 125, 126, 127] (by decide +kernel) (by decide +kernel)
set_option maxRecDepth 20000 in
theorem gX6_curve_X5_pairCount : GoodIn wsX6_curve (wsV RX6 140 RX5 yX5_pairCount wsX5_pairCount) := goodIn_app (goodIn_of _ (by decide +kernel)) ggX6_curve_X5_pairCount
theorem dX6_curve_0 : decode cX6_curve 0 = .ok (.aload_n 0, 1) := by decide +kernel
theorem dX6_curve_1 : decode cX6_curve 1 = .ok (.getfield 12, 3) := by decide +kernel
theorem dX6_curve_4 : decode cX6_curve 4 = .ok (.iload_n 1, 1) := by decide +kernel
theorem dX6_curve_5 : decode cX6_curve 5 = .ok (.invokevirtual 110, 3) := by decide +kernel
theorem dX6_curve_8 : decode cX6_curve 8 = .ok (.ifCond .ne 5, 3) := by decide +kernel
theorem dX6_curve_11 : decode cX6_curve 11 = .ok (.iconst (-1), 1) := by decide +kernel
theorem dX6_curve_12 : decode cX6_curve 12 = .ok (.ireturn, 1) := by decide +kernel
theorem dX6_curve_13 : decode cX6_curve 13 = .ok (.aload_n 0, 1) := by decide +kernel
theorem dX6_curve_14 : decode cX6_curve 14 = .ok (.getfield 37, 3) := by decide +kernel
theorem dX6_curve_17 : decode cX6_curve 17 = .ok (.invokevirtual 137, 3) := by decide +kernel
theorem dX6_curve_20 : decode cX6_curve 20 = .ok (.aload_n 0, 1) := by decide +kernel
theorem dX6_curve_21 : decode cX6_curve 21 = .ok (.getfield 37, 3) := by decide +kernel
theorem dX6_curve_24 : decode cX6_curve 24 = .ok (.iload_n 1, 1) := by decide +kernel
theorem dX6_curve_25 : decode cX6_curve 25 = .ok (.invokevirtual 140, 3) := by decide +kernel
theorem dX6_curve_28 : decode cX6_curve 28 = .ok (.ireturn, 1) := by decide +kernel
set_option maxRecDepth 20000 in
theorem ggX6_point_X0_hasLeg : GoodIn wsX6_point wsX0_hasLeg := goodIn_r _ [8, 9, 123, 124, 125, 126, 127, 128] (by decide +kernel) (by decide +kernel)
set_option maxRecDepth 20000 in
theorem gX6_point_X0_hasLeg : GoodIn wsX6_point (wsV RX6 110 RX0 yX0_hasLeg wsX0_hasLeg) := goodIn_app (goodIn_of _ (by decide +kernel)) ggX6_point_X0_hasLeg
set_option maxRecDepth 20000 in
theorem ggX6_point_X5_bringUpToDate : GoodIn wsX6_point wsX5_bringUpToDate := goodIn_r _ [14, 15, 16, 17, 18, 19, 20, 7, 21, 9, 22, 23, 24, 13, 25, 26, 27, 28, 29, 30, 31, 32, 33, 34, 35, 36, 37, 38, 39, 40, 41, 42, 43, 44, 45, 46, 47, 48, 49, 50, 51, 52, 53, 54, 55, 56, 57, 58, 59, 60, 61, 62, 63, 64, 65, 66, 67, 68, 69, 70, 71, 72, 73, 74, 75, 76, 77, 78, 79, 80, 81, 82, 83, 84, 85, 86, 87, 88, 89, 90, 91, 92, 93, 94, 95, 96, 97, 98, 99, 100, 101, 102, 103, 104, 129, 130, 131, 132, 133, 134, 135, 136, 123, 124, 125, 126, 127, 128, 137, 138, 139] (by decide +kernel) (by decide +kernel)
set_option maxRecDepth 20000 in
theorem gX6_point_X5_bringUpToDate : GoodIn wsX6_point (wsV RX6 137 RX5 yX5_bringUpToDate wsX5_bringUpToDate) := goodIn_app (goodIn_of _ (by decide +kernel)) ggX6_point_X5_bringUpToDate
set_option maxRecDepth 20000 in
theorem ggX6_point_X5_pairCount : GoodIn wsX6_point wsX5_pairCount := goodIn_r _ [108, 17, 129, 130, 131, 132, 133, 134, 135, 136] (by decide +kernel) (by decide +kernel)
set_option maxRecDepth 20000 in
theorem gX6_point_X5_pairCount : GoodIn wsX6_point (wsV RX6 140 RX5 yX5_pairCount wsX5_pairCount) := goodIn_app (goodIn_of _ (by decide +kernel)) ggX6_point_X5_pairCount
set_option maxRecDepth 20000 in
theorem ggX6_point_X5_pairPower : GoodIn wsX6_point wsX5_pairPower := goodIn_r _ [112, 104, 17, 129, 130, 131, 132, 133, 134, 135, 136] (by decide +kernel) (by decide +kernel)
set_option maxRecDepth 20000 in
theorem gX6_point_X5_pairPower : GoodIn wsX6_point (wsV RX6 152 RX5 yX5_pairPower wsX5_pairPower) := goodIn_app (goodIn_of _ (by decide +kernel)) ggX6_point_X5_pairPower
set_option maxRecDepth 20000 in
theorem ggX6_point_X5_pairTime : GoodIn wsX6_point wsX5_pairTime := goodIn_r _ [116, 103, 17, 129, 130, 131, 132, 133, 134, 135, 136] (by decide +kernel) (by decide +kernel)
set_option maxRecDepth 20000 in
theorem gX6_point_X5_pairTime : GoodIn wsX6_point (wsV RX6 143 RX5 yX5_pairTime wsX5_pairTime) := goodIn_app (goodIn_of _ (by decide +kernel)) ggX6_point_X5_pairTime
theorem dX6_point_0 : decode cX6_point 0 = .ok (.aload_n 0, 1) := by decide +kernel
theorem dX6_point_1 : decode cX6_point 1 = .ok (.getfield 12, 3) := by decide +kernel
theorem dX6_point_4 : decode cX6_point 4 = .ok (.iload_n 1, 1) := by decide +kernel
theorem dX6_point_5 : decode cX6_point 5 = .ok (.invokevirtual 110, 3) := by decide +kernel
theorem dX6_point_8 : decode cX6_point 8 = .ok (.ifCond .ne 5, 3) := by decide +kernel
theorem dX6_point_11 : decode cX6_point 11 = .ok (.iconst (-1), 1) := by decide +kernel
theorem dX6_point_12 : decode cX6_point 12 = .ok (.ireturn, 1) := by decide +kernel
theorem dX6_point_13 : decode cX6_point 13 = .ok (.aload_n 0, 1) := by decide +kernel
theorem dX6_point_14 : decode cX6_point 14 = .ok (.getfield 37, 3) := by decide +kernel
theorem dX6_point_17 : decode cX6_point 17 = .ok (.invokevirtual 137, 3) := by decide +kernel
theorem dX6_point_20 : decode cX6_point 20 = .ok (.iload_n 2, 1) := by decide +kernel
theorem dX6_point_21 : decode cX6_point 21 = .ok (.ifCond .lt 15, 3) := by decide +kernel
theorem dX6_point_24 : decode cX6_point 24 = .ok (.iload_n 2, 1) := by decide +kernel
theorem dX6_point_25 : decode cX6_point 25 = .ok (.aload_n 0, 1) := by decide +kernel
theorem dX6_point_26 : decode cX6_point 26 = .ok (.getfield 37, 3) := by decide +kernel
theorem dX6_point_29 : decode cX6_point 29 = .ok (.iload_n 1, 1) := by decide +kernel
theorem dX6_point_30 : decode cX6_point 30 = .ok (.invokevirtual 140, 3) := by decide +kernel
theorem dX6_point_33 : decode cX6_point 33 = .ok (.if_icmp .lt 6, 3) := by decide +kernel
theorem dX6_point_36 : decode cX6_point 36 = .ok (.ldc 129, 2) := by decide +kernel
theorem dX6_point_38 : decode cX6_point 38 = .ok (.ireturn, 1) := by decide +kernel
theorem dX6_point_39 : decode cX6_point 39 = .ok (.iload_n 3, 1) := by decide +kernel
theorem dX6_point_40 : decode cX6_point 40 = .ok (.ifCond .eq 15, 3) := by decide +kernel
theorem dX6_point_43 : decode cX6_point 43 = .ok (.aload_n 0, 1) := by decide +kernel
theorem dX6_point_44 : decode cX6_point 44 = .ok (.getfield 37, 3) := by decide +kernel
theorem dX6_point_47 : decode cX6_point 47 = .ok (.iload_n 1, 1) := by decide +kernel
theorem dX6_point_48 : decode cX6_point 48 = .ok (.iload_n 2, 1) := by decide +kernel
theorem dX6_point_49 : decode cX6_point 49 = .ok (.invokevirtual 152, 3) := by decide +kernel
theorem dX6_point_52 : decode cX6_point 52 = .ok (.goto 12, 3) := by decide +kernel
theorem dX6_point_55 : decode cX6_point 55 = .ok (.aload_n 0, 1) := by decide +kernel
theorem dX6_point_56 : decode cX6_point 56 = .ok (.getfield 37, 3) := by decide +kernel
theorem dX6_point_59 : decode cX6_point 59 = .ok (.iload_n 1, 1) := by decide +kernel
theorem dX6_point_60 : decode cX6_point 60 = .ok (.iload_n 2, 1) := by decide +kernel
theorem dX6_point_61 : decode cX6_point 61 = .ok (.invokevirtual 143, 3) := by decide +kernel
theorem dX6_point_64 : decode cX6_point 64 = .ok (.ireturn, 1) := by decide +kernel
set_option maxRecDepth 20000 in
theorem ggX6_share_X6_isTime : GoodIn wsX6_share wsX6_isTime := goodIn_r _ [7] (by decide +kernel) (by decide +kernel)
set_option maxRecDepth 20000 in
theorem gX6_share_X6_isTime : GoodIn wsX6_share (va_wsS RX6 155 yX6_isTime wsX6_isTime) := goodIn_app (goodIn_of _ (by decide +kernel)) ggX6_share_X6_isTime
set_option maxRecDepth 20000 in
theorem ggX6_share_X5_bringUpToDate : GoodIn wsX6_share wsX5_bringUpToDate := goodIn_r _ [12, 13, 14, 15, 16, 17, 18, 19, 20, 21, 22, 23, 24, 11, 25, 26, 27, 28, 29, 30, 31, 32, 33, 34, 35, 36, 37, 38, 39, 40, 41, 42, 43, 44, 45, 46, 47, 48, 49, 50, 51, 52, 53, 54, 55, 56, 57, 58, 59, 60, 61, 62, 63, 64, 65, 66, 67, 68, 69, 70, 71, 72, 73, 74, 75, 76, 77, 78, 79, 80, 81, 82, 83, 84, 85, 86, 87, 88, 89, 90, 91, 92, 93, 94, 95, 96, 97, 98, 99, 100, 101, 102, 103, 104, 150, 151, 152, 153, 154, 155, 156, 157, 158, 159, 160, 161, 162, 163, 164, 165, 166] (by decide +kernel) (by decide +kernel)
set_option maxRecDepth 20000 in
theorem gX6_share_X5_bringUpToDate : GoodIn wsX6_share (wsV RX6 137 RX5 yX5_bringUpToDate wsX5_bringUpToDate) := goodIn_app (goodIn_of _ (by decide +kernel)) ggX6_share_X5_bringUpToDate
set_option maxRecDepth 20000 in
theorem ggX6_share_X2_bringUpToDate : GoodIn wsX6_share wsX2_bringUpToDate := goodIn_r _ [109, 110, 111, 112, 113, 114, 115, 53, 54, 55, 116, 39, 40, 41, 117, 17, 18, 19, 20, 21, 118, 119, 120, 108, 121, 122, 123, 96, 97, 124, 125, 126, 11, 127, 15, 128, 129, 130, 131, 103, 132, 133, 134, 135, 104, 167, 168, 169, 170, 171, 158, 159, 160, 161, 162, 163, 150, 151, 152, 153, 154, 155, 156, 157] (by decide +kernel) (by decide +kernel)
set_option maxRecDepth 20000 in
theorem gX6_share_X2_bringUpToDate : GoodIn wsX6_share (wsV RX6 161 RX2 yX2_bringUpToDate wsX2_bringUpToDate) := goodIn_app (goodIn_of _ (by decide +kernel)) ggX6_share_X2_bringUpToDate
set_option maxRecDepth 20000 in
theorem ggX6_share_X2_isThere : GoodIn wsX6_share wsX2_isThere := goodIn_r _ [139, 111, 122, 167, 168, 169, 170, 171] (by decide +kernel) (by decide +kernel)
set_option maxRecDepth 20000 in
theorem gX6_share_X2_isThere : GoodIn wsX6_share (wsV RX6 162 RX2 yX2_isThere wsX2_isThere) := goodIn_app (goodIn_of _ (by decide +kernel)) ggX6_share_X2_isThere
set_option maxRecDepth 20000 in
theorem ggX6_share_X2_powerTogether : GoodIn wsX6_share wsX2_powerTogether := goodIn_r _ [143, 111, 167, 168, 169, 170, 171] (by decide +kernel) (by decide +kernel)
set_option maxRecDepth 20000 in
theorem gX6_share_X2_powerTogether : GoodIn wsX6_share (wsV RX6 165 RX2 yX2_powerTogether wsX2_powerTogether) := goodIn_app (goodIn_of _ (by decide +kernel)) ggX6_share_X2_powerTogether
theorem dX6_share_0 : decode cX6_share 0 = .ok (.iload_n 1, 1) := by decide +kernel
theorem dX6_share_1 : decode cX6_share 1 = .ok (.invokestatic 155, 3) := by decide +kernel
theorem dX6_share_4 : decode cX6_share 4 = .ok (.ifCond .ne 6, 3) := by decide +kernel
theorem dX6_share_7 : decode cX6_share 7 = .ok (.bipush (-2), 2) := by decide +kernel
theorem dX6_share_9 : decode cX6_share 9 = .ok (.ireturn, 1) := by decide +kernel
theorem dX6_share_10 : decode cX6_share 10 = .ok (.aload_n 0, 1) := by decide +kernel
theorem dX6_share_11 : decode cX6_share 11 = .ok (.getfield 37, 3) := by decide +kernel
theorem dX6_share_14 : decode cX6_share 14 = .ok (.invokevirtual 137, 3) := by decide +kernel
theorem dX6_share_17 : decode cX6_share 17 = .ok (.aload_n 0, 1) := by decide +kernel
theorem dX6_share_18 : decode cX6_share 18 = .ok (.getfield 46, 3) := by decide +kernel
theorem dX6_share_21 : decode cX6_share 21 = .ok (.invokevirtual 161, 3) := by decide +kernel
theorem dX6_share_24 : decode cX6_share 24 = .ok (.aload_n 0, 1) := by decide +kernel
theorem dX6_share_25 : decode cX6_share 25 = .ok (.getfield 46, 3) := by decide +kernel
theorem dX6_share_28 : decode cX6_share 28 = .ok (.iload_n 1, 1) := by decide +kernel
theorem dX6_share_29 : decode cX6_share 29 = .ok (.invokevirtual 162, 3) := by decide +kernel
theorem dX6_share_32 : decode cX6_share 32 = .ok (.ifCond .eq 14, 3) := by decide +kernel
theorem dX6_share_35 : decode cX6_share 35 = .ok (.aload_n 0, 1) := by decide +kernel
theorem dX6_share_36 : decode cX6_share 36 = .ok (.getfield 46, 3) := by decide +kernel
theorem dX6_share_39 : decode cX6_share 39 = .ok (.iload_n 1, 1) := by decide +kernel
theorem dX6_share_40 : decode cX6_share 40 = .ok (.invokevirtual 165, 3) := by decide +kernel
theorem dX6_share_43 : decode cX6_share 43 = .ok (.goto 5, 3) := by decide +kernel
theorem dX6_share_46 : decode cX6_share 46 = .ok (.ldc 129, 2) := by decide +kernel
theorem dX6_share_48 : decode cX6_share 48 = .ok (.ireturn, 1) := by decide +kernel
set_option maxRecDepth 20000 in
theorem ggX6_shareTime_X0_hasLeg : GoodIn wsX6_shareTime wsX0_hasLeg := goodIn_r _ [9, 10, 157, 158, 159, 160, 161, 162] (by decide +kernel) (by decide +kernel)
set_option maxRecDepth 20000 in
theorem gX6_shareTime_X0_hasLeg : GoodIn wsX6_shareTime (wsV RX6 110 RX0 yX0_hasLeg wsX0_hasLeg) := goodIn_app (goodIn_of _ (by decide +kernel)) ggX6_shareTime_X0_hasLeg
set_option maxRecDepth 20000 in
theorem ggX6_shareTime_X6_isTime : GoodIn wsX6_shareTime wsX6_isTime := goodIn_r _ [14] (by decide +kernel) (by decide +kernel)
set_option maxRecDepth 20000 in
theorem gX6_shareTime_X6_isTime : GoodIn wsX6_shareTime (va_wsS RX6 155 yX6_isTime wsX6_isTime) := goodIn_app (goodIn_of _ (by decide +kernel)) ggX6_shareTime_X6_isTime
set_option maxRecDepth 20000 in
theorem ggX6_shareTime_X5_bringUpToDate : GoodIn wsX6_shareTime wsX5_bringUpToDate := goodIn_r _ [19, 20, 21, 22, 23, 24, 25, 8, 26, 10, 27, 28, 29, 18, 30, 31, 32, 33, 34, 35, 36, 37, 38, 39, 40, 41, 42, 43, 44, 45, 46, 47, 48, 49, 50, 51, 52, 53, 54, 55, 56, 57, 58, 59, 60, 61, 62, 63, 64, 65, 66, 67, 68, 69, 70, 71, 72, 73, 74, 75, 76, 77, 78, 79, 80, 81, 82, 83, 84, 85, 86, 87, 88, 89, 90, 91, 92, 93, 94, 95, 96, 97, 98, 99, 100, 101, 102, 103, 104, 105, 106, 107, 108, 109, 163, 164, 165, 166, 167, 168, 169, 170, 157, 158, 159, 160, 161, 162, 171, 172, 173] (by decide +kernel) (by decide +kernel)
set_option maxRecDepth 20000 in
theorem gX6_shareTime_X5_bringUpToDate : GoodIn wsX6_shareTime (wsV RX6 137 RX5 yX5_bringUpToDate wsX5_bringUpToDate) := goodIn_app (goodIn_of _ (by decide +kernel)) ggX6_shareTime_X5_bringUpToDate
set_option maxRecDepth 20000 in
theorem ggX6_shareTime_X2_bringUpToDate : GoodIn wsX6_shareTime wsX2_bringUpToDate := goodIn_r _ [114, 115, 116, 117, 118, 119, 120, 58, 59, 60, 121, 44, 45, 46, 122, 24, 25, 8, 26, 10, 123, 124, 125, 113, 126, 127, 128, 101, 102, 129, 130, 131, 18, 132, 22, 133, 134, 135, 136, 108, 137, 138, 139, 140, 109, 174, 175, 176, 177, 178, 157, 158, 159, 160, 161, 162, 163, 164, 165, 166, 167, 168, 169, 170] (by decide +kernel) (by decide +kernel)
set_option maxRecDepth 20000 in
theorem gX6_shareTime_X2_bringUpToDate : GoodIn wsX6_shareTime (wsV RX6 161 RX2 yX2_bringUpToDate wsX2_bringUpToDate) := goodIn_app (goodIn_of _ (by decide +kernel)) ggX6_shareTime_X2_bringUpToDate
set_option maxRecDepth 20000 in
theorem ggX6_shareTime_X2_isThere : GoodIn wsX6_shareTime wsX2_isThere := goodIn_r _ [144, 116, 127, 174, 175, 176, 177, 178] (by decide +kernel) (by decide +kernel)
set_option maxRecDepth 20000 in
theorem gX6_shareTime_X2_isThere : GoodIn wsX6_shareTime (wsV RX6 162 RX2 yX2_isThere wsX2_isThere) := goodIn_app (goodIn_of _ (by decide +kernel)) ggX6_shareTime_X2_isThere
set_option maxRecDepth 20000 in
theorem ggX6_shareTime_X2_legTime : GoodIn wsX6_shareTime wsX2_legTime := goodIn_r _ [148, 119, 118, 149, 116, 150, 129, 130, 131, 18, 132, 22, 133, 134, 135, 136, 108, 174, 175, 176, 177, 178, 163, 164, 165, 166, 167, 168, 169, 170] (by decide +kernel) (by decide +kernel)
set_option maxRecDepth 20000 in
theorem gX6_shareTime_X2_legTime : GoodIn wsX6_shareTime (wsV RX6 168 RX2 yX2_legTime wsX2_legTime) := goodIn_app (goodIn_of _ (by decide +kernel)) ggX6_shareTime_X2_legTime
theorem dX6_shareTime_0 : decode cX6_shareTime 0 = .ok (.aload_n 0, 1) := by decide +kernel
theorem dX6_shareTime_1 : decode cX6_shareTime 1 = .ok (.getfield 12, 3) := by decide +kernel
theorem dX6_shareTime_4 : decode cX6_shareTime 4 = .ok (.iload_n 2, 1) := by decide +kernel
theorem dX6_shareTime_5 : decode cX6_shareTime 5 = .ok (.invokevirtual 110, 3) := by decide +kernel
theorem dX6_shareTime_8 : decode cX6_shareTime 8 = .ok (.ifCond .ne 5, 3) := by decide +kernel
theorem dX6_shareTime_11 : decode cX6_shareTime 11 = .ok (.iconst (-1), 1) := by decide +kernel
theorem dX6_shareTime_12 : decode cX6_shareTime 12 = .ok (.ireturn, 1) := by decide +kernel
theorem dX6_shareTime_13 : decode cX6_shareTime 13 = .ok (.iload_n 1, 1) := by decide +kernel
theorem dX6_shareTime_14 : decode cX6_shareTime 14 = .ok (.invokestatic 155, 3) := by decide +kernel
theorem dX6_shareTime_17 : decode cX6_shareTime 17 = .ok (.ifCond .ne 6, 3) := by decide +kernel
theorem dX6_shareTime_20 : decode cX6_shareTime 20 = .ok (.bipush (-2), 2) := by decide +kernel
theorem dX6_shareTime_22 : decode cX6_shareTime 22 = .ok (.ireturn, 1) := by decide +kernel
theorem dX6_shareTime_23 : decode cX6_shareTime 23 = .ok (.aload_n 0, 1) := by decide +kernel
theorem dX6_shareTime_24 : decode cX6_shareTime 24 = .ok (.getfield 37, 3) := by decide +kernel
theorem dX6_shareTime_27 : decode cX6_shareTime 27 = .ok (.invokevirtual 137, 3) := by decide +kernel
theorem dX6_shareTime_30 : decode cX6_shareTime 30 = .ok (.aload_n 0, 1) := by decide +kernel
theorem dX6_shareTime_31 : decode cX6_shareTime 31 = .ok (.getfield 46, 3) := by decide +kernel
theorem dX6_shareTime_34 : decode cX6_shareTime 34 = .ok (.invokevirtual 161, 3) := by decide +kernel
theorem dX6_shareTime_37 : decode cX6_shareTime 37 = .ok (.aload_n 0, 1) := by decide +kernel
theorem dX6_shareTime_38 : decode cX6_shareTime 38 = .ok (.getfield 46, 3) := by decide +kernel
theorem dX6_shareTime_41 : decode cX6_shareTime 41 = .ok (.iload_n 1, 1) := by decide +kernel
theorem dX6_shareTime_42 : decode cX6_shareTime 42 = .ok (.invokevirtual 162, 3) := by decide +kernel
theorem dX6_shareTime_45 : decode cX6_shareTime 45 = .ok (.ifCond .eq 15, 3) := by decide +kernel
theorem dX6_shareTime_48 : decode cX6_shareTime 48 = .ok (.aload_n 0, 1) := by decide +kernel
theorem dX6_shareTime_49 : decode cX6_shareTime 49 = .ok (.getfield 46, 3) := by decide +kernel
theorem dX6_shareTime_52 : decode cX6_shareTime 52 = .ok (.iload_n 1, 1) := by decide +kernel
theorem dX6_shareTime_53 : decode cX6_shareTime 53 = .ok (.iload_n 2, 1) := by decide +kernel
theorem dX6_shareTime_54 : decode cX6_shareTime 54 = .ok (.invokevirtual 168, 3) := by decide +kernel
theorem dX6_shareTime_57 : decode cX6_shareTime 57 = .ok (.goto 5, 3) := by decide +kernel
theorem dX6_shareTime_60 : decode cX6_shareTime 60 = .ok (.ldc 129, 2) := by decide +kernel
theorem dX6_shareTime_62 : decode cX6_shareTime 62 = .ok (.ireturn, 1) := by decide +kernel
set_option maxRecDepth 20000 in
theorem ggX6_needs_X5_bringUpToDate : GoodIn wsX6_needs wsX5_bringUpToDate := goodIn_r _ [8, 9, 10, 11, 12, 13, 14, 15, 16, 17, 18, 19, 20, 7, 21, 22, 23, 24, 25, 26, 27, 28, 29, 30, 31, 32, 33, 34, 35, 36, 37, 38, 39, 40, 41, 42, 43, 44, 45, 46, 47, 48, 49, 50, 51, 52, 53, 54, 55, 56, 57, 58, 59, 60, 61, 62, 63, 64, 65, 66, 67, 68, 69, 70, 71, 72, 73, 74, 75, 76, 77, 78, 79, 80, 81, 82, 83, 84, 85, 86, 87, 88, 89, 90, 91, 92, 93, 94, 95, 96, 97, 98, 99, 100, 146, 147, 148, 149, 150, 151, 152, 153, 154, 155, 156, 157, 158, 159, 160, 161, 162] (by decide +kernel) (by decide +kernel)
set_option maxRecDepth 20000 in
theorem gX6_needs_X5_bringUpToDate : GoodIn wsX6_needs (wsV RX6 137 RX5 yX5_bringUpToDate wsX5_bringUpToDate) := goodIn_app (goodIn_of _ (by decide +kernel)) ggX6_needs_X5_bringUpToDate
set_option maxRecDepth 20000 in
theorem ggX6_needs_X2_bringUpToDate : GoodIn wsX6_needs wsX2_bringUpToDate := goodIn_r _ [105, 106, 107, 108, 109, 110, 111, 49, 50, 51, 112, 35, 36, 37, 113, 13, 14, 15, 16, 17, 114, 115, 116, 104, 117, 118, 119, 92, 93, 120, 121, 122, 7, 123, 11, 124, 125, 126, 127, 99, 128, 129, 130, 131, 100, 163, 164, 165, 166, 167, 154, 155, 156, 157, 158, 159, 146, 147, 148, 149, 150, 151, 152, 153] (by decide +kernel) (by decide +kernel)
set_option maxRecDepth 20000 in
theorem gX6_needs_X2_bringUpToDate : GoodIn wsX6_needs (wsV RX6 161 RX2 yX2_bringUpToDate wsX2_bringUpToDate) := goodIn_app (goodIn_of _ (by decide +kernel)) ggX6_needs_X2_bringUpToDate
set_option maxRecDepth 20000 in
theorem ggX6_needs_X2_isThere : GoodIn wsX6_needs wsX2_isThere := goodIn_r _ [135, 107, 118, 163, 164, 165, 166, 167] (by decide +kernel) (by decide +kernel)
set_option maxRecDepth 20000 in
theorem gX6_needs_X2_isThere : GoodIn wsX6_needs (wsV RX6 162 RX2 yX2_isThere wsX2_isThere) := goodIn_app (goodIn_of _ (by decide +kernel)) ggX6_needs_X2_isThere
set_option maxRecDepth 20000 in
theorem ggX6_needs_X2_powerTogether : GoodIn wsX6_needs wsX2_powerTogether := goodIn_r _ [139, 107, 163, 164, 165, 166, 167] (by decide +kernel) (by decide +kernel)
set_option maxRecDepth 20000 in
theorem gX6_needs_X2_powerTogether : GoodIn wsX6_needs (wsV RX6 165 RX2 yX2_powerTogether wsX2_powerTogether) := goodIn_app (goodIn_of _ (by decide +kernel)) ggX6_needs_X2_powerTogether
theorem dX6_needs_0 : decode cX6_needs 0 = .ok (.aload_n 0, 1) := by decide +kernel
theorem dX6_needs_1 : decode cX6_needs 1 = .ok (.getfield 37, 3) := by decide +kernel
theorem dX6_needs_4 : decode cX6_needs 4 = .ok (.invokevirtual 137, 3) := by decide +kernel
theorem dX6_needs_7 : decode cX6_needs 7 = .ok (.aload_n 0, 1) := by decide +kernel
theorem dX6_needs_8 : decode cX6_needs 8 = .ok (.getfield 46, 3) := by decide +kernel
theorem dX6_needs_11 : decode cX6_needs 11 = .ok (.invokevirtual 161, 3) := by decide +kernel
theorem dX6_needs_14 : decode cX6_needs 14 = .ok (.iconst 0, 1) := by decide +kernel
theorem dX6_needs_15 : decode cX6_needs 15 = .ok (.istore_n 2, 1) := by decide +kernel
theorem dX6_needs_16 : decode cX6_needs 16 = .ok (.iload_n 2, 1) := by decide +kernel
theorem dX6_needs_17 : decode cX6_needs 17 = .ok (.sipush 1000, 3) := by decide +kernel
theorem dX6_needs_20 : decode cX6_needs 20 = .ok (.if_icmp .gt 34, 3) := by decide +kernel
theorem dX6_needs_23 : decode cX6_needs 23 = .ok (.aload_n 0, 1) := by decide +kernel
theorem dX6_needs_24 : decode cX6_needs 24 = .ok (.getfield 46, 3) := by decide +kernel
theorem dX6_needs_27 : decode cX6_needs 27 = .ok (.iload_n 2, 1) := by decide +kernel
theorem dX6_needs_28 : decode cX6_needs 28 = .ok (.invokevirtual 162, 3) := by decide +kernel
theorem dX6_needs_31 : decode cX6_needs 31 = .ok (.ifCond .eq 17, 3) := by decide +kernel
theorem dX6_needs_34 : decode cX6_needs 34 = .ok (.aload_n 0, 1) := by decide +kernel
theorem dX6_needs_35 : decode cX6_needs 35 = .ok (.getfield 46, 3) := by decide +kernel
theorem dX6_needs_38 : decode cX6_needs 38 = .ok (.iload_n 2, 1) := by decide +kernel
theorem dX6_needs_39 : decode cX6_needs 39 = .ok (.invokevirtual 165, 3) := by decide +kernel
theorem dX6_needs_42 : decode cX6_needs 42 = .ok (.iload_n 1, 1) := by decide +kernel
theorem dX6_needs_43 : decode cX6_needs 43 = .ok (.if_icmp .gt 5, 3) := by decide +kernel
theorem dX6_needs_46 : decode cX6_needs 46 = .ok (.iload_n 2, 1) := by decide +kernel
theorem dX6_needs_47 : decode cX6_needs 47 = .ok (.ireturn, 1) := by decide +kernel
theorem dX6_needs_48 : decode cX6_needs 48 = .ok (.iinc 2 1, 3) := by decide +kernel
theorem dX6_needs_51 : decode cX6_needs 51 = .ok (.goto (-35), 3) := by decide +kernel
theorem dX6_needs_54 : decode cX6_needs 54 = .ok (.ldc 129, 2) := by decide +kernel
theorem dX6_needs_56 : decode cX6_needs 56 = .ok (.ireturn, 1) := by decide +kernel
set_option maxRecDepth 20000 in
theorem ggX6_log_X6_isSpeed : GoodIn wsX6_log wsX6_isSpeed := goodIn_r _ [5] (by decide +kernel) (by decide +kernel)
set_option maxRecDepth 20000 in
theorem gX6_log_X6_isSpeed : GoodIn wsX6_log (va_wsS RX6 171 yX6_isSpeed wsX6_isSpeed) := goodIn_app (goodIn_of _ (by decide +kernel)) ggX6_log_X6_isSpeed
set_option maxRecDepth 20000 in
theorem ggX6_log_X1_isFull : GoodIn wsX6_log wsX1_isFull := goodIn_r _ [10, 11, 12, 13, 14, 15, 16, 17, 18, 34, 35, 36, 37, 38, 39, 40, 41, 42, 43] (by decide +kernel) (by decide +kernel)
set_option maxRecDepth 20000 in
theorem gX6_log_X1_isFull : GoodIn wsX6_log (wsV RX6 174 RX1 yX1_isFull wsX1_isFull) := goodIn_app (goodIn_of _ (by decide +kernel)) ggX6_log_X1_isFull
set_option maxRecDepth 20000 in
theorem ggX6_log_X1_add : GoodIn wsX6_log wsX1_add := goodIn_r _ [22, 23, 11, 34, 35, 36, 37] (by decide +kernel) (by decide +kernel)
set_option maxRecDepth 20000 in
theorem gX6_log_X1_add : GoodIn wsX6_log (wsV RX6 178 RX1 yX1_add wsX1_add) := goodIn_app (goodIn_of _ (by decide +kernel)) ggX6_log_X1_add
set_option maxRecDepth 20000 in
theorem ggX6_log_X1_size : GoodIn wsX6_log wsX1_size := goodIn_r _ [27, 11, 34, 35, 36, 37] (by decide +kernel) (by decide +kernel)
set_option maxRecDepth 20000 in
theorem gX6_log_X1_size : GoodIn wsX6_log (wsV RX6 181 RX1 yX1_size wsX1_size) := goodIn_app (goodIn_of _ (by decide +kernel)) ggX6_log_X1_size
theorem dX6_log_0 : decode cX6_log 0 = .ok (.iload_n 1, 1) := by decide +kernel
theorem dX6_log_1 : decode cX6_log 1 = .ok (.invokestatic 171, 3) := by decide +kernel
theorem dX6_log_4 : decode cX6_log 4 = .ok (.ifCond .ne 6, 3) := by decide +kernel
theorem dX6_log_7 : decode cX6_log 7 = .ok (.bipush (-2), 2) := by decide +kernel
theorem dX6_log_9 : decode cX6_log 9 = .ok (.ireturn, 1) := by decide +kernel
theorem dX6_log_10 : decode cX6_log 10 = .ok (.aload_n 0, 1) := by decide +kernel
theorem dX6_log_11 : decode cX6_log 11 = .ok (.getfield 53, 3) := by decide +kernel
theorem dX6_log_14 : decode cX6_log 14 = .ok (.invokevirtual 174, 3) := by decide +kernel
theorem dX6_log_17 : decode cX6_log 17 = .ok (.ifCond .eq 6, 3) := by decide +kernel
theorem dX6_log_20 : decode cX6_log 20 = .ok (.bipush (-4), 2) := by decide +kernel
theorem dX6_log_22 : decode cX6_log 22 = .ok (.ireturn, 1) := by decide +kernel
theorem dX6_log_23 : decode cX6_log 23 = .ok (.aload_n 0, 1) := by decide +kernel
theorem dX6_log_24 : decode cX6_log 24 = .ok (.getfield 53, 3) := by decide +kernel
theorem dX6_log_27 : decode cX6_log 27 = .ok (.iload_n 1, 1) := by decide +kernel
theorem dX6_log_28 : decode cX6_log 28 = .ok (.invokevirtual 178, 3) := by decide +kernel
theorem dX6_log_31 : decode cX6_log 31 = .ok (.aload_n 0, 1) := by decide +kernel
theorem dX6_log_32 : decode cX6_log 32 = .ok (.getfield 53, 3) := by decide +kernel
theorem dX6_log_35 : decode cX6_log 35 = .ok (.invokevirtual 181, 3) := by decide +kernel
theorem dX6_log_38 : decode cX6_log 38 = .ok (.ireturn, 1) := by decide +kernel
set_option maxRecDepth 20000 in
theorem ggX6_clear_X1_size : GoodIn wsX6_clear wsX1_size := goodIn_r _ [6, 7, 18, 19, 20, 21] (by decide +kernel) (by decide +kernel)
set_option maxRecDepth 20000 in
theorem gX6_clear_X1_size : GoodIn wsX6_clear (wsV RX6 181 RX1 yX1_size wsX1_size) := goodIn_app (goodIn_of _ (by decide +kernel)) ggX6_clear_X1_size
set_option maxRecDepth 20000 in
theorem ggX6_clear_X1_wipe : GoodIn wsX6_clear wsX1_wipe := goodIn_r _ [11, 7, 18, 19, 20, 21] (by decide +kernel) (by decide +kernel)
set_option maxRecDepth 20000 in
theorem gX6_clear_X1_wipe : GoodIn wsX6_clear (wsV RX6 65 RX1 yX1_wipe wsX1_wipe) := goodIn_app (goodIn_of _ (by decide +kernel)) ggX6_clear_X1_wipe
theorem dX6_clear_0 : decode cX6_clear 0 = .ok (.aload_n 0, 1) := by decide +kernel
theorem dX6_clear_1 : decode cX6_clear 1 = .ok (.getfield 53, 3) := by decide +kernel
theorem dX6_clear_4 : decode cX6_clear 4 = .ok (.invokevirtual 181, 3) := by decide +kernel
theorem dX6_clear_7 : decode cX6_clear 7 = .ok (.istore_n 1, 1) := by decide +kernel
theorem dX6_clear_8 : decode cX6_clear 8 = .ok (.aload_n 0, 1) := by decide +kernel
theorem dX6_clear_9 : decode cX6_clear 9 = .ok (.getfield 53, 3) := by decide +kernel
theorem dX6_clear_12 : decode cX6_clear 12 = .ok (.invokevirtual 65, 3) := by decide +kernel
theorem dX6_clear_15 : decode cX6_clear 15 = .ok (.iload_n 1, 1) := by decide +kernel
theorem dX6_clear_16 : decode cX6_clear 16 = .ok (.ireturn, 1) := by decide +kernel
set_option maxRecDepth 20000 in
theorem ggX6_judged_X1_timeTogether : GoodIn wsX6_judged wsX1_timeTogether := goodIn_r _ [6, 7, 8, 9, 10, 11, 12, 5, 13, 14, 15, 16, 17, 18, 19, 20, 21, 22, 23, 24, 25, 26, 27, 28, 29, 30, 31, 32, 33, 34, 35, 36, 37, 38, 39, 40, 41, 42, 43, 44, 45, 46, 47, 48, 49, 50, 51, 52, 86, 87, 88, 89, 90, 91, 92, 93, 94, 95, 96, 97, 98] (by decide +kernel) (by decide +kernel)
set_option maxRecDepth 20000 in
theorem gX6_judged_X1_timeTogether : GoodIn wsX6_judged (wsV RX6 184 RX1 yX1_timeTogether wsX1_timeTogether) := goodIn_app (goodIn_of _ (by decide +kernel)) ggX6_judged_X1_timeTogether
set_option maxRecDepth 20000 in
theorem ggX6_judged_X1_powerTogether : GoodIn wsX6_judged wsX1_powerTogether := goodIn_r _ [56, 7, 8, 9, 10, 11, 12, 5, 13, 14, 15, 16, 17, 18, 19, 20, 21, 22, 23, 24, 25, 26, 27, 28, 29, 30, 31, 32, 33, 34, 35, 36, 37, 38, 39, 40, 41, 42, 43, 44, 45, 46, 47, 48, 57, 58, 59, 60, 86, 87, 88, 89, 90, 91, 92, 93, 94, 95, 96, 97, 98] (by decide +kernel) (by decide +kernel)
set_option maxRecDepth 20000 in
theorem gX6_judged_X1_powerTogether : GoodIn wsX6_judged (wsV RX6 187 RX1 yX1_powerTogether wsX1_powerTogether) := goodIn_app (goodIn_of _ (by decide +kernel)) ggX6_judged_X1_powerTogether
set_option maxRecDepth 20000 in
theorem ggX6_judged_X1_faultCount : GoodIn wsX6_judged wsX1_faultCount := goodIn_r _ [64, 7, 10, 11, 12, 5, 13, 8, 9, 14, 15, 16, 17, 18, 19, 20, 21, 22, 23, 24, 25, 26, 27, 28, 29, 30, 31, 32, 33, 34, 35, 36, 37, 38, 39, 40, 41, 42, 43, 44, 45, 46, 47, 48, 86, 87, 88, 89, 90, 91, 92, 93, 94, 95, 96, 97, 98] (by decide +kernel) (by decide +kernel)
set_option maxRecDepth 20000 in
theorem gX6_judged_X1_faultCount : GoodIn wsX6_judged (wsV RX6 189 RX1 yX1_faultCount wsX1_faultCount) := goodIn_app (goodIn_of _ (by decide +kernel)) ggX6_judged_X1_faultCount
set_option maxRecDepth 20000 in
theorem ggX6_judged_X1_firstFaultCell : GoodIn wsX6_judged wsX1_firstFaultCell := goodIn_r _ [68, 7, 69, 10, 11, 12, 5, 13, 8, 9, 14, 15, 16, 17, 18, 19, 20, 21, 22, 23, 24, 25, 26, 27, 28, 29, 30, 31, 32, 33, 34, 35, 36, 37, 38, 39, 40, 41, 42, 43, 44, 45, 46, 47, 48, 86, 87, 88, 89, 90, 91, 92, 93, 94, 95, 96, 97, 98] (by decide +kernel) (by decide +kernel)
set_option maxRecDepth 20000 in
theorem gX6_judged_X1_firstFaultCell : GoodIn wsX6_judged (wsV RX6 192 RX1 yX1_firstFaultCell wsX1_firstFaultCell) := goodIn_app (goodIn_of _ (by decide +kernel)) ggX6_judged_X1_firstFaultCell
set_option maxRecDepth 20000 in
theorem ggX6_judged_X1_stopsPassed : GoodIn wsX6_judged wsX1_stopsPassed := goodIn_r _ [73, 7, 74, 9, 75, 76, 77, 31, 78, 79, 86, 87, 88, 89, 92, 93, 94, 95, 96, 97] (by decide +kernel) (by decide +kernel)
set_option maxRecDepth 20000 in
theorem gX6_judged_X1_stopsPassed : GoodIn wsX6_judged (wsV RX6 195 RX1 yX1_stopsPassed wsX1_stopsPassed) := goodIn_app (goodIn_of _ (by decide +kernel)) ggX6_judged_X1_stopsPassed
theorem dX6_judged_0 : decode cX6_judged 0 = .ok (.iload_n 1, 1) := by decide +kernel
theorem dX6_judged_1 : decode cX6_judged 1 = .ok (.tableswitch 75 0 4 #[35, 43, 51, 59, 67], 35) := by decide +kernel
theorem dX6_judged_36 : decode cX6_judged 36 = .ok (.aload_n 0, 1) := by decide +kernel
theorem dX6_judged_37 : decode cX6_judged 37 = .ok (.getfield 53, 3) := by decide +kernel
theorem dX6_judged_40 : decode cX6_judged 40 = .ok (.invokevirtual 184, 3) := by decide +kernel
theorem dX6_judged_43 : decode cX6_judged 43 = .ok (.ireturn, 1) := by decide +kernel
theorem dX6_judged_44 : decode cX6_judged 44 = .ok (.aload_n 0, 1) := by decide +kernel
theorem dX6_judged_45 : decode cX6_judged 45 = .ok (.getfield 53, 3) := by decide +kernel
theorem dX6_judged_48 : decode cX6_judged 48 = .ok (.invokevirtual 187, 3) := by decide +kernel
theorem dX6_judged_51 : decode cX6_judged 51 = .ok (.ireturn, 1) := by decide +kernel
theorem dX6_judged_52 : decode cX6_judged 52 = .ok (.aload_n 0, 1) := by decide +kernel
theorem dX6_judged_53 : decode cX6_judged 53 = .ok (.getfield 53, 3) := by decide +kernel
theorem dX6_judged_56 : decode cX6_judged 56 = .ok (.invokevirtual 189, 3) := by decide +kernel
theorem dX6_judged_59 : decode cX6_judged 59 = .ok (.ireturn, 1) := by decide +kernel
theorem dX6_judged_60 : decode cX6_judged 60 = .ok (.aload_n 0, 1) := by decide +kernel
theorem dX6_judged_61 : decode cX6_judged 61 = .ok (.getfield 53, 3) := by decide +kernel
theorem dX6_judged_64 : decode cX6_judged 64 = .ok (.invokevirtual 192, 3) := by decide +kernel
theorem dX6_judged_67 : decode cX6_judged 67 = .ok (.ireturn, 1) := by decide +kernel
theorem dX6_judged_68 : decode cX6_judged 68 = .ok (.aload_n 0, 1) := by decide +kernel
theorem dX6_judged_69 : decode cX6_judged 69 = .ok (.getfield 53, 3) := by decide +kernel
theorem dX6_judged_72 : decode cX6_judged 72 = .ok (.invokevirtual 195, 3) := by decide +kernel
theorem dX6_judged_75 : decode cX6_judged 75 = .ok (.ireturn, 1) := by decide +kernel
theorem dX6_judged_76 : decode cX6_judged 76 = .ok (.bipush (-2), 2) := by decide +kernel
theorem dX6_judged_78 : decode cX6_judged 78 = .ok (.ireturn, 1) := by decide +kernel
set_option maxRecDepth 20000 in
theorem ggX6_count_X0_cellCount : GoodIn wsX6_count wsX0_cellCount := goodIn_r _ [7, 8, 26, 27, 28, 29, 30, 31] (by decide +kernel) (by decide +kernel)
set_option maxRecDepth 20000 in
theorem gX6_count_X0_cellCount : GoodIn wsX6_count (wsV RX6 57 RX0 yX0_cellCount wsX0_cellCount) := goodIn_app (goodIn_of _ (by decide +kernel)) ggX6_count_X0_cellCount
set_option maxRecDepth 20000 in
theorem ggX6_count_X0_legCount : GoodIn wsX6_count wsX0_legCount := goodIn_r _ [12, 13, 26, 27, 28, 29, 30, 31] (by decide +kernel) (by decide +kernel)
set_option maxRecDepth 20000 in
theorem gX6_count_X0_legCount : GoodIn wsX6_count (wsV RX6 93 RX0 yX0_legCount wsX0_legCount) := goodIn_app (goodIn_of _ (by decide +kernel)) ggX6_count_X0_legCount
set_option maxRecDepth 20000 in
theorem ggX6_count_X1_size : GoodIn wsX6_count wsX1_size := goodIn_r _ [18, 19, 32, 33, 34, 35] (by decide +kernel) (by decide +kernel)
set_option maxRecDepth 20000 in
theorem gX6_count_X1_size : GoodIn wsX6_count (wsV RX6 181 RX1 yX1_size wsX1_size) := goodIn_app (goodIn_of _ (by decide +kernel)) ggX6_count_X1_size
theorem dX6_count_0 : decode cX6_count 0 = .ok (.iload_n 1, 1) := by decide +kernel
theorem dX6_count_1 : decode cX6_count 1 = .ok (.tableswitch 51 0 2 #[27, 35, 43], 27) := by decide +kernel
theorem dX6_count_28 : decode cX6_count 28 = .ok (.aload_n 0, 1) := by decide +kernel
theorem dX6_count_29 : decode cX6_count 29 = .ok (.getfield 12, 3) := by decide +kernel
theorem dX6_count_32 : decode cX6_count 32 = .ok (.invokevirtual 57, 3) := by decide +kernel
theorem dX6_count_35 : decode cX6_count 35 = .ok (.ireturn, 1) := by decide +kernel
theorem dX6_count_36 : decode cX6_count 36 = .ok (.aload_n 0, 1) := by decide +kernel
theorem dX6_count_37 : decode cX6_count 37 = .ok (.getfield 12, 3) := by decide +kernel
theorem dX6_count_40 : decode cX6_count 40 = .ok (.invokevirtual 93, 3) := by decide +kernel
theorem dX6_count_43 : decode cX6_count 43 = .ok (.ireturn, 1) := by decide +kernel
theorem dX6_count_44 : decode cX6_count 44 = .ok (.aload_n 0, 1) := by decide +kernel
theorem dX6_count_45 : decode cX6_count 45 = .ok (.getfield 53, 3) := by decide +kernel
theorem dX6_count_48 : decode cX6_count 48 = .ok (.invokevirtual 181, 3) := by decide +kernel
theorem dX6_count_51 : decode cX6_count 51 = .ok (.ireturn, 1) := by decide +kernel
theorem dX6_count_52 : decode cX6_count 52 = .ok (.bipush (-2), 2) := by decide +kernel
theorem dX6_count_54 : decode cX6_count 54 = .ok (.ireturn, 1) := by decide +kernel
set_option maxRecDepth 20000 in
theorem ggX6_forgetChoices_X5_forget : GoodIn wsX6_forgetChoices wsX5_forget := goodIn_r _ [7, 8, 21, 22, 23, 24, 25, 26, 27, 28] (by decide +kernel) (by decide +kernel)
set_option maxRecDepth 20000 in
theorem gX6_forgetChoices_X5_forget : GoodIn wsX6_forgetChoices (wsV RX6 198 RX5 yX5_forget wsX5_forget) := goodIn_app (goodIn_of _ (by decide +kernel)) ggX6_forgetChoices_X5_forget
set_option maxRecDepth 20000 in
theorem ggX6_forgetChoices_X2_forget : GoodIn wsX6_forgetChoices wsX2_forget := goodIn_r _ [13, 14, 29, 30, 31, 32, 33] (by decide +kernel) (by decide +kernel)
set_option maxRecDepth 20000 in
theorem gX6_forgetChoices_X2_forget : GoodIn wsX6_forgetChoices (wsV RX6 201 RX2 yX2_forget wsX2_forget) := goodIn_app (goodIn_of _ (by decide +kernel)) ggX6_forgetChoices_X2_forget
theorem dX6_forgetChoices_0 : decode cX6_forgetChoices 0 = .ok (.aload_n 0, 1) := by decide +kernel
theorem dX6_forgetChoices_1 : decode cX6_forgetChoices 1 = .ok (.getfield 37, 3) := by decide +kernel
theorem dX6_forgetChoices_4 : decode cX6_forgetChoices 4 = .ok (.invokevirtual 198, 3) := by decide +kernel
theorem dX6_forgetChoices_7 : decode cX6_forgetChoices 7 = .ok (.aload_n 0, 1) := by decide +kernel
theorem dX6_forgetChoices_8 : decode cX6_forgetChoices 8 = .ok (.getfield 46, 3) := by decide +kernel
theorem dX6_forgetChoices_11 : decode cX6_forgetChoices 11 = .ok (.invokevirtual 201, 3) := by decide +kernel
theorem dX6_forgetChoices_14 : decode cX6_forgetChoices 14 = .ok (.return_, 1) := by decide +kernel
set_option maxRecDepth 20000 in
theorem ggX6_stepRefusal_X0_hasCell : GoodIn wsX6_stepRefusal wsX0_hasCell := goodIn_r _ [6, 7, 18, 19, 20, 21, 22, 23] (by decide +kernel) (by decide +kernel)
set_option maxRecDepth 20000 in
theorem gX6_stepRefusal_X0_hasCell : GoodIn wsX6_stepRefusal (wsV RX6 71 RX0 yX0_hasCell wsX0_hasCell) := goodIn_app (goodIn_of _ (by decide +kernel)) ggX6_stepRefusal_X0_hasCell
set_option maxRecDepth 20000 in
theorem ggX6_stepRefusal_X6_isSpeed : GoodIn wsX6_stepRefusal wsX6_isSpeed := goodIn_r _ [11] (by decide +kernel) (by decide +kernel)
set_option maxRecDepth 20000 in
theorem gX6_stepRefusal_X6_isSpeed : GoodIn wsX6_stepRefusal (va_wsS RX6 171 yX6_isSpeed wsX6_isSpeed) := goodIn_app (goodIn_of _ (by decide +kernel)) ggX6_stepRefusal_X6_isSpeed
theorem dX6_stepRefusal_0 : decode cX6_stepRefusal 0 = .ok (.aload_n 0, 1) := by decide +kernel
theorem dX6_stepRefusal_1 : decode cX6_stepRefusal 1 = .ok (.getfield 12, 3) := by decide +kernel
theorem dX6_stepRefusal_4 : decode cX6_stepRefusal 4 = .ok (.iload_n 1, 1) := by decide +kernel
theorem dX6_stepRefusal_5 : decode cX6_stepRefusal 5 = .ok (.invokevirtual 71, 3) := by decide +kernel
theorem dX6_stepRefusal_8 : decode cX6_stepRefusal 8 = .ok (.ifCond .ne 5, 3) := by decide +kernel
theorem dX6_stepRefusal_11 : decode cX6_stepRefusal 11 = .ok (.iconst (-1), 1) := by decide +kernel
theorem dX6_stepRefusal_12 : decode cX6_stepRefusal 12 = .ok (.ireturn, 1) := by decide +kernel
theorem dX6_stepRefusal_13 : decode cX6_stepRefusal 13 = .ok (.iload_n 2, 1) := by decide +kernel
theorem dX6_stepRefusal_14 : decode cX6_stepRefusal 14 = .ok (.invokestatic 171, 3) := by decide +kernel
theorem dX6_stepRefusal_17 : decode cX6_stepRefusal 17 = .ok (.ifCond .eq 14, 3) := by decide +kernel
theorem dX6_stepRefusal_20 : decode cX6_stepRefusal 20 = .ok (.iload_n 3, 1) := by decide +kernel
theorem dX6_stepRefusal_21 : decode cX6_stepRefusal 21 = .ok (.invokestatic 171, 3) := by decide +kernel
theorem dX6_stepRefusal_24 : decode cX6_stepRefusal 24 = .ok (.ifCond .eq 7, 3) := by decide +kernel
theorem dX6_stepRefusal_27 : decode cX6_stepRefusal 27 = .ok (.iconst 0, 1) := by decide +kernel
theorem dX6_stepRefusal_28 : decode cX6_stepRefusal 28 = .ok (.goto 5, 3) := by decide +kernel
theorem dX6_stepRefusal_31 : decode cX6_stepRefusal 31 = .ok (.bipush (-2), 2) := by decide +kernel
theorem dX6_stepRefusal_33 : decode cX6_stepRefusal 33 = .ok (.ireturn, 1) := by decide +kernel
set_option maxRecDepth 20000 in
theorem ggX6_driveRefusal_X0_hasLeg : GoodIn wsX6_driveRefusal wsX0_hasLeg := goodIn_r _ [6, 7, 18, 19, 20, 21, 22, 23] (by decide +kernel) (by decide +kernel)
set_option maxRecDepth 20000 in
theorem gX6_driveRefusal_X0_hasLeg : GoodIn wsX6_driveRefusal (wsV RX6 110 RX0 yX0_hasLeg wsX0_hasLeg) := goodIn_app (goodIn_of _ (by decide +kernel)) ggX6_driveRefusal_X0_hasLeg
set_option maxRecDepth 20000 in
theorem ggX6_driveRefusal_X6_isTime : GoodIn wsX6_driveRefusal wsX6_isTime := goodIn_r _ [11] (by decide +kernel) (by decide +kernel)
set_option maxRecDepth 20000 in
theorem gX6_driveRefusal_X6_isTime : GoodIn wsX6_driveRefusal (va_wsS RX6 155 yX6_isTime wsX6_isTime) := goodIn_app (goodIn_of _ (by decide +kernel)) ggX6_driveRefusal_X6_isTime
theorem dX6_driveRefusal_0 : decode cX6_driveRefusal 0 = .ok (.aload_n 0, 1) := by decide +kernel
theorem dX6_driveRefusal_1 : decode cX6_driveRefusal 1 = .ok (.getfield 12, 3) := by decide +kernel
theorem dX6_driveRefusal_4 : decode cX6_driveRefusal 4 = .ok (.iload_n 1, 1) := by decide +kernel
theorem dX6_driveRefusal_5 : decode cX6_driveRefusal 5 = .ok (.invokevirtual 110, 3) := by decide +kernel
theorem dX6_driveRefusal_8 : decode cX6_driveRefusal 8 = .ok (.ifCond .ne 5, 3) := by decide +kernel
theorem dX6_driveRefusal_11 : decode cX6_driveRefusal 11 = .ok (.iconst (-1), 1) := by decide +kernel
theorem dX6_driveRefusal_12 : decode cX6_driveRefusal 12 = .ok (.ireturn, 1) := by decide +kernel
theorem dX6_driveRefusal_13 : decode cX6_driveRefusal 13 = .ok (.iload_n 2, 1) := by decide +kernel
theorem dX6_driveRefusal_14 : decode cX6_driveRefusal 14 = .ok (.invokestatic 155, 3) := by decide +kernel
theorem dX6_driveRefusal_17 : decode cX6_driveRefusal 17 = .ok (.ifCond .eq 7, 3) := by decide +kernel
theorem dX6_driveRefusal_20 : decode cX6_driveRefusal 20 = .ok (.iconst 0, 1) := by decide +kernel
theorem dX6_driveRefusal_21 : decode cX6_driveRefusal 21 = .ok (.goto 5, 3) := by decide +kernel
theorem dX6_driveRefusal_24 : decode cX6_driveRefusal 24 = .ok (.bipush (-2), 2) := by decide +kernel
theorem dX6_driveRefusal_26 : decode cX6_driveRefusal 26 = .ok (.ireturn, 1) := by decide +kernel
theorem dX6_isSpeed_0 : decode cX6_isSpeed 0 = .ok (.iload_n 0, 1) := by decide +kernel
theorem dX6_isSpeed_1 : decode cX6_isSpeed 1 = .ok (.ifCond .lt 13, 3) := by decide +kernel
theorem dX6_isSpeed_4 : decode cX6_isSpeed 4 = .ok (.iload_n 0, 1) := by decide +kernel
theorem dX6_isSpeed_5 : decode cX6_isSpeed 5 = .ok (.bipush 6, 2) := by decide +kernel
theorem dX6_isSpeed_7 : decode cX6_isSpeed 7 = .ok (.if_icmp .gt 7, 3) := by decide +kernel
theorem dX6_isSpeed_10 : decode cX6_isSpeed 10 = .ok (.iconst 1, 1) := by decide +kernel
theorem dX6_isSpeed_11 : decode cX6_isSpeed 11 = .ok (.goto 4, 3) := by decide +kernel
theorem dX6_isSpeed_14 : decode cX6_isSpeed 14 = .ok (.iconst 0, 1) := by decide +kernel
theorem dX6_isSpeed_15 : decode cX6_isSpeed 15 = .ok (.ireturn, 1) := by decide +kernel
theorem dX6_isTime_0 : decode cX6_isTime 0 = .ok (.iload_n 0, 1) := by decide +kernel
theorem dX6_isTime_1 : decode cX6_isTime 1 = .ok (.ifCond .lt 14, 3) := by decide +kernel
theorem dX6_isTime_4 : decode cX6_isTime 4 = .ok (.iload_n 0, 1) := by decide +kernel
theorem dX6_isTime_5 : decode cX6_isTime 5 = .ok (.sipush 1000, 3) := by decide +kernel
theorem dX6_isTime_8 : decode cX6_isTime 8 = .ok (.if_icmp .gt 7, 3) := by decide +kernel
theorem dX6_isTime_11 : decode cX6_isTime 11 = .ok (.iconst 1, 1) := by decide +kernel
theorem dX6_isTime_12 : decode cX6_isTime 12 = .ok (.goto 4, 3) := by decide +kernel
theorem dX6_isTime_15 : decode cX6_isTime 15 = .ok (.iconst 0, 1) := by decide +kernel
theorem dX6_isTime_16 : decode cX6_isTime 16 = .ok (.ireturn, 1) := by decide +kernel
end
section
set_option maxRecDepth 20000 in
theorem ggX7_init_X7_begin : GoodIn wsX7_init wsX7_begin := goodIn_r _ [22, 4, 6, 7, 9, 23, 24, 25, 26, 27, 28, 29, 30, 31, 32, 33, 34, 35, 36, 37, 38] (by decide +kernel) (by decide +kernel)
set_option maxRecDepth 20000 in
theorem gX7_init_X7_begin : GoodIn wsX7_init (wsV RX7 46 RX7 yX7_begin wsX7_begin) := goodIn_app (goodIn_of _ (by decide +kernel)) ggX7_init_X7_begin
theorem dX7_init_0 : decode cX7_init 0 = .ok (.aload_n 0, 1) := by decide +kernel
theorem dX7_init_1 : decode cX7_init 1 = .ok (.invokespecial 1, 3) := by decide +kernel
theorem dX7_init_4 : decode cX7_init 4 = .ok (.aload_n 0, 1) := by decide +kernel
theorem dX7_init_5 : decode cX7_init 5 = .ok (.iconst 1, 1) := by decide +kernel
theorem dX7_init_6 : decode cX7_init 6 = .ok (.putfield 7, 3) := by decide +kernel
theorem dX7_init_9 : decode cX7_init 9 = .ok (.aload_n 0, 1) := by decide +kernel
theorem dX7_init_10 : decode cX7_init 10 = .ok (.bipush 16, 2) := by decide +kernel
theorem dX7_init_12 : decode cX7_init 12 = .ok (.newarray .int, 2) := by decide +kernel
theorem dX7_init_14 : decode cX7_init 14 = .ok (.putfield 13, 3) := by decide +kernel
theorem dX7_init_17 : decode cX7_init 17 = .ok (.aload_n 0, 1) := by decide +kernel
theorem dX7_init_18 : decode cX7_init 18 = .ok (.bipush 16, 2) := by decide +kernel
theorem dX7_init_20 : decode cX7_init 20 = .ok (.newarray .int, 2) := by decide +kernel
theorem dX7_init_22 : decode cX7_init 22 = .ok (.putfield 17, 3) := by decide +kernel
theorem dX7_init_25 : decode cX7_init 25 = .ok (.aload_n 0, 1) := by decide +kernel
theorem dX7_init_26 : decode cX7_init 26 = .ok (.bipush 17, 2) := by decide +kernel
theorem dX7_init_28 : decode cX7_init 28 = .ok (.newarray .boolean, 2) := by decide +kernel
theorem dX7_init_30 : decode cX7_init 30 = .ok (.putfield 20, 3) := by decide +kernel
theorem dX7_init_33 : decode cX7_init 33 = .ok (.aload_n 0, 1) := by decide +kernel
theorem dX7_init_34 : decode cX7_init 34 = .ok (.iconst 5, 1) := by decide +kernel
theorem dX7_init_35 : decode cX7_init 35 = .ok (.newarray .int, 2) := by decide +kernel
theorem dX7_init_37 : decode cX7_init 37 = .ok (.putfield 24, 3) := by decide +kernel
theorem dX7_init_40 : decode cX7_init 40 = .ok (.aload_n 0, 1) := by decide +kernel
theorem dX7_init_41 : decode cX7_init 41 = .ok (.bipush 17, 2) := by decide +kernel
theorem dX7_init_43 : decode cX7_init 43 = .ok (.newarray .int, 2) := by decide +kernel
theorem dX7_init_45 : decode cX7_init 45 = .ok (.putfield 27, 3) := by decide +kernel
theorem dX7_init_48 : decode cX7_init 48 = .ok (.aload_n 0, 1) := by decide +kernel
theorem dX7_init_49 : decode cX7_init 49 = .ok (.ldc 30, 2) := by decide +kernel
theorem dX7_init_51 : decode cX7_init 51 = .ok (.newarray .int, 2) := by decide +kernel
theorem dX7_init_53 : decode cX7_init 53 = .ok (.putfield 31, 3) := by decide +kernel
theorem dX7_init_56 : decode cX7_init 56 = .ok (.aload_n 0, 1) := by decide +kernel
theorem dX7_init_57 : decode cX7_init 57 = .ok (.sipush 1001, 3) := by decide +kernel
theorem dX7_init_60 : decode cX7_init 60 = .ok (.newarray .int, 2) := by decide +kernel
theorem dX7_init_62 : decode cX7_init 62 = .ok (.putfield 34, 3) := by decide +kernel
theorem dX7_init_65 : decode cX7_init 65 = .ok (.aload_n 0, 1) := by decide +kernel
theorem dX7_init_66 : decode cX7_init 66 = .ok (.sipush 1001, 3) := by decide +kernel
theorem dX7_init_69 : decode cX7_init 69 = .ok (.newarray .int, 2) := by decide +kernel
theorem dX7_init_71 : decode cX7_init 71 = .ok (.putfield 37, 3) := by decide +kernel
theorem dX7_init_74 : decode cX7_init 74 = .ok (.aload_n 0, 1) := by decide +kernel
theorem dX7_init_75 : decode cX7_init 75 = .ok (.sipush 17017, 3) := by decide +kernel
theorem dX7_init_78 : decode cX7_init 78 = .ok (.newarray .int, 2) := by decide +kernel
theorem dX7_init_80 : decode cX7_init 80 = .ok (.putfield 40, 3) := by decide +kernel
theorem dX7_init_83 : decode cX7_init 83 = .ok (.aload_n 0, 1) := by decide +kernel
theorem dX7_init_84 : decode cX7_init 84 = .ok (.sipush 17017, 3) := by decide +kernel
theorem dX7_init_87 : decode cX7_init 87 = .ok (.newarray .int, 2) := by decide +kernel
theorem dX7_init_89 : decode cX7_init 89 = .ok (.putfield 43, 3) := by decide +kernel
theorem dX7_init_92 : decode cX7_init 92 = .ok (.aload_n 0, 1) := by decide +kernel
theorem dX7_init_93 : decode cX7_init 93 = .ok (.getfield 24, 3) := by decide +kernel
theorem dX7_init_96 : decode cX7_init 96 = .ok (.iconst 0, 1) := by decide +kernel
theorem dX7_init_97 : decode cX7_init 97 = .ok (.iconst 1, 1) := by decide +kernel
theorem dX7_init_98 : decode cX7_init 98 = .ok (.iastore, 1) := by decide +kernel
theorem dX7_init_99 : decode cX7_init 99 = .ok (.aload_n 0, 1) := by decide +kernel
theorem dX7_init_100 : decode cX7_init 100 = .ok (.getfield 24, 3) := by decide +kernel
theorem dX7_init_103 : decode cX7_init 103 = .ok (.iconst 1, 1) := by decide +kernel
theorem dX7_init_104 : decode cX7_init 104 = .ok (.iconst 1, 1) := by decide +kernel
theorem dX7_init_105 : decode cX7_init 105 = .ok (.iastore, 1) := by decide +kernel
theorem dX7_init_106 : decode cX7_init 106 = .ok (.aload_n 0, 1) := by decide +kernel
theorem dX7_init_107 : decode cX7_init 107 = .ok (.getfield 24, 3) := by decide +kernel
theorem dX7_init_110 : decode cX7_init 110 = .ok (.iconst 2, 1) := by decide +kernel
theorem dX7_init_111 : decode cX7_init 111 = .ok (.bipush 100, 2) := by decide +kernel
theorem dX7_init_113 : decode cX7_init 113 = .ok (.iastore, 1) := by decide +kernel
theorem dX7_init_114 : decode cX7_init 114 = .ok (.aload_n 0, 1) := by decide +kernel
theorem dX7_init_115 : decode cX7_init 115 = .ok (.getfield 24, 3) := by decide +kernel
theorem dX7_init_118 : decode cX7_init 118 = .ok (.iconst 3, 1) := by decide +kernel
theorem dX7_init_119 : decode cX7_init 119 = .ok (.bipush 100, 2) := by decide +kernel
theorem dX7_init_121 : decode cX7_init 121 = .ok (.iastore, 1) := by decide +kernel
theorem dX7_init_122 : decode cX7_init 122 = .ok (.aload_n 0, 1) := by decide +kernel
theorem dX7_init_123 : decode cX7_init 123 = .ok (.iconst 1, 1) := by decide +kernel
theorem dX7_init_124 : decode cX7_init 124 = .ok (.invokevirtual 46, 3) := by decide +kernel
theorem dX7_init_127 : decode cX7_init 127 = .ok (.return_, 1) := by decide +kernel
theorem dX7_in_0 : decode cX7_in 0 = .ok (.iload_n 0, 1) := by decide +kernel
theorem dX7_in_1 : decode cX7_in 1 = .ok (.iload_n 1, 1) := by decide +kernel
theorem dX7_in_2 : decode cX7_in 2 = .ok (.if_icmp .lt 12, 3) := by decide +kernel
theorem dX7_in_5 : decode cX7_in 5 = .ok (.iload_n 0, 1) := by decide +kernel
theorem dX7_in_6 : decode cX7_in 6 = .ok (.iload_n 2, 1) := by decide +kernel
theorem dX7_in_7 : decode cX7_in 7 = .ok (.if_icmp .gt 7, 3) := by decide +kernel
theorem dX7_in_10 : decode cX7_in 10 = .ok (.iconst 1, 1) := by decide +kernel
theorem dX7_in_11 : decode cX7_in 11 = .ok (.goto 4, 3) := by decide +kernel
theorem dX7_in_14 : decode cX7_in 14 = .ok (.iconst 0, 1) := by decide +kernel
theorem dX7_in_15 : decode cX7_in 15 = .ok (.ireturn, 1) := by decide +kernel
set_option maxRecDepth 20000 in
theorem ggX7_isCell_X7_in : GoodIn wsX7_isCell wsX7_in := goodIn_r _ [5] (by decide +kernel) (by decide +kernel)
set_option maxRecDepth 20000 in
theorem gX7_isCell_X7_in : GoodIn wsX7_isCell (va_wsS RX7 50 yX7_in wsX7_in) := goodIn_app (goodIn_of _ (by decide +kernel)) ggX7_isCell_X7_in
theorem dX7_isCell_0 : decode cX7_isCell 0 = .ok (.iload_n 1, 1) := by decide +kernel
theorem dX7_isCell_1 : decode cX7_isCell 1 = .ok (.iconst 0, 1) := by decide +kernel
theorem dX7_isCell_2 : decode cX7_isCell 2 = .ok (.aload_n 0, 1) := by decide +kernel
theorem dX7_isCell_3 : decode cX7_isCell 3 = .ok (.getfield 7, 3) := by decide +kernel
theorem dX7_isCell_6 : decode cX7_isCell 6 = .ok (.iconst 1, 1) := by decide +kernel
theorem dX7_isCell_7 : decode cX7_isCell 7 = .ok (.isub, 1) := by decide +kernel
theorem dX7_isCell_8 : decode cX7_isCell 8 = .ok (.invokestatic 50, 3) := by decide +kernel
theorem dX7_isCell_11 : decode cX7_isCell 11 = .ok (.ireturn, 1) := by decide +kernel
set_option maxRecDepth 20000 in
theorem ggX7_isSpeed_X7_in : GoodIn wsX7_isSpeed wsX7_in := goodIn_r _ [4] (by decide +kernel) (by decide +kernel)
set_option maxRecDepth 20000 in
theorem gX7_isSpeed_X7_in : GoodIn wsX7_isSpeed (va_wsS RX7 50 yX7_in wsX7_in) := goodIn_app (goodIn_of _ (by decide +kernel)) ggX7_isSpeed_X7_in
theorem dX7_isSpeed_0 : decode cX7_isSpeed 0 = .ok (.iload_n 0, 1) := by decide +kernel
theorem dX7_isSpeed_1 : decode cX7_isSpeed 1 = .ok (.iconst 0, 1) := by decide +kernel
theorem dX7_isSpeed_2 : decode cX7_isSpeed 2 = .ok (.bipush 6, 2) := by decide +kernel
theorem dX7_isSpeed_4 : decode cX7_isSpeed 4 = .ok (.invokestatic 50, 3) := by decide +kernel
theorem dX7_isSpeed_7 : decode cX7_isSpeed 7 = .ok (.ireturn, 1) := by decide +kernel
theorem dX7_begin_0 : decode cX7_begin 0 = .ok (.aload_n 0, 1) := by decide +kernel
theorem dX7_begin_1 : decode cX7_begin 1 = .ok (.iload_n 1, 1) := by decide +kernel
theorem dX7_begin_2 : decode cX7_begin 2 = .ok (.putfield 7, 3) := by decide +kernel
theorem dX7_begin_5 : decode cX7_begin 5 = .ok (.iconst 0, 1) := by decide +kernel
theorem dX7_begin_6 : decode cX7_begin 6 = .ok (.istore_n 2, 1) := by decide +kernel
theorem dX7_begin_7 : decode cX7_begin 7 = .ok (.iload_n 2, 1) := by decide +kernel
theorem dX7_begin_8 : decode cX7_begin 8 = .ok (.bipush 16, 2) := by decide +kernel
theorem dX7_begin_10 : decode cX7_begin 10 = .ok (.if_icmp .ge 24, 3) := by decide +kernel
theorem dX7_begin_13 : decode cX7_begin 13 = .ok (.aload_n 0, 1) := by decide +kernel
theorem dX7_begin_14 : decode cX7_begin 14 = .ok (.getfield 13, 3) := by decide +kernel
theorem dX7_begin_17 : decode cX7_begin 17 = .ok (.iload_n 2, 1) := by decide +kernel
theorem dX7_begin_18 : decode cX7_begin 18 = .ok (.iconst 0, 1) := by decide +kernel
theorem dX7_begin_19 : decode cX7_begin 19 = .ok (.iastore, 1) := by decide +kernel
theorem dX7_begin_20 : decode cX7_begin 20 = .ok (.aload_n 0, 1) := by decide +kernel
theorem dX7_begin_21 : decode cX7_begin 21 = .ok (.getfield 17, 3) := by decide +kernel
theorem dX7_begin_24 : decode cX7_begin 24 = .ok (.iload_n 2, 1) := by decide +kernel
theorem dX7_begin_25 : decode cX7_begin 25 = .ok (.bipush 6, 2) := by decide +kernel
theorem dX7_begin_27 : decode cX7_begin 27 = .ok (.iastore, 1) := by decide +kernel
theorem dX7_begin_28 : decode cX7_begin 28 = .ok (.iinc 2 1, 3) := by decide +kernel
theorem dX7_begin_31 : decode cX7_begin 31 = .ok (.goto (-24), 3) := by decide +kernel
theorem dX7_begin_34 : decode cX7_begin 34 = .ok (.iconst 0, 1) := by decide +kernel
theorem dX7_begin_35 : decode cX7_begin 35 = .ok (.istore_n 2, 1) := by decide +kernel
theorem dX7_begin_36 : decode cX7_begin 36 = .ok (.iload_n 2, 1) := by decide +kernel
theorem dX7_begin_37 : decode cX7_begin 37 = .ok (.bipush 17, 2) := by decide +kernel
theorem dX7_begin_39 : decode cX7_begin 39 = .ok (.if_icmp .ge 29, 3) := by decide +kernel
theorem dX7_begin_42 : decode cX7_begin 42 = .ok (.aload_n 0, 1) := by decide +kernel
theorem dX7_begin_43 : decode cX7_begin 43 = .ok (.getfield 20, 3) := by decide +kernel
theorem dX7_begin_46 : decode cX7_begin 46 = .ok (.iload_n 2, 1) := by decide +kernel
theorem dX7_begin_47 : decode cX7_begin 47 = .ok (.iload_n 2, 1) := by decide +kernel
theorem dX7_begin_48 : decode cX7_begin 48 = .ok (.ifCond .eq 8, 3) := by decide +kernel
theorem dX7_begin_51 : decode cX7_begin 51 = .ok (.iload_n 2, 1) := by decide +kernel
theorem dX7_begin_52 : decode cX7_begin 52 = .ok (.iload_n 1, 1) := by decide +kernel
theorem dX7_begin_53 : decode cX7_begin 53 = .ok (.if_icmp .ne 7, 3) := by decide +kernel
theorem dX7_begin_56 : decode cX7_begin 56 = .ok (.iconst 1, 1) := by decide +kernel
theorem dX7_begin_57 : decode cX7_begin 57 = .ok (.goto 4, 3) := by decide +kernel
theorem dX7_begin_60 : decode cX7_begin 60 = .ok (.iconst 0, 1) := by decide +kernel
theorem dX7_begin_61 : decode cX7_begin 61 = .ok (.bastore, 1) := by decide +kernel
theorem dX7_begin_62 : decode cX7_begin 62 = .ok (.iinc 2 1, 3) := by decide +kernel
theorem dX7_begin_65 : decode cX7_begin 65 = .ok (.goto (-29), 3) := by decide +kernel
theorem dX7_begin_68 : decode cX7_begin 68 = .ok (.aload_n 0, 1) := by decide +kernel
theorem dX7_begin_69 : decode cX7_begin 69 = .ok (.iconst 0, 1) := by decide +kernel
theorem dX7_begin_70 : decode cX7_begin 70 = .ok (.putfield 54, 3) := by decide +kernel
theorem dX7_begin_73 : decode cX7_begin 73 = .ok (.aload_n 0, 1) := by decide +kernel
theorem dX7_begin_74 : decode cX7_begin 74 = .ok (.iconst 0, 1) := by decide +kernel
theorem dX7_begin_75 : decode cX7_begin 75 = .ok (.putfield 57, 3) := by decide +kernel
theorem dX7_begin_78 : decode cX7_begin 78 = .ok (.return_, 1) := by decide +kernel
set_option maxRecDepth 20000 in
theorem ggX7_line_X7_in : GoodIn wsX7_line wsX7_in := goodIn_r _ [5] (by decide +kernel) (by decide +kernel)
set_option maxRecDepth 20000 in
theorem gX7_line_X7_in : GoodIn wsX7_line (va_wsS RX7 50 yX7_in wsX7_in) := goodIn_app (goodIn_of _ (by decide +kernel)) ggX7_line_X7_in
set_option maxRecDepth 20000 in
theorem ggX7_line_X7_begin : GoodIn wsX7_line wsX7_begin := goodIn_r _ [9, 1, 10, 11, 12, 13, 14, 15, 16, 17, 18, 19, 20, 21, 22, 23, 24, 25, 26, 27, 28] (by decide +kernel) (by decide +kernel)
set_option maxRecDepth 20000 in
theorem gX7_line_X7_begin : GoodIn wsX7_line (wsV RX7 46 RX7 yX7_begin wsX7_begin) := goodIn_app (goodIn_of _ (by decide +kernel)) ggX7_line_X7_begin
theorem dX7_line_0 : decode cX7_line 0 = .ok (.iload_n 1, 1) := by decide +kernel
theorem dX7_line_1 : decode cX7_line 1 = .ok (.iconst 1, 1) := by decide +kernel
theorem dX7_line_2 : decode cX7_line 2 = .ok (.bipush 16, 2) := by decide +kernel
theorem dX7_line_4 : decode cX7_line 4 = .ok (.invokestatic 50, 3) := by decide +kernel
theorem dX7_line_7 : decode cX7_line 7 = .ok (.ifCond .ne 6, 3) := by decide +kernel
theorem dX7_line_10 : decode cX7_line 10 = .ok (.bipush (-2), 2) := by decide +kernel
theorem dX7_line_12 : decode cX7_line 12 = .ok (.ireturn, 1) := by decide +kernel
theorem dX7_line_13 : decode cX7_line 13 = .ok (.aload_n 0, 1) := by decide +kernel
theorem dX7_line_14 : decode cX7_line 14 = .ok (.getfield 7, 3) := by decide +kernel
theorem dX7_line_17 : decode cX7_line 17 = .ok (.istore_n 2, 1) := by decide +kernel
theorem dX7_line_18 : decode cX7_line 18 = .ok (.aload_n 0, 1) := by decide +kernel
theorem dX7_line_19 : decode cX7_line 19 = .ok (.iload_n 1, 1) := by decide +kernel
theorem dX7_line_20 : decode cX7_line 20 = .ok (.invokevirtual 46, 3) := by decide +kernel
theorem dX7_line_23 : decode cX7_line 23 = .ok (.iload_n 2, 1) := by decide +kernel
theorem dX7_line_24 : decode cX7_line 24 = .ok (.ireturn, 1) := by decide +kernel
set_option maxRecDepth 20000 in
theorem ggX7_cell_X7_isCell : GoodIn wsX7_cell wsX7_isCell := goodIn_r _ [8, 9, 10, 11, 7, 12, 13, 14, 15, 16, 17, 18, 19, 20, 21, 22, 23, 24, 25, 26] (by decide +kernel) (by decide +kernel)
set_option maxRecDepth 20000 in
theorem gX7_cell_X7_isCell : GoodIn wsX7_cell (wsV RX7 61 RX7 yX7_isCell wsX7_isCell) := goodIn_app (goodIn_of _ (by decide +kernel)) ggX7_cell_X7_isCell
set_option maxRecDepth 20000 in
theorem ggX7_cell_X7_in : GoodIn wsX7_cell wsX7_in := goodIn_r _ [12] (by decide +kernel) (by decide +kernel)
set_option maxRecDepth 20000 in
theorem gX7_cell_X7_in : GoodIn wsX7_cell (va_wsS RX7 50 yX7_in wsX7_in) := goodIn_app (goodIn_of _ (by decide +kernel)) ggX7_cell_X7_in
theorem dX7_cell_0 : decode cX7_cell 0 = .ok (.aload_n 0, 1) := by decide +kernel
theorem dX7_cell_1 : decode cX7_cell 1 = .ok (.iload_n 1, 1) := by decide +kernel
theorem dX7_cell_2 : decode cX7_cell 2 = .ok (.invokevirtual 61, 3) := by decide +kernel
theorem dX7_cell_5 : decode cX7_cell 5 = .ok (.ifCond .ne 5, 3) := by decide +kernel
theorem dX7_cell_8 : decode cX7_cell 8 = .ok (.iconst (-1), 1) := by decide +kernel
theorem dX7_cell_9 : decode cX7_cell 9 = .ok (.ireturn, 1) := by decide +kernel
theorem dX7_cell_10 : decode cX7_cell 10 = .ok (.iload_n 2, 1) := by decide +kernel
theorem dX7_cell_11 : decode cX7_cell 11 = .ok (.bipush (-4), 2) := by decide +kernel
theorem dX7_cell_13 : decode cX7_cell 13 = .ok (.iconst 4, 1) := by decide +kernel
theorem dX7_cell_14 : decode cX7_cell 14 = .ok (.invokestatic 50, 3) := by decide +kernel
theorem dX7_cell_17 : decode cX7_cell 17 = .ok (.ifCond .eq 13, 3) := by decide +kernel
theorem dX7_cell_20 : decode cX7_cell 20 = .ok (.iload_n 3, 1) := by decide +kernel
theorem dX7_cell_21 : decode cX7_cell 21 = .ok (.iconst 1, 1) := by decide +kernel
theorem dX7_cell_22 : decode cX7_cell 22 = .ok (.bipush 6, 2) := by decide +kernel
theorem dX7_cell_24 : decode cX7_cell 24 = .ok (.invokestatic 50, 3) := by decide +kernel
theorem dX7_cell_27 : decode cX7_cell 27 = .ok (.ifCond .ne 6, 3) := by decide +kernel
theorem dX7_cell_30 : decode cX7_cell 30 = .ok (.bipush (-2), 2) := by decide +kernel
theorem dX7_cell_32 : decode cX7_cell 32 = .ok (.ireturn, 1) := by decide +kernel
theorem dX7_cell_33 : decode cX7_cell 33 = .ok (.aload_n 0, 1) := by decide +kernel
theorem dX7_cell_34 : decode cX7_cell 34 = .ok (.getfield 17, 3) := by decide +kernel
theorem dX7_cell_37 : decode cX7_cell 37 = .ok (.iload_n 1, 1) := by decide +kernel
theorem dX7_cell_38 : decode cX7_cell 38 = .ok (.iaload, 1) := by decide +kernel
theorem dX7_cell_39 : decode cX7_cell 39 = .ok (.istore 4, 2) := by decide +kernel
theorem dX7_cell_41 : decode cX7_cell 41 = .ok (.aload_n 0, 1) := by decide +kernel
theorem dX7_cell_42 : decode cX7_cell 42 = .ok (.getfield 13, 3) := by decide +kernel
theorem dX7_cell_45 : decode cX7_cell 45 = .ok (.iload_n 1, 1) := by decide +kernel
theorem dX7_cell_46 : decode cX7_cell 46 = .ok (.iload_n 2, 1) := by decide +kernel
theorem dX7_cell_47 : decode cX7_cell 47 = .ok (.iastore, 1) := by decide +kernel
theorem dX7_cell_48 : decode cX7_cell 48 = .ok (.aload_n 0, 1) := by decide +kernel
theorem dX7_cell_49 : decode cX7_cell 49 = .ok (.getfield 17, 3) := by decide +kernel
theorem dX7_cell_52 : decode cX7_cell 52 = .ok (.iload_n 1, 1) := by decide +kernel
theorem dX7_cell_53 : decode cX7_cell 53 = .ok (.iload_n 3, 1) := by decide +kernel
theorem dX7_cell_54 : decode cX7_cell 54 = .ok (.iastore, 1) := by decide +kernel
theorem dX7_cell_55 : decode cX7_cell 55 = .ok (.aload_n 0, 1) := by decide +kernel
theorem dX7_cell_56 : decode cX7_cell 56 = .ok (.iconst 0, 1) := by decide +kernel
theorem dX7_cell_57 : decode cX7_cell 57 = .ok (.putfield 57, 3) := by decide +kernel
theorem dX7_cell_60 : decode cX7_cell 60 = .ok (.iload 4, 2) := by decide +kernel
theorem dX7_cell_62 : decode cX7_cell 62 = .ok (.ireturn, 1) := by decide +kernel
theorem dX7_legs_0 : decode cX7_legs 0 = .ok (.iconst 0, 1) := by decide +kernel
theorem dX7_legs_1 : decode cX7_legs 1 = .ok (.istore_n 1, 1) := by decide +kernel
theorem dX7_legs_2 : decode cX7_legs 2 = .ok (.iconst 1, 1) := by decide +kernel
theorem dX7_legs_3 : decode cX7_legs 3 = .ok (.istore_n 2, 1) := by decide +kernel
theorem dX7_legs_4 : decode cX7_legs 4 = .ok (.iload_n 2, 1) := by decide +kernel
theorem dX7_legs_5 : decode cX7_legs 5 = .ok (.aload_n 0, 1) := by decide +kernel
theorem dX7_legs_6 : decode cX7_legs 6 = .ok (.getfield 7, 3) := by decide +kernel
theorem dX7_legs_9 : decode cX7_legs 9 = .ok (.if_icmp .gt 26, 3) := by decide +kernel
theorem dX7_legs_12 : decode cX7_legs 12 = .ok (.iload_n 1, 1) := by decide +kernel
theorem dX7_legs_13 : decode cX7_legs 13 = .ok (.aload_n 0, 1) := by decide +kernel
theorem dX7_legs_14 : decode cX7_legs 14 = .ok (.getfield 20, 3) := by decide +kernel
theorem dX7_legs_17 : decode cX7_legs 17 = .ok (.iload_n 2, 1) := by decide +kernel
theorem dX7_legs_18 : decode cX7_legs 18 = .ok (.baload, 1) := by decide +kernel
theorem dX7_legs_19 : decode cX7_legs 19 = .ok (.ifCond .eq 7, 3) := by decide +kernel
theorem dX7_legs_22 : decode cX7_legs 22 = .ok (.iconst 1, 1) := by decide +kernel
theorem dX7_legs_23 : decode cX7_legs 23 = .ok (.goto 4, 3) := by decide +kernel
theorem dX7_legs_26 : decode cX7_legs 26 = .ok (.iconst 0, 1) := by decide +kernel
theorem dX7_legs_27 : decode cX7_legs 27 = .ok (.iadd, 1) := by decide +kernel
theorem dX7_legs_28 : decode cX7_legs 28 = .ok (.istore_n 1, 1) := by decide +kernel
theorem dX7_legs_29 : decode cX7_legs 29 = .ok (.iinc 2 1, 3) := by decide +kernel
theorem dX7_legs_32 : decode cX7_legs 32 = .ok (.goto (-28), 3) := by decide +kernel
theorem dX7_legs_35 : decode cX7_legs 35 = .ok (.iload_n 1, 1) := by decide +kernel
theorem dX7_legs_36 : decode cX7_legs 36 = .ok (.ireturn, 1) := by decide +kernel
set_option maxRecDepth 20000 in
theorem ggX7_stop_X7_in : GoodIn wsX7_stop wsX7_in := goodIn_r _ [7] (by decide +kernel) (by decide +kernel)
set_option maxRecDepth 20000 in
theorem gX7_stop_X7_in : GoodIn wsX7_stop (va_wsS RX7 50 yX7_in wsX7_in) := goodIn_app (goodIn_of _ (by decide +kernel)) ggX7_stop_X7_in
set_option maxRecDepth 20000 in
theorem ggX7_stop_X7_legs : GoodIn wsX7_stop wsX7_legs := goodIn_r _ [11, 1, 2, 12, 13, 14, 15, 16, 17, 18, 19, 20, 21, 22, 23, 24, 25] (by decide +kernel) (by decide +kernel)
set_option maxRecDepth 20000 in
theorem gX7_stop_X7_legs : GoodIn wsX7_stop (wsV RX7 65 RX7 yX7_legs wsX7_legs) := goodIn_app (goodIn_of _ (by decide +kernel)) ggX7_stop_X7_legs
theorem dX7_stop_0 : decode cX7_stop 0 = .ok (.iload_n 1, 1) := by decide +kernel
theorem dX7_stop_1 : decode cX7_stop 1 = .ok (.iconst 0, 1) := by decide +kernel
theorem dX7_stop_2 : decode cX7_stop 2 = .ok (.aload_n 0, 1) := by decide +kernel
theorem dX7_stop_3 : decode cX7_stop 3 = .ok (.getfield 7, 3) := by decide +kernel
theorem dX7_stop_6 : decode cX7_stop 6 = .ok (.invokestatic 50, 3) := by decide +kernel
theorem dX7_stop_9 : decode cX7_stop 9 = .ok (.ifCond .ne 5, 3) := by decide +kernel
theorem dX7_stop_12 : decode cX7_stop 12 = .ok (.iconst (-1), 1) := by decide +kernel
theorem dX7_stop_13 : decode cX7_stop 13 = .ok (.ireturn, 1) := by decide +kernel
theorem dX7_stop_14 : decode cX7_stop 14 = .ok (.iload_n 1, 1) := by decide +kernel
theorem dX7_stop_15 : decode cX7_stop 15 = .ok (.ifCond .eq 11, 3) := by decide +kernel
theorem dX7_stop_18 : decode cX7_stop 18 = .ok (.iload_n 1, 1) := by decide +kernel
theorem dX7_stop_19 : decode cX7_stop 19 = .ok (.aload_n 0, 1) := by decide +kernel
theorem dX7_stop_20 : decode cX7_stop 20 = .ok (.getfield 7, 3) := by decide +kernel
theorem dX7_stop_23 : decode cX7_stop 23 = .ok (.if_icmp .ne 6, 3) := by decide +kernel
theorem dX7_stop_26 : decode cX7_stop 26 = .ok (.bipush (-3), 2) := by decide +kernel
theorem dX7_stop_28 : decode cX7_stop 28 = .ok (.ireturn, 1) := by decide +kernel
theorem dX7_stop_29 : decode cX7_stop 29 = .ok (.aload_n 0, 1) := by decide +kernel
theorem dX7_stop_30 : decode cX7_stop 30 = .ok (.getfield 20, 3) := by decide +kernel
theorem dX7_stop_33 : decode cX7_stop 33 = .ok (.iload_n 1, 1) := by decide +kernel
theorem dX7_stop_34 : decode cX7_stop 34 = .ok (.iload_n 2, 1) := by decide +kernel
theorem dX7_stop_35 : decode cX7_stop 35 = .ok (.bastore, 1) := by decide +kernel
theorem dX7_stop_36 : decode cX7_stop 36 = .ok (.aload_n 0, 1) := by decide +kernel
theorem dX7_stop_37 : decode cX7_stop 37 = .ok (.iconst 0, 1) := by decide +kernel
theorem dX7_stop_38 : decode cX7_stop 38 = .ok (.putfield 57, 3) := by decide +kernel
theorem dX7_stop_41 : decode cX7_stop 41 = .ok (.aload_n 0, 1) := by decide +kernel
theorem dX7_stop_42 : decode cX7_stop 42 = .ok (.invokevirtual 65, 3) := by decide +kernel
theorem dX7_stop_45 : decode cX7_stop 45 = .ok (.ireturn, 1) := by decide +kernel
set_option maxRecDepth 20000 in
theorem ggX7_train_X7_in : GoodIn wsX7_train wsX7_in := goodIn_r _ [6] (by decide +kernel) (by decide +kernel)
set_option maxRecDepth 20000 in
theorem gX7_train_X7_in : GoodIn wsX7_train (va_wsS RX7 50 yX7_in wsX7_in) := goodIn_app (goodIn_of _ (by decide +kernel)) ggX7_train_X7_in
theorem dX7_train_0 : decode cX7_train 0 = .ok (.iload_n 1, 1) := by decide +kernel
theorem dX7_train_1 : decode cX7_train 1 = .ok (.iconst 0, 1) := by decide +kernel
theorem dX7_train_2 : decode cX7_train 2 = .ok (.iconst 4, 1) := by decide +kernel
theorem dX7_train_3 : decode cX7_train 3 = .ok (.invokestatic 50, 3) := by decide +kernel
theorem dX7_train_6 : decode cX7_train 6 = .ok (.ifCond .ne 6, 3) := by decide +kernel
theorem dX7_train_9 : decode cX7_train 9 = .ok (.bipush (-2), 2) := by decide +kernel
theorem dX7_train_11 : decode cX7_train 11 = .ok (.ireturn, 1) := by decide +kernel
theorem dX7_train_12 : decode cX7_train 12 = .ok (.iload_n 1, 1) := by decide +kernel
theorem dX7_train_13 : decode cX7_train 13 = .ok (.iconst 1, 1) := by decide +kernel
theorem dX7_train_14 : decode cX7_train 14 = .ok (.if_icmp .eq 8, 3) := by decide +kernel
theorem dX7_train_17 : decode cX7_train 17 = .ok (.iload_n 1, 1) := by decide +kernel
theorem dX7_train_18 : decode cX7_train 18 = .ok (.iconst 4, 1) := by decide +kernel
theorem dX7_train_19 : decode cX7_train 19 = .ok (.if_icmp .ne 7, 3) := by decide +kernel
theorem dX7_train_22 : decode cX7_train 22 = .ok (.iconst 0, 1) := by decide +kernel
theorem dX7_train_23 : decode cX7_train 23 = .ok (.goto 4, 3) := by decide +kernel
theorem dX7_train_26 : decode cX7_train 26 = .ok (.iconst 1, 1) := by decide +kernel
theorem dX7_train_27 : decode cX7_train 27 = .ok (.istore_n 3, 1) := by decide +kernel
theorem dX7_train_28 : decode cX7_train 28 = .ok (.iload_n 1, 1) := by decide +kernel
theorem dX7_train_29 : decode cX7_train 29 = .ok (.iconst 2, 1) := by decide +kernel
theorem dX7_train_30 : decode cX7_train 30 = .ok (.if_icmp .ge 8, 3) := by decide +kernel
theorem dX7_train_33 : decode cX7_train 33 = .ok (.bipush 20, 2) := by decide +kernel
theorem dX7_train_35 : decode cX7_train 35 = .ok (.goto 16, 3) := by decide +kernel
theorem dX7_train_38 : decode cX7_train 38 = .ok (.iload_n 1, 1) := by decide +kernel
theorem dX7_train_39 : decode cX7_train 39 = .ok (.iconst 4, 1) := by decide +kernel
theorem dX7_train_40 : decode cX7_train 40 = .ok (.if_icmp .ge 9, 3) := by decide +kernel
theorem dX7_train_43 : decode cX7_train 43 = .ok (.sipush 400, 3) := by decide +kernel
theorem dX7_train_46 : decode cX7_train 46 = .ok (.goto 5, 3) := by decide +kernel
theorem dX7_train_49 : decode cX7_train 49 = .ok (.bipush 10, 2) := by decide +kernel
theorem dX7_train_51 : decode cX7_train 51 = .ok (.istore 4, 2) := by decide +kernel
theorem dX7_train_53 : decode cX7_train 53 = .ok (.iload_n 2, 1) := by decide +kernel
theorem dX7_train_54 : decode cX7_train 54 = .ok (.iload_n 3, 1) := by decide +kernel
theorem dX7_train_55 : decode cX7_train 55 = .ok (.iload 4, 2) := by decide +kernel
theorem dX7_train_57 : decode cX7_train 57 = .ok (.invokestatic 50, 3) := by decide +kernel
theorem dX7_train_60 : decode cX7_train 60 = .ok (.ifCond .ne 6, 3) := by decide +kernel
theorem dX7_train_63 : decode cX7_train 63 = .ok (.bipush (-2), 2) := by decide +kernel
theorem dX7_train_65 : decode cX7_train 65 = .ok (.ireturn, 1) := by decide +kernel
theorem dX7_train_66 : decode cX7_train 66 = .ok (.aload_n 0, 1) := by decide +kernel
theorem dX7_train_67 : decode cX7_train 67 = .ok (.getfield 24, 3) := by decide +kernel
theorem dX7_train_70 : decode cX7_train 70 = .ok (.iload_n 1, 1) := by decide +kernel
theorem dX7_train_71 : decode cX7_train 71 = .ok (.iaload, 1) := by decide +kernel
theorem dX7_train_72 : decode cX7_train 72 = .ok (.istore 5, 2) := by decide +kernel
theorem dX7_train_74 : decode cX7_train 74 = .ok (.aload_n 0, 1) := by decide +kernel
theorem dX7_train_75 : decode cX7_train 75 = .ok (.getfield 24, 3) := by decide +kernel
theorem dX7_train_78 : decode cX7_train 78 = .ok (.iload_n 1, 1) := by decide +kernel
theorem dX7_train_79 : decode cX7_train 79 = .ok (.iload_n 2, 1) := by decide +kernel
theorem dX7_train_80 : decode cX7_train 80 = .ok (.iastore, 1) := by decide +kernel
theorem dX7_train_81 : decode cX7_train 81 = .ok (.aload_n 0, 1) := by decide +kernel
theorem dX7_train_82 : decode cX7_train 82 = .ok (.iconst 0, 1) := by decide +kernel
theorem dX7_train_83 : decode cX7_train 83 = .ok (.putfield 57, 3) := by decide +kernel
theorem dX7_train_86 : decode cX7_train 86 = .ok (.iload 5, 2) := by decide +kernel
theorem dX7_train_88 : decode cX7_train 88 = .ok (.ireturn, 1) := by decide +kernel
set_option maxRecDepth 20000 in
theorem ggX7_has_X7_in : GoodIn wsX7_has wsX7_in := goodIn_r _ [5] (by decide +kernel) (by decide +kernel)
set_option maxRecDepth 20000 in
theorem gX7_has_X7_in : GoodIn wsX7_has (va_wsS RX7 50 yX7_in wsX7_in) := goodIn_app (goodIn_of _ (by decide +kernel)) ggX7_has_X7_in
theorem dX7_has_0 : decode cX7_has 0 = .ok (.iload_n 1, 1) := by decide +kernel
theorem dX7_has_1 : decode cX7_has 1 = .ok (.iconst 0, 1) := by decide +kernel
theorem dX7_has_2 : decode cX7_has 2 = .ok (.iconst 4, 1) := by decide +kernel
theorem dX7_has_3 : decode cX7_has 3 = .ok (.invokestatic 50, 3) := by decide +kernel
theorem dX7_has_6 : decode cX7_has 6 = .ok (.ifCond .eq 12, 3) := by decide +kernel
theorem dX7_has_9 : decode cX7_has 9 = .ok (.aload_n 0, 1) := by decide +kernel
theorem dX7_has_10 : decode cX7_has 10 = .ok (.getfield 24, 3) := by decide +kernel
theorem dX7_has_13 : decode cX7_has 13 = .ok (.iload_n 1, 1) := by decide +kernel
theorem dX7_has_14 : decode cX7_has 14 = .ok (.iaload, 1) := by decide +kernel
theorem dX7_has_15 : decode cX7_has 15 = .ok (.goto 5, 3) := by decide +kernel
theorem dX7_has_18 : decode cX7_has 18 = .ok (.bipush (-2), 2) := by decide +kernel
theorem dX7_has_20 : decode cX7_has 20 = .ok (.ireturn, 1) := by decide +kernel
theorem dX7_endOf_0 : decode cX7_endOf 0 = .ok (.iload_n 1, 1) := by decide +kernel
theorem dX7_endOf_1 : decode cX7_endOf 1 = .ok (.istore_n 2, 1) := by decide +kernel
theorem dX7_endOf_2 : decode cX7_endOf 2 = .ok (.iconst 0, 1) := by decide +kernel
theorem dX7_endOf_3 : decode cX7_endOf 3 = .ok (.istore_n 3, 1) := by decide +kernel
theorem dX7_endOf_4 : decode cX7_endOf 4 = .ok (.iload_n 2, 1) := by decide +kernel
theorem dX7_endOf_5 : decode cX7_endOf 5 = .ok (.ifCond .lt 26, 3) := by decide +kernel
theorem dX7_endOf_8 : decode cX7_endOf 8 = .ok (.iinc 3 1, 3) := by decide +kernel
theorem dX7_endOf_11 : decode cX7_endOf 11 = .ok (.iload_n 2, 1) := by decide +kernel
theorem dX7_endOf_12 : decode cX7_endOf 12 = .ok (.aload_n 0, 1) := by decide +kernel
theorem dX7_endOf_13 : decode cX7_endOf 13 = .ok (.getfield 20, 3) := by decide +kernel
theorem dX7_endOf_16 : decode cX7_endOf 16 = .ok (.iload_n 3, 1) := by decide +kernel
theorem dX7_endOf_17 : decode cX7_endOf 17 = .ok (.baload, 1) := by decide +kernel
theorem dX7_endOf_18 : decode cX7_endOf 18 = .ok (.ifCond .eq 7, 3) := by decide +kernel
theorem dX7_endOf_21 : decode cX7_endOf 21 = .ok (.iconst 1, 1) := by decide +kernel
theorem dX7_endOf_22 : decode cX7_endOf 22 = .ok (.goto 4, 3) := by decide +kernel
theorem dX7_endOf_25 : decode cX7_endOf 25 = .ok (.iconst 0, 1) := by decide +kernel
theorem dX7_endOf_26 : decode cX7_endOf 26 = .ok (.isub, 1) := by decide +kernel
theorem dX7_endOf_27 : decode cX7_endOf 27 = .ok (.istore_n 2, 1) := by decide +kernel
theorem dX7_endOf_28 : decode cX7_endOf 28 = .ok (.goto (-24), 3) := by decide +kernel
theorem dX7_endOf_31 : decode cX7_endOf 31 = .ok (.iload_n 3, 1) := by decide +kernel
theorem dX7_endOf_32 : decode cX7_endOf 32 = .ok (.ireturn, 1) := by decide +kernel
set_option maxRecDepth 20000 in
theorem ggX7_firstOf_X7_endOf : GoodIn wsX7_firstOf wsX7_endOf := goodIn_r _ [5, 6, 7, 8, 9, 10, 11, 12, 13, 14, 15, 16, 17, 18, 19, 20] (by decide +kernel) (by decide +kernel)
set_option maxRecDepth 20000 in
theorem gX7_firstOf_X7_endOf : GoodIn wsX7_firstOf (wsV RX7 69 RX7 yX7_endOf wsX7_endOf) := goodIn_app (goodIn_of _ (by decide +kernel)) ggX7_firstOf_X7_endOf
theorem dX7_firstOf_0 : decode cX7_firstOf 0 = .ok (.iload_n 1, 1) := by decide +kernel
theorem dX7_firstOf_1 : decode cX7_firstOf 1 = .ok (.ifCond .ne 7, 3) := by decide +kernel
theorem dX7_firstOf_4 : decode cX7_firstOf 4 = .ok (.iconst 0, 1) := by decide +kernel
theorem dX7_firstOf_5 : decode cX7_firstOf 5 = .ok (.goto 10, 3) := by decide +kernel
theorem dX7_firstOf_8 : decode cX7_firstOf 8 = .ok (.aload_n 0, 1) := by decide +kernel
theorem dX7_firstOf_9 : decode cX7_firstOf 9 = .ok (.iload_n 1, 1) := by decide +kernel
theorem dX7_firstOf_10 : decode cX7_firstOf 10 = .ok (.iconst 1, 1) := by decide +kernel
theorem dX7_firstOf_11 : decode cX7_firstOf 11 = .ok (.isub, 1) := by decide +kernel
theorem dX7_firstOf_12 : decode cX7_firstOf 12 = .ok (.invokevirtual 69, 3) := by decide +kernel
theorem dX7_firstOf_15 : decode cX7_firstOf 15 = .ok (.ireturn, 1) := by decide +kernel
set_option maxRecDepth 20000 in
theorem ggX7_isLeg_X7_legs : GoodIn wsX7_isLeg wsX7_legs := goodIn_r _ [5, 6, 7, 11, 12, 13, 14, 15, 16, 17, 18, 19, 20, 21, 22, 23, 24] (by decide +kernel) (by decide +kernel)
set_option maxRecDepth 20000 in
theorem gX7_isLeg_X7_legs : GoodIn wsX7_isLeg (wsV RX7 65 RX7 yX7_legs wsX7_legs) := goodIn_app (goodIn_of _ (by decide +kernel)) ggX7_isLeg_X7_legs
set_option maxRecDepth 20000 in
theorem ggX7_isLeg_X7_in : GoodIn wsX7_isLeg wsX7_in := goodIn_r _ [10] (by decide +kernel) (by decide +kernel)
set_option maxRecDepth 20000 in
theorem gX7_isLeg_X7_in : GoodIn wsX7_isLeg (va_wsS RX7 50 yX7_in wsX7_in) := goodIn_app (goodIn_of _ (by decide +kernel)) ggX7_isLeg_X7_in
theorem dX7_isLeg_0 : decode cX7_isLeg 0 = .ok (.iload_n 1, 1) := by decide +kernel
theorem dX7_isLeg_1 : decode cX7_isLeg 1 = .ok (.iconst 0, 1) := by decide +kernel
theorem dX7_isLeg_2 : decode cX7_isLeg 2 = .ok (.aload_n 0, 1) := by decide +kernel
theorem dX7_isLeg_3 : decode cX7_isLeg 3 = .ok (.invokevirtual 65, 3) := by decide +kernel
theorem dX7_isLeg_6 : decode cX7_isLeg 6 = .ok (.iconst 1, 1) := by decide +kernel
theorem dX7_isLeg_7 : decode cX7_isLeg 7 = .ok (.isub, 1) := by decide +kernel
theorem dX7_isLeg_8 : decode cX7_isLeg 8 = .ok (.invokestatic 50, 3) := by decide +kernel
theorem dX7_isLeg_11 : decode cX7_isLeg 11 = .ok (.ireturn, 1) := by decide +kernel
set_option maxRecDepth 20000 in
theorem ggX7_leg_X7_isLeg : GoodIn wsX7_leg wsX7_isLeg := goodIn_r _ [5, 6, 7, 8, 4, 9, 10, 11, 12, 13, 14, 23, 24, 25, 26, 27, 28, 29, 30, 31, 32, 33, 34, 35, 36] (by decide +kernel) (by decide +kernel)
set_option maxRecDepth 20000 in
theorem gX7_leg_X7_isLeg : GoodIn wsX7_leg (wsV RX7 73 RX7 yX7_isLeg wsX7_isLeg) := goodIn_app (goodIn_of _ (by decide +kernel)) ggX7_leg_X7_isLeg
set_option maxRecDepth 20000 in
theorem ggX7_leg_X7_endOf : GoodIn wsX7_leg wsX7_endOf := goodIn_r _ [18, 11, 23, 24, 25, 26, 27, 28, 29, 30, 31, 32, 33, 34, 35, 36] (by decide +kernel) (by decide +kernel)
set_option maxRecDepth 20000 in
theorem gX7_leg_X7_endOf : GoodIn wsX7_leg (wsV RX7 69 RX7 yX7_endOf wsX7_endOf) := goodIn_app (goodIn_of _ (by decide +kernel)) ggX7_leg_X7_endOf
set_option maxRecDepth 20000 in
theorem ggX7_leg_X7_firstOf : GoodIn wsX7_leg wsX7_firstOf := goodIn_r _ [22, 15, 16, 17, 4, 18, 11, 23, 24, 25, 26, 27, 28, 29, 30, 31, 32, 33, 34, 35, 36] (by decide +kernel) (by decide +kernel)
set_option maxRecDepth 20000 in
theorem gX7_leg_X7_firstOf : GoodIn wsX7_leg (wsV RX7 76 RX7 yX7_firstOf wsX7_firstOf) := goodIn_app (goodIn_of _ (by decide +kernel)) ggX7_leg_X7_firstOf
theorem dX7_leg_0 : decode cX7_leg 0 = .ok (.aload_n 0, 1) := by decide +kernel
theorem dX7_leg_1 : decode cX7_leg 1 = .ok (.iload_n 1, 1) := by decide +kernel
theorem dX7_leg_2 : decode cX7_leg 2 = .ok (.invokevirtual 73, 3) := by decide +kernel
theorem dX7_leg_5 : decode cX7_leg 5 = .ok (.ifCond .ne 5, 3) := by decide +kernel
theorem dX7_leg_8 : decode cX7_leg 8 = .ok (.iconst (-1), 1) := by decide +kernel
theorem dX7_leg_9 : decode cX7_leg 9 = .ok (.ireturn, 1) := by decide +kernel
theorem dX7_leg_10 : decode cX7_leg 10 = .ok (.iload_n 2, 1) := by decide +kernel
theorem dX7_leg_11 : decode cX7_leg 11 = .ok (.ifCond .eq 11, 3) := by decide +kernel
theorem dX7_leg_14 : decode cX7_leg 14 = .ok (.aload_n 0, 1) := by decide +kernel
theorem dX7_leg_15 : decode cX7_leg 15 = .ok (.iload_n 1, 1) := by decide +kernel
theorem dX7_leg_16 : decode cX7_leg 16 = .ok (.invokevirtual 69, 3) := by decide +kernel
theorem dX7_leg_19 : decode cX7_leg 19 = .ok (.goto 8, 3) := by decide +kernel
theorem dX7_leg_22 : decode cX7_leg 22 = .ok (.aload_n 0, 1) := by decide +kernel
theorem dX7_leg_23 : decode cX7_leg 23 = .ok (.iload_n 1, 1) := by decide +kernel
theorem dX7_leg_24 : decode cX7_leg 24 = .ok (.invokevirtual 76, 3) := by decide +kernel
theorem dX7_leg_27 : decode cX7_leg 27 = .ok (.ireturn, 1) := by decide +kernel
theorem dX7_forceOf_0 : decode cX7_forceOf 0 = .ok (.aload_n 0, 1) := by decide +kernel
theorem dX7_forceOf_1 : decode cX7_forceOf 1 = .ok (.getfield 24, 3) := by decide +kernel
theorem dX7_forceOf_4 : decode cX7_forceOf 4 = .ok (.iconst 0, 1) := by decide +kernel
theorem dX7_forceOf_5 : decode cX7_forceOf 5 = .ok (.iaload, 1) := by decide +kernel
theorem dX7_forceOf_6 : decode cX7_forceOf 6 = .ok (.iload_n 3, 1) := by decide +kernel
theorem dX7_forceOf_7 : decode cX7_forceOf 7 = .ok (.iload_n 3, 1) := by decide +kernel
theorem dX7_forceOf_8 : decode cX7_forceOf 8 = .ok (.imul, 1) := by decide +kernel
theorem dX7_forceOf_9 : decode cX7_forceOf 9 = .ok (.iload_n 2, 1) := by decide +kernel
theorem dX7_forceOf_10 : decode cX7_forceOf 10 = .ok (.iload_n 2, 1) := by decide +kernel
theorem dX7_forceOf_11 : decode cX7_forceOf 11 = .ok (.imul, 1) := by decide +kernel
theorem dX7_forceOf_12 : decode cX7_forceOf 12 = .ok (.isub, 1) := by decide +kernel
theorem dX7_forceOf_13 : decode cX7_forceOf 13 = .ok (.imul, 1) := by decide +kernel
theorem dX7_forceOf_14 : decode cX7_forceOf 14 = .ok (.aload_n 0, 1) := by decide +kernel
theorem dX7_forceOf_15 : decode cX7_forceOf 15 = .ok (.getfield 24, 3) := by decide +kernel
theorem dX7_forceOf_18 : decode cX7_forceOf 18 = .ok (.iconst 0, 1) := by decide +kernel
theorem dX7_forceOf_19 : decode cX7_forceOf 19 = .ok (.iaload, 1) := by decide +kernel
theorem dX7_forceOf_20 : decode cX7_forceOf 20 = .ok (.aload_n 0, 1) := by decide +kernel
theorem dX7_forceOf_21 : decode cX7_forceOf 21 = .ok (.getfield 13, 3) := by decide +kernel
theorem dX7_forceOf_24 : decode cX7_forceOf 24 = .ok (.iload_n 1, 1) := by decide +kernel
theorem dX7_forceOf_25 : decode cX7_forceOf 25 = .ok (.iaload, 1) := by decide +kernel
theorem dX7_forceOf_26 : decode cX7_forceOf 26 = .ok (.imul, 1) := by decide +kernel
theorem dX7_forceOf_27 : decode cX7_forceOf 27 = .ok (.iadd, 1) := by decide +kernel
theorem dX7_forceOf_28 : decode cX7_forceOf 28 = .ok (.aload_n 0, 1) := by decide +kernel
theorem dX7_forceOf_29 : decode cX7_forceOf 29 = .ok (.getfield 24, 3) := by decide +kernel
theorem dX7_forceOf_32 : decode cX7_forceOf 32 = .ok (.iconst 1, 1) := by decide +kernel
theorem dX7_forceOf_33 : decode cX7_forceOf 33 = .ok (.iaload, 1) := by decide +kernel
theorem dX7_forceOf_34 : decode cX7_forceOf 34 = .ok (.iload_n 2, 1) := by decide +kernel
theorem dX7_forceOf_35 : decode cX7_forceOf 35 = .ok (.iload_n 3, 1) := by decide +kernel
theorem dX7_forceOf_36 : decode cX7_forceOf 36 = .ok (.iadd, 1) := by decide +kernel
theorem dX7_forceOf_37 : decode cX7_forceOf 37 = .ok (.imul, 1) := by decide +kernel
theorem dX7_forceOf_38 : decode cX7_forceOf 38 = .ok (.iadd, 1) := by decide +kernel
theorem dX7_forceOf_39 : decode cX7_forceOf 39 = .ok (.ireturn, 1) := by decide +kernel
set_option maxRecDepth 20000 in
theorem ggX7_faultOf_X7_forceOf : GoodIn wsX7_faultOf wsX7_forceOf := goodIn_r _ [7, 2, 8, 9, 10, 11, 12, 13, 14, 15, 16, 17, 18, 19, 20, 21, 22] (by decide +kernel) (by decide +kernel)
set_option maxRecDepth 20000 in
theorem gX7_faultOf_X7_forceOf : GoodIn wsX7_faultOf (wsV RX7 79 RX7 yX7_forceOf wsX7_forceOf) := goodIn_app (goodIn_of _ (by decide +kernel)) ggX7_faultOf_X7_forceOf
theorem dX7_faultOf_0 : decode cX7_faultOf 0 = .ok (.iload_n 2, 1) := by decide +kernel
theorem dX7_faultOf_1 : decode cX7_faultOf 1 = .ok (.aload_n 0, 1) := by decide +kernel
theorem dX7_faultOf_2 : decode cX7_faultOf 2 = .ok (.getfield 17, 3) := by decide +kernel
theorem dX7_faultOf_5 : decode cX7_faultOf 5 = .ok (.iload_n 1, 1) := by decide +kernel
theorem dX7_faultOf_6 : decode cX7_faultOf 6 = .ok (.iaload, 1) := by decide +kernel
theorem dX7_faultOf_7 : decode cX7_faultOf 7 = .ok (.if_icmp .gt 13, 3) := by decide +kernel
theorem dX7_faultOf_10 : decode cX7_faultOf 10 = .ok (.iload_n 3, 1) := by decide +kernel
theorem dX7_faultOf_11 : decode cX7_faultOf 11 = .ok (.aload_n 0, 1) := by decide +kernel
theorem dX7_faultOf_12 : decode cX7_faultOf 12 = .ok (.getfield 17, 3) := by decide +kernel
theorem dX7_faultOf_15 : decode cX7_faultOf 15 = .ok (.iload_n 1, 1) := by decide +kernel
theorem dX7_faultOf_16 : decode cX7_faultOf 16 = .ok (.iaload, 1) := by decide +kernel
theorem dX7_faultOf_17 : decode cX7_faultOf 17 = .ok (.if_icmp .le 5, 3) := by decide +kernel
theorem dX7_faultOf_20 : decode cX7_faultOf 20 = .ok (.iconst 1, 1) := by decide +kernel
theorem dX7_faultOf_21 : decode cX7_faultOf 21 = .ok (.ireturn, 1) := by decide +kernel
theorem dX7_faultOf_22 : decode cX7_faultOf 22 = .ok (.iload_n 2, 1) := by decide +kernel
theorem dX7_faultOf_23 : decode cX7_faultOf 23 = .ok (.ifCond .ne 9, 3) := by decide +kernel
theorem dX7_faultOf_26 : decode cX7_faultOf 26 = .ok (.iload_n 3, 1) := by decide +kernel
theorem dX7_faultOf_27 : decode cX7_faultOf 27 = .ok (.ifCond .ne 5, 3) := by decide +kernel
theorem dX7_faultOf_30 : decode cX7_faultOf 30 = .ok (.iconst 2, 1) := by decide +kernel
theorem dX7_faultOf_31 : decode cX7_faultOf 31 = .ok (.ireturn, 1) := by decide +kernel
theorem dX7_faultOf_32 : decode cX7_faultOf 32 = .ok (.iload_n 2, 1) := by decide +kernel
theorem dX7_faultOf_33 : decode cX7_faultOf 33 = .ok (.iload_n 3, 1) := by decide +kernel
theorem dX7_faultOf_34 : decode cX7_faultOf 34 = .ok (.isub, 1) := by decide +kernel
theorem dX7_faultOf_35 : decode cX7_faultOf 35 = .ok (.iconst 2, 1) := by decide +kernel
theorem dX7_faultOf_36 : decode cX7_faultOf 36 = .ok (.if_icmp .gt 10, 3) := by decide +kernel
theorem dX7_faultOf_39 : decode cX7_faultOf 39 = .ok (.iload_n 3, 1) := by decide +kernel
theorem dX7_faultOf_40 : decode cX7_faultOf 40 = .ok (.iload_n 2, 1) := by decide +kernel
theorem dX7_faultOf_41 : decode cX7_faultOf 41 = .ok (.isub, 1) := by decide +kernel
theorem dX7_faultOf_42 : decode cX7_faultOf 42 = .ok (.iconst 2, 1) := by decide +kernel
theorem dX7_faultOf_43 : decode cX7_faultOf 43 = .ok (.if_icmp .le 5, 3) := by decide +kernel
theorem dX7_faultOf_46 : decode cX7_faultOf 46 = .ok (.iconst 3, 1) := by decide +kernel
theorem dX7_faultOf_47 : decode cX7_faultOf 47 = .ok (.ireturn, 1) := by decide +kernel
theorem dX7_faultOf_48 : decode cX7_faultOf 48 = .ok (.aload_n 0, 1) := by decide +kernel
theorem dX7_faultOf_49 : decode cX7_faultOf 49 = .ok (.iload_n 1, 1) := by decide +kernel
theorem dX7_faultOf_50 : decode cX7_faultOf 50 = .ok (.iload_n 2, 1) := by decide +kernel
theorem dX7_faultOf_51 : decode cX7_faultOf 51 = .ok (.iload_n 3, 1) := by decide +kernel
theorem dX7_faultOf_52 : decode cX7_faultOf 52 = .ok (.invokevirtual 79, 3) := by decide +kernel
theorem dX7_faultOf_55 : decode cX7_faultOf 55 = .ok (.istore 4, 2) := by decide +kernel
theorem dX7_faultOf_57 : decode cX7_faultOf 57 = .ok (.iload 4, 2) := by decide +kernel
theorem dX7_faultOf_59 : decode cX7_faultOf 59 = .ok (.aload_n 0, 1) := by decide +kernel
theorem dX7_faultOf_60 : decode cX7_faultOf 60 = .ok (.getfield 24, 3) := by decide +kernel
theorem dX7_faultOf_63 : decode cX7_faultOf 63 = .ok (.iconst 2, 1) := by decide +kernel
theorem dX7_faultOf_64 : decode cX7_faultOf 64 = .ok (.iaload, 1) := by decide +kernel
theorem dX7_faultOf_65 : decode cX7_faultOf 65 = .ok (.if_icmp .le 7, 3) := by decide +kernel
theorem dX7_faultOf_68 : decode cX7_faultOf 68 = .ok (.iconst 4, 1) := by decide +kernel
theorem dX7_faultOf_69 : decode cX7_faultOf 69 = .ok (.goto 20, 3) := by decide +kernel
theorem dX7_faultOf_72 : decode cX7_faultOf 72 = .ok (.iload 4, 2) := by decide +kernel
theorem dX7_faultOf_74 : decode cX7_faultOf 74 = .ok (.aload_n 0, 1) := by decide +kernel
theorem dX7_faultOf_75 : decode cX7_faultOf 75 = .ok (.getfield 24, 3) := by decide +kernel
theorem dX7_faultOf_78 : decode cX7_faultOf 78 = .ok (.iconst 3, 1) := by decide +kernel
theorem dX7_faultOf_79 : decode cX7_faultOf 79 = .ok (.iaload, 1) := by decide +kernel
theorem dX7_faultOf_80 : decode cX7_faultOf 80 = .ok (.ineg, 1) := by decide +kernel
theorem dX7_faultOf_81 : decode cX7_faultOf 81 = .ok (.if_icmp .ge 7, 3) := by decide +kernel
theorem dX7_faultOf_84 : decode cX7_faultOf 84 = .ok (.iconst 5, 1) := by decide +kernel
theorem dX7_faultOf_85 : decode cX7_faultOf 85 = .ok (.goto 4, 3) := by decide +kernel
theorem dX7_faultOf_88 : decode cX7_faultOf 88 = .ok (.iconst 0, 1) := by decide +kernel
theorem dX7_faultOf_89 : decode cX7_faultOf 89 = .ok (.ireturn, 1) := by decide +kernel
set_option maxRecDepth 20000 in
theorem ggX7_powerOf_X7_forceOf : GoodIn wsX7_powerOf wsX7_forceOf := goodIn_r _ [6, 1, 7, 8, 9, 10, 11, 12, 13, 14, 15, 16, 17, 18, 19, 20, 21] (by decide +kernel) (by decide +kernel)
set_option maxRecDepth 20000 in
theorem gX7_powerOf_X7_forceOf : GoodIn wsX7_powerOf (wsV RX7 79 RX7 yX7_forceOf wsX7_forceOf) := goodIn_app (goodIn_of _ (by decide +kernel)) ggX7_powerOf_X7_forceOf
theorem dX7_powerOf_0 : decode cX7_powerOf 0 = .ok (.aload_n 0, 1) := by decide +kernel
theorem dX7_powerOf_1 : decode cX7_powerOf 1 = .ok (.iload_n 1, 1) := by decide +kernel
theorem dX7_powerOf_2 : decode cX7_powerOf 2 = .ok (.iload_n 2, 1) := by decide +kernel
theorem dX7_powerOf_3 : decode cX7_powerOf 3 = .ok (.iload_n 3, 1) := by decide +kernel
theorem dX7_powerOf_4 : decode cX7_powerOf 4 = .ok (.invokevirtual 79, 3) := by decide +kernel
theorem dX7_powerOf_7 : decode cX7_powerOf 7 = .ok (.istore 4, 2) := by decide +kernel
theorem dX7_powerOf_9 : decode cX7_powerOf 9 = .ok (.iload 4, 2) := by decide +kernel
theorem dX7_powerOf_11 : decode cX7_powerOf 11 = .ok (.ifCond .le 8, 3) := by decide +kernel
theorem dX7_powerOf_14 : decode cX7_powerOf 14 = .ok (.iload 4, 2) := by decide +kernel
theorem dX7_powerOf_16 : decode cX7_powerOf 16 = .ok (.goto 17, 3) := by decide +kernel
theorem dX7_powerOf_19 : decode cX7_powerOf 19 = .ok (.aload_n 0, 1) := by decide +kernel
theorem dX7_powerOf_20 : decode cX7_powerOf 20 = .ok (.getfield 24, 3) := by decide +kernel
theorem dX7_powerOf_23 : decode cX7_powerOf 23 = .ok (.iconst 4, 1) := by decide +kernel
theorem dX7_powerOf_24 : decode cX7_powerOf 24 = .ok (.iaload, 1) := by decide +kernel
theorem dX7_powerOf_25 : decode cX7_powerOf 25 = .ok (.iload 4, 2) := by decide +kernel
theorem dX7_powerOf_27 : decode cX7_powerOf 27 = .ok (.ineg, 1) := by decide +kernel
theorem dX7_powerOf_28 : decode cX7_powerOf 28 = .ok (.imul, 1) := by decide +kernel
theorem dX7_powerOf_29 : decode cX7_powerOf 29 = .ok (.bipush 10, 2) := by decide +kernel
theorem dX7_powerOf_31 : decode cX7_powerOf 31 = .ok (.idiv, 1) := by decide +kernel
theorem dX7_powerOf_32 : decode cX7_powerOf 32 = .ok (.ineg, 1) := by decide +kernel
theorem dX7_powerOf_33 : decode cX7_powerOf 33 = .ok (.ireturn, 1) := by decide +kernel
set_option maxRecDepth 20000 in
theorem ggX7_force_X7_isCell : GoodIn wsX7_force wsX7_isCell := goodIn_r _ [5, 6, 7, 8, 4, 9, 19, 20, 21, 22, 23, 24, 25, 26, 27, 28, 29, 30, 31, 32] (by decide +kernel) (by decide +kernel)
set_option maxRecDepth 20000 in
theorem gX7_force_X7_isCell : GoodIn wsX7_force (wsV RX7 61 RX7 yX7_isCell wsX7_isCell) := goodIn_app (goodIn_of _ (by decide +kernel)) ggX7_force_X7_isCell
set_option maxRecDepth 20000 in
theorem ggX7_force_X7_isSpeed : GoodIn wsX7_force wsX7_isSpeed := goodIn_r _ [12, 7, 8, 4, 9] (by decide +kernel) (by decide +kernel)
set_option maxRecDepth 20000 in
theorem gX7_force_X7_isSpeed : GoodIn wsX7_force (va_wsS RX7 83 yX7_isSpeed wsX7_isSpeed) := goodIn_app (goodIn_of _ (by decide +kernel)) ggX7_force_X7_isSpeed
set_option maxRecDepth 20000 in
theorem ggX7_force_X7_forceOf : GoodIn wsX7_force wsX7_forceOf := goodIn_r _ [16, 17, 18, 19, 20, 21, 22, 23, 24, 25, 26, 27, 28, 29, 30, 31, 32] (by decide +kernel) (by decide +kernel)
set_option maxRecDepth 20000 in
theorem gX7_force_X7_forceOf : GoodIn wsX7_force (wsV RX7 79 RX7 yX7_forceOf wsX7_forceOf) := goodIn_app (goodIn_of _ (by decide +kernel)) ggX7_force_X7_forceOf
theorem dX7_force_0 : decode cX7_force 0 = .ok (.aload_n 0, 1) := by decide +kernel
theorem dX7_force_1 : decode cX7_force 1 = .ok (.iload_n 1, 1) := by decide +kernel
theorem dX7_force_2 : decode cX7_force 2 = .ok (.invokevirtual 61, 3) := by decide +kernel
theorem dX7_force_5 : decode cX7_force 5 = .ok (.ifCond .ne 5, 3) := by decide +kernel
theorem dX7_force_8 : decode cX7_force 8 = .ok (.iconst (-1), 1) := by decide +kernel
theorem dX7_force_9 : decode cX7_force 9 = .ok (.ireturn, 1) := by decide +kernel
theorem dX7_force_10 : decode cX7_force 10 = .ok (.iload_n 2, 1) := by decide +kernel
theorem dX7_force_11 : decode cX7_force 11 = .ok (.invokestatic 83, 3) := by decide +kernel
theorem dX7_force_14 : decode cX7_force 14 = .ok (.ifCond .eq 20, 3) := by decide +kernel
theorem dX7_force_17 : decode cX7_force 17 = .ok (.iload_n 3, 1) := by decide +kernel
theorem dX7_force_18 : decode cX7_force 18 = .ok (.invokestatic 83, 3) := by decide +kernel
theorem dX7_force_21 : decode cX7_force 21 = .ok (.ifCond .eq 13, 3) := by decide +kernel
theorem dX7_force_24 : decode cX7_force 24 = .ok (.aload_n 0, 1) := by decide +kernel
theorem dX7_force_25 : decode cX7_force 25 = .ok (.iload_n 1, 1) := by decide +kernel
theorem dX7_force_26 : decode cX7_force 26 = .ok (.iload_n 2, 1) := by decide +kernel
theorem dX7_force_27 : decode cX7_force 27 = .ok (.iload_n 3, 1) := by decide +kernel
theorem dX7_force_28 : decode cX7_force 28 = .ok (.invokevirtual 79, 3) := by decide +kernel
theorem dX7_force_31 : decode cX7_force 31 = .ok (.goto 5, 3) := by decide +kernel
theorem dX7_force_34 : decode cX7_force 34 = .ok (.bipush (-2), 2) := by decide +kernel
theorem dX7_force_36 : decode cX7_force 36 = .ok (.ireturn, 1) := by decide +kernel
set_option maxRecDepth 20000 in
theorem ggX7_fault_X7_isCell : GoodIn wsX7_fault wsX7_isCell := goodIn_r _ [5, 6, 7, 8, 4, 9, 24, 25, 26, 27, 28, 29, 30, 31, 32, 33, 34, 35, 36, 37] (by decide +kernel) (by decide +kernel)
set_option maxRecDepth 20000 in
theorem gX7_fault_X7_isCell : GoodIn wsX7_fault (wsV RX7 61 RX7 yX7_isCell wsX7_isCell) := goodIn_app (goodIn_of _ (by decide +kernel)) ggX7_fault_X7_isCell
set_option maxRecDepth 20000 in
theorem ggX7_fault_X7_isSpeed : GoodIn wsX7_fault wsX7_isSpeed := goodIn_r _ [12, 7, 8, 4, 9] (by decide +kernel) (by decide +kernel)
set_option maxRecDepth 20000 in
theorem gX7_fault_X7_isSpeed : GoodIn wsX7_fault (va_wsS RX7 83 yX7_isSpeed wsX7_isSpeed) := goodIn_app (goodIn_of _ (by decide +kernel)) ggX7_fault_X7_isSpeed
set_option maxRecDepth 20000 in
theorem ggX7_fault_X7_faultOf : GoodIn wsX7_fault wsX7_faultOf := goodIn_r _ [16, 17, 18, 19, 20, 21, 4, 22, 23, 24, 25, 26, 27, 28, 29, 30, 31, 32, 33, 34, 35, 36, 37] (by decide +kernel) (by decide +kernel)
set_option maxRecDepth 20000 in
theorem gX7_fault_X7_faultOf : GoodIn wsX7_fault (wsV RX7 86 RX7 yX7_faultOf wsX7_faultOf) := goodIn_app (goodIn_of _ (by decide +kernel)) ggX7_fault_X7_faultOf
theorem dX7_fault_0 : decode cX7_fault 0 = .ok (.aload_n 0, 1) := by decide +kernel
theorem dX7_fault_1 : decode cX7_fault 1 = .ok (.iload_n 1, 1) := by decide +kernel
theorem dX7_fault_2 : decode cX7_fault 2 = .ok (.invokevirtual 61, 3) := by decide +kernel
theorem dX7_fault_5 : decode cX7_fault 5 = .ok (.ifCond .ne 5, 3) := by decide +kernel
theorem dX7_fault_8 : decode cX7_fault 8 = .ok (.iconst (-1), 1) := by decide +kernel
theorem dX7_fault_9 : decode cX7_fault 9 = .ok (.ireturn, 1) := by decide +kernel
theorem dX7_fault_10 : decode cX7_fault 10 = .ok (.iload_n 2, 1) := by decide +kernel
theorem dX7_fault_11 : decode cX7_fault 11 = .ok (.invokestatic 83, 3) := by decide +kernel
theorem dX7_fault_14 : decode cX7_fault 14 = .ok (.ifCond .eq 20, 3) := by decide +kernel
theorem dX7_fault_17 : decode cX7_fault 17 = .ok (.iload_n 3, 1) := by decide +kernel
theorem dX7_fault_18 : decode cX7_fault 18 = .ok (.invokestatic 83, 3) := by decide +kernel
theorem dX7_fault_21 : decode cX7_fault 21 = .ok (.ifCond .eq 13, 3) := by decide +kernel
theorem dX7_fault_24 : decode cX7_fault 24 = .ok (.aload_n 0, 1) := by decide +kernel
theorem dX7_fault_25 : decode cX7_fault 25 = .ok (.iload_n 1, 1) := by decide +kernel
theorem dX7_fault_26 : decode cX7_fault 26 = .ok (.iload_n 2, 1) := by decide +kernel
theorem dX7_fault_27 : decode cX7_fault 27 = .ok (.iload_n 3, 1) := by decide +kernel
theorem dX7_fault_28 : decode cX7_fault 28 = .ok (.invokevirtual 86, 3) := by decide +kernel
theorem dX7_fault_31 : decode cX7_fault 31 = .ok (.goto 5, 3) := by decide +kernel
theorem dX7_fault_34 : decode cX7_fault 34 = .ok (.bipush (-2), 2) := by decide +kernel
theorem dX7_fault_36 : decode cX7_fault 36 = .ok (.ireturn, 1) := by decide +kernel
set_option maxRecDepth 20000 in
theorem ggX7_time_X7_fault : GoodIn wsX7_time wsX7_fault := goodIn_r _ [6, 7, 8, 9, 5, 10, 11, 12, 13, 14, 15, 16, 17, 18, 19, 20, 21, 22, 23, 24, 25, 26, 27, 28, 29, 30, 31, 32, 33, 34, 35, 36, 37, 38, 39, 40, 41, 42] (by decide +kernel) (by decide +kernel)
set_option maxRecDepth 20000 in
theorem gX7_time_X7_fault : GoodIn wsX7_time (wsV RX7 89 RX7 yX7_fault wsX7_fault) := goodIn_app (goodIn_of _ (by decide +kernel)) ggX7_time_X7_fault
theorem dX7_time_0 : decode cX7_time 0 = .ok (.aload_n 0, 1) := by decide +kernel
theorem dX7_time_1 : decode cX7_time 1 = .ok (.iload_n 1, 1) := by decide +kernel
theorem dX7_time_2 : decode cX7_time 2 = .ok (.iload_n 2, 1) := by decide +kernel
theorem dX7_time_3 : decode cX7_time 3 = .ok (.iload_n 3, 1) := by decide +kernel
theorem dX7_time_4 : decode cX7_time 4 = .ok (.invokevirtual 89, 3) := by decide +kernel
theorem dX7_time_7 : decode cX7_time 7 = .ok (.istore 4, 2) := by decide +kernel
theorem dX7_time_9 : decode cX7_time 9 = .ok (.iload 4, 2) := by decide +kernel
theorem dX7_time_11 : decode cX7_time 11 = .ok (.ifCond .ge 8, 3) := by decide +kernel
theorem dX7_time_14 : decode cX7_time 14 = .ok (.iload 4, 2) := by decide +kernel
theorem dX7_time_16 : decode cX7_time 16 = .ok (.goto 19, 3) := by decide +kernel
theorem dX7_time_19 : decode cX7_time 19 = .ok (.iload 4, 2) := by decide +kernel
theorem dX7_time_21 : decode cX7_time 21 = .ok (.ifCond .le 8, 3) := by decide +kernel
theorem dX7_time_24 : decode cX7_time 24 = .ok (.ldc 92, 2) := by decide +kernel
theorem dX7_time_26 : decode cX7_time 26 = .ok (.goto 9, 3) := by decide +kernel
theorem dX7_time_29 : decode cX7_time 29 = .ok (.bipush 60, 2) := by decide +kernel
theorem dX7_time_31 : decode cX7_time 31 = .ok (.iload_n 2, 1) := by decide +kernel
theorem dX7_time_32 : decode cX7_time 32 = .ok (.iload_n 3, 1) := by decide +kernel
theorem dX7_time_33 : decode cX7_time 33 = .ok (.iadd, 1) := by decide +kernel
theorem dX7_time_34 : decode cX7_time 34 = .ok (.idiv, 1) := by decide +kernel
theorem dX7_time_35 : decode cX7_time 35 = .ok (.ireturn, 1) := by decide +kernel
set_option maxRecDepth 20000 in
theorem ggX7_power_X7_fault : GoodIn wsX7_power wsX7_fault := goodIn_r _ [6, 7, 8, 9, 5, 10, 11, 12, 13, 14, 15, 16, 17, 18, 19, 20, 21, 22, 23, 24, 25, 26, 27, 28, 33, 34, 35, 36, 37, 38, 39, 40, 41, 42, 43, 44, 45, 46] (by decide +kernel) (by decide +kernel)
set_option maxRecDepth 20000 in
theorem gX7_power_X7_fault : GoodIn wsX7_power (wsV RX7 89 RX7 yX7_fault wsX7_fault) := goodIn_app (goodIn_of _ (by decide +kernel)) ggX7_power_X7_fault
set_option maxRecDepth 20000 in
theorem ggX7_power_X7_powerOf : GoodIn wsX7_power wsX7_powerOf := goodIn_r _ [32, 23, 24, 25, 26, 5, 27, 28, 33, 34, 35, 36, 37, 38, 39, 40, 41, 42, 43, 44, 45, 46] (by decide +kernel) (by decide +kernel)
set_option maxRecDepth 20000 in
theorem gX7_power_X7_powerOf : GoodIn wsX7_power (wsV RX7 93 RX7 yX7_powerOf wsX7_powerOf) := goodIn_app (goodIn_of _ (by decide +kernel)) ggX7_power_X7_powerOf
theorem dX7_power_0 : decode cX7_power 0 = .ok (.aload_n 0, 1) := by decide +kernel
theorem dX7_power_1 : decode cX7_power 1 = .ok (.iload_n 1, 1) := by decide +kernel
theorem dX7_power_2 : decode cX7_power 2 = .ok (.iload_n 2, 1) := by decide +kernel
theorem dX7_power_3 : decode cX7_power 3 = .ok (.iload_n 3, 1) := by decide +kernel
theorem dX7_power_4 : decode cX7_power 4 = .ok (.invokevirtual 89, 3) := by decide +kernel
theorem dX7_power_7 : decode cX7_power 7 = .ok (.istore 4, 2) := by decide +kernel
theorem dX7_power_9 : decode cX7_power 9 = .ok (.iload 4, 2) := by decide +kernel
theorem dX7_power_11 : decode cX7_power 11 = .ok (.ifCond .ge 8, 3) := by decide +kernel
theorem dX7_power_14 : decode cX7_power 14 = .ok (.iload 4, 2) := by decide +kernel
theorem dX7_power_16 : decode cX7_power 16 = .ok (.goto 20, 3) := by decide +kernel
theorem dX7_power_19 : decode cX7_power 19 = .ok (.iload 4, 2) := by decide +kernel
theorem dX7_power_21 : decode cX7_power 21 = .ok (.ifCond .le 8, 3) := by decide +kernel
theorem dX7_power_24 : decode cX7_power 24 = .ok (.ldc 92, 2) := by decide +kernel
theorem dX7_power_26 : decode cX7_power 26 = .ok (.goto 10, 3) := by decide +kernel
theorem dX7_power_29 : decode cX7_power 29 = .ok (.aload_n 0, 1) := by decide +kernel
theorem dX7_power_30 : decode cX7_power 30 = .ok (.iload_n 1, 1) := by decide +kernel
theorem dX7_power_31 : decode cX7_power 31 = .ok (.iload_n 2, 1) := by decide +kernel
theorem dX7_power_32 : decode cX7_power 32 = .ok (.iload_n 3, 1) := by decide +kernel
theorem dX7_power_33 : decode cX7_power 33 = .ok (.invokevirtual 93, 3) := by decide +kernel
theorem dX7_power_36 : decode cX7_power 36 = .ok (.ireturn, 1) := by decide +kernel
theorem dX7_place_0 : decode cX7_place 0 = .ok (.sipush 1001, 3) := by decide +kernel
theorem dX7_place_3 : decode cX7_place 3 = .ok (.bipush 7, 2) := by decide +kernel
theorem dX7_place_5 : decode cX7_place 5 = .ok (.iload_n 1, 1) := by decide +kernel
theorem dX7_place_6 : decode cX7_place 6 = .ok (.imul, 1) := by decide +kernel
theorem dX7_place_7 : decode cX7_place 7 = .ok (.iload_n 2, 1) := by decide +kernel
theorem dX7_place_8 : decode cX7_place 8 = .ok (.iadd, 1) := by decide +kernel
theorem dX7_place_9 : decode cX7_place 9 = .ok (.imul, 1) := by decide +kernel
theorem dX7_place_10 : decode cX7_place 10 = .ok (.ireturn, 1) := by decide +kernel
set_option maxRecDepth 20000 in
theorem ggX7_work_X7_firstOf : GoodIn wsX7_work wsX7_firstOf := goodIn_r _ [7, 8, 9, 10, 6, 11, 12, 36, 37, 38, 39, 40, 41, 42, 43, 44, 45, 46, 47, 48, 49] (by decide +kernel) (by decide +kernel)
set_option maxRecDepth 20000 in
theorem gX7_work_X7_firstOf : GoodIn wsX7_work (wsV RX7 76 RX7 yX7_firstOf wsX7_firstOf) := goodIn_app (goodIn_of _ (by decide +kernel)) ggX7_work_X7_firstOf
set_option maxRecDepth 20000 in
theorem ggX7_work_X7_endOf : GoodIn wsX7_work wsX7_endOf := goodIn_r _ [11, 12, 36, 37, 38, 39, 40, 41, 42, 43, 44, 45, 46, 47, 48, 49] (by decide +kernel) (by decide +kernel)
set_option maxRecDepth 20000 in
theorem gX7_work_X7_endOf : GoodIn wsX7_work (wsV RX7 69 RX7 yX7_endOf wsX7_endOf) := goodIn_app (goodIn_of _ (by decide +kernel)) ggX7_work_X7_endOf
set_option maxRecDepth 20000 in
theorem ggX7_work_X7_place : GoodIn wsX7_work wsX7_place := goodIn_r _ [16] (by decide +kernel) (by decide +kernel)
set_option maxRecDepth 20000 in
theorem gX7_work_X7_place : GoodIn wsX7_work (wsV RX7 96 RX7 yX7_place wsX7_place) := goodIn_app (goodIn_of _ (by decide +kernel)) ggX7_work_X7_place
set_option maxRecDepth 20000 in
theorem ggX7_work_X7_faultOf : GoodIn wsX7_work wsX7_faultOf := goodIn_r _ [20, 21, 22, 23, 24, 25, 6, 26, 27, 36, 37, 38, 39, 40, 41, 42, 43, 44, 45, 46, 47, 48, 49] (by decide +kernel) (by decide +kernel)
set_option maxRecDepth 20000 in
theorem gX7_work_X7_faultOf : GoodIn wsX7_work (wsV RX7 86 RX7 yX7_faultOf wsX7_faultOf) := goodIn_app (goodIn_of _ (by decide +kernel)) ggX7_work_X7_faultOf
set_option maxRecDepth 20000 in
theorem ggX7_work_X7_carry : GoodIn wsX7_work wsX7_carry := goodIn_r _ [31, 1, 2, 32, 33, 34, 6, 35, 22, 23, 24, 25, 26, 27, 13, 14, 15, 16, 36, 37, 38, 39, 40, 41, 42, 43, 44, 45, 46, 47, 48, 49] (by decide +kernel) (by decide +kernel)
set_option maxRecDepth 20000 in
theorem gX7_work_X7_carry : GoodIn wsX7_work (wsV RX7 101 RX7 yX7_carry wsX7_carry) := goodIn_app (goodIn_of _ (by decide +kernel)) ggX7_work_X7_carry
theorem dX7_work_0 : decode cX7_work 0 = .ok (.aload_n 0, 1) := by decide +kernel
theorem dX7_work_1 : decode cX7_work 1 = .ok (.iload_n 1, 1) := by decide +kernel
theorem dX7_work_2 : decode cX7_work 2 = .ok (.invokevirtual 76, 3) := by decide +kernel
theorem dX7_work_5 : decode cX7_work 5 = .ok (.istore_n 2, 1) := by decide +kernel
theorem dX7_work_6 : decode cX7_work 6 = .ok (.aload_n 0, 1) := by decide +kernel
theorem dX7_work_7 : decode cX7_work 7 = .ok (.iload_n 1, 1) := by decide +kernel
theorem dX7_work_8 : decode cX7_work 8 = .ok (.invokevirtual 69, 3) := by decide +kernel
theorem dX7_work_11 : decode cX7_work 11 = .ok (.istore_n 3, 1) := by decide +kernel
theorem dX7_work_12 : decode cX7_work 12 = .ok (.iload_n 2, 1) := by decide +kernel
theorem dX7_work_13 : decode cX7_work 13 = .ok (.istore 4, 2) := by decide +kernel
theorem dX7_work_15 : decode cX7_work 15 = .ok (.iload 4, 2) := by decide +kernel
theorem dX7_work_17 : decode cX7_work 17 = .ok (.iload_n 3, 1) := by decide +kernel
theorem dX7_work_18 : decode cX7_work 18 = .ok (.if_icmp .gt 47, 3) := by decide +kernel
theorem dX7_work_21 : decode cX7_work 21 = .ok (.aload_n 0, 1) := by decide +kernel
theorem dX7_work_22 : decode cX7_work 22 = .ok (.iload 4, 2) := by decide +kernel
theorem dX7_work_24 : decode cX7_work 24 = .ok (.iconst 0, 1) := by decide +kernel
theorem dX7_work_25 : decode cX7_work 25 = .ok (.invokevirtual 96, 3) := by decide +kernel
theorem dX7_work_28 : decode cX7_work 28 = .ok (.istore 5, 2) := by decide +kernel
theorem dX7_work_30 : decode cX7_work 30 = .ok (.iload 5, 2) := by decide +kernel
theorem dX7_work_32 : decode cX7_work 32 = .ok (.aload_n 0, 1) := by decide +kernel
theorem dX7_work_33 : decode cX7_work 33 = .ok (.iload 4, 2) := by decide +kernel
theorem dX7_work_35 : decode cX7_work 35 = .ok (.iconst 1, 1) := by decide +kernel
theorem dX7_work_36 : decode cX7_work 36 = .ok (.iadd, 1) := by decide +kernel
theorem dX7_work_37 : decode cX7_work 37 = .ok (.iconst 0, 1) := by decide +kernel
theorem dX7_work_38 : decode cX7_work 38 = .ok (.invokevirtual 96, 3) := by decide +kernel
theorem dX7_work_41 : decode cX7_work 41 = .ok (.if_icmp .ge 18, 3) := by decide +kernel
theorem dX7_work_44 : decode cX7_work 44 = .ok (.aload_n 0, 1) := by decide +kernel
theorem dX7_work_45 : decode cX7_work 45 = .ok (.getfield 31, 3) := by decide +kernel
theorem dX7_work_48 : decode cX7_work 48 = .ok (.iload 5, 2) := by decide +kernel
theorem dX7_work_50 : decode cX7_work 50 = .ok (.ldc 100, 2) := by decide +kernel
theorem dX7_work_52 : decode cX7_work 52 = .ok (.iastore, 1) := by decide +kernel
theorem dX7_work_53 : decode cX7_work 53 = .ok (.iinc 5 1, 3) := by decide +kernel
theorem dX7_work_56 : decode cX7_work 56 = .ok (.goto (-26), 3) := by decide +kernel
theorem dX7_work_59 : decode cX7_work 59 = .ok (.iinc 4 1, 3) := by decide +kernel
theorem dX7_work_62 : decode cX7_work 62 = .ok (.goto (-47), 3) := by decide +kernel
theorem dX7_work_65 : decode cX7_work 65 = .ok (.aload_n 0, 1) := by decide +kernel
theorem dX7_work_66 : decode cX7_work 66 = .ok (.getfield 31, 3) := by decide +kernel
theorem dX7_work_69 : decode cX7_work 69 = .ok (.aload_n 0, 1) := by decide +kernel
theorem dX7_work_70 : decode cX7_work 70 = .ok (.iload_n 3, 1) := by decide +kernel
theorem dX7_work_71 : decode cX7_work 71 = .ok (.iconst 0, 1) := by decide +kernel
theorem dX7_work_72 : decode cX7_work 72 = .ok (.invokevirtual 96, 3) := by decide +kernel
theorem dX7_work_75 : decode cX7_work 75 = .ok (.iconst 0, 1) := by decide +kernel
theorem dX7_work_76 : decode cX7_work 76 = .ok (.iastore, 1) := by decide +kernel
theorem dX7_work_77 : decode cX7_work 77 = .ok (.iload_n 3, 1) := by decide +kernel
theorem dX7_work_78 : decode cX7_work 78 = .ok (.iconst 1, 1) := by decide +kernel
theorem dX7_work_79 : decode cX7_work 79 = .ok (.isub, 1) := by decide +kernel
theorem dX7_work_80 : decode cX7_work 80 = .ok (.istore 4, 2) := by decide +kernel
theorem dX7_work_82 : decode cX7_work 82 = .ok (.iload 4, 2) := by decide +kernel
theorem dX7_work_84 : decode cX7_work 84 = .ok (.iload_n 2, 1) := by decide +kernel
theorem dX7_work_85 : decode cX7_work 85 = .ok (.if_icmp .lt 108, 3) := by decide +kernel
theorem dX7_work_88 : decode cX7_work 88 = .ok (.iload 4, 2) := by decide +kernel
theorem dX7_work_90 : decode cX7_work 90 = .ok (.iload_n 2, 1) := by decide +kernel
theorem dX7_work_91 : decode cX7_work 91 = .ok (.if_icmp .ne 7, 3) := by decide +kernel
theorem dX7_work_94 : decode cX7_work 94 = .ok (.iconst 0, 1) := by decide +kernel
theorem dX7_work_95 : decode cX7_work 95 = .ok (.goto 4, 3) := by decide +kernel
theorem dX7_work_98 : decode cX7_work 98 = .ok (.iconst 1, 1) := by decide +kernel
theorem dX7_work_99 : decode cX7_work 99 = .ok (.istore 5, 2) := by decide +kernel
theorem dX7_work_101 : decode cX7_work 101 = .ok (.iload 5, 2) := by decide +kernel
theorem dX7_work_103 : decode cX7_work 103 = .ok (.iload 4, 2) := by decide +kernel
theorem dX7_work_105 : decode cX7_work 105 = .ok (.iload_n 2, 1) := by decide +kernel
theorem dX7_work_106 : decode cX7_work 106 = .ok (.if_icmp .ne 7, 3) := by decide +kernel
theorem dX7_work_109 : decode cX7_work 109 = .ok (.iconst 0, 1) := by decide +kernel
theorem dX7_work_110 : decode cX7_work 110 = .ok (.goto 5, 3) := by decide +kernel
theorem dX7_work_113 : decode cX7_work 113 = .ok (.bipush 6, 2) := by decide +kernel
theorem dX7_work_115 : decode cX7_work 115 = .ok (.if_icmp .gt 72, 3) := by decide +kernel
theorem dX7_work_118 : decode cX7_work 118 = .ok (.iload 4, 2) := by decide +kernel
theorem dX7_work_120 : decode cX7_work 120 = .ok (.iconst 1, 1) := by decide +kernel
theorem dX7_work_121 : decode cX7_work 121 = .ok (.iadd, 1) := by decide +kernel
theorem dX7_work_122 : decode cX7_work 122 = .ok (.iload_n 3, 1) := by decide +kernel
theorem dX7_work_123 : decode cX7_work 123 = .ok (.if_icmp .ne 7, 3) := by decide +kernel
theorem dX7_work_126 : decode cX7_work 126 = .ok (.iconst 0, 1) := by decide +kernel
theorem dX7_work_127 : decode cX7_work 127 = .ok (.goto 4, 3) := by decide +kernel
theorem dX7_work_130 : decode cX7_work 130 = .ok (.iconst 1, 1) := by decide +kernel
theorem dX7_work_131 : decode cX7_work 131 = .ok (.istore 6, 2) := by decide +kernel
theorem dX7_work_133 : decode cX7_work 133 = .ok (.iload 6, 2) := by decide +kernel
theorem dX7_work_135 : decode cX7_work 135 = .ok (.iload 4, 2) := by decide +kernel
theorem dX7_work_137 : decode cX7_work 137 = .ok (.iconst 1, 1) := by decide +kernel
theorem dX7_work_138 : decode cX7_work 138 = .ok (.iadd, 1) := by decide +kernel
theorem dX7_work_139 : decode cX7_work 139 = .ok (.iload_n 3, 1) := by decide +kernel
theorem dX7_work_140 : decode cX7_work 140 = .ok (.if_icmp .ne 7, 3) := by decide +kernel
theorem dX7_work_143 : decode cX7_work 143 = .ok (.iconst 0, 1) := by decide +kernel
theorem dX7_work_144 : decode cX7_work 144 = .ok (.goto 5, 3) := by decide +kernel
theorem dX7_work_147 : decode cX7_work 147 = .ok (.bipush 6, 2) := by decide +kernel
theorem dX7_work_149 : decode cX7_work 149 = .ok (.if_icmp .gt 32, 3) := by decide +kernel
theorem dX7_work_152 : decode cX7_work 152 = .ok (.aload_n 0, 1) := by decide +kernel
theorem dX7_work_153 : decode cX7_work 153 = .ok (.iload 4, 2) := by decide +kernel
theorem dX7_work_155 : decode cX7_work 155 = .ok (.iload 5, 2) := by decide +kernel
theorem dX7_work_157 : decode cX7_work 157 = .ok (.iload 6, 2) := by decide +kernel
theorem dX7_work_159 : decode cX7_work 159 = .ok (.invokevirtual 86, 3) := by decide +kernel
theorem dX7_work_162 : decode cX7_work 162 = .ok (.ifCond .ne 13, 3) := by decide +kernel
theorem dX7_work_165 : decode cX7_work 165 = .ok (.aload_n 0, 1) := by decide +kernel
theorem dX7_work_166 : decode cX7_work 166 = .ok (.iload 4, 2) := by decide +kernel
theorem dX7_work_168 : decode cX7_work 168 = .ok (.iload 5, 2) := by decide +kernel
theorem dX7_work_170 : decode cX7_work 170 = .ok (.iload 6, 2) := by decide +kernel
theorem dX7_work_172 : decode cX7_work 172 = .ok (.invokevirtual 101, 3) := by decide +kernel
theorem dX7_work_175 : decode cX7_work 175 = .ok (.iinc 6 1, 3) := by decide +kernel
theorem dX7_work_178 : decode cX7_work 178 = .ok (.goto (-45), 3) := by decide +kernel
theorem dX7_work_181 : decode cX7_work 181 = .ok (.iinc 5 1, 3) := by decide +kernel
theorem dX7_work_184 : decode cX7_work 184 = .ok (.goto (-83), 3) := by decide +kernel
theorem dX7_work_187 : decode cX7_work 187 = .ok (.iinc 4 (-1), 3) := by decide +kernel
theorem dX7_work_190 : decode cX7_work 190 = .ok (.goto (-108), 3) := by decide +kernel
theorem dX7_work_193 : decode cX7_work 193 = .ok (.return_, 1) := by decide +kernel
set_option maxRecDepth 20000 in
theorem ggX7_carry_X7_powerOf : GoodIn wsX7_carry wsX7_powerOf := goodIn_r _ [7, 8, 9, 10, 11, 6, 12, 13, 18, 19, 20, 21, 22, 23, 24, 25, 26, 27, 28, 29, 30, 31] (by decide +kernel) (by decide +kernel)
set_option maxRecDepth 20000 in
theorem gX7_carry_X7_powerOf : GoodIn wsX7_carry (wsV RX7 93 RX7 yX7_powerOf wsX7_powerOf) := goodIn_app (goodIn_of _ (by decide +kernel)) ggX7_carry_X7_powerOf
set_option maxRecDepth 20000 in
theorem ggX7_carry_X7_place : GoodIn wsX7_carry wsX7_place := goodIn_r _ [17] (by decide +kernel) (by decide +kernel)
set_option maxRecDepth 20000 in
theorem gX7_carry_X7_place : GoodIn wsX7_carry (wsV RX7 96 RX7 yX7_place wsX7_place) := goodIn_app (goodIn_of _ (by decide +kernel)) ggX7_carry_X7_place
theorem dX7_carry_0 : decode cX7_carry 0 = .ok (.bipush 60, 2) := by decide +kernel
theorem dX7_carry_2 : decode cX7_carry 2 = .ok (.iload_n 2, 1) := by decide +kernel
theorem dX7_carry_3 : decode cX7_carry 3 = .ok (.iload_n 3, 1) := by decide +kernel
theorem dX7_carry_4 : decode cX7_carry 4 = .ok (.iadd, 1) := by decide +kernel
theorem dX7_carry_5 : decode cX7_carry 5 = .ok (.idiv, 1) := by decide +kernel
theorem dX7_carry_6 : decode cX7_carry 6 = .ok (.istore 4, 2) := by decide +kernel
theorem dX7_carry_8 : decode cX7_carry 8 = .ok (.aload_n 0, 1) := by decide +kernel
theorem dX7_carry_9 : decode cX7_carry 9 = .ok (.iload_n 1, 1) := by decide +kernel
theorem dX7_carry_10 : decode cX7_carry 10 = .ok (.iload_n 2, 1) := by decide +kernel
theorem dX7_carry_11 : decode cX7_carry 11 = .ok (.iload_n 3, 1) := by decide +kernel
theorem dX7_carry_12 : decode cX7_carry 12 = .ok (.invokevirtual 93, 3) := by decide +kernel
theorem dX7_carry_15 : decode cX7_carry 15 = .ok (.istore 5, 2) := by decide +kernel
theorem dX7_carry_17 : decode cX7_carry 17 = .ok (.aload_n 0, 1) := by decide +kernel
theorem dX7_carry_18 : decode cX7_carry 18 = .ok (.iload_n 1, 1) := by decide +kernel
theorem dX7_carry_19 : decode cX7_carry 19 = .ok (.iload_n 2, 1) := by decide +kernel
theorem dX7_carry_20 : decode cX7_carry 20 = .ok (.invokevirtual 96, 3) := by decide +kernel
theorem dX7_carry_23 : decode cX7_carry 23 = .ok (.istore 6, 2) := by decide +kernel
theorem dX7_carry_25 : decode cX7_carry 25 = .ok (.aload_n 0, 1) := by decide +kernel
theorem dX7_carry_26 : decode cX7_carry 26 = .ok (.iload_n 1, 1) := by decide +kernel
theorem dX7_carry_27 : decode cX7_carry 27 = .ok (.iconst 1, 1) := by decide +kernel
theorem dX7_carry_28 : decode cX7_carry 28 = .ok (.iadd, 1) := by decide +kernel
theorem dX7_carry_29 : decode cX7_carry 29 = .ok (.iload_n 3, 1) := by decide +kernel
theorem dX7_carry_30 : decode cX7_carry 30 = .ok (.invokevirtual 96, 3) := by decide +kernel
theorem dX7_carry_33 : decode cX7_carry 33 = .ok (.istore 7, 2) := by decide +kernel
theorem dX7_carry_35 : decode cX7_carry 35 = .ok (.iload 4, 2) := by decide +kernel
theorem dX7_carry_37 : decode cX7_carry 37 = .ok (.istore 8, 2) := by decide +kernel
theorem dX7_carry_39 : decode cX7_carry 39 = .ok (.iload 8, 2) := by decide +kernel
theorem dX7_carry_41 : decode cX7_carry 41 = .ok (.sipush 1001, 3) := by decide +kernel
theorem dX7_carry_44 : decode cX7_carry 44 = .ok (.if_icmp .ge 64, 3) := by decide +kernel
theorem dX7_carry_47 : decode cX7_carry 47 = .ok (.aload_n 0, 1) := by decide +kernel
theorem dX7_carry_48 : decode cX7_carry 48 = .ok (.getfield 31, 3) := by decide +kernel
theorem dX7_carry_51 : decode cX7_carry 51 = .ok (.iload 7, 2) := by decide +kernel
theorem dX7_carry_53 : decode cX7_carry 53 = .ok (.iload 8, 2) := by decide +kernel
theorem dX7_carry_55 : decode cX7_carry 55 = .ok (.iadd, 1) := by decide +kernel
theorem dX7_carry_56 : decode cX7_carry 56 = .ok (.iload 4, 2) := by decide +kernel
theorem dX7_carry_58 : decode cX7_carry 58 = .ok (.isub, 1) := by decide +kernel
theorem dX7_carry_59 : decode cX7_carry 59 = .ok (.iaload, 1) := by decide +kernel
theorem dX7_carry_60 : decode cX7_carry 60 = .ok (.istore 9, 2) := by decide +kernel
theorem dX7_carry_62 : decode cX7_carry 62 = .ok (.iload 9, 2) := by decide +kernel
theorem dX7_carry_64 : decode cX7_carry 64 = .ok (.ldc 100, 2) := by decide +kernel
theorem dX7_carry_66 : decode cX7_carry 66 = .ok (.if_icmp .ge 36, 3) := by decide +kernel
theorem dX7_carry_69 : decode cX7_carry 69 = .ok (.iload 5, 2) := by decide +kernel
theorem dX7_carry_71 : decode cX7_carry 71 = .ok (.iload 9, 2) := by decide +kernel
theorem dX7_carry_73 : decode cX7_carry 73 = .ok (.iadd, 1) := by decide +kernel
theorem dX7_carry_74 : decode cX7_carry 74 = .ok (.aload_n 0, 1) := by decide +kernel
theorem dX7_carry_75 : decode cX7_carry 75 = .ok (.getfield 31, 3) := by decide +kernel
theorem dX7_carry_78 : decode cX7_carry 78 = .ok (.iload 6, 2) := by decide +kernel
theorem dX7_carry_80 : decode cX7_carry 80 = .ok (.iload 8, 2) := by decide +kernel
theorem dX7_carry_82 : decode cX7_carry 82 = .ok (.iadd, 1) := by decide +kernel
theorem dX7_carry_83 : decode cX7_carry 83 = .ok (.iaload, 1) := by decide +kernel
theorem dX7_carry_84 : decode cX7_carry 84 = .ok (.if_icmp .ge 18, 3) := by decide +kernel
theorem dX7_carry_87 : decode cX7_carry 87 = .ok (.aload_n 0, 1) := by decide +kernel
theorem dX7_carry_88 : decode cX7_carry 88 = .ok (.getfield 31, 3) := by decide +kernel
theorem dX7_carry_91 : decode cX7_carry 91 = .ok (.iload 6, 2) := by decide +kernel
theorem dX7_carry_93 : decode cX7_carry 93 = .ok (.iload 8, 2) := by decide +kernel
theorem dX7_carry_95 : decode cX7_carry 95 = .ok (.iadd, 1) := by decide +kernel
theorem dX7_carry_96 : decode cX7_carry 96 = .ok (.iload 5, 2) := by decide +kernel
theorem dX7_carry_98 : decode cX7_carry 98 = .ok (.iload 9, 2) := by decide +kernel
theorem dX7_carry_100 : decode cX7_carry 100 = .ok (.iadd, 1) := by decide +kernel
theorem dX7_carry_101 : decode cX7_carry 101 = .ok (.iastore, 1) := by decide +kernel
theorem dX7_carry_102 : decode cX7_carry 102 = .ok (.iinc 8 1, 3) := by decide +kernel
theorem dX7_carry_105 : decode cX7_carry 105 = .ok (.goto (-66), 3) := by decide +kernel
theorem dX7_carry_108 : decode cX7_carry 108 = .ok (.return_, 1) := by decide +kernel
set_option maxRecDepth 20000 in
theorem ggX7_bestOf_X7_firstOf : GoodIn wsX7_bestOf wsX7_firstOf := goodIn_r _ [8, 9, 10, 11, 7, 12, 13, 18, 19, 20, 21, 22, 23, 24, 25, 26, 27, 28, 29, 30, 31] (by decide +kernel) (by decide +kernel)
set_option maxRecDepth 20000 in
theorem gX7_bestOf_X7_firstOf : GoodIn wsX7_bestOf (wsV RX7 76 RX7 yX7_firstOf wsX7_firstOf) := goodIn_app (goodIn_of _ (by decide +kernel)) ggX7_bestOf_X7_firstOf
set_option maxRecDepth 20000 in
theorem ggX7_bestOf_X7_place : GoodIn wsX7_bestOf wsX7_place := goodIn_r _ [17] (by decide +kernel) (by decide +kernel)
set_option maxRecDepth 20000 in
theorem gX7_bestOf_X7_place : GoodIn wsX7_bestOf (wsV RX7 96 RX7 yX7_place wsX7_place) := goodIn_app (goodIn_of _ (by decide +kernel)) ggX7_bestOf_X7_place
theorem dX7_bestOf_0 : decode cX7_bestOf 0 = .ok (.aload_n 0, 1) := by decide +kernel
theorem dX7_bestOf_1 : decode cX7_bestOf 1 = .ok (.aload_n 0, 1) := by decide +kernel
theorem dX7_bestOf_2 : decode cX7_bestOf 2 = .ok (.iload_n 1, 1) := by decide +kernel
theorem dX7_bestOf_3 : decode cX7_bestOf 3 = .ok (.invokevirtual 76, 3) := by decide +kernel
theorem dX7_bestOf_6 : decode cX7_bestOf 6 = .ok (.iconst 0, 1) := by decide +kernel
theorem dX7_bestOf_7 : decode cX7_bestOf 7 = .ok (.invokevirtual 96, 3) := by decide +kernel
theorem dX7_bestOf_10 : decode cX7_bestOf 10 = .ok (.istore_n 3, 1) := by decide +kernel
theorem dX7_bestOf_11 : decode cX7_bestOf 11 = .ok (.ldc 92, 2) := by decide +kernel
theorem dX7_bestOf_13 : decode cX7_bestOf 13 = .ok (.istore 4, 2) := by decide +kernel
theorem dX7_bestOf_15 : decode cX7_bestOf 15 = .ok (.iconst 0, 1) := by decide +kernel
theorem dX7_bestOf_16 : decode cX7_bestOf 16 = .ok (.istore 5, 2) := by decide +kernel
theorem dX7_bestOf_18 : decode cX7_bestOf 18 = .ok (.iload 5, 2) := by decide +kernel
theorem dX7_bestOf_20 : decode cX7_bestOf 20 = .ok (.iload_n 2, 1) := by decide +kernel
theorem dX7_bestOf_21 : decode cX7_bestOf 21 = .ok (.if_icmp .gt 55, 3) := by decide +kernel
theorem dX7_bestOf_24 : decode cX7_bestOf 24 = .ok (.aload_n 0, 1) := by decide +kernel
theorem dX7_bestOf_25 : decode cX7_bestOf 25 = .ok (.getfield 31, 3) := by decide +kernel
theorem dX7_bestOf_28 : decode cX7_bestOf 28 = .ok (.iload_n 3, 1) := by decide +kernel
theorem dX7_bestOf_29 : decode cX7_bestOf 29 = .ok (.iload 5, 2) := by decide +kernel
theorem dX7_bestOf_31 : decode cX7_bestOf 31 = .ok (.iadd, 1) := by decide +kernel
theorem dX7_bestOf_32 : decode cX7_bestOf 32 = .ok (.iaload, 1) := by decide +kernel
theorem dX7_bestOf_33 : decode cX7_bestOf 33 = .ok (.ldc 100, 2) := by decide +kernel
theorem dX7_bestOf_35 : decode cX7_bestOf 35 = .ok (.if_icmp .ge 35, 3) := by decide +kernel
theorem dX7_bestOf_38 : decode cX7_bestOf 38 = .ok (.iload 4, 2) := by decide +kernel
theorem dX7_bestOf_40 : decode cX7_bestOf 40 = .ok (.ldc 92, 2) := by decide +kernel
theorem dX7_bestOf_42 : decode cX7_bestOf 42 = .ok (.if_icmp .eq 24, 3) := by decide +kernel
theorem dX7_bestOf_45 : decode cX7_bestOf 45 = .ok (.aload_n 0, 1) := by decide +kernel
theorem dX7_bestOf_46 : decode cX7_bestOf 46 = .ok (.getfield 31, 3) := by decide +kernel
theorem dX7_bestOf_49 : decode cX7_bestOf 49 = .ok (.iload_n 3, 1) := by decide +kernel
theorem dX7_bestOf_50 : decode cX7_bestOf 50 = .ok (.iload 5, 2) := by decide +kernel
theorem dX7_bestOf_52 : decode cX7_bestOf 52 = .ok (.iadd, 1) := by decide +kernel
theorem dX7_bestOf_53 : decode cX7_bestOf 53 = .ok (.iaload, 1) := by decide +kernel
theorem dX7_bestOf_54 : decode cX7_bestOf 54 = .ok (.aload_n 0, 1) := by decide +kernel
theorem dX7_bestOf_55 : decode cX7_bestOf 55 = .ok (.getfield 31, 3) := by decide +kernel
theorem dX7_bestOf_58 : decode cX7_bestOf 58 = .ok (.iload_n 3, 1) := by decide +kernel
theorem dX7_bestOf_59 : decode cX7_bestOf 59 = .ok (.iload 4, 2) := by decide +kernel
theorem dX7_bestOf_61 : decode cX7_bestOf 61 = .ok (.iadd, 1) := by decide +kernel
theorem dX7_bestOf_62 : decode cX7_bestOf 62 = .ok (.iaload, 1) := by decide +kernel
theorem dX7_bestOf_63 : decode cX7_bestOf 63 = .ok (.if_icmp .ge 7, 3) := by decide +kernel
theorem dX7_bestOf_66 : decode cX7_bestOf 66 = .ok (.iload 5, 2) := by decide +kernel
theorem dX7_bestOf_68 : decode cX7_bestOf 68 = .ok (.istore 4, 2) := by decide +kernel
theorem dX7_bestOf_70 : decode cX7_bestOf 70 = .ok (.iinc 5 1, 3) := by decide +kernel
theorem dX7_bestOf_73 : decode cX7_bestOf 73 = .ok (.goto (-55), 3) := by decide +kernel
theorem dX7_bestOf_76 : decode cX7_bestOf 76 = .ok (.iload 4, 2) := by decide +kernel
theorem dX7_bestOf_78 : decode cX7_bestOf 78 = .ok (.ireturn, 1) := by decide +kernel
set_option maxRecDepth 20000 in
theorem ggX7_fastest_X7_isLeg : GoodIn wsX7_fastest wsX7_isLeg := goodIn_r _ [8, 9, 10, 11, 7, 12, 13, 14, 15, 16, 17, 53, 54, 55, 56, 57, 58, 59, 60, 61, 62, 63, 64, 65, 66] (by decide +kernel) (by decide +kernel)
set_option maxRecDepth 20000 in
theorem gX7_fastest_X7_isLeg : GoodIn wsX7_fastest (wsV RX7 73 RX7 yX7_isLeg wsX7_isLeg) := goodIn_app (goodIn_of _ (by decide +kernel)) ggX7_fastest_X7_isLeg
set_option maxRecDepth 20000 in
theorem ggX7_fastest_X7_work : GoodIn wsX7_fastest wsX7_work := goodIn_r _ [21, 1, 2, 22, 23, 24, 7, 25, 26, 27, 28, 29, 14, 30, 31, 32, 33, 34, 35, 36, 37, 38, 39, 40, 41, 42, 43, 44, 45, 46, 47, 48, 49, 50, 51, 52, 53, 54, 55, 56, 57, 58, 59, 60, 61, 62, 63, 64, 65, 66] (by decide +kernel) (by decide +kernel)
set_option maxRecDepth 20000 in
theorem gX7_fastest_X7_work : GoodIn wsX7_fastest (wsV RX7 105 RX7 yX7_work wsX7_work) := goodIn_app (goodIn_of _ (by decide +kernel)) ggX7_fastest_X7_work
set_option maxRecDepth 20000 in
theorem ggX7_fastest_X7_firstOf : GoodIn wsX7_fastest wsX7_firstOf := goodIn_r _ [25, 26, 27, 28, 7, 29, 14, 53, 54, 55, 56, 57, 58, 59, 60, 61, 62, 63, 64, 65, 66] (by decide +kernel) (by decide +kernel)
set_option maxRecDepth 20000 in
theorem gX7_fastest_X7_firstOf : GoodIn wsX7_fastest (wsV RX7 76 RX7 yX7_firstOf wsX7_firstOf) := goodIn_app (goodIn_of _ (by decide +kernel)) ggX7_fastest_X7_firstOf
set_option maxRecDepth 20000 in
theorem ggX7_fastest_X7_place : GoodIn wsX7_fastest wsX7_place := goodIn_r _ [33] (by decide +kernel) (by decide +kernel)
set_option maxRecDepth 20000 in
theorem gX7_fastest_X7_place : GoodIn wsX7_fastest (wsV RX7 96 RX7 yX7_place wsX7_place) := goodIn_app (goodIn_of _ (by decide +kernel)) ggX7_fastest_X7_place
theorem dX7_fastest_0 : decode cX7_fastest 0 = .ok (.aload_n 0, 1) := by decide +kernel
theorem dX7_fastest_1 : decode cX7_fastest 1 = .ok (.iload_n 1, 1) := by decide +kernel
theorem dX7_fastest_2 : decode cX7_fastest 2 = .ok (.invokevirtual 73, 3) := by decide +kernel
theorem dX7_fastest_5 : decode cX7_fastest 5 = .ok (.ifCond .ne 5, 3) := by decide +kernel
theorem dX7_fastest_8 : decode cX7_fastest 8 = .ok (.iconst (-1), 1) := by decide +kernel
theorem dX7_fastest_9 : decode cX7_fastest 9 = .ok (.ireturn, 1) := by decide +kernel
theorem dX7_fastest_10 : decode cX7_fastest 10 = .ok (.aload_n 0, 1) := by decide +kernel
theorem dX7_fastest_11 : decode cX7_fastest 11 = .ok (.iload_n 1, 1) := by decide +kernel
theorem dX7_fastest_12 : decode cX7_fastest 12 = .ok (.invokevirtual 105, 3) := by decide +kernel
theorem dX7_fastest_15 : decode cX7_fastest 15 = .ok (.aload_n 0, 1) := by decide +kernel
theorem dX7_fastest_16 : decode cX7_fastest 16 = .ok (.aload_n 0, 1) := by decide +kernel
theorem dX7_fastest_17 : decode cX7_fastest 17 = .ok (.iload_n 1, 1) := by decide +kernel
theorem dX7_fastest_18 : decode cX7_fastest 18 = .ok (.invokevirtual 76, 3) := by decide +kernel
theorem dX7_fastest_21 : decode cX7_fastest 21 = .ok (.iconst 0, 1) := by decide +kernel
theorem dX7_fastest_22 : decode cX7_fastest 22 = .ok (.invokevirtual 96, 3) := by decide +kernel
theorem dX7_fastest_25 : decode cX7_fastest 25 = .ok (.istore_n 2, 1) := by decide +kernel
theorem dX7_fastest_26 : decode cX7_fastest 26 = .ok (.iconst 0, 1) := by decide +kernel
theorem dX7_fastest_27 : decode cX7_fastest 27 = .ok (.istore_n 3, 1) := by decide +kernel
theorem dX7_fastest_28 : decode cX7_fastest 28 = .ok (.iload_n 3, 1) := by decide +kernel
theorem dX7_fastest_29 : decode cX7_fastest 29 = .ok (.sipush 1001, 3) := by decide +kernel
theorem dX7_fastest_32 : decode cX7_fastest 32 = .ok (.if_icmp .ge 24, 3) := by decide +kernel
theorem dX7_fastest_35 : decode cX7_fastest 35 = .ok (.aload_n 0, 1) := by decide +kernel
theorem dX7_fastest_36 : decode cX7_fastest 36 = .ok (.getfield 31, 3) := by decide +kernel
theorem dX7_fastest_39 : decode cX7_fastest 39 = .ok (.iload_n 2, 1) := by decide +kernel
theorem dX7_fastest_40 : decode cX7_fastest 40 = .ok (.iload_n 3, 1) := by decide +kernel
theorem dX7_fastest_41 : decode cX7_fastest 41 = .ok (.iadd, 1) := by decide +kernel
theorem dX7_fastest_42 : decode cX7_fastest 42 = .ok (.iaload, 1) := by decide +kernel
theorem dX7_fastest_43 : decode cX7_fastest 43 = .ok (.ldc 100, 2) := by decide +kernel
theorem dX7_fastest_45 : decode cX7_fastest 45 = .ok (.if_icmp .ge 5, 3) := by decide +kernel
theorem dX7_fastest_48 : decode cX7_fastest 48 = .ok (.iload_n 3, 1) := by decide +kernel
theorem dX7_fastest_49 : decode cX7_fastest 49 = .ok (.ireturn, 1) := by decide +kernel
theorem dX7_fastest_50 : decode cX7_fastest 50 = .ok (.iinc 3 1, 3) := by decide +kernel
theorem dX7_fastest_53 : decode cX7_fastest 53 = .ok (.goto (-25), 3) := by decide +kernel
theorem dX7_fastest_56 : decode cX7_fastest 56 = .ok (.ldc 92, 2) := by decide +kernel
theorem dX7_fastest_58 : decode cX7_fastest 58 = .ok (.ireturn, 1) := by decide +kernel
set_option maxRecDepth 20000 in
theorem ggX7_best_X7_bestTime : GoodIn wsX7_best wsX7_bestTime := goodIn_r _ [6, 7, 8, 9, 5, 10, 11, 12, 13, 14, 15, 16, 17, 18, 19, 20, 21, 22, 23, 1, 24, 25, 26, 27, 28, 29, 30, 31, 32, 33, 34, 35, 36, 37, 38, 39, 40, 41, 42, 43, 44, 45, 46, 47, 48, 49, 50, 51, 52, 53, 54, 55, 56, 57, 58, 59, 60, 61, 62, 63, 64, 65, 66, 67, 68, 69, 70, 71, 72, 73, 74] (by decide +kernel) (by decide +kernel)
set_option maxRecDepth 20000 in
theorem gX7_best_X7_bestTime : GoodIn wsX7_best (wsV RX7 108 RX7 yX7_bestTime wsX7_bestTime) := goodIn_app (goodIn_of _ (by decide +kernel)) ggX7_best_X7_bestTime
set_option maxRecDepth 20000 in
theorem ggX7_best_X7_firstOf : GoodIn wsX7_best wsX7_firstOf := goodIn_r _ [28, 29, 30, 31, 5, 32, 16, 61, 62, 63, 64, 65, 66, 67, 68, 69, 70, 71, 72, 73, 74] (by decide +kernel) (by decide +kernel)
set_option maxRecDepth 20000 in
theorem gX7_best_X7_firstOf : GoodIn wsX7_best (wsV RX7 76 RX7 yX7_firstOf wsX7_firstOf) := goodIn_app (goodIn_of _ (by decide +kernel)) ggX7_best_X7_firstOf
set_option maxRecDepth 20000 in
theorem ggX7_best_X7_place : GoodIn wsX7_best wsX7_place := goodIn_r _ [36] (by decide +kernel) (by decide +kernel)
set_option maxRecDepth 20000 in
theorem gX7_best_X7_place : GoodIn wsX7_best (wsV RX7 96 RX7 yX7_place wsX7_place) := goodIn_app (goodIn_of _ (by decide +kernel)) ggX7_best_X7_place
theorem dX7_best_0 : decode cX7_best 0 = .ok (.aload_n 0, 1) := by decide +kernel
theorem dX7_best_1 : decode cX7_best 1 = .ok (.iload_n 1, 1) := by decide +kernel
theorem dX7_best_2 : decode cX7_best 2 = .ok (.iload_n 2, 1) := by decide +kernel
theorem dX7_best_3 : decode cX7_best 3 = .ok (.invokevirtual 108, 3) := by decide +kernel
theorem dX7_best_6 : decode cX7_best 6 = .ok (.istore_n 3, 1) := by decide +kernel
theorem dX7_best_7 : decode cX7_best 7 = .ok (.iload_n 3, 1) := by decide +kernel
theorem dX7_best_8 : decode cX7_best 8 = .ok (.ifCond .ge 7, 3) := by decide +kernel
theorem dX7_best_11 : decode cX7_best 11 = .ok (.iload_n 3, 1) := by decide +kernel
theorem dX7_best_12 : decode cX7_best 12 = .ok (.goto 20, 3) := by decide +kernel
theorem dX7_best_15 : decode cX7_best 15 = .ok (.aload_n 0, 1) := by decide +kernel
theorem dX7_best_16 : decode cX7_best 16 = .ok (.getfield 31, 3) := by decide +kernel
theorem dX7_best_19 : decode cX7_best 19 = .ok (.aload_n 0, 1) := by decide +kernel
theorem dX7_best_20 : decode cX7_best 20 = .ok (.aload_n 0, 1) := by decide +kernel
theorem dX7_best_21 : decode cX7_best 21 = .ok (.iload_n 1, 1) := by decide +kernel
theorem dX7_best_22 : decode cX7_best 22 = .ok (.invokevirtual 76, 3) := by decide +kernel
theorem dX7_best_25 : decode cX7_best 25 = .ok (.iconst 0, 1) := by decide +kernel
theorem dX7_best_26 : decode cX7_best 26 = .ok (.invokevirtual 96, 3) := by decide +kernel
theorem dX7_best_29 : decode cX7_best 29 = .ok (.iload_n 3, 1) := by decide +kernel
theorem dX7_best_30 : decode cX7_best 30 = .ok (.iadd, 1) := by decide +kernel
theorem dX7_best_31 : decode cX7_best 31 = .ok (.iaload, 1) := by decide +kernel
theorem dX7_best_32 : decode cX7_best 32 = .ok (.ireturn, 1) := by decide +kernel
set_option maxRecDepth 20000 in
theorem ggX7_bestTime_X7_isLeg : GoodIn wsX7_bestTime wsX7_isLeg := goodIn_r _ [5, 6, 7, 8, 4, 9, 10, 11, 12, 13, 14, 57, 58, 59, 60, 61, 62, 63, 64, 65, 66, 67, 68, 69, 70] (by decide +kernel) (by decide +kernel)
set_option maxRecDepth 20000 in
theorem gX7_bestTime_X7_isLeg : GoodIn wsX7_bestTime (wsV RX7 73 RX7 yX7_isLeg wsX7_isLeg) := goodIn_app (goodIn_of _ (by decide +kernel)) ggX7_bestTime_X7_isLeg
set_option maxRecDepth 20000 in
theorem ggX7_bestTime_X7_in : GoodIn wsX7_bestTime wsX7_in := goodIn_r _ [14] (by decide +kernel) (by decide +kernel)
set_option maxRecDepth 20000 in
theorem gX7_bestTime_X7_in : GoodIn wsX7_bestTime (va_wsS RX7 50 yX7_in wsX7_in) := goodIn_app (goodIn_of _ (by decide +kernel)) ggX7_bestTime_X7_in
set_option maxRecDepth 20000 in
theorem ggX7_bestTime_X7_work : GoodIn wsX7_bestTime wsX7_work := goodIn_r _ [18, 19, 20, 21, 22, 23, 4, 24, 25, 26, 27, 28, 11, 29, 30, 31, 32, 33, 34, 35, 36, 37, 38, 39, 40, 41, 42, 43, 44, 45, 46, 47, 48, 49, 50, 51, 57, 58, 59, 60, 61, 62, 63, 64, 65, 66, 67, 68, 69, 70] (by decide +kernel) (by decide +kernel)
set_option maxRecDepth 20000 in
theorem gX7_bestTime_X7_work : GoodIn wsX7_bestTime (wsV RX7 105 RX7 yX7_work wsX7_work) := goodIn_app (goodIn_of _ (by decide +kernel)) ggX7_bestTime_X7_work
set_option maxRecDepth 20000 in
theorem ggX7_bestTime_X7_bestOf : GoodIn wsX7_bestTime wsX7_bestOf := goodIn_r _ [55, 56, 19, 20, 21, 22, 23, 4, 24, 25, 26, 27, 28, 11, 29, 30, 31, 32, 57, 58, 59, 60, 61, 62, 63, 64, 65, 66, 67, 68, 69, 70] (by decide +kernel) (by decide +kernel)
set_option maxRecDepth 20000 in
theorem gX7_bestTime_X7_bestOf : GoodIn wsX7_bestTime (wsV RX7 111 RX7 yX7_bestOf wsX7_bestOf) := goodIn_app (goodIn_of _ (by decide +kernel)) ggX7_bestTime_X7_bestOf
theorem dX7_bestTime_0 : decode cX7_bestTime 0 = .ok (.aload_n 0, 1) := by decide +kernel
theorem dX7_bestTime_1 : decode cX7_bestTime 1 = .ok (.iload_n 1, 1) := by decide +kernel
theorem dX7_bestTime_2 : decode cX7_bestTime 2 = .ok (.invokevirtual 73, 3) := by decide +kernel
theorem dX7_bestTime_5 : decode cX7_bestTime 5 = .ok (.ifCond .ne 5, 3) := by decide +kernel
theorem dX7_bestTime_8 : decode cX7_bestTime 8 = .ok (.iconst (-1), 1) := by decide +kernel
theorem dX7_bestTime_9 : decode cX7_bestTime 9 = .ok (.ireturn, 1) := by decide +kernel
theorem dX7_bestTime_10 : decode cX7_bestTime 10 = .ok (.iload_n 2, 1) := by decide +kernel
theorem dX7_bestTime_11 : decode cX7_bestTime 11 = .ok (.iconst 0, 1) := by decide +kernel
theorem dX7_bestTime_12 : decode cX7_bestTime 12 = .ok (.sipush 1000, 3) := by decide +kernel
theorem dX7_bestTime_15 : decode cX7_bestTime 15 = .ok (.invokestatic 50, 3) := by decide +kernel
theorem dX7_bestTime_18 : decode cX7_bestTime 18 = .ok (.ifCond .ne 6, 3) := by decide +kernel
theorem dX7_bestTime_21 : decode cX7_bestTime 21 = .ok (.bipush (-2), 2) := by decide +kernel
theorem dX7_bestTime_23 : decode cX7_bestTime 23 = .ok (.ireturn, 1) := by decide +kernel
theorem dX7_bestTime_24 : decode cX7_bestTime 24 = .ok (.aload_n 0, 1) := by decide +kernel
theorem dX7_bestTime_25 : decode cX7_bestTime 25 = .ok (.iload_n 1, 1) := by decide +kernel
theorem dX7_bestTime_26 : decode cX7_bestTime 26 = .ok (.invokevirtual 105, 3) := by decide +kernel
theorem dX7_bestTime_29 : decode cX7_bestTime 29 = .ok (.aload_n 0, 1) := by decide +kernel
theorem dX7_bestTime_30 : decode cX7_bestTime 30 = .ok (.iload_n 1, 1) := by decide +kernel
theorem dX7_bestTime_31 : decode cX7_bestTime 31 = .ok (.iload_n 2, 1) := by decide +kernel
theorem dX7_bestTime_32 : decode cX7_bestTime 32 = .ok (.invokevirtual 111, 3) := by decide +kernel
theorem dX7_bestTime_35 : decode cX7_bestTime 35 = .ok (.ireturn, 1) := by decide +kernel
set_option maxRecDepth 20000 in
theorem ggX7_bestSpeed_X7_isLeg : GoodIn wsX7_bestSpeed wsX7_isLeg := goodIn_r _ [7, 8, 9, 10, 6, 11, 1, 12, 13, 14, 15, 61, 62, 63, 64, 65, 66, 67, 68, 69, 70, 71, 72, 73, 74] (by decide +kernel) (by decide +kernel)
set_option maxRecDepth 20000 in
theorem gX7_bestSpeed_X7_isLeg : GoodIn wsX7_bestSpeed (wsV RX7 73 RX7 yX7_isLeg wsX7_isLeg) := goodIn_app (goodIn_of _ (by decide +kernel)) ggX7_bestSpeed_X7_isLeg
set_option maxRecDepth 20000 in
theorem ggX7_bestSpeed_X7_in : GoodIn wsX7_bestSpeed wsX7_in := goodIn_r _ [15] (by decide +kernel) (by decide +kernel)
set_option maxRecDepth 20000 in
theorem gX7_bestSpeed_X7_in : GoodIn wsX7_bestSpeed (va_wsS RX7 50 yX7_in wsX7_in) := goodIn_app (goodIn_of _ (by decide +kernel)) ggX7_bestSpeed_X7_in
set_option maxRecDepth 20000 in
theorem ggX7_bestSpeed_X7_work : GoodIn wsX7_bestSpeed wsX7_work := goodIn_r _ [19, 20, 21, 22, 23, 24, 6, 25, 26, 27, 28, 29, 12, 30, 31, 32, 33, 34, 35, 36, 37, 38, 39, 40, 41, 42, 43, 44, 45, 46, 47, 48, 49, 50, 51, 52, 61, 62, 63, 64, 65, 66, 67, 68, 69, 70, 71, 72, 73, 74] (by decide +kernel) (by decide +kernel)
set_option maxRecDepth 20000 in
theorem gX7_bestSpeed_X7_work : GoodIn wsX7_bestSpeed (wsV RX7 105 RX7 yX7_work wsX7_work) := goodIn_app (goodIn_of _ (by decide +kernel)) ggX7_bestSpeed_X7_work
set_option maxRecDepth 20000 in
theorem ggX7_bestSpeed_X7_bestOf : GoodIn wsX7_bestSpeed wsX7_bestOf := goodIn_r _ [56, 2, 20, 21, 22, 23, 24, 6, 25, 26, 27, 28, 29, 12, 30, 31, 32, 33, 61, 62, 63, 64, 65, 66, 67, 68, 69, 70, 71, 72, 73, 74] (by decide +kernel) (by decide +kernel)
set_option maxRecDepth 20000 in
theorem gX7_bestSpeed_X7_bestOf : GoodIn wsX7_bestSpeed (wsV RX7 111 RX7 yX7_bestOf wsX7_bestOf) := goodIn_app (goodIn_of _ (by decide +kernel)) ggX7_bestSpeed_X7_bestOf
set_option maxRecDepth 20000 in
theorem ggX7_bestSpeed_X7_firstOf : GoodIn wsX7_bestSpeed wsX7_firstOf := goodIn_r _ [25, 26, 27, 28, 6, 29, 12, 61, 62, 63, 64, 65, 66, 67, 68, 69, 70, 71, 72, 73, 74] (by decide +kernel) (by decide +kernel)
set_option maxRecDepth 20000 in
theorem gX7_bestSpeed_X7_firstOf : GoodIn wsX7_bestSpeed (wsV RX7 76 RX7 yX7_firstOf wsX7_firstOf) := goodIn_app (goodIn_of _ (by decide +kernel)) ggX7_bestSpeed_X7_firstOf
set_option maxRecDepth 20000 in
theorem ggX7_bestSpeed_X7_endOf : GoodIn wsX7_bestSpeed wsX7_endOf := goodIn_r _ [29, 12, 61, 62, 63, 64, 65, 66, 67, 68, 69, 70, 71, 72, 73, 74] (by decide +kernel) (by decide +kernel)
set_option maxRecDepth 20000 in
theorem gX7_bestSpeed_X7_endOf : GoodIn wsX7_bestSpeed (wsV RX7 69 RX7 yX7_endOf wsX7_endOf) := goodIn_app (goodIn_of _ (by decide +kernel)) ggX7_bestSpeed_X7_endOf
set_option maxRecDepth 20000 in
theorem ggX7_bestSpeed_X7_isOn : GoodIn wsX7_bestSpeed wsX7_isOn := goodIn_r _ [60, 20, 21, 34, 35, 36, 6, 37, 38, 39, 40, 41, 42, 43, 44, 30, 31, 32, 33, 49, 50, 51, 52, 61, 62, 63, 64, 65, 66, 67, 68, 69, 70, 71, 72, 73, 74] (by decide +kernel) (by decide +kernel)
set_option maxRecDepth 20000 in
theorem gX7_bestSpeed_X7_isOn : GoodIn wsX7_bestSpeed (wsV RX7 114 RX7 yX7_isOn wsX7_isOn) := goodIn_app (goodIn_of _ (by decide +kernel)) ggX7_bestSpeed_X7_isOn
theorem dX7_bestSpeed_0 : decode cX7_bestSpeed 0 = .ok (.aload_n 0, 1) := by decide +kernel
theorem dX7_bestSpeed_1 : decode cX7_bestSpeed 1 = .ok (.iload_n 1, 1) := by decide +kernel
theorem dX7_bestSpeed_2 : decode cX7_bestSpeed 2 = .ok (.invokevirtual 73, 3) := by decide +kernel
theorem dX7_bestSpeed_5 : decode cX7_bestSpeed 5 = .ok (.ifCond .eq 15, 3) := by decide +kernel
theorem dX7_bestSpeed_8 : decode cX7_bestSpeed 8 = .ok (.iload_n 3, 1) := by decide +kernel
theorem dX7_bestSpeed_9 : decode cX7_bestSpeed 9 = .ok (.iconst 0, 1) := by decide +kernel
theorem dX7_bestSpeed_10 : decode cX7_bestSpeed 10 = .ok (.aload_n 0, 1) := by decide +kernel
theorem dX7_bestSpeed_11 : decode cX7_bestSpeed 11 = .ok (.getfield 7, 3) := by decide +kernel
theorem dX7_bestSpeed_14 : decode cX7_bestSpeed 14 = .ok (.invokestatic 50, 3) := by decide +kernel
theorem dX7_bestSpeed_17 : decode cX7_bestSpeed 17 = .ok (.ifCond .ne 5, 3) := by decide +kernel
theorem dX7_bestSpeed_20 : decode cX7_bestSpeed 20 = .ok (.iconst (-1), 1) := by decide +kernel
theorem dX7_bestSpeed_21 : decode cX7_bestSpeed 21 = .ok (.ireturn, 1) := by decide +kernel
theorem dX7_bestSpeed_22 : decode cX7_bestSpeed 22 = .ok (.iload_n 2, 1) := by decide +kernel
theorem dX7_bestSpeed_23 : decode cX7_bestSpeed 23 = .ok (.iconst 0, 1) := by decide +kernel
theorem dX7_bestSpeed_24 : decode cX7_bestSpeed 24 = .ok (.sipush 1000, 3) := by decide +kernel
theorem dX7_bestSpeed_27 : decode cX7_bestSpeed 27 = .ok (.invokestatic 50, 3) := by decide +kernel
theorem dX7_bestSpeed_30 : decode cX7_bestSpeed 30 = .ok (.ifCond .ne 6, 3) := by decide +kernel
theorem dX7_bestSpeed_33 : decode cX7_bestSpeed 33 = .ok (.bipush (-2), 2) := by decide +kernel
theorem dX7_bestSpeed_35 : decode cX7_bestSpeed 35 = .ok (.ireturn, 1) := by decide +kernel
theorem dX7_bestSpeed_36 : decode cX7_bestSpeed 36 = .ok (.aload_n 0, 1) := by decide +kernel
theorem dX7_bestSpeed_37 : decode cX7_bestSpeed 37 = .ok (.iload_n 1, 1) := by decide +kernel
theorem dX7_bestSpeed_38 : decode cX7_bestSpeed 38 = .ok (.invokevirtual 105, 3) := by decide +kernel
theorem dX7_bestSpeed_41 : decode cX7_bestSpeed 41 = .ok (.aload_n 0, 1) := by decide +kernel
theorem dX7_bestSpeed_42 : decode cX7_bestSpeed 42 = .ok (.iload_n 1, 1) := by decide +kernel
theorem dX7_bestSpeed_43 : decode cX7_bestSpeed 43 = .ok (.iload_n 2, 1) := by decide +kernel
theorem dX7_bestSpeed_44 : decode cX7_bestSpeed 44 = .ok (.invokevirtual 111, 3) := by decide +kernel
theorem dX7_bestSpeed_47 : decode cX7_bestSpeed 47 = .ok (.istore 4, 2) := by decide +kernel
theorem dX7_bestSpeed_49 : decode cX7_bestSpeed 49 = .ok (.aload_n 0, 1) := by decide +kernel
theorem dX7_bestSpeed_50 : decode cX7_bestSpeed 50 = .ok (.iload_n 1, 1) := by decide +kernel
theorem dX7_bestSpeed_51 : decode cX7_bestSpeed 51 = .ok (.invokevirtual 76, 3) := by decide +kernel
theorem dX7_bestSpeed_54 : decode cX7_bestSpeed 54 = .ok (.istore 5, 2) := by decide +kernel
theorem dX7_bestSpeed_56 : decode cX7_bestSpeed 56 = .ok (.iload 4, 2) := by decide +kernel
theorem dX7_bestSpeed_58 : decode cX7_bestSpeed 58 = .ok (.ldc 92, 2) := by decide +kernel
theorem dX7_bestSpeed_60 : decode cX7_bestSpeed 60 = .ok (.if_icmp .eq 17, 3) := by decide +kernel
theorem dX7_bestSpeed_63 : decode cX7_bestSpeed 63 = .ok (.iload_n 3, 1) := by decide +kernel
theorem dX7_bestSpeed_64 : decode cX7_bestSpeed 64 = .ok (.iload 5, 2) := by decide +kernel
theorem dX7_bestSpeed_66 : decode cX7_bestSpeed 66 = .ok (.aload_n 0, 1) := by decide +kernel
theorem dX7_bestSpeed_67 : decode cX7_bestSpeed 67 = .ok (.iload_n 1, 1) := by decide +kernel
theorem dX7_bestSpeed_68 : decode cX7_bestSpeed 68 = .ok (.invokevirtual 69, 3) := by decide +kernel
theorem dX7_bestSpeed_71 : decode cX7_bestSpeed 71 = .ok (.invokestatic 50, 3) := by decide +kernel
theorem dX7_bestSpeed_74 : decode cX7_bestSpeed 74 = .ok (.ifCond .ne 6, 3) := by decide +kernel
theorem dX7_bestSpeed_77 : decode cX7_bestSpeed 77 = .ok (.ldc 92, 2) := by decide +kernel
theorem dX7_bestSpeed_79 : decode cX7_bestSpeed 79 = .ok (.ireturn, 1) := by decide +kernel
theorem dX7_bestSpeed_80 : decode cX7_bestSpeed 80 = .ok (.iconst 0, 1) := by decide +kernel
theorem dX7_bestSpeed_81 : decode cX7_bestSpeed 81 = .ok (.istore 6, 2) := by decide +kernel
theorem dX7_bestSpeed_83 : decode cX7_bestSpeed 83 = .ok (.iload 5, 2) := by decide +kernel
theorem dX7_bestSpeed_85 : decode cX7_bestSpeed 85 = .ok (.istore 7, 2) := by decide +kernel
theorem dX7_bestSpeed_87 : decode cX7_bestSpeed 87 = .ok (.iload 7, 2) := by decide +kernel
theorem dX7_bestSpeed_89 : decode cX7_bestSpeed 89 = .ok (.iload_n 3, 1) := by decide +kernel
theorem dX7_bestSpeed_90 : decode cX7_bestSpeed 90 = .ok (.if_icmp .ge 50, 3) := by decide +kernel
theorem dX7_bestSpeed_93 : decode cX7_bestSpeed 93 = .ok (.iconst 0, 1) := by decide +kernel
theorem dX7_bestSpeed_94 : decode cX7_bestSpeed 94 = .ok (.istore 8, 2) := by decide +kernel
theorem dX7_bestSpeed_96 : decode cX7_bestSpeed 96 = .ok (.aload_n 0, 1) := by decide +kernel
theorem dX7_bestSpeed_97 : decode cX7_bestSpeed 97 = .ok (.iload 7, 2) := by decide +kernel
theorem dX7_bestSpeed_99 : decode cX7_bestSpeed 99 = .ok (.iload 6, 2) := by decide +kernel
theorem dX7_bestSpeed_101 : decode cX7_bestSpeed 101 = .ok (.iload 8, 2) := by decide +kernel
theorem dX7_bestSpeed_103 : decode cX7_bestSpeed 103 = .ok (.iload 4, 2) := by decide +kernel
theorem dX7_bestSpeed_105 : decode cX7_bestSpeed 105 = .ok (.invokevirtual 114, 3) := by decide +kernel
theorem dX7_bestSpeed_108 : decode cX7_bestSpeed 108 = .ok (.ifCond .ne 9, 3) := by decide +kernel
theorem dX7_bestSpeed_111 : decode cX7_bestSpeed 111 = .ok (.iinc 8 1, 3) := by decide +kernel
theorem dX7_bestSpeed_114 : decode cX7_bestSpeed 114 = .ok (.goto (-18), 3) := by decide +kernel
theorem dX7_bestSpeed_117 : decode cX7_bestSpeed 117 = .ok (.iload 4, 2) := by decide +kernel
theorem dX7_bestSpeed_119 : decode cX7_bestSpeed 119 = .ok (.bipush 60, 2) := by decide +kernel
theorem dX7_bestSpeed_121 : decode cX7_bestSpeed 121 = .ok (.iload 6, 2) := by decide +kernel
theorem dX7_bestSpeed_123 : decode cX7_bestSpeed 123 = .ok (.iload 8, 2) := by decide +kernel
theorem dX7_bestSpeed_125 : decode cX7_bestSpeed 125 = .ok (.iadd, 1) := by decide +kernel
theorem dX7_bestSpeed_126 : decode cX7_bestSpeed 126 = .ok (.idiv, 1) := by decide +kernel
theorem dX7_bestSpeed_127 : decode cX7_bestSpeed 127 = .ok (.isub, 1) := by decide +kernel
theorem dX7_bestSpeed_128 : decode cX7_bestSpeed 128 = .ok (.istore 4, 2) := by decide +kernel
theorem dX7_bestSpeed_130 : decode cX7_bestSpeed 130 = .ok (.iload 8, 2) := by decide +kernel
theorem dX7_bestSpeed_132 : decode cX7_bestSpeed 132 = .ok (.istore 6, 2) := by decide +kernel
theorem dX7_bestSpeed_134 : decode cX7_bestSpeed 134 = .ok (.iinc 7 1, 3) := by decide +kernel
theorem dX7_bestSpeed_137 : decode cX7_bestSpeed 137 = .ok (.goto (-50), 3) := by decide +kernel
theorem dX7_bestSpeed_140 : decode cX7_bestSpeed 140 = .ok (.iload 6, 2) := by decide +kernel
theorem dX7_bestSpeed_142 : decode cX7_bestSpeed 142 = .ok (.ireturn, 1) := by decide +kernel
set_option maxRecDepth 20000 in
theorem ggX7_isOn_X7_faultOf : GoodIn wsX7_isOn wsX7_faultOf := goodIn_r _ [7, 8, 9, 10, 11, 12, 6, 13, 14, 23, 24, 25, 26, 27, 28, 29, 30, 31, 32, 33, 34, 35, 36] (by decide +kernel) (by decide +kernel)
set_option maxRecDepth 20000 in
theorem gX7_isOn_X7_faultOf : GoodIn wsX7_isOn (wsV RX7 86 RX7 yX7_faultOf wsX7_faultOf) := goodIn_app (goodIn_of _ (by decide +kernel)) ggX7_isOn_X7_faultOf
set_option maxRecDepth 20000 in
theorem ggX7_isOn_X7_place : GoodIn wsX7_isOn wsX7_place := goodIn_r _ [18] (by decide +kernel) (by decide +kernel)
set_option maxRecDepth 20000 in
theorem gX7_isOn_X7_place : GoodIn wsX7_isOn (wsV RX7 96 RX7 yX7_place wsX7_place) := goodIn_app (goodIn_of _ (by decide +kernel)) ggX7_isOn_X7_place
set_option maxRecDepth 20000 in
theorem ggX7_isOn_X7_powerOf : GoodIn wsX7_isOn wsX7_powerOf := goodIn_r _ [22, 9, 10, 11, 12, 6, 13, 14, 23, 24, 25, 26, 27, 28, 29, 30, 31, 32, 33, 34, 35, 36] (by decide +kernel) (by decide +kernel)
set_option maxRecDepth 20000 in
theorem gX7_isOn_X7_powerOf : GoodIn wsX7_isOn (wsV RX7 93 RX7 yX7_powerOf wsX7_powerOf) := goodIn_app (goodIn_of _ (by decide +kernel)) ggX7_isOn_X7_powerOf
theorem dX7_isOn_0 : decode cX7_isOn 0 = .ok (.aload_n 0, 1) := by decide +kernel
theorem dX7_isOn_1 : decode cX7_isOn 1 = .ok (.iload_n 1, 1) := by decide +kernel
theorem dX7_isOn_2 : decode cX7_isOn 2 = .ok (.iload_n 2, 1) := by decide +kernel
theorem dX7_isOn_3 : decode cX7_isOn 3 = .ok (.iload_n 3, 1) := by decide +kernel
theorem dX7_isOn_4 : decode cX7_isOn 4 = .ok (.invokevirtual 86, 3) := by decide +kernel
theorem dX7_isOn_7 : decode cX7_isOn 7 = .ok (.ifCond .ne 14, 3) := by decide +kernel
theorem dX7_isOn_10 : decode cX7_isOn 10 = .ok (.bipush 60, 2) := by decide +kernel
theorem dX7_isOn_12 : decode cX7_isOn 12 = .ok (.iload_n 2, 1) := by decide +kernel
theorem dX7_isOn_13 : decode cX7_isOn 13 = .ok (.iload_n 3, 1) := by decide +kernel
theorem dX7_isOn_14 : decode cX7_isOn 14 = .ok (.iadd, 1) := by decide +kernel
theorem dX7_isOn_15 : decode cX7_isOn 15 = .ok (.idiv, 1) := by decide +kernel
theorem dX7_isOn_16 : decode cX7_isOn 16 = .ok (.iload 4, 2) := by decide +kernel
theorem dX7_isOn_18 : decode cX7_isOn 18 = .ok (.if_icmp .le 5, 3) := by decide +kernel
theorem dX7_isOn_21 : decode cX7_isOn 21 = .ok (.iconst 0, 1) := by decide +kernel
theorem dX7_isOn_22 : decode cX7_isOn 22 = .ok (.ireturn, 1) := by decide +kernel
theorem dX7_isOn_23 : decode cX7_isOn 23 = .ok (.aload_n 0, 1) := by decide +kernel
theorem dX7_isOn_24 : decode cX7_isOn 24 = .ok (.getfield 31, 3) := by decide +kernel
theorem dX7_isOn_27 : decode cX7_isOn 27 = .ok (.aload_n 0, 1) := by decide +kernel
theorem dX7_isOn_28 : decode cX7_isOn 28 = .ok (.iload_n 1, 1) := by decide +kernel
theorem dX7_isOn_29 : decode cX7_isOn 29 = .ok (.iconst 1, 1) := by decide +kernel
theorem dX7_isOn_30 : decode cX7_isOn 30 = .ok (.iadd, 1) := by decide +kernel
theorem dX7_isOn_31 : decode cX7_isOn 31 = .ok (.iload_n 3, 1) := by decide +kernel
theorem dX7_isOn_32 : decode cX7_isOn 32 = .ok (.invokevirtual 96, 3) := by decide +kernel
theorem dX7_isOn_35 : decode cX7_isOn 35 = .ok (.iload 4, 2) := by decide +kernel
theorem dX7_isOn_37 : decode cX7_isOn 37 = .ok (.iadd, 1) := by decide +kernel
theorem dX7_isOn_38 : decode cX7_isOn 38 = .ok (.bipush 60, 2) := by decide +kernel
theorem dX7_isOn_40 : decode cX7_isOn 40 = .ok (.iload_n 2, 1) := by decide +kernel
theorem dX7_isOn_41 : decode cX7_isOn 41 = .ok (.iload_n 3, 1) := by decide +kernel
theorem dX7_isOn_42 : decode cX7_isOn 42 = .ok (.iadd, 1) := by decide +kernel
theorem dX7_isOn_43 : decode cX7_isOn 43 = .ok (.idiv, 1) := by decide +kernel
theorem dX7_isOn_44 : decode cX7_isOn 44 = .ok (.isub, 1) := by decide +kernel
theorem dX7_isOn_45 : decode cX7_isOn 45 = .ok (.iaload, 1) := by decide +kernel
theorem dX7_isOn_46 : decode cX7_isOn 46 = .ok (.istore 5, 2) := by decide +kernel
theorem dX7_isOn_48 : decode cX7_isOn 48 = .ok (.iload 5, 2) := by decide +kernel
theorem dX7_isOn_50 : decode cX7_isOn 50 = .ok (.ldc 100, 2) := by decide +kernel
theorem dX7_isOn_52 : decode cX7_isOn 52 = .ok (.if_icmp .ge 34, 3) := by decide +kernel
theorem dX7_isOn_55 : decode cX7_isOn 55 = .ok (.aload_n 0, 1) := by decide +kernel
theorem dX7_isOn_56 : decode cX7_isOn 56 = .ok (.iload_n 1, 1) := by decide +kernel
theorem dX7_isOn_57 : decode cX7_isOn 57 = .ok (.iload_n 2, 1) := by decide +kernel
theorem dX7_isOn_58 : decode cX7_isOn 58 = .ok (.iload_n 3, 1) := by decide +kernel
theorem dX7_isOn_59 : decode cX7_isOn 59 = .ok (.invokevirtual 93, 3) := by decide +kernel
theorem dX7_isOn_62 : decode cX7_isOn 62 = .ok (.iload 5, 2) := by decide +kernel
theorem dX7_isOn_64 : decode cX7_isOn 64 = .ok (.iadd, 1) := by decide +kernel
theorem dX7_isOn_65 : decode cX7_isOn 65 = .ok (.aload_n 0, 1) := by decide +kernel
theorem dX7_isOn_66 : decode cX7_isOn 66 = .ok (.getfield 31, 3) := by decide +kernel
theorem dX7_isOn_69 : decode cX7_isOn 69 = .ok (.aload_n 0, 1) := by decide +kernel
theorem dX7_isOn_70 : decode cX7_isOn 70 = .ok (.iload_n 1, 1) := by decide +kernel
theorem dX7_isOn_71 : decode cX7_isOn 71 = .ok (.iload_n 2, 1) := by decide +kernel
theorem dX7_isOn_72 : decode cX7_isOn 72 = .ok (.invokevirtual 96, 3) := by decide +kernel
theorem dX7_isOn_75 : decode cX7_isOn 75 = .ok (.iload 4, 2) := by decide +kernel
theorem dX7_isOn_77 : decode cX7_isOn 77 = .ok (.iadd, 1) := by decide +kernel
theorem dX7_isOn_78 : decode cX7_isOn 78 = .ok (.iaload, 1) := by decide +kernel
theorem dX7_isOn_79 : decode cX7_isOn 79 = .ok (.if_icmp .ne 7, 3) := by decide +kernel
theorem dX7_isOn_82 : decode cX7_isOn 82 = .ok (.iconst 1, 1) := by decide +kernel
theorem dX7_isOn_83 : decode cX7_isOn 83 = .ok (.goto 4, 3) := by decide +kernel
theorem dX7_isOn_86 : decode cX7_isOn 86 = .ok (.iconst 0, 1) := by decide +kernel
theorem dX7_isOn_87 : decode cX7_isOn 87 = .ok (.ireturn, 1) := by decide +kernel
set_option maxRecDepth 20000 in
theorem ggX7_draw_X7_work : GoodIn wsX7_draw wsX7_work := goodIn_r _ [10, 2, 3, 11, 12, 13, 9, 14, 15, 16, 17, 18, 19, 20, 21, 22, 23, 24, 25, 26, 27, 28, 29, 30, 31, 32, 33, 34, 35, 36, 37, 38, 39, 40, 41, 42, 43, 44, 45, 46, 47, 48, 49, 50, 51, 52, 53, 54, 55, 56] (by decide +kernel) (by decide +kernel)
set_option maxRecDepth 20000 in
theorem gX7_draw_X7_work : GoodIn wsX7_draw (wsV RX7 105 RX7 yX7_work wsX7_work) := goodIn_app (goodIn_of _ (by decide +kernel)) ggX7_draw_X7_work
set_option maxRecDepth 20000 in
theorem ggX7_draw_X7_firstOf : GoodIn wsX7_draw wsX7_firstOf := goodIn_r _ [14, 15, 16, 17, 9, 18, 19, 43, 44, 45, 46, 47, 48, 49, 50, 51, 52, 53, 54, 55, 56] (by decide +kernel) (by decide +kernel)
set_option maxRecDepth 20000 in
theorem gX7_draw_X7_firstOf : GoodIn wsX7_draw (wsV RX7 76 RX7 yX7_firstOf wsX7_firstOf) := goodIn_app (goodIn_of _ (by decide +kernel)) ggX7_draw_X7_firstOf
set_option maxRecDepth 20000 in
theorem ggX7_draw_X7_place : GoodIn wsX7_draw wsX7_place := goodIn_r _ [23] (by decide +kernel) (by decide +kernel)
set_option maxRecDepth 20000 in
theorem gX7_draw_X7_place : GoodIn wsX7_draw (wsV RX7 96 RX7 yX7_place wsX7_place) := goodIn_app (goodIn_of _ (by decide +kernel)) ggX7_draw_X7_place
theorem dX7_draw_0 : decode cX7_draw 0 = .ok (.aload_n 0, 1) := by decide +kernel
theorem dX7_draw_1 : decode cX7_draw 1 = .ok (.iload_n 1, 1) := by decide +kernel
theorem dX7_draw_2 : decode cX7_draw 2 = .ok (.invokevirtual 105, 3) := by decide +kernel
theorem dX7_draw_5 : decode cX7_draw 5 = .ok (.aload_n 0, 1) := by decide +kernel
theorem dX7_draw_6 : decode cX7_draw 6 = .ok (.aload_n 0, 1) := by decide +kernel
theorem dX7_draw_7 : decode cX7_draw 7 = .ok (.iload_n 1, 1) := by decide +kernel
theorem dX7_draw_8 : decode cX7_draw 8 = .ok (.invokevirtual 76, 3) := by decide +kernel
theorem dX7_draw_11 : decode cX7_draw 11 = .ok (.iconst 0, 1) := by decide +kernel
theorem dX7_draw_12 : decode cX7_draw 12 = .ok (.invokevirtual 96, 3) := by decide +kernel
theorem dX7_draw_15 : decode cX7_draw 15 = .ok (.istore_n 2, 1) := by decide +kernel
theorem dX7_draw_16 : decode cX7_draw 16 = .ok (.aload_n 0, 1) := by decide +kernel
theorem dX7_draw_17 : decode cX7_draw 17 = .ok (.iconst 0, 1) := by decide +kernel
theorem dX7_draw_18 : decode cX7_draw 18 = .ok (.putfield 118, 3) := by decide +kernel
theorem dX7_draw_21 : decode cX7_draw 21 = .ok (.iconst 0, 1) := by decide +kernel
theorem dX7_draw_22 : decode cX7_draw 22 = .ok (.istore_n 3, 1) := by decide +kernel
theorem dX7_draw_23 : decode cX7_draw 23 = .ok (.iload_n 3, 1) := by decide +kernel
theorem dX7_draw_24 : decode cX7_draw 24 = .ok (.sipush 1001, 3) := by decide +kernel
theorem dX7_draw_27 : decode cX7_draw 27 = .ok (.if_icmp .ge 88, 3) := by decide +kernel
theorem dX7_draw_30 : decode cX7_draw 30 = .ok (.aload_n 0, 1) := by decide +kernel
theorem dX7_draw_31 : decode cX7_draw 31 = .ok (.getfield 31, 3) := by decide +kernel
theorem dX7_draw_34 : decode cX7_draw 34 = .ok (.iload_n 2, 1) := by decide +kernel
theorem dX7_draw_35 : decode cX7_draw 35 = .ok (.iload_n 3, 1) := by decide +kernel
theorem dX7_draw_36 : decode cX7_draw 36 = .ok (.iadd, 1) := by decide +kernel
theorem dX7_draw_37 : decode cX7_draw 37 = .ok (.iaload, 1) := by decide +kernel
theorem dX7_draw_38 : decode cX7_draw 38 = .ok (.ldc 100, 2) := by decide +kernel
theorem dX7_draw_40 : decode cX7_draw 40 = .ok (.if_icmp .ge 69, 3) := by decide +kernel
theorem dX7_draw_43 : decode cX7_draw 43 = .ok (.aload_n 0, 1) := by decide +kernel
theorem dX7_draw_44 : decode cX7_draw 44 = .ok (.getfield 118, 3) := by decide +kernel
theorem dX7_draw_47 : decode cX7_draw 47 = .ok (.ifCond .eq 25, 3) := by decide +kernel
theorem dX7_draw_50 : decode cX7_draw 50 = .ok (.aload_n 0, 1) := by decide +kernel
theorem dX7_draw_51 : decode cX7_draw 51 = .ok (.getfield 31, 3) := by decide +kernel
theorem dX7_draw_54 : decode cX7_draw 54 = .ok (.iload_n 2, 1) := by decide +kernel
theorem dX7_draw_55 : decode cX7_draw 55 = .ok (.iload_n 3, 1) := by decide +kernel
theorem dX7_draw_56 : decode cX7_draw 56 = .ok (.iadd, 1) := by decide +kernel
theorem dX7_draw_57 : decode cX7_draw 57 = .ok (.iaload, 1) := by decide +kernel
theorem dX7_draw_58 : decode cX7_draw 58 = .ok (.aload_n 0, 1) := by decide +kernel
theorem dX7_draw_59 : decode cX7_draw 59 = .ok (.getfield 37, 3) := by decide +kernel
theorem dX7_draw_62 : decode cX7_draw 62 = .ok (.aload_n 0, 1) := by decide +kernel
theorem dX7_draw_63 : decode cX7_draw 63 = .ok (.getfield 118, 3) := by decide +kernel
theorem dX7_draw_66 : decode cX7_draw 66 = .ok (.iconst 1, 1) := by decide +kernel
theorem dX7_draw_67 : decode cX7_draw 67 = .ok (.isub, 1) := by decide +kernel
theorem dX7_draw_68 : decode cX7_draw 68 = .ok (.iaload, 1) := by decide +kernel
theorem dX7_draw_69 : decode cX7_draw 69 = .ok (.if_icmp .ge 40, 3) := by decide +kernel
theorem dX7_draw_72 : decode cX7_draw 72 = .ok (.aload_n 0, 1) := by decide +kernel
theorem dX7_draw_73 : decode cX7_draw 73 = .ok (.getfield 34, 3) := by decide +kernel
theorem dX7_draw_76 : decode cX7_draw 76 = .ok (.aload_n 0, 1) := by decide +kernel
theorem dX7_draw_77 : decode cX7_draw 77 = .ok (.getfield 118, 3) := by decide +kernel
theorem dX7_draw_80 : decode cX7_draw 80 = .ok (.iload_n 3, 1) := by decide +kernel
theorem dX7_draw_81 : decode cX7_draw 81 = .ok (.iastore, 1) := by decide +kernel
theorem dX7_draw_82 : decode cX7_draw 82 = .ok (.aload_n 0, 1) := by decide +kernel
theorem dX7_draw_83 : decode cX7_draw 83 = .ok (.getfield 37, 3) := by decide +kernel
theorem dX7_draw_86 : decode cX7_draw 86 = .ok (.aload_n 0, 1) := by decide +kernel
theorem dX7_draw_87 : decode cX7_draw 87 = .ok (.getfield 118, 3) := by decide +kernel
theorem dX7_draw_90 : decode cX7_draw 90 = .ok (.aload_n 0, 1) := by decide +kernel
theorem dX7_draw_91 : decode cX7_draw 91 = .ok (.getfield 31, 3) := by decide +kernel
theorem dX7_draw_94 : decode cX7_draw 94 = .ok (.iload_n 2, 1) := by decide +kernel
theorem dX7_draw_95 : decode cX7_draw 95 = .ok (.iload_n 3, 1) := by decide +kernel
theorem dX7_draw_96 : decode cX7_draw 96 = .ok (.iadd, 1) := by decide +kernel
theorem dX7_draw_97 : decode cX7_draw 97 = .ok (.iaload, 1) := by decide +kernel
theorem dX7_draw_98 : decode cX7_draw 98 = .ok (.iastore, 1) := by decide +kernel
theorem dX7_draw_99 : decode cX7_draw 99 = .ok (.aload_n 0, 1) := by decide +kernel
theorem dX7_draw_100 : decode cX7_draw 100 = .ok (.dup, 1) := by decide +kernel
theorem dX7_draw_101 : decode cX7_draw 101 = .ok (.getfield 118, 3) := by decide +kernel
theorem dX7_draw_104 : decode cX7_draw 104 = .ok (.iconst 1, 1) := by decide +kernel
theorem dX7_draw_105 : decode cX7_draw 105 = .ok (.iadd, 1) := by decide +kernel
theorem dX7_draw_106 : decode cX7_draw 106 = .ok (.putfield 118, 3) := by decide +kernel
theorem dX7_draw_109 : decode cX7_draw 109 = .ok (.iinc 3 1, 3) := by decide +kernel
theorem dX7_draw_112 : decode cX7_draw 112 = .ok (.goto (-89), 3) := by decide +kernel
theorem dX7_draw_115 : decode cX7_draw 115 = .ok (.return_, 1) := by decide +kernel
set_option maxRecDepth 20000 in
theorem ggX7_curve_X7_isLeg : GoodIn wsX7_curve wsX7_isLeg := goodIn_r _ [6, 7, 8, 9, 5, 10, 11, 12, 13, 14, 15, 59, 60, 61, 62, 63, 64, 65, 66, 67, 68, 69, 70, 71, 72] (by decide +kernel) (by decide +kernel)
set_option maxRecDepth 20000 in
theorem gX7_curve_X7_isLeg : GoodIn wsX7_curve (wsV RX7 73 RX7 yX7_isLeg wsX7_isLeg) := goodIn_app (goodIn_of _ (by decide +kernel)) ggX7_curve_X7_isLeg
set_option maxRecDepth 20000 in
theorem ggX7_curve_X7_draw : GoodIn wsX7_curve wsX7_draw := goodIn_r _ [19, 1, 20, 21, 22, 23, 24, 25, 26, 5, 27, 28, 29, 30, 31, 32, 33, 34, 35, 12, 36, 37, 38, 39, 40, 41, 42, 43, 44, 45, 46, 47, 48, 49, 50, 51, 52, 53, 54, 55, 56, 57, 58, 59, 60, 61, 62, 63, 64, 65, 66, 67, 68, 69, 70, 71, 72] (by decide +kernel) (by decide +kernel)
set_option maxRecDepth 20000 in
theorem gX7_curve_X7_draw : GoodIn wsX7_curve (wsV RX7 121 RX7 yX7_draw wsX7_draw) := goodIn_app (goodIn_of _ (by decide +kernel)) ggX7_curve_X7_draw
theorem dX7_curve_0 : decode cX7_curve 0 = .ok (.aload_n 0, 1) := by decide +kernel
theorem dX7_curve_1 : decode cX7_curve 1 = .ok (.iload_n 1, 1) := by decide +kernel
theorem dX7_curve_2 : decode cX7_curve 2 = .ok (.invokevirtual 73, 3) := by decide +kernel
theorem dX7_curve_5 : decode cX7_curve 5 = .ok (.ifCond .ne 5, 3) := by decide +kernel
theorem dX7_curve_8 : decode cX7_curve 8 = .ok (.iconst (-1), 1) := by decide +kernel
theorem dX7_curve_9 : decode cX7_curve 9 = .ok (.ireturn, 1) := by decide +kernel
theorem dX7_curve_10 : decode cX7_curve 10 = .ok (.aload_n 0, 1) := by decide +kernel
theorem dX7_curve_11 : decode cX7_curve 11 = .ok (.iload_n 1, 1) := by decide +kernel
theorem dX7_curve_12 : decode cX7_curve 12 = .ok (.invokevirtual 121, 3) := by decide +kernel
theorem dX7_curve_15 : decode cX7_curve 15 = .ok (.aload_n 0, 1) := by decide +kernel
theorem dX7_curve_16 : decode cX7_curve 16 = .ok (.getfield 118, 3) := by decide +kernel
theorem dX7_curve_19 : decode cX7_curve 19 = .ok (.ireturn, 1) := by decide +kernel
set_option maxRecDepth 20000 in
theorem ggX7_point_X7_isLeg : GoodIn wsX7_point wsX7_isLeg := goodIn_r _ [9, 10, 11, 12, 8, 13, 14, 15, 16, 17, 18, 60, 61, 62, 63, 64, 65, 66, 67, 68, 69, 70, 71, 72, 73] (by decide +kernel) (by decide +kernel)
set_option maxRecDepth 20000 in
theorem gX7_point_X7_isLeg : GoodIn wsX7_point (wsV RX7 73 RX7 yX7_isLeg wsX7_isLeg) := goodIn_app (goodIn_of _ (by decide +kernel)) ggX7_point_X7_isLeg
set_option maxRecDepth 20000 in
theorem ggX7_point_X7_draw : GoodIn wsX7_point wsX7_draw := goodIn_r _ [22, 1, 23, 24, 3, 4, 25, 26, 27, 8, 28, 29, 30, 31, 32, 33, 34, 35, 36, 15, 37, 38, 39, 40, 41, 42, 43, 44, 45, 46, 47, 48, 49, 50, 51, 52, 53, 54, 55, 56, 57, 58, 59, 60, 61, 62, 63, 64, 65, 66, 67, 68, 69, 70, 71, 72, 73] (by decide +kernel) (by decide +kernel)
set_option maxRecDepth 20000 in
theorem gX7_point_X7_draw : GoodIn wsX7_point (wsV RX7 121 RX7 yX7_draw wsX7_draw) := goodIn_app (goodIn_of _ (by decide +kernel)) ggX7_point_X7_draw
set_option maxRecDepth 20000 in
theorem ggX7_point_X7_in : GoodIn wsX7_point wsX7_in := goodIn_r _ [18] (by decide +kernel) (by decide +kernel)
set_option maxRecDepth 20000 in
theorem gX7_point_X7_in : GoodIn wsX7_point (va_wsS RX7 50 yX7_in wsX7_in) := goodIn_app (goodIn_of _ (by decide +kernel)) ggX7_point_X7_in
theorem dX7_point_0 : decode cX7_point 0 = .ok (.aload_n 0, 1) := by decide +kernel
theorem dX7_point_1 : decode cX7_point 1 = .ok (.iload_n 1, 1) := by decide +kernel
theorem dX7_point_2 : decode cX7_point 2 = .ok (.invokevirtual 73, 3) := by decide +kernel
theorem dX7_point_5 : decode cX7_point 5 = .ok (.ifCond .ne 5, 3) := by decide +kernel
theorem dX7_point_8 : decode cX7_point 8 = .ok (.iconst (-1), 1) := by decide +kernel
theorem dX7_point_9 : decode cX7_point 9 = .ok (.ireturn, 1) := by decide +kernel
theorem dX7_point_10 : decode cX7_point 10 = .ok (.aload_n 0, 1) := by decide +kernel
theorem dX7_point_11 : decode cX7_point 11 = .ok (.iload_n 1, 1) := by decide +kernel
theorem dX7_point_12 : decode cX7_point 12 = .ok (.invokevirtual 121, 3) := by decide +kernel
theorem dX7_point_15 : decode cX7_point 15 = .ok (.iload_n 2, 1) := by decide +kernel
theorem dX7_point_16 : decode cX7_point 16 = .ok (.iconst 0, 1) := by decide +kernel
theorem dX7_point_17 : decode cX7_point 17 = .ok (.aload_n 0, 1) := by decide +kernel
theorem dX7_point_18 : decode cX7_point 18 = .ok (.getfield 118, 3) := by decide +kernel
theorem dX7_point_21 : decode cX7_point 21 = .ok (.iconst 1, 1) := by decide +kernel
theorem dX7_point_22 : decode cX7_point 22 = .ok (.isub, 1) := by decide +kernel
theorem dX7_point_23 : decode cX7_point 23 = .ok (.invokestatic 50, 3) := by decide +kernel
theorem dX7_point_26 : decode cX7_point 26 = .ok (.ifCond .ne 8, 3) := by decide +kernel
theorem dX7_point_29 : decode cX7_point 29 = .ok (.ldc 92, 2) := by decide +kernel
theorem dX7_point_31 : decode cX7_point 31 = .ok (.goto 22, 3) := by decide +kernel
theorem dX7_point_34 : decode cX7_point 34 = .ok (.iload_n 3, 1) := by decide +kernel
theorem dX7_point_35 : decode cX7_point 35 = .ok (.ifCond .eq 12, 3) := by decide +kernel
theorem dX7_point_38 : decode cX7_point 38 = .ok (.aload_n 0, 1) := by decide +kernel
theorem dX7_point_39 : decode cX7_point 39 = .ok (.getfield 37, 3) := by decide +kernel
theorem dX7_point_42 : decode cX7_point 42 = .ok (.iload_n 2, 1) := by decide +kernel
theorem dX7_point_43 : decode cX7_point 43 = .ok (.iaload, 1) := by decide +kernel
theorem dX7_point_44 : decode cX7_point 44 = .ok (.goto 9, 3) := by decide +kernel
theorem dX7_point_47 : decode cX7_point 47 = .ok (.aload_n 0, 1) := by decide +kernel
theorem dX7_point_48 : decode cX7_point 48 = .ok (.getfield 34, 3) := by decide +kernel
theorem dX7_point_51 : decode cX7_point 51 = .ok (.iload_n 2, 1) := by decide +kernel
theorem dX7_point_52 : decode cX7_point 52 = .ok (.iaload, 1) := by decide +kernel
theorem dX7_point_53 : decode cX7_point 53 = .ok (.ireturn, 1) := by decide +kernel
set_option maxRecDepth 20000 in
theorem ggX7_shareAll_X7_legs : GoodIn wsX7_shareAll wsX7_legs := goodIn_r _ [13, 14, 15, 56, 57, 58, 59, 60, 61, 62, 63, 64, 65, 66, 67, 68, 69] (by decide +kernel) (by decide +kernel)
set_option maxRecDepth 20000 in
theorem gX7_shareAll_X7_legs : GoodIn wsX7_shareAll (wsV RX7 65 RX7 yX7_legs wsX7_legs) := goodIn_app (goodIn_of _ (by decide +kernel)) ggX7_shareAll_X7_legs
set_option maxRecDepth 20000 in
theorem ggX7_shareAll_X7_draw : GoodIn wsX7_shareAll wsX7_draw := goodIn_r _ [19, 6, 20, 3, 8, 7, 21, 22, 23, 12, 24, 25, 26, 27, 28, 29, 30, 31, 32, 15, 33, 34, 35, 36, 37, 38, 39, 40, 41, 42, 43, 44, 45, 46, 47, 48, 49, 50, 51, 52, 53, 54, 55, 56, 57, 58, 59, 60, 61, 62, 63, 64, 65, 66, 67, 68, 69] (by decide +kernel) (by decide +kernel)
set_option maxRecDepth 20000 in
theorem gX7_shareAll_X7_draw : GoodIn wsX7_shareAll (wsV RX7 121 RX7 yX7_draw wsX7_draw) := goodIn_app (goodIn_of _ (by decide +kernel)) ggX7_shareAll_X7_draw
theorem dX7_shareAll_0 : decode cX7_shareAll 0 = .ok (.aload_n 0, 1) := by decide +kernel
theorem dX7_shareAll_1 : decode cX7_shareAll 1 = .ok (.getfield 57, 3) := by decide +kernel
theorem dX7_shareAll_4 : decode cX7_shareAll 4 = .ok (.ifCond .eq 4, 3) := by decide +kernel
theorem dX7_shareAll_7 : decode cX7_shareAll 7 = .ok (.return_, 1) := by decide +kernel
theorem dX7_shareAll_8 : decode cX7_shareAll 8 = .ok (.aload_n 0, 1) := by decide +kernel
theorem dX7_shareAll_9 : decode cX7_shareAll 9 = .ok (.iconst 1, 1) := by decide +kernel
theorem dX7_shareAll_10 : decode cX7_shareAll 10 = .ok (.putfield 57, 3) := by decide +kernel
theorem dX7_shareAll_13 : decode cX7_shareAll 13 = .ok (.aload_n 0, 1) := by decide +kernel
theorem dX7_shareAll_14 : decode cX7_shareAll 14 = .ok (.invokevirtual 65, 3) := by decide +kernel
theorem dX7_shareAll_17 : decode cX7_shareAll 17 = .ok (.istore_n 1, 1) := by decide +kernel
theorem dX7_shareAll_18 : decode cX7_shareAll 18 = .ok (.iconst 0, 1) := by decide +kernel
theorem dX7_shareAll_19 : decode cX7_shareAll 19 = .ok (.istore_n 2, 1) := by decide +kernel
theorem dX7_shareAll_20 : decode cX7_shareAll 20 = .ok (.iload_n 2, 1) := by decide +kernel
theorem dX7_shareAll_21 : decode cX7_shareAll 21 = .ok (.sipush 1001, 3) := by decide +kernel
theorem dX7_shareAll_24 : decode cX7_shareAll 24 = .ok (.if_icmp .ge 22, 3) := by decide +kernel
theorem dX7_shareAll_27 : decode cX7_shareAll 27 = .ok (.aload_n 0, 1) := by decide +kernel
theorem dX7_shareAll_28 : decode cX7_shareAll 28 = .ok (.getfield 40, 3) := by decide +kernel
theorem dX7_shareAll_31 : decode cX7_shareAll 31 = .ok (.sipush 1001, 3) := by decide +kernel
theorem dX7_shareAll_34 : decode cX7_shareAll 34 = .ok (.iload_n 1, 1) := by decide +kernel
theorem dX7_shareAll_35 : decode cX7_shareAll 35 = .ok (.imul, 1) := by decide +kernel
theorem dX7_shareAll_36 : decode cX7_shareAll 36 = .ok (.iload_n 2, 1) := by decide +kernel
theorem dX7_shareAll_37 : decode cX7_shareAll 37 = .ok (.iadd, 1) := by decide +kernel
theorem dX7_shareAll_38 : decode cX7_shareAll 38 = .ok (.iconst 0, 1) := by decide +kernel
theorem dX7_shareAll_39 : decode cX7_shareAll 39 = .ok (.iastore, 1) := by decide +kernel
theorem dX7_shareAll_40 : decode cX7_shareAll 40 = .ok (.iinc 2 1, 3) := by decide +kernel
theorem dX7_shareAll_43 : decode cX7_shareAll 43 = .ok (.goto (-23), 3) := by decide +kernel
theorem dX7_shareAll_46 : decode cX7_shareAll 46 = .ok (.iload_n 1, 1) := by decide +kernel
theorem dX7_shareAll_47 : decode cX7_shareAll 47 = .ok (.iconst 1, 1) := by decide +kernel
theorem dX7_shareAll_48 : decode cX7_shareAll 48 = .ok (.isub, 1) := by decide +kernel
theorem dX7_shareAll_49 : decode cX7_shareAll 49 = .ok (.istore_n 2, 1) := by decide +kernel
theorem dX7_shareAll_50 : decode cX7_shareAll 50 = .ok (.iload_n 2, 1) := by decide +kernel
theorem dX7_shareAll_51 : decode cX7_shareAll 51 = .ok (.ifCond .lt 183, 3) := by decide +kernel
theorem dX7_shareAll_54 : decode cX7_shareAll 54 = .ok (.aload_n 0, 1) := by decide +kernel
theorem dX7_shareAll_55 : decode cX7_shareAll 55 = .ok (.iload_n 2, 1) := by decide +kernel
theorem dX7_shareAll_56 : decode cX7_shareAll 56 = .ok (.invokevirtual 121, 3) := by decide +kernel
theorem dX7_shareAll_59 : decode cX7_shareAll 59 = .ok (.iconst 0, 1) := by decide +kernel
theorem dX7_shareAll_60 : decode cX7_shareAll 60 = .ok (.istore_n 3, 1) := by decide +kernel
theorem dX7_shareAll_61 : decode cX7_shareAll 61 = .ok (.iload_n 3, 1) := by decide +kernel
theorem dX7_shareAll_62 : decode cX7_shareAll 62 = .ok (.sipush 1001, 3) := by decide +kernel
theorem dX7_shareAll_65 : decode cX7_shareAll 65 = .ok (.if_icmp .ge 163, 3) := by decide +kernel
theorem dX7_shareAll_68 : decode cX7_shareAll 68 = .ok (.aload_n 0, 1) := by decide +kernel
theorem dX7_shareAll_69 : decode cX7_shareAll 69 = .ok (.getfield 40, 3) := by decide +kernel
theorem dX7_shareAll_72 : decode cX7_shareAll 72 = .ok (.sipush 1001, 3) := by decide +kernel
theorem dX7_shareAll_75 : decode cX7_shareAll 75 = .ok (.iload_n 2, 1) := by decide +kernel
theorem dX7_shareAll_76 : decode cX7_shareAll 76 = .ok (.imul, 1) := by decide +kernel
theorem dX7_shareAll_77 : decode cX7_shareAll 77 = .ok (.iload_n 3, 1) := by decide +kernel
theorem dX7_shareAll_78 : decode cX7_shareAll 78 = .ok (.iadd, 1) := by decide +kernel
theorem dX7_shareAll_79 : decode cX7_shareAll 79 = .ok (.ldc 100, 2) := by decide +kernel
theorem dX7_shareAll_81 : decode cX7_shareAll 81 = .ok (.iastore, 1) := by decide +kernel
theorem dX7_shareAll_82 : decode cX7_shareAll 82 = .ok (.aload_n 0, 1) := by decide +kernel
theorem dX7_shareAll_83 : decode cX7_shareAll 83 = .ok (.getfield 43, 3) := by decide +kernel
theorem dX7_shareAll_86 : decode cX7_shareAll 86 = .ok (.sipush 1001, 3) := by decide +kernel
theorem dX7_shareAll_89 : decode cX7_shareAll 89 = .ok (.iload_n 2, 1) := by decide +kernel
theorem dX7_shareAll_90 : decode cX7_shareAll 90 = .ok (.imul, 1) := by decide +kernel
theorem dX7_shareAll_91 : decode cX7_shareAll 91 = .ok (.iload_n 3, 1) := by decide +kernel
theorem dX7_shareAll_92 : decode cX7_shareAll 92 = .ok (.iadd, 1) := by decide +kernel
theorem dX7_shareAll_93 : decode cX7_shareAll 93 = .ok (.ldc 92, 2) := by decide +kernel
theorem dX7_shareAll_95 : decode cX7_shareAll 95 = .ok (.iastore, 1) := by decide +kernel
theorem dX7_shareAll_96 : decode cX7_shareAll 96 = .ok (.iconst 0, 1) := by decide +kernel
theorem dX7_shareAll_97 : decode cX7_shareAll 97 = .ok (.istore 4, 2) := by decide +kernel
theorem dX7_shareAll_99 : decode cX7_shareAll 99 = .ok (.iload 4, 2) := by decide +kernel
theorem dX7_shareAll_101 : decode cX7_shareAll 101 = .ok (.aload_n 0, 1) := by decide +kernel
theorem dX7_shareAll_102 : decode cX7_shareAll 102 = .ok (.getfield 118, 3) := by decide +kernel
theorem dX7_shareAll_105 : decode cX7_shareAll 105 = .ok (.if_icmp .ge 117, 3) := by decide +kernel
theorem dX7_shareAll_108 : decode cX7_shareAll 108 = .ok (.aload_n 0, 1) := by decide +kernel
theorem dX7_shareAll_109 : decode cX7_shareAll 109 = .ok (.getfield 34, 3) := by decide +kernel
theorem dX7_shareAll_112 : decode cX7_shareAll 112 = .ok (.iload 4, 2) := by decide +kernel
theorem dX7_shareAll_114 : decode cX7_shareAll 114 = .ok (.iaload, 1) := by decide +kernel
theorem dX7_shareAll_115 : decode cX7_shareAll 115 = .ok (.iload_n 3, 1) := by decide +kernel
theorem dX7_shareAll_116 : decode cX7_shareAll 116 = .ok (.if_icmp .gt 106, 3) := by decide +kernel
theorem dX7_shareAll_119 : decode cX7_shareAll 119 = .ok (.aload_n 0, 1) := by decide +kernel
theorem dX7_shareAll_120 : decode cX7_shareAll 120 = .ok (.getfield 40, 3) := by decide +kernel
theorem dX7_shareAll_123 : decode cX7_shareAll 123 = .ok (.sipush 1001, 3) := by decide +kernel
theorem dX7_shareAll_126 : decode cX7_shareAll 126 = .ok (.iload_n 2, 1) := by decide +kernel
theorem dX7_shareAll_127 : decode cX7_shareAll 127 = .ok (.iconst 1, 1) := by decide +kernel
theorem dX7_shareAll_128 : decode cX7_shareAll 128 = .ok (.iadd, 1) := by decide +kernel
theorem dX7_shareAll_129 : decode cX7_shareAll 129 = .ok (.imul, 1) := by decide +kernel
theorem dX7_shareAll_130 : decode cX7_shareAll 130 = .ok (.iload_n 3, 1) := by decide +kernel
theorem dX7_shareAll_131 : decode cX7_shareAll 131 = .ok (.iadd, 1) := by decide +kernel
theorem dX7_shareAll_132 : decode cX7_shareAll 132 = .ok (.aload_n 0, 1) := by decide +kernel
theorem dX7_shareAll_133 : decode cX7_shareAll 133 = .ok (.getfield 34, 3) := by decide +kernel
theorem dX7_shareAll_136 : decode cX7_shareAll 136 = .ok (.iload 4, 2) := by decide +kernel
theorem dX7_shareAll_138 : decode cX7_shareAll 138 = .ok (.iaload, 1) := by decide +kernel
theorem dX7_shareAll_139 : decode cX7_shareAll 139 = .ok (.isub, 1) := by decide +kernel
theorem dX7_shareAll_140 : decode cX7_shareAll 140 = .ok (.iaload, 1) := by decide +kernel
theorem dX7_shareAll_141 : decode cX7_shareAll 141 = .ok (.istore 5, 2) := by decide +kernel
theorem dX7_shareAll_143 : decode cX7_shareAll 143 = .ok (.iload 5, 2) := by decide +kernel
theorem dX7_shareAll_145 : decode cX7_shareAll 145 = .ok (.ldc 100, 2) := by decide +kernel
theorem dX7_shareAll_147 : decode cX7_shareAll 147 = .ok (.if_icmp .ge 69, 3) := by decide +kernel
theorem dX7_shareAll_150 : decode cX7_shareAll 150 = .ok (.aload_n 0, 1) := by decide +kernel
theorem dX7_shareAll_151 : decode cX7_shareAll 151 = .ok (.getfield 37, 3) := by decide +kernel
theorem dX7_shareAll_154 : decode cX7_shareAll 154 = .ok (.iload 4, 2) := by decide +kernel
theorem dX7_shareAll_156 : decode cX7_shareAll 156 = .ok (.iaload, 1) := by decide +kernel
theorem dX7_shareAll_157 : decode cX7_shareAll 157 = .ok (.iload 5, 2) := by decide +kernel
theorem dX7_shareAll_159 : decode cX7_shareAll 159 = .ok (.iadd, 1) := by decide +kernel
theorem dX7_shareAll_160 : decode cX7_shareAll 160 = .ok (.aload_n 0, 1) := by decide +kernel
theorem dX7_shareAll_161 : decode cX7_shareAll 161 = .ok (.getfield 40, 3) := by decide +kernel
theorem dX7_shareAll_164 : decode cX7_shareAll 164 = .ok (.sipush 1001, 3) := by decide +kernel
theorem dX7_shareAll_167 : decode cX7_shareAll 167 = .ok (.iload_n 2, 1) := by decide +kernel
theorem dX7_shareAll_168 : decode cX7_shareAll 168 = .ok (.imul, 1) := by decide +kernel
theorem dX7_shareAll_169 : decode cX7_shareAll 169 = .ok (.iload_n 3, 1) := by decide +kernel
theorem dX7_shareAll_170 : decode cX7_shareAll 170 = .ok (.iadd, 1) := by decide +kernel
theorem dX7_shareAll_171 : decode cX7_shareAll 171 = .ok (.iaload, 1) := by decide +kernel
theorem dX7_shareAll_172 : decode cX7_shareAll 172 = .ok (.if_icmp .ge 44, 3) := by decide +kernel
theorem dX7_shareAll_175 : decode cX7_shareAll 175 = .ok (.aload_n 0, 1) := by decide +kernel
theorem dX7_shareAll_176 : decode cX7_shareAll 176 = .ok (.getfield 40, 3) := by decide +kernel
theorem dX7_shareAll_179 : decode cX7_shareAll 179 = .ok (.sipush 1001, 3) := by decide +kernel
theorem dX7_shareAll_182 : decode cX7_shareAll 182 = .ok (.iload_n 2, 1) := by decide +kernel
theorem dX7_shareAll_183 : decode cX7_shareAll 183 = .ok (.imul, 1) := by decide +kernel
theorem dX7_shareAll_184 : decode cX7_shareAll 184 = .ok (.iload_n 3, 1) := by decide +kernel
theorem dX7_shareAll_185 : decode cX7_shareAll 185 = .ok (.iadd, 1) := by decide +kernel
theorem dX7_shareAll_186 : decode cX7_shareAll 186 = .ok (.aload_n 0, 1) := by decide +kernel
theorem dX7_shareAll_187 : decode cX7_shareAll 187 = .ok (.getfield 37, 3) := by decide +kernel
theorem dX7_shareAll_190 : decode cX7_shareAll 190 = .ok (.iload 4, 2) := by decide +kernel
theorem dX7_shareAll_192 : decode cX7_shareAll 192 = .ok (.iaload, 1) := by decide +kernel
theorem dX7_shareAll_193 : decode cX7_shareAll 193 = .ok (.iload 5, 2) := by decide +kernel
theorem dX7_shareAll_195 : decode cX7_shareAll 195 = .ok (.iadd, 1) := by decide +kernel
theorem dX7_shareAll_196 : decode cX7_shareAll 196 = .ok (.iastore, 1) := by decide +kernel
theorem dX7_shareAll_197 : decode cX7_shareAll 197 = .ok (.aload_n 0, 1) := by decide +kernel
theorem dX7_shareAll_198 : decode cX7_shareAll 198 = .ok (.getfield 43, 3) := by decide +kernel
theorem dX7_shareAll_201 : decode cX7_shareAll 201 = .ok (.sipush 1001, 3) := by decide +kernel
theorem dX7_shareAll_204 : decode cX7_shareAll 204 = .ok (.iload_n 2, 1) := by decide +kernel
theorem dX7_shareAll_205 : decode cX7_shareAll 205 = .ok (.imul, 1) := by decide +kernel
theorem dX7_shareAll_206 : decode cX7_shareAll 206 = .ok (.iload_n 3, 1) := by decide +kernel
theorem dX7_shareAll_207 : decode cX7_shareAll 207 = .ok (.iadd, 1) := by decide +kernel
theorem dX7_shareAll_208 : decode cX7_shareAll 208 = .ok (.aload_n 0, 1) := by decide +kernel
theorem dX7_shareAll_209 : decode cX7_shareAll 209 = .ok (.getfield 34, 3) := by decide +kernel
theorem dX7_shareAll_212 : decode cX7_shareAll 212 = .ok (.iload 4, 2) := by decide +kernel
theorem dX7_shareAll_214 : decode cX7_shareAll 214 = .ok (.iaload, 1) := by decide +kernel
theorem dX7_shareAll_215 : decode cX7_shareAll 215 = .ok (.iastore, 1) := by decide +kernel
theorem dX7_shareAll_216 : decode cX7_shareAll 216 = .ok (.iinc 4 1, 3) := by decide +kernel
theorem dX7_shareAll_219 : decode cX7_shareAll 219 = .ok (.goto (-120), 3) := by decide +kernel
theorem dX7_shareAll_222 : decode cX7_shareAll 222 = .ok (.iinc 3 1, 3) := by decide +kernel
theorem dX7_shareAll_225 : decode cX7_shareAll 225 = .ok (.goto (-164), 3) := by decide +kernel
theorem dX7_shareAll_228 : decode cX7_shareAll 228 = .ok (.iinc 2 (-1), 3) := by decide +kernel
theorem dX7_shareAll_231 : decode cX7_shareAll 231 = .ok (.goto (-181), 3) := by decide +kernel
theorem dX7_shareAll_234 : decode cX7_shareAll 234 = .ok (.return_, 1) := by decide +kernel
set_option maxRecDepth 20000 in
theorem ggX7_share_X7_in : GoodIn wsX7_share wsX7_in := goodIn_r _ [7] (by decide +kernel) (by decide +kernel)
set_option maxRecDepth 20000 in
theorem gX7_share_X7_in : GoodIn wsX7_share (va_wsS RX7 50 yX7_in wsX7_in) := goodIn_app (goodIn_of _ (by decide +kernel)) ggX7_share_X7_in
set_option maxRecDepth 20000 in
theorem ggX7_share_X7_shareAll : GoodIn wsX7_share wsX7_shareAll := goodIn_r _ [11, 12, 1, 2, 13, 3, 14, 15, 16, 17, 18, 19, 6, 20, 21, 22, 23, 24, 25, 26, 27, 28, 29, 30, 31, 32, 33, 34, 35, 36, 37, 38, 39, 40, 41, 42, 43, 44, 45, 46, 47, 48, 49, 50, 51, 52, 53, 54, 55, 56, 57, 58, 59, 60, 61, 62, 63, 64, 65, 66, 67, 68, 69, 70, 71, 72, 73, 74, 75, 76] (by decide +kernel) (by decide +kernel)
set_option maxRecDepth 20000 in
theorem gX7_share_X7_shareAll : GoodIn wsX7_share (wsV RX7 124 RX7 yX7_shareAll wsX7_shareAll) := goodIn_app (goodIn_of _ (by decide +kernel)) ggX7_share_X7_shareAll
theorem dX7_share_0 : decode cX7_share 0 = .ok (.iload_n 1, 1) := by decide +kernel
theorem dX7_share_1 : decode cX7_share 1 = .ok (.iconst 0, 1) := by decide +kernel
theorem dX7_share_2 : decode cX7_share 2 = .ok (.sipush 1000, 3) := by decide +kernel
theorem dX7_share_5 : decode cX7_share 5 = .ok (.invokestatic 50, 3) := by decide +kernel
theorem dX7_share_8 : decode cX7_share 8 = .ok (.ifCond .ne 6, 3) := by decide +kernel
theorem dX7_share_11 : decode cX7_share 11 = .ok (.bipush (-2), 2) := by decide +kernel
theorem dX7_share_13 : decode cX7_share 13 = .ok (.ireturn, 1) := by decide +kernel
theorem dX7_share_14 : decode cX7_share 14 = .ok (.aload_n 0, 1) := by decide +kernel
theorem dX7_share_15 : decode cX7_share 15 = .ok (.invokevirtual 124, 3) := by decide +kernel
theorem dX7_share_18 : decode cX7_share 18 = .ok (.aload_n 0, 1) := by decide +kernel
theorem dX7_share_19 : decode cX7_share 19 = .ok (.getfield 40, 3) := by decide +kernel
theorem dX7_share_22 : decode cX7_share 22 = .ok (.iload_n 1, 1) := by decide +kernel
theorem dX7_share_23 : decode cX7_share 23 = .ok (.iaload, 1) := by decide +kernel
theorem dX7_share_24 : decode cX7_share 24 = .ok (.ldc 100, 2) := by decide +kernel
theorem dX7_share_26 : decode cX7_share 26 = .ok (.if_icmp .ge 12, 3) := by decide +kernel
theorem dX7_share_29 : decode cX7_share 29 = .ok (.aload_n 0, 1) := by decide +kernel
theorem dX7_share_30 : decode cX7_share 30 = .ok (.getfield 40, 3) := by decide +kernel
theorem dX7_share_33 : decode cX7_share 33 = .ok (.iload_n 1, 1) := by decide +kernel
theorem dX7_share_34 : decode cX7_share 34 = .ok (.iaload, 1) := by decide +kernel
theorem dX7_share_35 : decode cX7_share 35 = .ok (.goto 5, 3) := by decide +kernel
theorem dX7_share_38 : decode cX7_share 38 = .ok (.ldc 92, 2) := by decide +kernel
theorem dX7_share_40 : decode cX7_share 40 = .ok (.ireturn, 1) := by decide +kernel
set_option maxRecDepth 20000 in
theorem ggX7_shareTime_X7_isLeg : GoodIn wsX7_shareTime wsX7_isLeg := goodIn_r _ [9, 10, 11, 12, 8, 13, 14, 15, 16, 17, 18, 67, 68, 69, 70, 71, 72, 73, 74, 75, 76, 77, 78, 79, 80] (by decide +kernel) (by decide +kernel)
set_option maxRecDepth 20000 in
theorem gX7_shareTime_X7_isLeg : GoodIn wsX7_shareTime (wsV RX7 73 RX7 yX7_isLeg wsX7_isLeg) := goodIn_app (goodIn_of _ (by decide +kernel)) ggX7_shareTime_X7_isLeg
set_option maxRecDepth 20000 in
theorem ggX7_shareTime_X7_in : GoodIn wsX7_shareTime wsX7_in := goodIn_r _ [18] (by decide +kernel) (by decide +kernel)
set_option maxRecDepth 20000 in
theorem gX7_shareTime_X7_in : GoodIn wsX7_shareTime (va_wsS RX7 50 yX7_in wsX7_in) := goodIn_app (goodIn_of _ (by decide +kernel)) ggX7_shareTime_X7_in
set_option maxRecDepth 20000 in
theorem ggX7_shareTime_X7_shareAll : GoodIn wsX7_shareTime wsX7_shareAll := goodIn_r _ [22, 23, 1, 2, 4, 3, 24, 25, 26, 10, 11, 12, 8, 13, 14, 15, 27, 28, 29, 30, 31, 32, 33, 34, 35, 36, 37, 38, 39, 40, 41, 42, 43, 44, 45, 46, 47, 48, 49, 50, 51, 52, 53, 54, 55, 56, 57, 58, 59, 60, 61, 62, 63, 64, 65, 66, 67, 68, 69, 70, 71, 72, 73, 74, 75, 76, 77, 78, 79, 80] (by decide +kernel) (by decide +kernel)
set_option maxRecDepth 20000 in
theorem gX7_shareTime_X7_shareAll : GoodIn wsX7_shareTime (wsV RX7 124 RX7 yX7_shareAll wsX7_shareAll) := goodIn_app (goodIn_of _ (by decide +kernel)) ggX7_shareTime_X7_shareAll
theorem dX7_shareTime_0 : decode cX7_shareTime 0 = .ok (.aload_n 0, 1) := by decide +kernel
theorem dX7_shareTime_1 : decode cX7_shareTime 1 = .ok (.iload_n 2, 1) := by decide +kernel
theorem dX7_shareTime_2 : decode cX7_shareTime 2 = .ok (.invokevirtual 73, 3) := by decide +kernel
theorem dX7_shareTime_5 : decode cX7_shareTime 5 = .ok (.ifCond .ne 5, 3) := by decide +kernel
theorem dX7_shareTime_8 : decode cX7_shareTime 8 = .ok (.iconst (-1), 1) := by decide +kernel
theorem dX7_shareTime_9 : decode cX7_shareTime 9 = .ok (.ireturn, 1) := by decide +kernel
theorem dX7_shareTime_10 : decode cX7_shareTime 10 = .ok (.iload_n 1, 1) := by decide +kernel
theorem dX7_shareTime_11 : decode cX7_shareTime 11 = .ok (.iconst 0, 1) := by decide +kernel
theorem dX7_shareTime_12 : decode cX7_shareTime 12 = .ok (.sipush 1000, 3) := by decide +kernel
theorem dX7_shareTime_15 : decode cX7_shareTime 15 = .ok (.invokestatic 50, 3) := by decide +kernel
theorem dX7_shareTime_18 : decode cX7_shareTime 18 = .ok (.ifCond .ne 6, 3) := by decide +kernel
theorem dX7_shareTime_21 : decode cX7_shareTime 21 = .ok (.bipush (-2), 2) := by decide +kernel
theorem dX7_shareTime_23 : decode cX7_shareTime 23 = .ok (.ireturn, 1) := by decide +kernel
theorem dX7_shareTime_24 : decode cX7_shareTime 24 = .ok (.aload_n 0, 1) := by decide +kernel
theorem dX7_shareTime_25 : decode cX7_shareTime 25 = .ok (.invokevirtual 124, 3) := by decide +kernel
theorem dX7_shareTime_28 : decode cX7_shareTime 28 = .ok (.aload_n 0, 1) := by decide +kernel
theorem dX7_shareTime_29 : decode cX7_shareTime 29 = .ok (.getfield 40, 3) := by decide +kernel
theorem dX7_shareTime_32 : decode cX7_shareTime 32 = .ok (.iload_n 1, 1) := by decide +kernel
theorem dX7_shareTime_33 : decode cX7_shareTime 33 = .ok (.iaload, 1) := by decide +kernel
theorem dX7_shareTime_34 : decode cX7_shareTime 34 = .ok (.ldc 100, 2) := by decide +kernel
theorem dX7_shareTime_36 : decode cX7_shareTime 36 = .ok (.if_icmp .ne 6, 3) := by decide +kernel
theorem dX7_shareTime_39 : decode cX7_shareTime 39 = .ok (.ldc 92, 2) := by decide +kernel
theorem dX7_shareTime_41 : decode cX7_shareTime 41 = .ok (.ireturn, 1) := by decide +kernel
theorem dX7_shareTime_42 : decode cX7_shareTime 42 = .ok (.iload_n 1, 1) := by decide +kernel
theorem dX7_shareTime_43 : decode cX7_shareTime 43 = .ok (.istore_n 3, 1) := by decide +kernel
theorem dX7_shareTime_44 : decode cX7_shareTime 44 = .ok (.iconst 0, 1) := by decide +kernel
theorem dX7_shareTime_45 : decode cX7_shareTime 45 = .ok (.istore 4, 2) := by decide +kernel
theorem dX7_shareTime_47 : decode cX7_shareTime 47 = .ok (.iload 4, 2) := by decide +kernel
theorem dX7_shareTime_49 : decode cX7_shareTime 49 = .ok (.iload_n 2, 1) := by decide +kernel
theorem dX7_shareTime_50 : decode cX7_shareTime 50 = .ok (.if_icmp .ge 25, 3) := by decide +kernel
theorem dX7_shareTime_53 : decode cX7_shareTime 53 = .ok (.iload_n 3, 1) := by decide +kernel
theorem dX7_shareTime_54 : decode cX7_shareTime 54 = .ok (.aload_n 0, 1) := by decide +kernel
theorem dX7_shareTime_55 : decode cX7_shareTime 55 = .ok (.getfield 43, 3) := by decide +kernel
theorem dX7_shareTime_58 : decode cX7_shareTime 58 = .ok (.sipush 1001, 3) := by decide +kernel
theorem dX7_shareTime_61 : decode cX7_shareTime 61 = .ok (.iload 4, 2) := by decide +kernel
theorem dX7_shareTime_63 : decode cX7_shareTime 63 = .ok (.imul, 1) := by decide +kernel
theorem dX7_shareTime_64 : decode cX7_shareTime 64 = .ok (.iload_n 3, 1) := by decide +kernel
theorem dX7_shareTime_65 : decode cX7_shareTime 65 = .ok (.iadd, 1) := by decide +kernel
theorem dX7_shareTime_66 : decode cX7_shareTime 66 = .ok (.iaload, 1) := by decide +kernel
theorem dX7_shareTime_67 : decode cX7_shareTime 67 = .ok (.isub, 1) := by decide +kernel
theorem dX7_shareTime_68 : decode cX7_shareTime 68 = .ok (.istore_n 3, 1) := by decide +kernel
theorem dX7_shareTime_69 : decode cX7_shareTime 69 = .ok (.iinc 4 1, 3) := by decide +kernel
theorem dX7_shareTime_72 : decode cX7_shareTime 72 = .ok (.goto (-25), 3) := by decide +kernel
theorem dX7_shareTime_75 : decode cX7_shareTime 75 = .ok (.aload_n 0, 1) := by decide +kernel
theorem dX7_shareTime_76 : decode cX7_shareTime 76 = .ok (.getfield 43, 3) := by decide +kernel
theorem dX7_shareTime_79 : decode cX7_shareTime 79 = .ok (.sipush 1001, 3) := by decide +kernel
theorem dX7_shareTime_82 : decode cX7_shareTime 82 = .ok (.iload_n 2, 1) := by decide +kernel
theorem dX7_shareTime_83 : decode cX7_shareTime 83 = .ok (.imul, 1) := by decide +kernel
theorem dX7_shareTime_84 : decode cX7_shareTime 84 = .ok (.iload_n 3, 1) := by decide +kernel
theorem dX7_shareTime_85 : decode cX7_shareTime 85 = .ok (.iadd, 1) := by decide +kernel
theorem dX7_shareTime_86 : decode cX7_shareTime 86 = .ok (.iaload, 1) := by decide +kernel
theorem dX7_shareTime_87 : decode cX7_shareTime 87 = .ok (.ireturn, 1) := by decide +kernel
set_option maxRecDepth 20000 in
theorem ggX7_needs_X7_shareAll : GoodIn wsX7_needs wsX7_shareAll := goodIn_r _ [8, 9, 1, 2, 10, 3, 11, 12, 13, 14, 15, 16, 7, 17, 18, 19, 20, 21, 22, 23, 24, 25, 26, 27, 28, 29, 30, 31, 32, 33, 34, 35, 36, 37, 38, 39, 40, 41, 42, 43, 44, 45, 46, 47, 48, 49, 50, 51, 52, 53, 54, 55, 56, 57, 58, 59, 60, 61, 62, 63, 64, 65, 66, 67, 68, 69, 70, 71, 72, 73] (by decide +kernel) (by decide +kernel)
set_option maxRecDepth 20000 in
theorem gX7_needs_X7_shareAll : GoodIn wsX7_needs (wsV RX7 124 RX7 yX7_shareAll wsX7_shareAll) := goodIn_app (goodIn_of _ (by decide +kernel)) ggX7_needs_X7_shareAll
theorem dX7_needs_0 : decode cX7_needs 0 = .ok (.aload_n 0, 1) := by decide +kernel
theorem dX7_needs_1 : decode cX7_needs 1 = .ok (.invokevirtual 124, 3) := by decide +kernel
theorem dX7_needs_4 : decode cX7_needs 4 = .ok (.iconst 0, 1) := by decide +kernel
theorem dX7_needs_5 : decode cX7_needs 5 = .ok (.istore_n 2, 1) := by decide +kernel
theorem dX7_needs_6 : decode cX7_needs 6 = .ok (.iload_n 2, 1) := by decide +kernel
theorem dX7_needs_7 : decode cX7_needs 7 = .ok (.sipush 1001, 3) := by decide +kernel
theorem dX7_needs_10 : decode cX7_needs 10 = .ok (.if_icmp .ge 32, 3) := by decide +kernel
theorem dX7_needs_13 : decode cX7_needs 13 = .ok (.aload_n 0, 1) := by decide +kernel
theorem dX7_needs_14 : decode cX7_needs 14 = .ok (.getfield 40, 3) := by decide +kernel
theorem dX7_needs_17 : decode cX7_needs 17 = .ok (.iload_n 2, 1) := by decide +kernel
theorem dX7_needs_18 : decode cX7_needs 18 = .ok (.iaload, 1) := by decide +kernel
theorem dX7_needs_19 : decode cX7_needs 19 = .ok (.ldc 100, 2) := by decide +kernel
theorem dX7_needs_21 : decode cX7_needs 21 = .ok (.if_icmp .ge 15, 3) := by decide +kernel
theorem dX7_needs_24 : decode cX7_needs 24 = .ok (.aload_n 0, 1) := by decide +kernel
theorem dX7_needs_25 : decode cX7_needs 25 = .ok (.getfield 40, 3) := by decide +kernel
theorem dX7_needs_28 : decode cX7_needs 28 = .ok (.iload_n 2, 1) := by decide +kernel
theorem dX7_needs_29 : decode cX7_needs 29 = .ok (.iaload, 1) := by decide +kernel
theorem dX7_needs_30 : decode cX7_needs 30 = .ok (.iload_n 1, 1) := by decide +kernel
theorem dX7_needs_31 : decode cX7_needs 31 = .ok (.if_icmp .gt 5, 3) := by decide +kernel
theorem dX7_needs_34 : decode cX7_needs 34 = .ok (.iload_n 2, 1) := by decide +kernel
theorem dX7_needs_35 : decode cX7_needs 35 = .ok (.ireturn, 1) := by decide +kernel
theorem dX7_needs_36 : decode cX7_needs 36 = .ok (.iinc 2 1, 3) := by decide +kernel
theorem dX7_needs_39 : decode cX7_needs 39 = .ok (.goto (-33), 3) := by decide +kernel
theorem dX7_needs_42 : decode cX7_needs 42 = .ok (.ldc 92, 2) := by decide +kernel
theorem dX7_needs_44 : decode cX7_needs 44 = .ok (.ireturn, 1) := by decide +kernel
set_option maxRecDepth 20000 in
theorem ggX7_log_X7_isSpeed : GoodIn wsX7_log wsX7_isSpeed := goodIn_r _ [7, 8, 9, 6, 10] (by decide +kernel) (by decide +kernel)
set_option maxRecDepth 20000 in
theorem gX7_log_X7_isSpeed : GoodIn wsX7_log (va_wsS RX7 83 yX7_isSpeed wsX7_isSpeed) := goodIn_app (goodIn_of _ (by decide +kernel)) ggX7_log_X7_isSpeed
theorem dX7_log_0 : decode cX7_log 0 = .ok (.iload_n 1, 1) := by decide +kernel
theorem dX7_log_1 : decode cX7_log 1 = .ok (.invokestatic 83, 3) := by decide +kernel
theorem dX7_log_4 : decode cX7_log 4 = .ok (.ifCond .ne 6, 3) := by decide +kernel
theorem dX7_log_7 : decode cX7_log 7 = .ok (.bipush (-2), 2) := by decide +kernel
theorem dX7_log_9 : decode cX7_log 9 = .ok (.ireturn, 1) := by decide +kernel
theorem dX7_log_10 : decode cX7_log 10 = .ok (.aload_n 0, 1) := by decide +kernel
theorem dX7_log_11 : decode cX7_log 11 = .ok (.getfield 54, 3) := by decide +kernel
theorem dX7_log_14 : decode cX7_log 14 = .ok (.aload_n 0, 1) := by decide +kernel
theorem dX7_log_15 : decode cX7_log 15 = .ok (.getfield 7, 3) := by decide +kernel
theorem dX7_log_18 : decode cX7_log 18 = .ok (.if_icmp .le 6, 3) := by decide +kernel
theorem dX7_log_21 : decode cX7_log 21 = .ok (.bipush (-4), 2) := by decide +kernel
theorem dX7_log_23 : decode cX7_log 23 = .ok (.ireturn, 1) := by decide +kernel
theorem dX7_log_24 : decode cX7_log 24 = .ok (.aload_n 0, 1) := by decide +kernel
theorem dX7_log_25 : decode cX7_log 25 = .ok (.getfield 27, 3) := by decide +kernel
theorem dX7_log_28 : decode cX7_log 28 = .ok (.aload_n 0, 1) := by decide +kernel
theorem dX7_log_29 : decode cX7_log 29 = .ok (.getfield 54, 3) := by decide +kernel
theorem dX7_log_32 : decode cX7_log 32 = .ok (.iload_n 1, 1) := by decide +kernel
theorem dX7_log_33 : decode cX7_log 33 = .ok (.iastore, 1) := by decide +kernel
theorem dX7_log_34 : decode cX7_log 34 = .ok (.aload_n 0, 1) := by decide +kernel
theorem dX7_log_35 : decode cX7_log 35 = .ok (.dup, 1) := by decide +kernel
theorem dX7_log_36 : decode cX7_log 36 = .ok (.getfield 54, 3) := by decide +kernel
theorem dX7_log_39 : decode cX7_log 39 = .ok (.iconst 1, 1) := by decide +kernel
theorem dX7_log_40 : decode cX7_log 40 = .ok (.iadd, 1) := by decide +kernel
theorem dX7_log_41 : decode cX7_log 41 = .ok (.putfield 54, 3) := by decide +kernel
theorem dX7_log_44 : decode cX7_log 44 = .ok (.aload_n 0, 1) := by decide +kernel
theorem dX7_log_45 : decode cX7_log 45 = .ok (.getfield 54, 3) := by decide +kernel
theorem dX7_log_48 : decode cX7_log 48 = .ok (.ireturn, 1) := by decide +kernel
theorem dX7_clear_0 : decode cX7_clear 0 = .ok (.aload_n 0, 1) := by decide +kernel
theorem dX7_clear_1 : decode cX7_clear 1 = .ok (.getfield 54, 3) := by decide +kernel
theorem dX7_clear_4 : decode cX7_clear 4 = .ok (.istore_n 1, 1) := by decide +kernel
theorem dX7_clear_5 : decode cX7_clear 5 = .ok (.aload_n 0, 1) := by decide +kernel
theorem dX7_clear_6 : decode cX7_clear 6 = .ok (.iconst 0, 1) := by decide +kernel
theorem dX7_clear_7 : decode cX7_clear 7 = .ok (.putfield 54, 3) := by decide +kernel
theorem dX7_clear_10 : decode cX7_clear 10 = .ok (.iload_n 1, 1) := by decide +kernel
theorem dX7_clear_11 : decode cX7_clear 11 = .ok (.ireturn, 1) := by decide +kernel
set_option maxRecDepth 20000 in
theorem ggX7_judged_X7_faultOf : GoodIn wsX7_judged wsX7_faultOf := goodIn_r _ [9, 10, 11, 12, 13, 14, 8, 15, 16, 21, 22, 23, 24, 25, 26, 27, 28, 29, 30, 31, 32, 33, 34] (by decide +kernel) (by decide +kernel)
set_option maxRecDepth 20000 in
theorem gX7_judged_X7_faultOf : GoodIn wsX7_judged (wsV RX7 86 RX7 yX7_faultOf wsX7_faultOf) := goodIn_app (goodIn_of _ (by decide +kernel)) ggX7_judged_X7_faultOf
set_option maxRecDepth 20000 in
theorem ggX7_judged_X7_powerOf : GoodIn wsX7_judged wsX7_powerOf := goodIn_r _ [20, 11, 12, 13, 14, 8, 15, 16, 21, 22, 23, 24, 25, 26, 27, 28, 29, 30, 31, 32, 33, 34] (by decide +kernel) (by decide +kernel)
set_option maxRecDepth 20000 in
theorem gX7_judged_X7_powerOf : GoodIn wsX7_judged (wsV RX7 93 RX7 yX7_powerOf wsX7_powerOf) := goodIn_app (goodIn_of _ (by decide +kernel)) ggX7_judged_X7_powerOf
theorem dX7_judged_0 : decode cX7_judged 0 = .ok (.iconst 0, 1) := by decide +kernel
theorem dX7_judged_1 : decode cX7_judged 1 = .ok (.istore_n 2, 1) := by decide +kernel
theorem dX7_judged_2 : decode cX7_judged 2 = .ok (.iconst 0, 1) := by decide +kernel
theorem dX7_judged_3 : decode cX7_judged 3 = .ok (.istore_n 3, 1) := by decide +kernel
theorem dX7_judged_4 : decode cX7_judged 4 = .ok (.iconst 0, 1) := by decide +kernel
theorem dX7_judged_5 : decode cX7_judged 5 = .ok (.istore 4, 2) := by decide +kernel
theorem dX7_judged_7 : decode cX7_judged 7 = .ok (.ldc 92, 2) := by decide +kernel
theorem dX7_judged_9 : decode cX7_judged 9 = .ok (.istore 5, 2) := by decide +kernel
theorem dX7_judged_11 : decode cX7_judged 11 = .ok (.iconst 0, 1) := by decide +kernel
theorem dX7_judged_12 : decode cX7_judged 12 = .ok (.istore 6, 2) := by decide +kernel
theorem dX7_judged_14 : decode cX7_judged 14 = .ok (.iconst 0, 1) := by decide +kernel
theorem dX7_judged_15 : decode cX7_judged 15 = .ok (.istore 7, 2) := by decide +kernel
theorem dX7_judged_17 : decode cX7_judged 17 = .ok (.iload 7, 2) := by decide +kernel
theorem dX7_judged_19 : decode cX7_judged 19 = .ok (.iconst 1, 1) := by decide +kernel
theorem dX7_judged_20 : decode cX7_judged 20 = .ok (.iadd, 1) := by decide +kernel
theorem dX7_judged_21 : decode cX7_judged 21 = .ok (.aload_n 0, 1) := by decide +kernel
theorem dX7_judged_22 : decode cX7_judged 22 = .ok (.getfield 54, 3) := by decide +kernel
theorem dX7_judged_25 : decode cX7_judged 25 = .ok (.if_icmp .ge 86, 3) := by decide +kernel
theorem dX7_judged_28 : decode cX7_judged 28 = .ok (.aload_n 0, 1) := by decide +kernel
theorem dX7_judged_29 : decode cX7_judged 29 = .ok (.getfield 27, 3) := by decide +kernel
theorem dX7_judged_32 : decode cX7_judged 32 = .ok (.iload 7, 2) := by decide +kernel
theorem dX7_judged_34 : decode cX7_judged 34 = .ok (.iaload, 1) := by decide +kernel
theorem dX7_judged_35 : decode cX7_judged 35 = .ok (.istore 8, 2) := by decide +kernel
theorem dX7_judged_37 : decode cX7_judged 37 = .ok (.aload_n 0, 1) := by decide +kernel
theorem dX7_judged_38 : decode cX7_judged 38 = .ok (.getfield 27, 3) := by decide +kernel
theorem dX7_judged_41 : decode cX7_judged 41 = .ok (.iload 7, 2) := by decide +kernel
theorem dX7_judged_43 : decode cX7_judged 43 = .ok (.iconst 1, 1) := by decide +kernel
theorem dX7_judged_44 : decode cX7_judged 44 = .ok (.iadd, 1) := by decide +kernel
theorem dX7_judged_45 : decode cX7_judged 45 = .ok (.iaload, 1) := by decide +kernel
theorem dX7_judged_46 : decode cX7_judged 46 = .ok (.istore 9, 2) := by decide +kernel
theorem dX7_judged_48 : decode cX7_judged 48 = .ok (.aload_n 0, 1) := by decide +kernel
theorem dX7_judged_49 : decode cX7_judged 49 = .ok (.iload 7, 2) := by decide +kernel
theorem dX7_judged_51 : decode cX7_judged 51 = .ok (.iload 8, 2) := by decide +kernel
theorem dX7_judged_53 : decode cX7_judged 53 = .ok (.iload 9, 2) := by decide +kernel
theorem dX7_judged_55 : decode cX7_judged 55 = .ok (.invokevirtual 86, 3) := by decide +kernel
theorem dX7_judged_58 : decode cX7_judged 58 = .ok (.ifCond .ne 30, 3) := by decide +kernel
theorem dX7_judged_61 : decode cX7_judged 61 = .ok (.iload_n 2, 1) := by decide +kernel
theorem dX7_judged_62 : decode cX7_judged 62 = .ok (.bipush 60, 2) := by decide +kernel
theorem dX7_judged_64 : decode cX7_judged 64 = .ok (.iload 8, 2) := by decide +kernel
theorem dX7_judged_66 : decode cX7_judged 66 = .ok (.iload 9, 2) := by decide +kernel
theorem dX7_judged_68 : decode cX7_judged 68 = .ok (.iadd, 1) := by decide +kernel
theorem dX7_judged_69 : decode cX7_judged 69 = .ok (.idiv, 1) := by decide +kernel
theorem dX7_judged_70 : decode cX7_judged 70 = .ok (.iadd, 1) := by decide +kernel
theorem dX7_judged_71 : decode cX7_judged 71 = .ok (.istore_n 2, 1) := by decide +kernel
theorem dX7_judged_72 : decode cX7_judged 72 = .ok (.iload_n 3, 1) := by decide +kernel
theorem dX7_judged_73 : decode cX7_judged 73 = .ok (.aload_n 0, 1) := by decide +kernel
theorem dX7_judged_74 : decode cX7_judged 74 = .ok (.iload 7, 2) := by decide +kernel
theorem dX7_judged_76 : decode cX7_judged 76 = .ok (.iload 8, 2) := by decide +kernel
theorem dX7_judged_78 : decode cX7_judged 78 = .ok (.iload 9, 2) := by decide +kernel
theorem dX7_judged_80 : decode cX7_judged 80 = .ok (.invokevirtual 93, 3) := by decide +kernel
theorem dX7_judged_83 : decode cX7_judged 83 = .ok (.iadd, 1) := by decide +kernel
theorem dX7_judged_84 : decode cX7_judged 84 = .ok (.istore_n 3, 1) := by decide +kernel
theorem dX7_judged_85 : decode cX7_judged 85 = .ok (.goto 20, 3) := by decide +kernel
theorem dX7_judged_88 : decode cX7_judged 88 = .ok (.iload 4, 2) := by decide +kernel
theorem dX7_judged_90 : decode cX7_judged 90 = .ok (.ifCond .ne 8, 3) := by decide +kernel
theorem dX7_judged_93 : decode cX7_judged 93 = .ok (.iload 7, 2) := by decide +kernel
theorem dX7_judged_95 : decode cX7_judged 95 = .ok (.goto 5, 3) := by decide +kernel
theorem dX7_judged_98 : decode cX7_judged 98 = .ok (.iload 5, 2) := by decide +kernel
theorem dX7_judged_100 : decode cX7_judged 100 = .ok (.istore 5, 2) := by decide +kernel
theorem dX7_judged_102 : decode cX7_judged 102 = .ok (.iinc 4 1, 3) := by decide +kernel
theorem dX7_judged_105 : decode cX7_judged 105 = .ok (.iinc 7 1, 3) := by decide +kernel
theorem dX7_judged_108 : decode cX7_judged 108 = .ok (.goto (-91), 3) := by decide +kernel
theorem dX7_judged_111 : decode cX7_judged 111 = .ok (.iconst 0, 1) := by decide +kernel
theorem dX7_judged_112 : decode cX7_judged 112 = .ok (.istore 7, 2) := by decide +kernel
theorem dX7_judged_114 : decode cX7_judged 114 = .ok (.iload 7, 2) := by decide +kernel
theorem dX7_judged_116 : decode cX7_judged 116 = .ok (.aload_n 0, 1) := by decide +kernel
theorem dX7_judged_117 : decode cX7_judged 117 = .ok (.getfield 54, 3) := by decide +kernel
theorem dX7_judged_120 : decode cX7_judged 120 = .ok (.if_icmp .ge 39, 3) := by decide +kernel
theorem dX7_judged_123 : decode cX7_judged 123 = .ok (.iload 6, 2) := by decide +kernel
theorem dX7_judged_125 : decode cX7_judged 125 = .ok (.aload_n 0, 1) := by decide +kernel
theorem dX7_judged_126 : decode cX7_judged 126 = .ok (.getfield 20, 3) := by decide +kernel
theorem dX7_judged_129 : decode cX7_judged 129 = .ok (.iload 7, 2) := by decide +kernel
theorem dX7_judged_131 : decode cX7_judged 131 = .ok (.baload, 1) := by decide +kernel
theorem dX7_judged_132 : decode cX7_judged 132 = .ok (.ifCond .eq 17, 3) := by decide +kernel
theorem dX7_judged_135 : decode cX7_judged 135 = .ok (.aload_n 0, 1) := by decide +kernel
theorem dX7_judged_136 : decode cX7_judged 136 = .ok (.getfield 27, 3) := by decide +kernel
theorem dX7_judged_139 : decode cX7_judged 139 = .ok (.iload 7, 2) := by decide +kernel
theorem dX7_judged_141 : decode cX7_judged 141 = .ok (.iaload, 1) := by decide +kernel
theorem dX7_judged_142 : decode cX7_judged 142 = .ok (.ifCond .le 7, 3) := by decide +kernel
theorem dX7_judged_145 : decode cX7_judged 145 = .ok (.iconst 1, 1) := by decide +kernel
theorem dX7_judged_146 : decode cX7_judged 146 = .ok (.goto 4, 3) := by decide +kernel
theorem dX7_judged_149 : decode cX7_judged 149 = .ok (.iconst 0, 1) := by decide +kernel
theorem dX7_judged_150 : decode cX7_judged 150 = .ok (.iadd, 1) := by decide +kernel
theorem dX7_judged_151 : decode cX7_judged 151 = .ok (.istore 6, 2) := by decide +kernel
theorem dX7_judged_153 : decode cX7_judged 153 = .ok (.iinc 7 1, 3) := by decide +kernel
theorem dX7_judged_156 : decode cX7_judged 156 = .ok (.goto (-42), 3) := by decide +kernel
theorem dX7_judged_159 : decode cX7_judged 159 = .ok (.iload_n 1, 1) := by decide +kernel
theorem dX7_judged_160 : decode cX7_judged 160 = .ok (.tableswitch 49 0 4 #[36, 38, 40, 43, 46], 36) := by decide +kernel
theorem dX7_judged_196 : decode cX7_judged 196 = .ok (.iload_n 2, 1) := by decide +kernel
theorem dX7_judged_197 : decode cX7_judged 197 = .ok (.ireturn, 1) := by decide +kernel
theorem dX7_judged_198 : decode cX7_judged 198 = .ok (.iload_n 3, 1) := by decide +kernel
theorem dX7_judged_199 : decode cX7_judged 199 = .ok (.ireturn, 1) := by decide +kernel
theorem dX7_judged_200 : decode cX7_judged 200 = .ok (.iload 4, 2) := by decide +kernel
theorem dX7_judged_202 : decode cX7_judged 202 = .ok (.ireturn, 1) := by decide +kernel
theorem dX7_judged_203 : decode cX7_judged 203 = .ok (.iload 5, 2) := by decide +kernel
theorem dX7_judged_205 : decode cX7_judged 205 = .ok (.ireturn, 1) := by decide +kernel
theorem dX7_judged_206 : decode cX7_judged 206 = .ok (.iload 6, 2) := by decide +kernel
theorem dX7_judged_208 : decode cX7_judged 208 = .ok (.ireturn, 1) := by decide +kernel
theorem dX7_judged_209 : decode cX7_judged 209 = .ok (.bipush (-2), 2) := by decide +kernel
theorem dX7_judged_211 : decode cX7_judged 211 = .ok (.ireturn, 1) := by decide +kernel
set_option maxRecDepth 20000 in
theorem ggX7_count_X7_legs : GoodIn wsX7_count wsX7_legs := goodIn_r _ [7, 1, 8, 9, 10, 11, 12, 13, 14, 15, 16, 17, 18, 19, 20, 21, 22] (by decide +kernel) (by decide +kernel)
set_option maxRecDepth 20000 in
theorem gX7_count_X7_legs : GoodIn wsX7_count (wsV RX7 65 RX7 yX7_legs wsX7_legs) := goodIn_app (goodIn_of _ (by decide +kernel)) ggX7_count_X7_legs
theorem dX7_count_0 : decode cX7_count 0 = .ok (.iload_n 1, 1) := by decide +kernel
theorem dX7_count_1 : decode cX7_count 1 = .ok (.ifCond .ne 10, 3) := by decide +kernel
theorem dX7_count_4 : decode cX7_count 4 = .ok (.aload_n 0, 1) := by decide +kernel
theorem dX7_count_5 : decode cX7_count 5 = .ok (.getfield 7, 3) := by decide +kernel
theorem dX7_count_8 : decode cX7_count 8 = .ok (.goto 29, 3) := by decide +kernel
theorem dX7_count_11 : decode cX7_count 11 = .ok (.iload_n 1, 1) := by decide +kernel
theorem dX7_count_12 : decode cX7_count 12 = .ok (.iconst 1, 1) := by decide +kernel
theorem dX7_count_13 : decode cX7_count 13 = .ok (.if_icmp .ne 10, 3) := by decide +kernel
theorem dX7_count_16 : decode cX7_count 16 = .ok (.aload_n 0, 1) := by decide +kernel
theorem dX7_count_17 : decode cX7_count 17 = .ok (.invokevirtual 65, 3) := by decide +kernel
theorem dX7_count_20 : decode cX7_count 20 = .ok (.goto 17, 3) := by decide +kernel
theorem dX7_count_23 : decode cX7_count 23 = .ok (.iload_n 1, 1) := by decide +kernel
theorem dX7_count_24 : decode cX7_count 24 = .ok (.iconst 2, 1) := by decide +kernel
theorem dX7_count_25 : decode cX7_count 25 = .ok (.if_icmp .ne 10, 3) := by decide +kernel
theorem dX7_count_28 : decode cX7_count 28 = .ok (.aload_n 0, 1) := by decide +kernel
theorem dX7_count_29 : decode cX7_count 29 = .ok (.getfield 54, 3) := by decide +kernel
theorem dX7_count_32 : decode cX7_count 32 = .ok (.goto 5, 3) := by decide +kernel
theorem dX7_count_35 : decode cX7_count 35 = .ok (.bipush (-2), 2) := by decide +kernel
theorem dX7_count_37 : decode cX7_count 37 = .ok (.ireturn, 1) := by decide +kernel
theorem dJ9_abs_0f7a4_0 : decode cJ9_abs_0f7a4 0 = .ok (.iload_n 0, 1) := by decide +kernel
theorem dJ9_abs_0f7a4_1 : decode cJ9_abs_0f7a4 1 = .ok (.ifCond .ge 8, 3) := by decide +kernel
theorem dJ9_abs_0f7a4_4 : decode cJ9_abs_0f7a4 4 = .ok (.iload_n 0, 1) := by decide +kernel
theorem dJ9_abs_0f7a4_5 : decode cJ9_abs_0f7a4 5 = .ok (.ineg, 1) := by decide +kernel
theorem dJ9_abs_0f7a4_6 : decode cJ9_abs_0f7a4 6 = .ok (.goto 4, 3) := by decide +kernel
theorem dJ9_abs_0f7a4_9 : decode cJ9_abs_0f7a4 9 = .ok (.iload_n 0, 1) := by decide +kernel
theorem dJ9_abs_0f7a4_10 : decode cJ9_abs_0f7a4 10 = .ok (.ireturn, 1) := by decide +kernel
theorem dJ9_max_7cf53_0 : decode cJ9_max_7cf53 0 = .ok (.iload_n 0, 1) := by decide +kernel
theorem dJ9_max_7cf53_1 : decode cJ9_max_7cf53 1 = .ok (.iload_n 1, 1) := by decide +kernel
theorem dJ9_max_7cf53_2 : decode cJ9_max_7cf53 2 = .ok (.if_icmp .lt 7, 3) := by decide +kernel
theorem dJ9_max_7cf53_5 : decode cJ9_max_7cf53 5 = .ok (.iload_n 0, 1) := by decide +kernel
theorem dJ9_max_7cf53_6 : decode cJ9_max_7cf53 6 = .ok (.goto 4, 3) := by decide +kernel
theorem dJ9_max_7cf53_9 : decode cJ9_max_7cf53 9 = .ok (.iload_n 1, 1) := by decide +kernel
theorem dJ9_max_7cf53_10 : decode cJ9_max_7cf53 10 = .ok (.ireturn, 1) := by decide +kernel
theorem dJ9_min_f86c9_0 : decode cJ9_min_f86c9 0 = .ok (.lload_n 0, 1) := by decide +kernel
theorem dJ9_min_f86c9_1 : decode cJ9_min_f86c9 1 = .ok (.lload_n 2, 1) := by decide +kernel
theorem dJ9_min_f86c9_2 : decode cJ9_min_f86c9 2 = .ok (.lcmp, 1) := by decide +kernel
theorem dJ9_min_f86c9_3 : decode cJ9_min_f86c9 3 = .ok (.ifCond .gt 7, 3) := by decide +kernel
theorem dJ9_min_f86c9_6 : decode cJ9_min_f86c9 6 = .ok (.lload_n 0, 1) := by decide +kernel
theorem dJ9_min_f86c9_7 : decode cJ9_min_f86c9 7 = .ok (.goto 4, 3) := by decide +kernel
theorem dJ9_min_f86c9_10 : decode cJ9_min_f86c9 10 = .ok (.lload_n 2, 1) := by decide +kernel
theorem dJ9_min_f86c9_11 : decode cJ9_min_f86c9 11 = .ok (.lreturn, 1) := by decide +kernel
theorem dJ7_fill_d0a16_0 : decode cJ7_fill_d0a16 0 = .ok (.iconst 0, 1) := by decide +kernel
theorem dJ7_fill_d0a16_1 : decode cJ7_fill_d0a16 1 = .ok (.istore_n 3, 1) := by decide +kernel
theorem dJ7_fill_d0a16_2 : decode cJ7_fill_d0a16 2 = .ok (.aload_n 0, 1) := by decide +kernel
theorem dJ7_fill_d0a16_3 : decode cJ7_fill_d0a16 3 = .ok (.arraylength, 1) := by decide +kernel
theorem dJ7_fill_d0a16_4 : decode cJ7_fill_d0a16 4 = .ok (.istore 4, 2) := by decide +kernel
theorem dJ7_fill_d0a16_6 : decode cJ7_fill_d0a16 6 = .ok (.iload_n 3, 1) := by decide +kernel
theorem dJ7_fill_d0a16_7 : decode cJ7_fill_d0a16 7 = .ok (.iload 4, 2) := by decide +kernel
theorem dJ7_fill_d0a16_9 : decode cJ7_fill_d0a16 9 = .ok (.if_icmp .ge 13, 3) := by decide +kernel
theorem dJ7_fill_d0a16_12 : decode cJ7_fill_d0a16 12 = .ok (.aload_n 0, 1) := by decide +kernel
theorem dJ7_fill_d0a16_13 : decode cJ7_fill_d0a16 13 = .ok (.iload_n 3, 1) := by decide +kernel
theorem dJ7_fill_d0a16_14 : decode cJ7_fill_d0a16 14 = .ok (.lload_n 1, 1) := by decide +kernel
theorem dJ7_fill_d0a16_15 : decode cJ7_fill_d0a16 15 = .ok (.lastore, 1) := by decide +kernel
theorem dJ7_fill_d0a16_16 : decode cJ7_fill_d0a16 16 = .ok (.iinc 3 1, 3) := by decide +kernel
theorem dJ7_fill_d0a16_19 : decode cJ7_fill_d0a16 19 = .ok (.goto (-13), 3) := by decide +kernel
theorem dJ7_fill_d0a16_22 : decode cJ7_fill_d0a16 22 = .ok (.return_, 1) := by decide +kernel
end
section
/-! THE JUDGEMENT G: a walk of one method, its context packed into one hypothesis C : GB .. G. Worlds, locals and stack are what a row speaks of. -/
abbrev LL : Type := List (Nat × Value)
abbrev TT : Type := List (ClassId × FieldType)
def gPc (D : va_G) (tys : TT) (A : Nat → Prop) (F : State → Prop) (w : va_W) (avs : List Value) : Array Value → State → Prop := va_Pc avs (fun U => va_P D vwCl w U.heap ∧ va_K D vwCl tys U ∧ va_D A w ∧ F U)
def gI (ro : Bool) (D : va_G) (A : Nat → Prop) (s : State) (w : va_W) (H : Heap) (locs : List Loc) : Prop := va_P D vwCl w H ∧ va_D A w ∧ va_S A s.heap H locs ∧ (ro = true → H = s.heap ∧ locs = [])
def GB (l : Launch) (D : va_G) (tys : TT) (A : Nat → Prop) (F : State → Prop) (R : Room) (cc : ByteArray) (nL : Nat) (own : String) (Ts : List Cond) (ro ini : Bool) (G : Nat → Nat → va_W → LL → Nat → List Value → Prop) : Prop :=
  ∃ (p : Program) (e : Env) (s : State) (m : MethodId) (args : Array Value) (below : List Frame) (meth : Method) (c : Code) (Q : State → Prop),
    G = (fun cells slots w L pc st => ∀ (H : Heap) (locs : List Loc) (ls : Array Slot), gI ro D A s w H locs → lv_has ls nL L → W p l e R s m args below meth c H locs cells slots Q (F0 m pc ls st)) ∧
    p.tables.exec = Jvm.exec ∧ c.code = cc ∧ c.maxLocals = nL ∧ s.vm.findClass own = some m.cls ∧ (∀ x ∈ Ts, x.before args s = true) ∧ va_K D vwCl tys s ∧ F s ∧ (ini = true → meth.name = "<init>")
section GR
variable {l : Launch} {D : va_G} {tys : TT} {A : Nat → Prop} {F : State → Prop} {R : Room} {cc : ByteArray} {nL : Nat} {own : String} {Ts : List Cond} {ro ini : Bool} {G : Nat → Nat → va_W → LL → Nat → List Value → Prop}
variable {kc ks pc q : Nat} {w : va_W} {L : LL} {st : List Value}
theorem g_iadd (C : GB l D tys A F R cc nL own Ts ro ini G) {x y : Int32} (d : decode cc pc = .ok (.iadd, 1))  (hn : pc + 1 = q) (k : G kc ks w L q (.int (x + y) :: st)) : G kc ks w L pc (.int y :: .int x :: st) := by
  obtain ⟨p, e, s, m, args, below, meth, c, Q, rfl, hx, hb, hml, hown, hts, hK, hF, hi⟩ := C
  subst hn
  intro H locs ls hI hl
  exact lv_iadd hx hb d  (k H locs ls hI hl)
theorem g_isub (C : GB l D tys A F R cc nL own Ts ro ini G) {x y : Int32} (d : decode cc pc = .ok (.isub, 1))  (hn : pc + 1 = q) (k : G kc ks w L q (.int (x - y) :: st)) : G kc ks w L pc (.int y :: .int x :: st) := by
  obtain ⟨p, e, s, m, args, below, meth, c, Q, rfl, hx, hb, hml, hown, hts, hK, hF, hi⟩ := C
  subst hn
  intro H locs ls hI hl
  exact lv_isub hx hb d  (k H locs ls hI hl)
theorem g_imul (C : GB l D tys A F R cc nL own Ts ro ini G) {x y : Int32} (d : decode cc pc = .ok (.imul, 1))  (hn : pc + 1 = q) (k : G kc ks w L q (.int (x * y) :: st)) : G kc ks w L pc (.int y :: .int x :: st) := by
  obtain ⟨p, e, s, m, args, below, meth, c, Q, rfl, hx, hb, hml, hown, hts, hK, hF, hi⟩ := C
  subst hn
  intro H locs ls hI hl
  exact lv_imul hx hb d  (k H locs ls hI hl)
theorem g_iand (C : GB l D tys A F R cc nL own Ts ro ini G) {x y : Int32} (d : decode cc pc = .ok (.iand, 1))  (hn : pc + 1 = q) (k : G kc ks w L q (.int (x &&& y) :: st)) : G kc ks w L pc (.int y :: .int x :: st) := by
  obtain ⟨p, e, s, m, args, below, meth, c, Q, rfl, hx, hb, hml, hown, hts, hK, hF, hi⟩ := C
  subst hn
  intro H locs ls hI hl
  exact lv_iand hx hb d  (k H locs ls hI hl)
theorem g_idiv (C : GB l D tys A F R cc nL own Ts ro ini G) {x y : Int32} (d : decode cc pc = .ok (.idiv, 1)) (hne : ¬ y = 0) (hn : pc + 1 = q) (k : G kc ks w L q (.int (x / y) :: st)) : G kc ks w L pc (.int y :: .int x :: st) := by
  obtain ⟨p, e, s, m, args, below, meth, c, Q, rfl, hx, hb, hml, hown, hts, hK, hF, hi⟩ := C
  subst hn
  intro H locs ls hI hl
  exact lv_idiv hx hb d hne (k H locs ls hI hl)
theorem g_ineg (C : GB l D tys A F R cc nL own Ts ro ini G) {x : Int32} (d : decode cc pc = .ok (.ineg, 1))  (hn : pc + 1 = q) (k : G kc ks w L q (.int (-x) :: st)) : G kc ks w L pc (.int x :: st) := by
  obtain ⟨p, e, s, m, args, below, meth, c, Q, rfl, hx, hb, hml, hown, hts, hK, hF, hi⟩ := C
  subst hn
  intro H locs ls hI hl
  exact lv_ineg hx hb d  (k H locs ls hI hl)
theorem g_ladd (C : GB l D tys A F R cc nL own Ts ro ini G) {x y : Int64} (d : decode cc pc = .ok (.ladd, 1))  (hn : pc + 1 = q) (k : G kc ks w L q (.long (x + y) :: st)) : G kc ks w L pc (.long y :: .long x :: st) := by
  obtain ⟨p, e, s, m, args, below, meth, c, Q, rfl, hx, hb, hml, hown, hts, hK, hF, hi⟩ := C
  subst hn
  intro H locs ls hI hl
  exact lv_ladd hx hb d  (k H locs ls hI hl)
theorem g_lmul (C : GB l D tys A F R cc nL own Ts ro ini G) {x y : Int64} (d : decode cc pc = .ok (.lmul, 1))  (hn : pc + 1 = q) (k : G kc ks w L q (.long (x * y) :: st)) : G kc ks w L pc (.long y :: .long x :: st) := by
  obtain ⟨p, e, s, m, args, below, meth, c, Q, rfl, hx, hb, hml, hown, hts, hK, hF, hi⟩ := C
  subst hn
  intro H locs ls hI hl
  exact lv_lmul hx hb d  (k H locs ls hI hl)
theorem g_land (C : GB l D tys A F R cc nL own Ts ro ini G) {x y : Int64} (d : decode cc pc = .ok (.land, 1))  (hn : pc + 1 = q) (k : G kc ks w L q (.long (x &&& y) :: st)) : G kc ks w L pc (.long y :: .long x :: st) := by
  obtain ⟨p, e, s, m, args, below, meth, c, Q, rfl, hx, hb, hml, hown, hts, hK, hF, hi⟩ := C
  subst hn
  intro H locs ls hI hl
  exact lv_land hx hb d  (k H locs ls hI hl)
theorem g_ldiv (C : GB l D tys A F R cc nL own Ts ro ini G) {x y : Int64} (d : decode cc pc = .ok (.ldiv, 1)) (hne : ¬ y = 0) (hn : pc + 1 = q) (k : G kc ks w L q (.long (x / y) :: st)) : G kc ks w L pc (.long y :: .long x :: st) := by
  obtain ⟨p, e, s, m, args, below, meth, c, Q, rfl, hx, hb, hml, hown, hts, hK, hF, hi⟩ := C
  subst hn
  intro H locs ls hI hl
  exact lv_ldiv hx hb d hne (k H locs ls hI hl)
theorem g_lrem (C : GB l D tys A F R cc nL own Ts ro ini G) {x y : Int64} (d : decode cc pc = .ok (.lrem, 1)) (hne : ¬ y = 0) (hn : pc + 1 = q) (k : G kc ks w L q (.long (x - x / y * y) :: st)) : G kc ks w L pc (.long y :: .long x :: st) := by
  obtain ⟨p, e, s, m, args, below, meth, c, Q, rfl, hx, hb, hml, hown, hts, hK, hF, hi⟩ := C
  subst hn
  intro H locs ls hI hl
  exact lv_lrem hx hb d hne (k H locs ls hI hl)
theorem g_lshl (C : GB l D tys A F R cc nL own Ts ro ini G) {x : Int64} {y : Int32} (d : decode cc pc = .ok (.lshl, 1))  (hn : pc + 1 = q) (k : G kc ks w L q (.long (x <<< (y.toInt64 &&& 63)) :: st)) : G kc ks w L pc (.int y :: .long x :: st) := by
  obtain ⟨p, e, s, m, args, below, meth, c, Q, rfl, hx, hb, hml, hown, hts, hK, hF, hi⟩ := C
  subst hn
  intro H locs ls hI hl
  exact lv_lshl hx hb d rfl (k H locs ls hI hl)
theorem g_lshr (C : GB l D tys A F R cc nL own Ts ro ini G) {x : Int64} {y : Int32} (d : decode cc pc = .ok (.lshr, 1))  (hn : pc + 1 = q) (k : G kc ks w L q (.long (x >>> (y.toInt64 &&& 63)) :: st)) : G kc ks w L pc (.int y :: .long x :: st) := by
  obtain ⟨p, e, s, m, args, below, meth, c, Q, rfl, hx, hb, hml, hown, hts, hK, hF, hi⟩ := C
  subst hn
  intro H locs ls hI hl
  exact lv_lshr hx hb d rfl (k H locs ls hI hl)
theorem g_i2l (C : GB l D tys A F R cc nL own Ts ro ini G) {x : Int32} (d : decode cc pc = .ok (.i2l, 1))  (hn : pc + 1 = q) (k : G kc ks w L q (.long x.toInt64 :: st)) : G kc ks w L pc (.int x :: st) := by
  obtain ⟨p, e, s, m, args, below, meth, c, Q, rfl, hx, hb, hml, hown, hts, hK, hF, hi⟩ := C
  subst hn
  intro H locs ls hI hl
  exact lv_i2l hx hb d rfl (k H locs ls hI hl)
theorem g_l2i (C : GB l D tys A F R cc nL own Ts ro ini G) {x : Int64} (d : decode cc pc = .ok (.l2i, 1))  (hn : pc + 1 = q) (k : G kc ks w L q (.int x.toInt32 :: st)) : G kc ks w L pc (.long x :: st) := by
  obtain ⟨p, e, s, m, args, below, meth, c, Q, rfl, hx, hb, hml, hown, hts, hK, hF, hi⟩ := C
  subst hn
  intro H locs ls hI hl
  exact lv_l2i hx hb d rfl (k H locs ls hI hl)
theorem g_dup (C : GB l D tys A F R cc nL own Ts ro ini G) {v : Value} (d : decode cc pc = .ok (.dup, 1)) (hv : v.category = 1) (hn : pc + 1 = q) (k : G kc ks w L q (v :: v :: st)) : G kc ks w L pc (v :: st) := by
  obtain ⟨p, e, s, m, args, below, meth, c, Q, rfl, hx, hb, hml, hown, hts, hK, hF, hi⟩ := C
  subst hn
  intro H locs ls hI hl
  exact lv_dup hx hb d hv (k H locs ls hI hl)
theorem g_lcmp (C : GB l D tys A F R cc nL own Ts ro ini G) {x y : Int64} (d : decode cc pc = .ok (.lcmp, 1)) (hn : pc + 1 = q) (k : G kc ks w L q (.int (lg_cmp x y) :: st)) : G kc ks w L pc (.long y :: .long x :: st) := by
  obtain ⟨p, e, s, m, args, below, meth, c, Q, rfl, hx, hb, hml, hown, hts, hK, hF, hi⟩ := C
  subst hn
  intro H locs ls hI hl
  exact W.lcmp hx hb d (k H locs ls hI hl)
theorem g_iconst (C : GB l D tys A F R cc nL own Ts ro ini G) {n : Int} (v : Int32) (d : decode cc pc = .ok (.iconst n, 1)) (hv : Int32.ofInt n = v) (hn : pc + 1 = q) (k : G kc ks w L q (.int v :: st)) : G kc ks w L pc st := by
  obtain ⟨p, e, s, m, args, below, meth, c, Q, rfl, hx, hb, hml, hown, hts, hK, hF, hi⟩ := C
  subst hn
  intro H locs ls hI hl
  exact lv_iconst hx hb d hv (k H locs ls hI hl)
theorem g_bipush (C : GB l D tys A F R cc nL own Ts ro ini G) {n : Int} (v : Int32) (d : decode cc pc = .ok (.bipush n, 2)) (hv : (Int8.ofInt n).toInt32 = v) (hn : pc + 2 = q) (k : G kc ks w L q (.int v :: st)) : G kc ks w L pc st := by
  obtain ⟨p, e, s, m, args, below, meth, c, Q, rfl, hx, hb, hml, hown, hts, hK, hF, hi⟩ := C
  subst hn
  intro H locs ls hI hl
  exact lv_bipush hx hb d hv (k H locs ls hI hl)
theorem g_sipush (C : GB l D tys A F R cc nL own Ts ro ini G) {n : Int} (v : Int32) (d : decode cc pc = .ok (.sipush n, 3)) (hv : (Int16.ofInt n).toInt32 = v) (hn : pc + 3 = q) (k : G kc ks w L q (.int v :: st)) : G kc ks w L pc st := by
  obtain ⟨p, e, s, m, args, below, meth, c, Q, rfl, hx, hb, hml, hown, hts, hK, hF, hi⟩ := C
  subst hn
  intro H locs ls hI hl
  exact lv_sipush hx hb d hv (k H locs ls hI hl)
theorem g_lconst (C : GB l D tys A F R cc nL own Ts ro ini G) {n : Fin 2} (v : Int64) (d : decode cc pc = .ok (.lconst n, 1)) (hv : Int64.ofNat (n : Nat) = v) (hn : pc + 1 = q) (k : G kc ks w L q (.long v :: st)) : G kc ks w L pc st := by
  obtain ⟨p, e, s, m, args, below, meth, c, Q, rfl, hx, hb, hml, hown, hts, hK, hF, hi⟩ := C
  subst hn
  intro H locs ls hI hl
  exact lv_lconst hx hb d hv (k H locs ls hI hl)
theorem g_ldc (C : GB l D tys A F R cc nL own Ts ro ini G) {i : Nat} {v : Int32} (d : decode cc pc = .ok (.ldc i, 2)) (hw : Cond.constant own i v ∈ Ts) (hn : pc + 2 = q) (k : G kc ks w L q (.int v :: st)) : G kc ks w L pc st := by
  obtain ⟨p, e, s, m, args, below, meth, c, Q, rfl, hx, hb, hml, hown, hts, hK, hF, hi⟩ := C
  subst hn
  intro H locs ls hI hl
  exact lv_ldc hx hb hown (hts _ hw) d (k H locs ls hI hl)
theorem g_ldc2 (C : GB l D tys A F R cc nL own Ts ro ini G) {i : Nat} {v : Int64} (d : decode cc pc = .ok (.ldc2_w i, 3)) (hw : Cond.constantLong own i v ∈ Ts) (hn : pc + 3 = q) (k : G kc ks w L q (.long v :: st)) : G kc ks w L pc st := by
  obtain ⟨p, e, s, m, args, below, meth, c, Q, rfl, hx, hb, hml, hown, hts, hK, hF, hi⟩ := C
  subst hn
  intro H locs ls hI hl
  exact lv_ldc2 hx hb hown (hts _ hw) d (k H locs ls hI hl)
theorem g_iload_n (C : GB l D tys A F R cc nL own Ts ro ini G) {i : Nat} {j : Fin 4} {x : Int32} (z : Nat) (d : decode cc pc = .ok (.iload_n j, 1)) (hj : (j : Nat) = i) (h : L[z]? = some (i, .int x)) (hn : pc + 1 = q) (k : G kc ks w L q (.int x :: st)) : G kc ks w L pc st := by
  obtain ⟨p, e, s, m, args, below, meth, c, Q, rfl, hx, hb, hml, hown, hts, hK, hF, hi⟩ := C
  subst hn
  intro H locs ls hI hl
  exact lv_iload_n hx hb d hj (lv_at hl z h) (k H locs ls hI hl)
theorem g_iload (C : GB l D tys A F R cc nL own Ts ro ini G) {i : Nat} {x : Int32} (z : Nat) (d : decode cc pc = .ok (.iload i, 2)) (h : L[z]? = some (i, .int x)) (hn : pc + 2 = q) (k : G kc ks w L q (.int x :: st)) : G kc ks w L pc st := by
  obtain ⟨p, e, s, m, args, below, meth, c, Q, rfl, hx, hb, hml, hown, hts, hK, hF, hi⟩ := C
  subst hn
  intro H locs ls hI hl
  exact lv_iload hx hb d (lv_at hl z h) (k H locs ls hI hl)
theorem g_istore_n (C : GB l D tys A F R cc nL own Ts ro ini G) {i : Nat} {j : Fin 4} {x : Int32} (L' : LL) (d : decode cc pc = .ok (.istore_n j, 1)) (hj : (j : Nat) = i) (hnl : i < nL) (h : (i, Value.int x) :: L.filter (fun q => !(q.1 == i) && !(q.1 + 1 == i && q.2.category == 2)) = L') (hn : pc + 1 = q) (k : G kc ks w L' q st) : G kc ks w L pc (.int x :: st) := by
  obtain ⟨p, e, s, m, args, below, meth, c, Q, rfl, hx, hb, hml, hown, hts, hK, hF, hi⟩ := C
  subst hn
  intro H locs ls hI hl
  exact lv_istore_n hx hb d hj hl hnl h (fun ls hl => k H locs ls hI hl)
theorem g_istore (C : GB l D tys A F R cc nL own Ts ro ini G) {i : Nat} {x : Int32} (L' : LL) (d : decode cc pc = .ok (.istore i, 2)) (hnl : i < nL) (h : (i, Value.int x) :: L.filter (fun q => !(q.1 == i) && !(q.1 + 1 == i && q.2.category == 2)) = L') (hn : pc + 2 = q) (k : G kc ks w L' q st) : G kc ks w L pc (.int x :: st) := by
  obtain ⟨p, e, s, m, args, below, meth, c, Q, rfl, hx, hb, hml, hown, hts, hK, hF, hi⟩ := C
  subst hn
  intro H locs ls hI hl
  exact lv_istore hx hb d hl hnl h (fun ls hl => k H locs ls hI hl)
theorem g_lload_n (C : GB l D tys A F R cc nL own Ts ro ini G) {i : Nat} {j : Fin 4} {x : Int64} (z : Nat) (d : decode cc pc = .ok (.lload_n j, 1)) (hj : (j : Nat) = i) (h : L[z]? = some (i, .long x)) (hn : pc + 1 = q) (k : G kc ks w L q (.long x :: st)) : G kc ks w L pc st := by
  obtain ⟨p, e, s, m, args, below, meth, c, Q, rfl, hx, hb, hml, hown, hts, hK, hF, hi⟩ := C
  subst hn
  intro H locs ls hI hl
  exact lv_lload_n hx hb d hj (lv_at hl z h) (k H locs ls hI hl)
theorem g_lload (C : GB l D tys A F R cc nL own Ts ro ini G) {i : Nat} {x : Int64} (z : Nat) (d : decode cc pc = .ok (.lload i, 2)) (h : L[z]? = some (i, .long x)) (hn : pc + 2 = q) (k : G kc ks w L q (.long x :: st)) : G kc ks w L pc st := by
  obtain ⟨p, e, s, m, args, below, meth, c, Q, rfl, hx, hb, hml, hown, hts, hK, hF, hi⟩ := C
  subst hn
  intro H locs ls hI hl
  exact lv_lload hx hb d (lv_at hl z h) (k H locs ls hI hl)
theorem g_lstore_n (C : GB l D tys A F R cc nL own Ts ro ini G) {i : Nat} {j : Fin 4} {x : Int64} (L' : LL) (d : decode cc pc = .ok (.lstore_n j, 1)) (hj : (j : Nat) = i) (hnl : i + 1 < nL) (h : (i, Value.long x) :: L.filter (fun q => !(q.1 == i) && (!(q.1 == i + 1) && !(q.1 + 1 == i && q.2.category == 2))) = L') (hn : pc + 1 = q) (k : G kc ks w L' q st) : G kc ks w L pc (.long x :: st) := by
  obtain ⟨p, e, s, m, args, below, meth, c, Q, rfl, hx, hb, hml, hown, hts, hK, hF, hi⟩ := C
  subst hn
  intro H locs ls hI hl
  exact lv_lstore_n hx hb d hj hl hnl h (fun ls hl => k H locs ls hI hl)
theorem g_lstore (C : GB l D tys A F R cc nL own Ts ro ini G) {i : Nat} {x : Int64} (L' : LL) (d : decode cc pc = .ok (.lstore i, 2)) (hnl : i + 1 < nL) (h : (i, Value.long x) :: L.filter (fun q => !(q.1 == i) && (!(q.1 == i + 1) && !(q.1 + 1 == i && q.2.category == 2))) = L') (hn : pc + 2 = q) (k : G kc ks w L' q st) : G kc ks w L pc (.long x :: st) := by
  obtain ⟨p, e, s, m, args, below, meth, c, Q, rfl, hx, hb, hml, hown, hts, hK, hF, hi⟩ := C
  subst hn
  intro H locs ls hI hl
  exact lv_lstore hx hb d hl hnl h (fun ls hl => k H locs ls hI hl)
theorem g_aload_n (C : GB l D tys A F R cc nL own Ts ro ini G) {i : Nat} {j : Fin 4} {x : Nat} (z : Nat) (d : decode cc pc = .ok (.aload_n j, 1)) (hj : (j : Nat) = i) (h : L[z]? = some (i, .ref x)) (hn : pc + 1 = q) (k : G kc ks w L q (.ref x :: st)) : G kc ks w L pc st := by
  obtain ⟨p, e, s, m, args, below, meth, c, Q, rfl, hx, hb, hml, hown, hts, hK, hF, hi⟩ := C
  subst hn
  intro H locs ls hI hl
  exact lv_aload_n hx hb d hj (lv_at hl z h) (k H locs ls hI hl)
theorem g_aload (C : GB l D tys A F R cc nL own Ts ro ini G) {i : Nat} {x : Nat} (z : Nat) (d : decode cc pc = .ok (.aload i, 2)) (h : L[z]? = some (i, .ref x)) (hn : pc + 2 = q) (k : G kc ks w L q (.ref x :: st)) : G kc ks w L pc st := by
  obtain ⟨p, e, s, m, args, below, meth, c, Q, rfl, hx, hb, hml, hown, hts, hK, hF, hi⟩ := C
  subst hn
  intro H locs ls hI hl
  exact lv_aload hx hb d (lv_at hl z h) (k H locs ls hI hl)
theorem g_astore_n (C : GB l D tys A F R cc nL own Ts ro ini G) {i : Nat} {j : Fin 4} {x : Nat} (L' : LL) (d : decode cc pc = .ok (.astore_n j, 1)) (hj : (j : Nat) = i) (hnl : i < nL) (h : (i, Value.ref x) :: L.filter (fun q => !(q.1 == i) && !(q.1 + 1 == i && q.2.category == 2)) = L') (hn : pc + 1 = q) (k : G kc ks w L' q st) : G kc ks w L pc (.ref x :: st) := by
  obtain ⟨p, e, s, m, args, below, meth, c, Q, rfl, hx, hb, hml, hown, hts, hK, hF, hi⟩ := C
  subst hn
  intro H locs ls hI hl
  exact lv_astore_n hx hb d hj hl hnl h (fun ls hl => k H locs ls hI hl)
theorem g_astore (C : GB l D tys A F R cc nL own Ts ro ini G) {i : Nat} {x : Nat} (L' : LL) (d : decode cc pc = .ok (.astore i, 2)) (hnl : i < nL) (h : (i, Value.ref x) :: L.filter (fun q => !(q.1 == i) && !(q.1 + 1 == i && q.2.category == 2)) = L') (hn : pc + 2 = q) (k : G kc ks w L' q st) : G kc ks w L pc (.ref x :: st) := by
  obtain ⟨p, e, s, m, args, below, meth, c, Q, rfl, hx, hb, hml, hown, hts, hK, hF, hi⟩ := C
  subst hn
  intro H locs ls hI hl
  exact lv_astore hx hb d hl hnl h (fun ls hl => k H locs ls hI hl)
theorem g_iinc (C : GB l D tys A F R cc nL own Ts ro ini G) {i z : Nat} {n : Int} {x : Int32} (v : Int32) (L' : LL) (d : decode cc pc = .ok (.iinc i n, 3)) (hz : L[z]? = some (i, .int x)) (hv : x + Int32.ofInt n = v) (hnl : i < nL) (h : (i, Value.int v) :: L.filter (fun q => !(q.1 == i) && !(q.1 + 1 == i && q.2.category == 2)) = L') (hn : pc + 3 = q) (k : G kc ks w L' q st) : G kc ks w L pc st := by
  obtain ⟨p, e, s, m, args, below, meth, c, Q, rfl, hx, hb, hml, hown, hts, hK, hF, hi⟩ := C
  subst hn
  intro H locs ls hI hl
  exact lv_iinc hx hb d hl hz hv hnl h (fun ls hl => k H locs ls hI hl)
theorem g_locs (C : GB l D tys A F R cc nL own Ts ro ini G) (L' : LL) (zs : List Nat) (h : lv_pick L zs = L') (k : G kc ks w L' pc st) : G kc ks w L pc st := by
  obtain ⟨p, e, s, m, args, below, meth, c, Q, rfl, hx, hb, hml, hown, hts, hK, hF, hi⟩ := C
  intro H locs ls hI hl
  exact k H locs ls hI (lv_sub hl zs h)
theorem g_eqi (C : GB l D tys A F R cc nL own Ts ro ini G) {x y : Int32} (h : x = y) (k : G kc ks w L pc (.int y :: st)) : G kc ks w L pc (.int x :: st) := by
  obtain ⟨p, e, s, m, args, below, meth, c, Q, rfl, hx, hb, hml, hown, hts, hK, hF, hi⟩ := C
  intro H locs ls hI hl
  rw [h]; exact k H locs ls hI hl
theorem g_eql (C : GB l D tys A F R cc nL own Ts ro ini G) {x y : Int64} (h : x = y) (k : G kc ks w L pc (.long y :: st)) : G kc ks w L pc (.long x :: st) := by
  obtain ⟨p, e, s, m, args, below, meth, c, Q, rfl, hx, hb, hml, hown, hts, hK, hF, hi⟩ := C
  intro H locs ls hI hl
  rw [h]; exact k H locs ls hI hl
theorem g_goto (C : GB l D tys A F R cc nL own Ts ro ini G) {off : Int} (d : decode cc pc = .ok (.goto off, 3)) (ht : (pc : Int) + off = (q : Int)) (k : G kc ks w L q st) : G kc ks w L pc st := by
  obtain ⟨p, e, s, m, args, below, meth, c, Q, rfl, hx, hb, hml, hown, hts, hK, hF, hi⟩ := C
  intro H locs ls hI hl
  exact lv_goto hx hb d ht (k H locs ls hI hl)
theorem g_if_eq (C : GB l D tys A F R cc nL own Ts ro ini G) {x : Int32} {off : Int} {t : Nat} (d : decode cc pc = .ok (.ifCond .eq off, 3)) (ht : (pc : Int) + off = (t : Int)) (hn : pc + 3 = q) (kt : x = 0 → G kc ks w L t st) (kf : ¬ x = 0 → G kc ks w L q st) : G kc ks w L pc (.int x :: st) := by
  obtain ⟨p, e, s, m, args, below, meth, c, Q, rfl, hx, hb, hml, hown, hts, hK, hF, hi⟩ := C
  subst hn
  intro H locs ls hI hl
  exact lv_if_eq hx hb d ht (fun h => kt h H locs ls hI hl) (fun h => kf h H locs ls hI hl)
theorem g_if_ne (C : GB l D tys A F R cc nL own Ts ro ini G) {x : Int32} {off : Int} {t : Nat} (d : decode cc pc = .ok (.ifCond .ne off, 3)) (ht : (pc : Int) + off = (t : Int)) (hn : pc + 3 = q) (kt : ¬ x = 0 → G kc ks w L t st) (kf : x = 0 → G kc ks w L q st) : G kc ks w L pc (.int x :: st) := by
  obtain ⟨p, e, s, m, args, below, meth, c, Q, rfl, hx, hb, hml, hown, hts, hK, hF, hi⟩ := C
  subst hn
  intro H locs ls hI hl
  exact lv_if_ne hx hb d ht (fun h => kt h H locs ls hI hl) (fun h => kf h H locs ls hI hl)
theorem g_if_lt (C : GB l D tys A F R cc nL own Ts ro ini G) {x : Int32} {off : Int} {t : Nat} (d : decode cc pc = .ok (.ifCond .lt off, 3)) (ht : (pc : Int) + off = (t : Int)) (hn : pc + 3 = q) (kt : x < 0 → G kc ks w L t st) (kf : ¬ x < 0 → G kc ks w L q st) : G kc ks w L pc (.int x :: st) := by
  obtain ⟨p, e, s, m, args, below, meth, c, Q, rfl, hx, hb, hml, hown, hts, hK, hF, hi⟩ := C
  subst hn
  intro H locs ls hI hl
  exact lv_if_lt hx hb d ht (fun h => kt h H locs ls hI hl) (fun h => kf h H locs ls hI hl)
theorem g_if_ge (C : GB l D tys A F R cc nL own Ts ro ini G) {x : Int32} {off : Int} {t : Nat} (d : decode cc pc = .ok (.ifCond .ge off, 3)) (ht : (pc : Int) + off = (t : Int)) (hn : pc + 3 = q) (kt : 0 ≤ x → G kc ks w L t st) (kf : ¬ 0 ≤ x → G kc ks w L q st) : G kc ks w L pc (.int x :: st) := by
  obtain ⟨p, e, s, m, args, below, meth, c, Q, rfl, hx, hb, hml, hown, hts, hK, hF, hi⟩ := C
  subst hn
  intro H locs ls hI hl
  exact lv_if_ge hx hb d ht (fun h => kt h H locs ls hI hl) (fun h => kf h H locs ls hI hl)
theorem g_if_gt (C : GB l D tys A F R cc nL own Ts ro ini G) {x : Int32} {off : Int} {t : Nat} (d : decode cc pc = .ok (.ifCond .gt off, 3)) (ht : (pc : Int) + off = (t : Int)) (hn : pc + 3 = q) (kt : 0 < x → G kc ks w L t st) (kf : ¬ 0 < x → G kc ks w L q st) : G kc ks w L pc (.int x :: st) := by
  obtain ⟨p, e, s, m, args, below, meth, c, Q, rfl, hx, hb, hml, hown, hts, hK, hF, hi⟩ := C
  subst hn
  intro H locs ls hI hl
  exact lv_if_gt hx hb d ht (fun h => kt h H locs ls hI hl) (fun h => kf h H locs ls hI hl)
theorem g_if_le (C : GB l D tys A F R cc nL own Ts ro ini G) {x : Int32} {off : Int} {t : Nat} (d : decode cc pc = .ok (.ifCond .le off, 3)) (ht : (pc : Int) + off = (t : Int)) (hn : pc + 3 = q) (kt : x ≤ 0 → G kc ks w L t st) (kf : ¬ x ≤ 0 → G kc ks w L q st) : G kc ks w L pc (.int x :: st) := by
  obtain ⟨p, e, s, m, args, below, meth, c, Q, rfl, hx, hb, hml, hown, hts, hK, hF, hi⟩ := C
  subst hn
  intro H locs ls hI hl
  exact lv_if_le hx hb d ht (fun h => kt h H locs ls hI hl) (fun h => kf h H locs ls hI hl)
theorem g_icmp_eq (C : GB l D tys A F R cc nL own Ts ro ini G) {x y : Int32} {off : Int} {t : Nat} (d : decode cc pc = .ok (.if_icmp .eq off, 3)) (ht : (pc : Int) + off = (t : Int)) (hn : pc + 3 = q) (kt : x = y → G kc ks w L t st) (kf : ¬ x = y → G kc ks w L q st) : G kc ks w L pc (.int y :: .int x :: st) := by
  obtain ⟨p, e, s, m, args, below, meth, c, Q, rfl, hx, hb, hml, hown, hts, hK, hF, hi⟩ := C
  subst hn
  intro H locs ls hI hl
  exact lv_icmp_eq hx hb d ht (fun h => kt h H locs ls hI hl) (fun h => kf h H locs ls hI hl)
theorem g_icmp_ne (C : GB l D tys A F R cc nL own Ts ro ini G) {x y : Int32} {off : Int} {t : Nat} (d : decode cc pc = .ok (.if_icmp .ne off, 3)) (ht : (pc : Int) + off = (t : Int)) (hn : pc + 3 = q) (kt : ¬ x = y → G kc ks w L t st) (kf : x = y → G kc ks w L q st) : G kc ks w L pc (.int y :: .int x :: st) := by
  obtain ⟨p, e, s, m, args, below, meth, c, Q, rfl, hx, hb, hml, hown, hts, hK, hF, hi⟩ := C
  subst hn
  intro H locs ls hI hl
  exact lv_icmp_ne hx hb d ht (fun h => kt h H locs ls hI hl) (fun h => kf h H locs ls hI hl)
theorem g_icmp_lt (C : GB l D tys A F R cc nL own Ts ro ini G) {x y : Int32} {off : Int} {t : Nat} (d : decode cc pc = .ok (.if_icmp .lt off, 3)) (ht : (pc : Int) + off = (t : Int)) (hn : pc + 3 = q) (kt : x < y → G kc ks w L t st) (kf : ¬ x < y → G kc ks w L q st) : G kc ks w L pc (.int y :: .int x :: st) := by
  obtain ⟨p, e, s, m, args, below, meth, c, Q, rfl, hx, hb, hml, hown, hts, hK, hF, hi⟩ := C
  subst hn
  intro H locs ls hI hl
  exact lv_icmp_lt hx hb d ht (fun h => kt h H locs ls hI hl) (fun h => kf h H locs ls hI hl)
theorem g_icmp_ge (C : GB l D tys A F R cc nL own Ts ro ini G) {x y : Int32} {off : Int} {t : Nat} (d : decode cc pc = .ok (.if_icmp .ge off, 3)) (ht : (pc : Int) + off = (t : Int)) (hn : pc + 3 = q) (kt : y ≤ x → G kc ks w L t st) (kf : ¬ y ≤ x → G kc ks w L q st) : G kc ks w L pc (.int y :: .int x :: st) := by
  obtain ⟨p, e, s, m, args, below, meth, c, Q, rfl, hx, hb, hml, hown, hts, hK, hF, hi⟩ := C
  subst hn
  intro H locs ls hI hl
  exact lv_icmp_ge hx hb d ht (fun h => kt h H locs ls hI hl) (fun h => kf h H locs ls hI hl)
theorem g_icmp_gt (C : GB l D tys A F R cc nL own Ts ro ini G) {x y : Int32} {off : Int} {t : Nat} (d : decode cc pc = .ok (.if_icmp .gt off, 3)) (ht : (pc : Int) + off = (t : Int)) (hn : pc + 3 = q) (kt : y < x → G kc ks w L t st) (kf : ¬ y < x → G kc ks w L q st) : G kc ks w L pc (.int y :: .int x :: st) := by
  obtain ⟨p, e, s, m, args, below, meth, c, Q, rfl, hx, hb, hml, hown, hts, hK, hF, hi⟩ := C
  subst hn
  intro H locs ls hI hl
  exact lv_icmp_gt hx hb d ht (fun h => kt h H locs ls hI hl) (fun h => kf h H locs ls hI hl)
theorem g_icmp_le (C : GB l D tys A F R cc nL own Ts ro ini G) {x y : Int32} {off : Int} {t : Nat} (d : decode cc pc = .ok (.if_icmp .le off, 3)) (ht : (pc : Int) + off = (t : Int)) (hn : pc + 3 = q) (kt : x ≤ y → G kc ks w L t st) (kf : ¬ x ≤ y → G kc ks w L q st) : G kc ks w L pc (.int y :: .int x :: st) := by
  obtain ⟨p, e, s, m, args, below, meth, c, Q, rfl, hx, hb, hml, hown, hts, hK, hF, hi⟩ := C
  subst hn
  intro H locs ls hI hl
  exact lv_icmp_le hx hb d ht (fun h => kt h H locs ls hI hl) (fun h => kf h H locs ls hI hl)
theorem g_tableOut (C : GB l D tys A F R cc nL own Ts ro ini G) {dflt lo hi : Int} {offs : Array Int} {len : Nat} {x : Int32} (d : decode cc pc = .ok (.tableswitch dflt lo hi offs, len)) (h : x.toInt < lo ∨ hi < x.toInt) (ht : (pc : Int) + dflt = (q : Int)) (k : G kc ks w L q st) : G kc ks w L pc (.int x :: st) := by
  obtain ⟨p, e, s, m, args, below, meth, c, Q, rfl, hx, hb, hml, hown, hts, hK, hF, hi⟩ := C
  intro H locs ls hI hl
  exact lv_tableOut hx hb d h ht (k H locs ls hI hl)
theorem g_tableIn (C : GB l D tys A F R cc nL own Ts ro ini G) {dflt lo hi off : Int} {offs : Array Int} {len : Nat} {x : Int32} (d : decode cc pc = .ok (.tableswitch dflt lo hi offs, len)) (h1 : ¬ x.toInt < lo) (h2 : ¬ hi < x.toInt) (ho : offs[(x.toInt - lo).toNat]? = some off) (ht : (pc : Int) + off = (q : Int)) (k : G kc ks w L q st) : G kc ks w L pc (.int x :: st) := by
  obtain ⟨p, e, s, m, args, below, meth, c, Q, rfl, hx, hb, hml, hown, hts, hK, hF, hi⟩ := C
  intro H locs ls hI hl
  exact lv_tableIn hx hb d h1 h2 ho ht (k H locs ls hI hl)
theorem g_get (C : GB l D tys A F R cc nL own Ts ro ini G) {Cn : String} {T : u_T} {N ci i a : Nat} {fs : List Value} {v : Value} (z : Nat) (f : Nat) (d : decode cc pc = .ok (.getfield i, 3)) (hin : ∀ x ∈ u_ws Cn T N, x ∈ Ts) (he : w[z]? = some (a, .inr (ci, fs))) (hc : vwCl[ci]? = some (Cn, T, N)) (hk : f < N) (hw : Cond.fieldLink own i (T f).1 (T f).2.1 (T f).2.2.1 ∈ Ts) (hv : fs[f]? = some v) (hn : pc + 3 = q) (k : G kc ks w L q (v :: st)) : G kc ks w L pc (.ref a :: st) := by
  obtain ⟨p, e, s, m, args, below, meth, c, Q, rfl, hx, hb, hml, hown, hts, hK, hF, hi⟩ := C
  subst hn
  intro H locs ls hI hl
  exact va_get hx hb hts hin hown hK hI.1 z he hc f hk (hts _ hw) (fun _ h9 => h9) hv d (k H locs ls hI hl)
theorem g_put (C : GB l D tys A F R cc nL own Ts false ini G) {Cn : String} {T : u_T} {N ci i a : Nat} {fs : List Value} {v : Value} {ty0 : Nat → FieldType} (z : Nat) (f : Nat) (w' : va_W) (d : decode cc pc = .ok (.putfield i, 3)) (hin : ∀ x ∈ u_ws Cn T N, x ∈ Ts) (hty : ∀ k, k < N → parseFieldDescriptor (T k).2.2.1 = some (ty0 k)) (hnm : ∀ a, a < N → ∀ b, b < N → a ≠ b → (T a).2.1 ≠ (T b).2.1) (he : w[z]? = some (a, .inr (ci, fs))) (hc : vwCl[ci]? = some (Cn, T, N)) (hk : f < N) (hw : Cond.fieldLink own i (T f).1 (T f).2.1 (T f).2.2.1 ∈ Ts) (hfin : (T f).2.2.2 = false) {ty : FieldType} (hd : parseFieldDescriptor (T f).2.2.1 = some ty) (hnv : narrow ty v = v) (hfit : fits ty v = true) (hfl : f < fs.length) (hs : w.set z (a, .inr (ci, fs.set f v)) = w') (hn : pc + 3 = q) (k : G kc ks w' L q st) : G kc ks w L pc (v :: .ref a :: st) := by
  obtain ⟨p, e, s, m, args, below, meth, c, Q, rfl, hx, hb, hml, hown, hts, hK, hF, hi⟩ := C
  subst hn
  subst hs
  intro H locs ls hI hl
  exact va_put hx hb hts hin ty0 hty hnm hown hK hI.1 hI.2.1 hI.2.2.1 z he hc f hk (hts _ hw) (fun _ h9 => h9) hfin hd hnv hfit hfl d (fun H1 locs1 h1 h2 h3 => k H1 locs1 ls ⟨h1, h2, h3, fun h => by cases h⟩ hl)
theorem g_putF (C : GB l D tys A F R cc nL own Ts false true G) {Cn : String} {T : u_T} {N ci i a : Nat} {fs : List Value} {v : Value} {ty0 : Nat → FieldType} (z : Nat) (f : Nat) (w' : va_W) (d : decode cc pc = .ok (.putfield i, 3)) (hin : ∀ x ∈ u_ws Cn T N, x ∈ Ts) (hty : ∀ k, k < N → parseFieldDescriptor (T k).2.2.1 = some (ty0 k)) (hnm : ∀ a, a < N → ∀ b, b < N → a ≠ b → (T a).2.1 ≠ (T b).2.1) (he : w[z]? = some (a, .inr (ci, fs))) (hc : vwCl[ci]? = some (Cn, T, N)) (hk : f < N) (hw : Cond.fieldLink own i (T f).1 (T f).2.1 (T f).2.2.1 ∈ Ts) (hfin : (T f).2.2.2 = true) (hdc : (T f).1 = own) {ty : FieldType} (hd : parseFieldDescriptor (T f).2.2.1 = some ty) (hnv : narrow ty v = v) (hfit : fits ty v = true) (hfl : f < fs.length) (hs : w.set z (a, .inr (ci, fs.set f v)) = w') (hn : pc + 3 = q) (k : G kc ks w' L q st) : G kc ks w L pc (v :: .ref a :: st) := by
  obtain ⟨p, e, s, m, args, below, meth, c, Q, rfl, hx, hb, hml, hown, hts, hK, hF, hi⟩ := C
  subst hn
  subst hs
  intro H locs ls hI hl
  exact va_putF hx hb hts hin ty0 hty hnm hown hK hI.1 hI.2.1 hI.2.2.1 z he hc f hk (hts _ hw) (fun _ h9 => h9) hfin (hi rfl) hdc hd hnv hfit hfl d (fun H1 locs1 h1 h2 h3 => k H1 locs1 ls ⟨h1, h2, h3, fun h => by cases h⟩ hl)
theorem g_iald (C : GB l D tys A F R cc nL own Ts ro ini G) {cA : ClassId} {a n : Nat} {f : Nat → Int32} {i : Int32} (z t : Nat) (d : decode cc pc = .ok (.iaload, 1)) (he : w[z]? = some (a, .inl (cA, n, .inl f))) (ht : tys[t]? = some (cA, .int)) (hi0 : vp_in i n) (hn : pc + 1 = q) (k : G kc ks w L q (.int (f i.toNatClampNeg) :: st)) : G kc ks w L pc (.int i :: .ref a :: st) := by
  obtain ⟨p, e, s, m, args, below, meth, c, Q, rfl, hx, hb, hml, hown, hts, hK, hF, hi⟩ := C
  subst hn
  intro H locs ls hI hl
  exact va_iald hx hb hK hI.1 z t he ht hi0 d (k H locs ls hI hl)
theorem g_zald (C : GB l D tys A F R cc nL own Ts ro ini G) {cA : ClassId} {a n : Nat} {f : Nat → Int32} {i : Int32} (z t : Nat) (d : decode cc pc = .ok (.baload, 1)) (he : w[z]? = some (a, .inl (cA, n, .inl f))) (ht : tys[t]? = some (cA, .boolean)) (hi0 : vp_in i n) (hn : pc + 1 = q) (k : G kc ks w L q (.int (f i.toNatClampNeg) :: st)) : G kc ks w L pc (.int i :: .ref a :: st) := by
  obtain ⟨p, e, s, m, args, below, meth, c, Q, rfl, hx, hb, hml, hown, hts, hK, hF, hi⟩ := C
  subst hn
  intro H locs ls hI hl
  exact va_zald hx hb hK hI.1 z t he ht hi0 d (k H locs ls hI hl)
theorem g_lald (C : GB l D tys A F R cc nL own Ts ro ini G) {cA : ClassId} {a n : Nat} {f : Nat → Int64} {i : Int32} (z t : Nat) (d : decode cc pc = .ok (.laload, 1)) (he : w[z]? = some (a, .inl (cA, n, .inr (.inl f)))) (ht : tys[t]? = some (cA, .long)) (hi0 : vp_in i n) (hn : pc + 1 = q) (k : G kc ks w L q (.long (f i.toNatClampNeg) :: st)) : G kc ks w L pc (.int i :: .ref a :: st) := by
  obtain ⟨p, e, s, m, args, below, meth, c, Q, rfl, hx, hb, hml, hown, hts, hK, hF, hi⟩ := C
  subst hn
  intro H locs ls hI hl
  exact va_lald hx hb hK hI.1 z t he ht hi0 d (k H locs ls hI hl)
theorem g_iast (C : GB l D tys A F R cc nL own Ts false ini G) {cA : ClassId} {a n : Nat} {f : Nat → Int32} {i : Int32} {x : Int32} (z t : Nat) (w' : va_W) (d : decode cc pc = .ok (.iastore, 1)) (he : w[z]? = some (a, .inl (cA, n, .inl f))) (ht : tys[t]? = some (cA, .int)) (hi0 : vp_in i n) (hs : w.set z (a, .inl (cA, n, .inl (upd f i.toNatClampNeg x))) = w') (hn : pc + 1 = q) (k : G kc ks w' L q st) : G kc ks w L pc (.int x :: .int i :: .ref a :: st) := by
  obtain ⟨p, e, s, m, args, below, meth, c, Q, rfl, hx, hb, hml, hown, hts, hK, hF, hi⟩ := C
  subst hn
  subst hs
  intro H locs ls hI hl
  exact va_iast hx hb hK hI.1 hI.2.1 hI.2.2.1 z t he ht hi0 d (fun H1 locs1 h1 h2 h3 => k H1 locs1 ls ⟨h1, h2, h3, fun h => by cases h⟩ hl)
theorem g_zast (C : GB l D tys A F R cc nL own Ts false ini G) {cA : ClassId} {a n : Nat} {f : Nat → Int32} {i : Int32} {x : Int32} (z t : Nat) (w' : va_W) (d : decode cc pc = .ok (.bastore, 1)) (he : w[z]? = some (a, .inl (cA, n, .inl f))) (ht : tys[t]? = some (cA, .boolean)) (hi0 : vp_in i n) (hs : w.set z (a, .inl (cA, n, .inl (upd f i.toNatClampNeg (vp_nar .boolean x)))) = w') (hn : pc + 1 = q) (k : G kc ks w' L q st) : G kc ks w L pc (.int x :: .int i :: .ref a :: st) := by
  obtain ⟨p, e, s, m, args, below, meth, c, Q, rfl, hx, hb, hml, hown, hts, hK, hF, hi⟩ := C
  subst hn
  subst hs
  intro H locs ls hI hl
  exact va_zast hx hb hK hI.1 hI.2.1 hI.2.2.1 z t he ht hi0 d (fun H1 locs1 h1 h2 h3 => k H1 locs1 ls ⟨h1, h2, h3, fun h => by cases h⟩ hl)
theorem g_last (C : GB l D tys A F R cc nL own Ts false ini G) {cA : ClassId} {a n : Nat} {f : Nat → Int64} {i : Int32} {x : Int64} (z t : Nat) (w' : va_W) (d : decode cc pc = .ok (.lastore, 1)) (he : w[z]? = some (a, .inl (cA, n, .inr (.inl f)))) (ht : tys[t]? = some (cA, .long)) (hi0 : vp_in i n) (hs : w.set z (a, .inl (cA, n, .inr (.inl (vp_updL f i.toNatClampNeg x)))) = w') (hn : pc + 1 = q) (k : G kc ks w' L q st) : G kc ks w L pc (.long x :: .int i :: .ref a :: st) := by
  obtain ⟨p, e, s, m, args, below, meth, c, Q, rfl, hx, hb, hml, hown, hts, hK, hF, hi⟩ := C
  subst hn
  subst hs
  intro H locs ls hI hl
  exact va_last hx hb hK hI.1 hI.2.1 hI.2.2.1 z t he ht hi0 d (fun H1 locs1 h1 h2 h3 => k H1 locs1 ls ⟨h1, h2, h3, fun h => by cases h⟩ hl)
theorem g_alen (C : GB l D tys A F R cc nL own Ts ro ini G) {cA : ClassId} {a : Nat} {x : vp_A} {ty : FieldType} {v : Int32} (z t : Nat) (d : decode cc pc = .ok (.arraylength, 1)) (he : w[z]? = some (a, .inl (cA, x))) (ht : tys[t]? = some (cA, ty)) (hv : Int32.ofNat x.1 = v) (hn : pc + 1 = q) (k : G kc ks w L q (.int v :: st)) : G kc ks w L pc (.ref a :: st) := by
  obtain ⟨p, e, s, m, args, below, meth, c, Q, rfl, hx, hb, hml, hown, hts, hK, hF, hi⟩ := C
  subst hn
  intro H locs ls hI hl
  exact va_alen hx hb hK hI.1 z t he ht hv d (k H locs ls hI hl)
theorem g_arrI (C : GB l D tys A F R cc nL own Ts false ini G) {cA : ClassId} {a n : Nat} {f : Nat → Int32} (f2 : Nat → Int32) (z : Nat) (w' : va_W) (he : w[z]? = some (a, .inl (cA, n, .inl f))) (hf : ∀ j, j < n → f j = f2 j) (hs : w.set z (a, .inl (cA, n, .inl f2)) = w') (k : G kc ks w' L pc st) : G kc ks w L pc st := by
  obtain ⟨p, e, s, m, args, below, meth, c, Q, rfl, hx, hb, hml, hown, hts, hK, hF, hi⟩ := C
  subst hs
  intro H locs ls hI hl
  refine k H locs ls ⟨hI.1.set hI.2.1 he ?_ (fun _ _ => rfl), hI.2.1.set he, hI.2.2.1, hI.2.2.2⟩ hl
  have h0 : H[a]? = some (vp_cell cA (n, .inl f)) := hI.1 z _ he
  have h1 : vp_cell cA (n, .inl f) = vp_cell cA (n, .inl f2) := by
    show arrV cA n (fun j => .int (f j)) = arrV cA n (fun j => .int (f2 j))
    unfold arrV
    congr 2
    funext j
    exact congrArg _ (hf j.val j.isLt)
  exact h0.trans (congrArg some h1)
theorem g_arrJ (C : GB l D tys A F R cc nL own Ts false ini G) {cA : ClassId} {a n : Nat} {f : Nat → Int64} (f2 : Nat → Int64) (z : Nat) (w' : va_W) (he : w[z]? = some (a, .inl (cA, n, .inr (.inl f)))) (hf : ∀ j, j < n → f j = f2 j) (hs : w.set z (a, .inl (cA, n, .inr (.inl f2))) = w') (k : G kc ks w' L pc st) : G kc ks w L pc st := by
  obtain ⟨p, e, s, m, args, below, meth, c, Q, rfl, hx, hb, hml, hown, hts, hK, hF, hi⟩ := C
  subst hs
  intro H locs ls hI hl
  refine k H locs ls ⟨hI.1.set hI.2.1 he ?_ (fun _ _ => rfl), hI.2.1.set he, hI.2.2.1, hI.2.2.2⟩ hl
  have h0 : H[a]? = some (vp_cell cA (n, .inr (.inl f))) := hI.1 z _ he
  have h1 : vp_cell cA (n, .inr (.inl f)) = vp_cell cA (n, .inr (.inl f2)) := by
    show arrV cA n (fun j => .long (f j)) = arrV cA n (fun j => .long (f2 j))
    unfold arrV
    congr 2
    funext j
    exact congrArg _ (hf j.val j.isLt)
  exact h0.trans (congrArg some h1)
theorem g_mmax (C : GB l D tys A F R cc nL own Ts ro ini G) {x y : Int32} {i : Nat} (d : decode cc pc = .ok (.invokestatic i, 3)) (HL : Cond.methodLink own i Lib.Math.max.name ∈ Ts) (hs0 : Cond.static Lib.Math.max.name ∈ Ts) (hin : Cond.initialized "java/lang/Math" ∈ Ts) (hcd : Cond.code Lib.Math.max.name Lib.Math.max.code 2 (some .int) ∈ Ts) (hfr : 1 ≤ R.frames) (hlo : (st.map fun v => v.category).sum + 13 ≤ R.locals) (hc : kc ≤ R.cells) (hs : ks ≤ R.slots) (hn : pc + 3 = q) (k : G kc ks w L q (.int (if x < y then y else x) :: st)) : G kc ks w L pc (.int y :: .int x :: st) := by
  obtain ⟨p, e, s, m, args, below, meth, c, Q, rfl, hx, hb, hml, hown, hts, hK, hF, hi⟩ := C
  subst hn
  intro H locs ls hI LS
  exact va_mmax hx hb (hml.trans LS.1.symm) hown (hts _ HL) (hts _ hs0) (hts _ hin) (hts _ hcd) hfr hlo hc hs d (k H locs ls hI LS)
theorem g_mabs (C : GB l D tys A F R cc nL own Ts ro ini G) {x : Int32} {i : Nat} (d : decode cc pc = .ok (.invokestatic i, 3)) (HL : Cond.methodLink own i Lib.Math.abs.name ∈ Ts) (hs0 : Cond.static Lib.Math.abs.name ∈ Ts) (hin : Cond.initialized "java/lang/Math" ∈ Ts) (hcd : Cond.code Lib.Math.abs.name Lib.Math.abs.code 1 (some .int) ∈ Ts) (hfr : 1 ≤ R.frames) (hlo : (st.map fun v => v.category).sum + 13 ≤ R.locals) (hc : kc ≤ R.cells) (hs : ks ≤ R.slots) (hn : pc + 3 = q) (k : G kc ks w L q (.int (if 0 ≤ x then x else 0 - x) :: st)) : G kc ks w L pc (.int x :: st) := by
  obtain ⟨p, e, s, m, args, below, meth, c, Q, rfl, hx, hb, hml, hown, hts, hK, hF, hi⟩ := C
  subst hn
  intro H locs ls hI LS
  exact va_mabs hx hb (hml.trans LS.1.symm) hown (hts _ HL) (hts _ hs0) (hts _ hin) (hts _ hcd) hfr hlo hc hs d (k H locs ls hI LS)
end GR
def FT : State → Prop := fun _ => True
theorem FT_b : ∀ (U : State) (g : JFrame) (mk : MethodId) (a : Array Value), FT U → FT (U.calling g mk a) := fun _ _ _ _ _ => trivial
theorem FT_h {ro : Bool} {D : va_G} {A : Nat → Prop} {w : va_W} {F : State → Prop} : ∀ (s : State) (H : Heap) (locs : List Loc) (U : State), F s → gI ro D A s w H locs → U.heap = H → s.vm.Alike U.vm → FT U := fun _ _ _ _ _ _ _ _ => trivial
theorem gPc_blind {D : va_G} {tys : TT} {A : Nat → Prop} {F : State → Prop} {w : va_W} {avs : List Value} (hFb : ∀ (U : State) (g : JFrame) (mk : MethodId) (a : Array Value), F U → F (U.calling g mk a)) : FrameBlind (gPc D tys A F w avs) := fun a U g mk q => by
  obtain ⟨q1, qP, qK, qD, qF⟩ := q
  exact ⟨q1, qP, va_K.moved (u := U) (U := U.calling g mk a) (Vm.Alike.refl U.vm) qK, qD, hFb _ _ _ _ qF⟩
theorem map_fm {α β : Type} {f : α → Option β} : ∀ {l : List α} {r : List β}, l.map f = r.map some → l.filterMap f = r
  | [], [], _ => rfl
  | [], _ :: _, h => by simp at h
  | a :: l, [], h => by simp at h
  | a :: l, b :: r, h => by
    simp only [List.map_cons, List.cons.injEq] at h
    rw [List.filterMap_cons, h.1, map_fm h.2]
section GS
variable {l : Launch} {D : va_G} {tys : TT} {A : Nat → Prop} {F : State → Prop} {cc : ByteArray} {nL : Nat} {y : MethodName} {ws ws' : List Cond} {rm : Room} {w0 : va_W} {avs : List Value}
theorem gs_si {ty : FieldType} {post : Int32 → Prop} (hy : plainName y.cls = true) (hw : ws = Cond.code y cc nL (some ty) :: ws') (hle : (lg_sl avs).length ≤ nL)
    (body : ∀ G, GB l D tys A F rm cc nL y.cls ws true false G → (∀ (v : Int32) (pc : Nat) (w : va_W) (L : LL), decode cc pc = .ok (.ireturn, 1) → narrow ty (.int v) = .int v → post v → G 0 0 w L pc [.int v]) → G 0 0 w0 (lv_args 0 avs) 0 []) : Met l y ws rm (gPc D tys A F w0 avs) (vp_Si post) 0 0 (fun _ => False) := by
  refine Met.ofW hy hw ?_
  intro p e s m args below meth c s₁ B hml hv
  obtain ⟨rfl, hP, hK, hD, hF⟩ := hv
  have hts := atoms_spec (ws := ws) B.pre
  have hown : s.vm.findClass y.cls = some m.cls := findClass_of_methodNamed B.named
  have hr := B.returns
  have hlk := B.notSynchronized
  have hx := B.exec
  have hb := B.bytes
  have hl := lv_entry avs hle
  rw [lg_entry_eq]
  generalize (lg_sl avs ++ List.replicate (nL - (lg_sl avs).length) Slot.unset).toArray = ls at hl ⊢
  have key := body _ ⟨p, e, s, m, avs.toArray, below, meth, c, MQ below (vp_Si post) avs.toArray s 0 0 (fun _ => False), rfl, hx, hb, hml, hown, hts, hK, hF, fun h => by cases h⟩ ?_
  · exact key s.heap [] ls ⟨hP, hD, va_S.rf, fun _ => ⟨rfl, rfl⟩⟩ hl
  · intro v pc w L hd hn hp H locs ls hI hl
    obtain ⟨-, -, -, h4⟩ := hI
    obtain ⟨rfl, rfl⟩ := h4 rfl
    exact W.zret hx hb hr hn (fun t ht hW => ⟨v, rfl, hp, ht⟩) (fun q hq => by cases hq) hd hlk
theorem gs_sl {post : Int64 → Prop} (hy : plainName y.cls = true) (hw : ws = Cond.code y cc nL (some .long) :: ws') (hle : (lg_sl avs).length ≤ nL)
    (body : ∀ G, GB l D tys A F rm cc nL y.cls ws true false G → (∀ (v : Int64) (pc : Nat) (w : va_W) (L : LL), decode cc pc = .ok (.lreturn, 1) → post v → G 0 0 w L pc [.long v]) → G 0 0 w0 (lv_args 0 avs) 0 []) : Met l y ws rm (gPc D tys A F w0 avs) (vp_Sl post) 0 0 (fun _ => False) := by
  refine Met.ofW hy hw ?_
  intro p e s m args below meth c s₁ B hml hv
  obtain ⟨rfl, hP, hK, hD, hF⟩ := hv
  have hts := atoms_spec (ws := ws) B.pre
  have hown : s.vm.findClass y.cls = some m.cls := findClass_of_methodNamed B.named
  have hr := B.returns
  have hlk := B.notSynchronized
  have hx := B.exec
  have hb := B.bytes
  have hl := lv_entry avs hle
  rw [lg_entry_eq]
  generalize (lg_sl avs ++ List.replicate (nL - (lg_sl avs).length) Slot.unset).toArray = ls at hl ⊢
  have key := body _ ⟨p, e, s, m, avs.toArray, below, meth, c, MQ below (vp_Sl post) avs.toArray s 0 0 (fun _ => False), rfl, hx, hb, hml, hown, hts, hK, hF, fun h => by cases h⟩ ?_
  · exact key s.heap [] ls ⟨hP, hD, va_S.rf, fun _ => ⟨rfl, rfl⟩⟩ hl
  · intro v pc w L hd hp H locs ls hI hl
    obtain ⟨-, -, -, h4⟩ := hI
    obtain ⟨rfl, rfl⟩ := h4 rfl
    exact W.lret hx hb hr (fun t ht hW => ⟨v, rfl, hp, ht⟩) (fun q hq => by cases hq) hd hlk
theorem gs_qv {S : Type} {post : S → Prop} {W' : S → va_W} {mc ms : Nat} (hy : plainName y.cls = true) (hw : ws = Cond.code y cc nL none :: ws') (hle : (lg_sl avs).length ≤ nL)
    (body : ∀ G, GB l D tys A F rm cc nL y.cls ws false false G → (∀ (u : S) (pc : Nat) (L : LL), decode cc pc = .ok (.return_, 1) → post u → G mc ms (W' u) L pc []) → G 0 0 w0 (lv_args 0 avs) 0 []) : Met l y ws rm (gPc D tys A F w0 avs) (va_Qv post (fun u t => va_P D vwCl (W' u) t.heap ∧ va_D A (W' u)) A) mc ms (A) := by
  refine Met.ofW hy hw ?_
  intro p e s m args below meth c s₁ B hml hv
  obtain ⟨rfl, hP, hK, hD, hF⟩ := hv
  have hts := atoms_spec (ws := ws) B.pre
  have hown : s.vm.findClass y.cls = some m.cls := findClass_of_methodNamed B.named
  have hr := B.returns
  have hlk := B.notSynchronized
  have hx := B.exec
  have hb := B.bytes
  have hl := lv_entry avs hle
  rw [lg_entry_eq]
  generalize (lg_sl avs ++ List.replicate (nL - (lg_sl avs).length) Slot.unset).toArray = ls at hl ⊢
  have key := body _ ⟨p, e, s, m, avs.toArray, below, meth, c, MQ below (va_Qv post (fun u t => va_P D vwCl (W' u) t.heap ∧ va_D A (W' u)) A) avs.toArray s mc ms (A), rfl, hx, hb, hml, hown, hts, hK, hF, fun h => by cases h⟩ ?_
  · exact key s.heap [] ls ⟨hP, hD, va_S.rf, fun _ => ⟨rfl, rfl⟩⟩ hl
  · intro u pc L hd hp H locs ls hI hl
    exact W.vret hx hb hr (fun t ht hW => ⟨⟨u, rfl, hp, by rw [ht]; exact hI.1, hI.2.1⟩, hI.2.2.1.F ht⟩) hI.2.2.1.2.2 hd hlk
theorem gs_qvI {S : Type} {post : S → Prop} {W' : S → va_W} {mc ms : Nat} (hy : plainName y.cls = true) (hw : ws = Cond.code y cc nL none :: ws') (hle : (lg_sl avs).length ≤ nL) (hini : y.name = "<init>")
    (body : ∀ G, GB l D tys A F rm cc nL y.cls ws false true G → (∀ (u : S) (pc : Nat) (L : LL), decode cc pc = .ok (.return_, 1) → post u → G mc ms (W' u) L pc []) → G 0 0 w0 (lv_args 0 avs) 0 []) : Met l y ws rm (gPc D tys A F w0 avs) (va_Qv post (fun u t => va_P D vwCl (W' u) t.heap ∧ va_D A (W' u)) A) mc ms (A) := by
  refine Met.ofW hy hw ?_
  intro p e s m args below meth c s₁ B hml hv
  obtain ⟨rfl, hP, hK, hD, hF⟩ := hv
  have hts := atoms_spec (ws := ws) B.pre
  have hown : s.vm.findClass y.cls = some m.cls := findClass_of_methodNamed B.named
  have hr := B.returns
  have hlk := B.notSynchronized
  have hx := B.exec
  have hb := B.bytes
  have hl := lv_entry avs hle
  rw [lg_entry_eq]
  generalize (lg_sl avs ++ List.replicate (nL - (lg_sl avs).length) Slot.unset).toArray = ls at hl ⊢
  have key := body _ ⟨p, e, s, m, avs.toArray, below, meth, c, MQ below (va_Qv post (fun u t => va_P D vwCl (W' u) t.heap ∧ va_D A (W' u)) A) avs.toArray s mc ms (A), rfl, hx, hb, hml, hown, hts, hK, hF, fun h => ((name_of_methodNamed B.named B.method).1).trans hini⟩ ?_
  · exact key s.heap [] ls ⟨hP, hD, va_S.rf, fun _ => ⟨rfl, rfl⟩⟩ hl
  · intro u pc L hd hp H locs ls hI hl
    exact W.vret hx hb hr (fun t ht hW => ⟨⟨u, rfl, hp, by rw [ht]; exact hI.1, hI.2.1⟩, hI.2.2.1.F ht⟩) hI.2.2.1.2.2 hd hlk
theorem gs_qi {S : Type} {ty : FieldType} {post : Int32 → S → Prop} {W' : S → va_W} {mc ms : Nat} (hy : plainName y.cls = true) (hw : ws = Cond.code y cc nL (some ty) :: ws') (hle : (lg_sl avs).length ≤ nL)
    (body : ∀ G, GB l D tys A F rm cc nL y.cls ws false false G → (∀ (v : Int32) (u : S) (pc : Nat) (L : LL), decode cc pc = .ok (.ireturn, 1) → narrow ty (.int v) = .int v → post v u → G mc ms (W' u) L pc [.int v]) → G 0 0 w0 (lv_args 0 avs) 0 []) : Met l y ws rm (gPc D tys A F w0 avs) (va_Qi post (fun u t => va_P D vwCl (W' u) t.heap ∧ va_D A (W' u)) A) mc ms (A) := by
  refine Met.ofW hy hw ?_
  intro p e s m args below meth c s₁ B hml hv
  obtain ⟨rfl, hP, hK, hD, hF⟩ := hv
  have hts := atoms_spec (ws := ws) B.pre
  have hown : s.vm.findClass y.cls = some m.cls := findClass_of_methodNamed B.named
  have hr := B.returns
  have hlk := B.notSynchronized
  have hx := B.exec
  have hb := B.bytes
  have hl := lv_entry avs hle
  rw [lg_entry_eq]
  generalize (lg_sl avs ++ List.replicate (nL - (lg_sl avs).length) Slot.unset).toArray = ls at hl ⊢
  have key := body _ ⟨p, e, s, m, avs.toArray, below, meth, c, MQ below (va_Qi post (fun u t => va_P D vwCl (W' u) t.heap ∧ va_D A (W' u)) A) avs.toArray s mc ms (A), rfl, hx, hb, hml, hown, hts, hK, hF, fun h => by cases h⟩ ?_
  · exact key s.heap [] ls ⟨hP, hD, va_S.rf, fun _ => ⟨rfl, rfl⟩⟩ hl
  · intro v u pc L hd hn hp H locs ls hI hl
    exact W.zret hx hb hr hn (fun t ht hW => ⟨⟨v, u, rfl, hp, by rw [ht]; exact hI.1, hI.2.1⟩, hI.2.2.1.F ht⟩) hI.2.2.1.2.2 hd hlk
theorem gs_qr {S : Type} {rt : FieldType} {post : S → Prop} {Ra : S → Nat → Prop} {W' : S → va_W} {mc ms : Nat} (hrt : (∃ n, rt = .object n) ∨ ∃ t, rt = .array t) (hy : plainName y.cls = true) (hw : ws = Cond.code y cc nL (some rt) :: ws') (hle : (lg_sl avs).length ≤ nL)
    (body : ∀ G, GB l D tys A F rm cc nL y.cls ws false false G → (∀ (a : Nat) (u : S) (pc : Nat) (L : LL), decode cc pc = .ok (.areturn, 1) → post u → Ra u a → G mc ms (W' u) L pc [.ref a]) → G 0 0 w0 (lv_args 0 avs) 0 []) : Met l y ws rm (gPc D tys A F w0 avs) (va_Qr post (fun u a t => Ra u a ∧ va_P D vwCl (W' u) t.heap ∧ va_D A (W' u)) A) mc ms (A) := by
  refine Met.ofW hy hw ?_
  intro p e s m args below meth c s₁ B hml hv
  obtain ⟨rfl, hP, hK, hD, hF⟩ := hv
  have hts := atoms_spec (ws := ws) B.pre
  have hown : s.vm.findClass y.cls = some m.cls := findClass_of_methodNamed B.named
  have hr := B.returns
  have hlk := B.notSynchronized
  have hx := B.exec
  have hb := B.bytes
  have hl := lv_entry avs hle
  rw [lg_entry_eq]
  generalize (lg_sl avs ++ List.replicate (nL - (lg_sl avs).length) Slot.unset).toArray = ls at hl ⊢
  have key := body _ ⟨p, e, s, m, avs.toArray, below, meth, c, MQ below (va_Qr post (fun u a t => Ra u a ∧ va_P D vwCl (W' u) t.heap ∧ va_D A (W' u)) A) avs.toArray s mc ms (A), rfl, hx, hb, hml, hown, hts, hK, hF, fun h => by cases h⟩ ?_
  · exact key s.heap [] ls ⟨hP, hD, va_S.rf, fun _ => ⟨rfl, rfl⟩⟩ hl
  · intro a u pc L hd hp ha H locs ls hI hl
    exact W.aret hx hb hr hrt (Or.inr ⟨a, rfl⟩) (fun t ht hW => ⟨⟨u, a, rfl, hp, ha, by rw [ht]; exact hI.1, hI.2.1⟩, hI.2.2.1.F ht⟩) hI.2.2.1.2.2 hd hlk
end GS
section GCALL
variable {l : Launch} {D : va_G} {tys : TT} {A A1 : Nat → Prop} {F F1 : State → Prop} {R : Room} {cc : ByteArray} {nL : Nat} {own : String} {Ts : List Cond} {ro ini : Bool} {G : Nat → Nat → va_W → LL → Nat → List Value → Prop}
variable {kc ks pc q i n maxL : Nat} {w : va_W} {L : LL} {st st0 As : List Value} {y : MethodName} {ws ws' : List Cond} {rm : Room} {bytes : ByteArray} {ret : Option FieldType}
theorem va_joinA {A0 A1 : Nat → Prop} {D : va_G} {cl : List vw_C} {ws wc wr w1 : va_W} {H H1 : Heap} (hP : va_P D cl ws H) (hD : va_D A0 ws) (isC isR : List Nat) (hC : isC.map (fun i => ws[i]?) = wc.map some) (hR : isR.map (fun i => ws[i]?) = wr.map some) (hn : va_nd isR = true) (hdis : ∀ i ∈ isR, i ∉ isC)
    (hAA : ∀ x, A1 x → va_A wc H.size x) (hk : ∀ q : Nat, q < H.size → ¬ A1 q → H1[q]? = H[q]?) (hF : ∀ q, A1 q → A0 q) (hP1 : va_P D cl w1 H1) (hD1 : va_D A1 w1) : va_P D cl (wr ++ w1) H1 ∧ va_D A0 (wr ++ w1) := by
  have at' : ∀ {is : List Nat} {w : va_W}, is.map (fun i => ws[i]?) = w.map some → ∀ (k : Nat) (q : Nat × va_E), w[k]? = some q → ∃ i, is[k]? = some i ∧ ws[i]? = some q := by
    intro is w hs k q hq
    have h1 : (is.map (fun i => ws[i]?))[k]? = some (some q) := by rw [hs, List.getElem?_map, hq]; rfl
    rw [List.getElem?_map] at h1
    cases hi : is[k]? with
    | none => rw [hi] at h1; simp at h1
    | some i => rw [hi] at h1; exact ⟨i, rfl, by simpa using h1⟩
  have apart : ∀ (k : Nat) (q : Nat × va_E), wr[k]? = some q → q.1 < H.size ∧ ¬ A1 q.1 := by
    intro k q hq
    obtain ⟨i, h1, h2⟩ := at' hR k q hq
    have hl := (hP i q h2).lt
    refine ⟨hl, fun h => ?_⟩
    rcases hAA _ h with ⟨k2, e, h⟩ | h
    · obtain ⟨j, h3, h4⟩ := at' hC k2 (q.1, e) h
      have hij := hD.1 i j q (q.1, e) h2 h4 rfl
      subst hij
      exact hdis i (List.mem_of_getElem? h1) (List.mem_of_getElem? h3)
    · omega
  refine ⟨va_P.app (fun k q hq => ?_) hP1, va_D.app (hD.sub isR hn hR) (hD1.weaken (fun k q _ h => hF q.1 h)) (fun i j x y hx hy hxy => ?_)⟩
  · obtain ⟨i, h1, h2⟩ := at' hR k q hq
    obtain ⟨g1, g2⟩ := apart k q hq
    exact (hP i q h2).kept (hk q.1 g1 g2)
  · exact (apart i x hx).2 (by rw [hxy]; exact hD1.2 j y hy)
theorem gcV_si (C : GB l D tys A F R cc nL own Ts ro ini G) {Cn : String} {T : u_T} {N ci b : Nat} {fs : List Value} (z : Nat) {post : Int32 → Prop} (hDD : va_D A w → va_D A1 w) (d : decode cc pc = .ok (.invokevirtual i, 3)) (hc : vwCl[ci]? = some (Cn, T, N)) (he : w[z]? = some (b, .inr (ci, fs))) (hG : GoodIn Ts (wsV own i Cn y ws)) (hM : Met l y ws rm (gPc D tys A1 F1 w (.ref b :: As)) (vp_Si post) 0 0 (fun _ => False)) (hw : ws = Cond.code y bytes maxL ret :: ws') (hrc : rm.cells = 0) (hrs : rm.slots = 0) (hd : y.cls = Cn ∧ y.cls ≠ "java/lang/invoke/MethodHandle" ∧ y.cls ≠ "java/lang/invoke/VarHandle" ∧ (parseMethodDescriptor y.desc).map (fun d => d.parameters.length) = some n) (hR : rm.frames + 1 ≤ R.frames ∧ 8 + (maxL + 11) + rm.locals ≤ R.locals) (hlen : As.length = n) (hst : st0 = As.reverse ++ .ref b :: st) (hcat : (st.map fun v => v.category).sum ≤ 8) (hFb : ∀ (U : State) (g : JFrame) (mk : MethodId) (a : Array Value), F1 U → F1 (U.calling g mk a)) (hF1 : ∀ (s : State) (H : Heap) (locs : List Loc) (U : State), F s → gI ro D A s w H locs → U.heap = H → s.vm.Alike U.vm → F1 U) (hf : kc ≤ R.cells ∧ ks ≤ R.slots) (hn : pc + 3 = q) (k : ∀ r : Int32, post r → G kc ks w L q (.int r :: st)) : G kc ks w L pc st0 := by
  obtain ⟨p, e, s, m, args, below, meth, c, Q, rfl, hx, hb, hml, hown, hts, hK, hF, hi⟩ := C
  subst hn
  subst hst
  intro H locs ls hI hl
  exact vp_callSi (va_runV (As := As) (rest := st) ⟨hx, hb, hml, hown, hts⟩ hM (cwV n hts hG hw hrc hrs hd hR) ⟨gPc_blind hFb, va_recv hK hI.1 hc he, fun U hU hW => ⟨rfl, by rw [hU]; exact hI.1, va_K.moved hW.alike hK, hDD hI.2.1, hF1 s H locs U hF hI hU hW.alike⟩⟩ rfl hlen hl.1 rfl (lv_room hcat) d ⟨hf.1, hf.2⟩).run (fun r hr => k r hr H locs ls hI hl)
theorem gcV_sif (C : GB l D tys A F R cc nL own Ts ro ini G) {Cn : String} {T : u_T} {N ci b : Nat} {fs : List Value} (z : Nat) {post : Int32 → Prop} {wc wr : va_W} (isC isR : List Nat) (hC : isC.map (fun i => w[i]?) = wc.map some) (hnC : va_nd isC = true) (hm : ∀ (k : Nat) (x : Nat × va_E), wc[k]? = some x → A1 x.1) (d : decode cc pc = .ok (.invokevirtual i, 3)) (hc : vwCl[ci]? = some (Cn, T, N)) (he : w[z]? = some (b, .inr (ci, fs))) (hG : GoodIn Ts (wsV own i Cn y ws)) (hM : Met l y ws rm (gPc D tys A1 F1 wc (.ref b :: As)) (vp_Si post) 0 0 (fun _ => False)) (hw : ws = Cond.code y bytes maxL ret :: ws') (hrc : rm.cells = 0) (hrs : rm.slots = 0) (hd : y.cls = Cn ∧ y.cls ≠ "java/lang/invoke/MethodHandle" ∧ y.cls ≠ "java/lang/invoke/VarHandle" ∧ (parseMethodDescriptor y.desc).map (fun d => d.parameters.length) = some n) (hR : rm.frames + 1 ≤ R.frames ∧ 8 + (maxL + 11) + rm.locals ≤ R.locals) (hlen : As.length = n) (hst : st0 = As.reverse ++ .ref b :: st) (hcat : (st.map fun v => v.category).sum ≤ 8) (hFb : ∀ (U : State) (g : JFrame) (mk : MethodId) (a : Array Value), F1 U → F1 (U.calling g mk a)) (hF1 : ∀ (s : State) (H : Heap) (locs : List Loc) (U : State), F s → gI ro D A s w H locs → U.heap = H → s.vm.Alike U.vm → F1 U) (hf : kc ≤ R.cells ∧ ks ≤ R.slots) (hn : pc + 3 = q) (k : ∀ r : Int32, post r → G kc ks w L q (.int r :: st)) : G kc ks w L pc st0 := by
  obtain ⟨p, e, s, m, args, below, meth, c, Q, rfl, hx, hb, hml, hown, hts, hK, hF, hi⟩ := C
  subst hn
  subst hst
  intro H locs ls hI hl
  exact vp_callSi (va_runV (As := As) (rest := st) ⟨hx, hb, hml, hown, hts⟩ hM (cwV n hts hG hw hrc hrs hd hR) ⟨gPc_blind hFb, va_recv hK hI.1 hc he, fun U hU hW => ⟨rfl, by rw [hU]; exact hI.1.sub isC (map_fm hC), va_K.moved hW.alike hK, (hI.2.1.sub isC hnC hC).weaken (fun k x h _ => hm k x h), hF1 s H locs U hF hI hU hW.alike⟩⟩ rfl hlen hl.1 rfl (lv_room hcat) d ⟨hf.1, hf.2⟩).run (fun r hr => k r hr H locs ls hI hl)
theorem gcV_sl (C : GB l D tys A F R cc nL own Ts ro ini G) {Cn : String} {T : u_T} {N ci b : Nat} {fs : List Value} (z : Nat) {post : Int64 → Prop} (hDD : va_D A w → va_D A1 w) (d : decode cc pc = .ok (.invokevirtual i, 3)) (hc : vwCl[ci]? = some (Cn, T, N)) (he : w[z]? = some (b, .inr (ci, fs))) (hG : GoodIn Ts (wsV own i Cn y ws)) (hM : Met l y ws rm (gPc D tys A1 F1 w (.ref b :: As)) (vp_Sl post) 0 0 (fun _ => False)) (hw : ws = Cond.code y bytes maxL ret :: ws') (hrc : rm.cells = 0) (hrs : rm.slots = 0) (hd : y.cls = Cn ∧ y.cls ≠ "java/lang/invoke/MethodHandle" ∧ y.cls ≠ "java/lang/invoke/VarHandle" ∧ (parseMethodDescriptor y.desc).map (fun d => d.parameters.length) = some n) (hR : rm.frames + 1 ≤ R.frames ∧ 8 + (maxL + 11) + rm.locals ≤ R.locals) (hlen : As.length = n) (hst : st0 = As.reverse ++ .ref b :: st) (hcat : (st.map fun v => v.category).sum ≤ 8) (hFb : ∀ (U : State) (g : JFrame) (mk : MethodId) (a : Array Value), F1 U → F1 (U.calling g mk a)) (hF1 : ∀ (s : State) (H : Heap) (locs : List Loc) (U : State), F s → gI ro D A s w H locs → U.heap = H → s.vm.Alike U.vm → F1 U) (hf : kc ≤ R.cells ∧ ks ≤ R.slots) (hn : pc + 3 = q) (k : ∀ r : Int64, post r → G kc ks w L q (.long r :: st)) : G kc ks w L pc st0 := by
  obtain ⟨p, e, s, m, args, below, meth, c, Q, rfl, hx, hb, hml, hown, hts, hK, hF, hi⟩ := C
  subst hn
  subst hst
  intro H locs ls hI hl
  exact vp_callSl (va_runV (As := As) (rest := st) ⟨hx, hb, hml, hown, hts⟩ hM (cwV n hts hG hw hrc hrs hd hR) ⟨gPc_blind hFb, va_recv hK hI.1 hc he, fun U hU hW => ⟨rfl, by rw [hU]; exact hI.1, va_K.moved hW.alike hK, hDD hI.2.1, hF1 s H locs U hF hI hU hW.alike⟩⟩ rfl hlen hl.1 rfl (lv_room hcat) d ⟨hf.1, hf.2⟩).run (fun r hr => k r hr H locs ls hI hl)
theorem gcV_slf (C : GB l D tys A F R cc nL own Ts ro ini G) {Cn : String} {T : u_T} {N ci b : Nat} {fs : List Value} (z : Nat) {post : Int64 → Prop} {wc wr : va_W} (isC isR : List Nat) (hC : isC.map (fun i => w[i]?) = wc.map some) (hnC : va_nd isC = true) (hm : ∀ (k : Nat) (x : Nat × va_E), wc[k]? = some x → A1 x.1) (d : decode cc pc = .ok (.invokevirtual i, 3)) (hc : vwCl[ci]? = some (Cn, T, N)) (he : w[z]? = some (b, .inr (ci, fs))) (hG : GoodIn Ts (wsV own i Cn y ws)) (hM : Met l y ws rm (gPc D tys A1 F1 wc (.ref b :: As)) (vp_Sl post) 0 0 (fun _ => False)) (hw : ws = Cond.code y bytes maxL ret :: ws') (hrc : rm.cells = 0) (hrs : rm.slots = 0) (hd : y.cls = Cn ∧ y.cls ≠ "java/lang/invoke/MethodHandle" ∧ y.cls ≠ "java/lang/invoke/VarHandle" ∧ (parseMethodDescriptor y.desc).map (fun d => d.parameters.length) = some n) (hR : rm.frames + 1 ≤ R.frames ∧ 8 + (maxL + 11) + rm.locals ≤ R.locals) (hlen : As.length = n) (hst : st0 = As.reverse ++ .ref b :: st) (hcat : (st.map fun v => v.category).sum ≤ 8) (hFb : ∀ (U : State) (g : JFrame) (mk : MethodId) (a : Array Value), F1 U → F1 (U.calling g mk a)) (hF1 : ∀ (s : State) (H : Heap) (locs : List Loc) (U : State), F s → gI ro D A s w H locs → U.heap = H → s.vm.Alike U.vm → F1 U) (hf : kc ≤ R.cells ∧ ks ≤ R.slots) (hn : pc + 3 = q) (k : ∀ r : Int64, post r → G kc ks w L q (.long r :: st)) : G kc ks w L pc st0 := by
  obtain ⟨p, e, s, m, args, below, meth, c, Q, rfl, hx, hb, hml, hown, hts, hK, hF, hi⟩ := C
  subst hn
  subst hst
  intro H locs ls hI hl
  exact vp_callSl (va_runV (As := As) (rest := st) ⟨hx, hb, hml, hown, hts⟩ hM (cwV n hts hG hw hrc hrs hd hR) ⟨gPc_blind hFb, va_recv hK hI.1 hc he, fun U hU hW => ⟨rfl, by rw [hU]; exact hI.1.sub isC (map_fm hC), va_K.moved hW.alike hK, (hI.2.1.sub isC hnC hC).weaken (fun k x h _ => hm k x h), hF1 s H locs U hF hI hU hW.alike⟩⟩ rfl hlen hl.1 rfl (lv_room hcat) d ⟨hf.1, hf.2⟩).run (fun r hr => k r hr H locs ls hI hl)
theorem gcV_qi (C : GB l D tys A F R cc nL own Ts false ini G) {Cn : String} {T : u_T} {N ci b : Nat} {fs : List Value} (z : Nat) {S : Type} {post : Int32 → S → Prop} {W' : S → va_W} {mc ms : Nat} (hDD : va_D A w → va_D A1 w) (hfr : ∀ x : Nat, A1 x → A x) (d : decode cc pc = .ok (.invokevirtual i, 3)) (hc : vwCl[ci]? = some (Cn, T, N)) (he : w[z]? = some (b, .inr (ci, fs))) (hG : GoodIn Ts (wsV own i Cn y ws)) (hM : Met l y ws rm (gPc D tys A1 F1 w (.ref b :: As)) (va_Qi post (fun u t => va_P D vwCl (W' u) t.heap ∧ va_D A1 (W' u)) A1) mc ms A1) (hw : ws = Cond.code y bytes maxL ret :: ws') (hrc : rm.cells = mc) (hrs : rm.slots = ms) (hd : y.cls = Cn ∧ y.cls ≠ "java/lang/invoke/MethodHandle" ∧ y.cls ≠ "java/lang/invoke/VarHandle" ∧ (parseMethodDescriptor y.desc).map (fun d => d.parameters.length) = some n) (hR : rm.frames + 1 ≤ R.frames ∧ 8 + (maxL + 11) + rm.locals ≤ R.locals) (hlen : As.length = n) (hst : st0 = As.reverse ++ .ref b :: st) (hcat : (st.map fun v => v.category).sum ≤ 8) (hFb : ∀ (U : State) (g : JFrame) (mk : MethodId) (a : Array Value), F1 U → F1 (U.calling g mk a)) (hF1 : ∀ (s : State) (H : Heap) (locs : List Loc) (U : State), F s → gI false D A s w H locs → U.heap = H → s.vm.Alike U.vm → F1 U) (hf : kc + mc ≤ R.cells ∧ ks + ms ≤ R.slots) (hn : pc + 3 = q) (k : ∀ (r : Int32) (u : S), post r u → G (kc + mc) (ks + ms) (W' u) L q (.int r :: st)) : G kc ks w L pc st0 := by
  obtain ⟨p, e, s, m, args, below, meth, c, Q, rfl, hx, hb, hml, hown, hts, hK, hF, hi⟩ := C
  subst hn
  subst hst
  intro H locs ls hI hl
  refine va_calli (va_runV (As := As) (rest := st) ⟨hx, hb, hml, hown, hts⟩ hM (cwV n hts hG hw hrc hrs hd hR) ⟨gPc_blind hFb, va_recv hK hI.1 hc he, fun U hU hW => ⟨rfl, by rw [hU]; exact hI.1, va_K.moved hW.alike hK, hDD hI.2.1, hF1 s H locs U hF hI hU hW.alike⟩⟩ rfl hlen hl.1 rfl (lv_room hcat) d ⟨hf.1, hf.2⟩) hI.2.2.1 (fun x _ h => hfr x h) hfr (fun r u t H1 locs1 ht hvm hp hB hz hkp hS => ?_)
  exact k r u hp H1 locs1 ls ⟨by rw [← ht]; exact hB.1, hB.2.weaken (fun _ x _ h => hfr x.1 h), hS, fun h => by cases h⟩ hl
theorem gcV_qif (C : GB l D tys A F R cc nL own Ts false ini G) {Cn : String} {T : u_T} {N ci b : Nat} {fs : List Value} (z : Nat) {S : Type} {post : Int32 → S → Prop} {W' : S → va_W} {mc ms : Nat} {wc wr : va_W} (isC isR : List Nat) (hC : isC.map (fun i => w[i]?) = wc.map some) (hnC : va_nd isC = true) (hm : ∀ (k : Nat) (x : Nat × va_E), wc[k]? = some x → A1 x.1) (w' : S → va_W) (hR0 : isR.map (fun i => w[i]?) = wr.map some) (hnR : va_nd isR = true) (hdis : ∀ i ∈ isR, i ∉ isC) (hAA : ∀ (sz x : Nat), A1 x → va_A wc sz x) (hfr : ∀ x : Nat, A1 x → A x) (js : List Nat) (hnj : va_nd js = true) (hj : ∀ u, js.map (fun i => (wr ++ W' u)[i]?) = (w' u).map some) (d : decode cc pc = .ok (.invokevirtual i, 3)) (hc : vwCl[ci]? = some (Cn, T, N)) (he : w[z]? = some (b, .inr (ci, fs))) (hG : GoodIn Ts (wsV own i Cn y ws)) (hM : Met l y ws rm (gPc D tys A1 F1 wc (.ref b :: As)) (va_Qi post (fun u t => va_P D vwCl (W' u) t.heap ∧ va_D A1 (W' u)) A1) mc ms A1) (hw : ws = Cond.code y bytes maxL ret :: ws') (hrc : rm.cells = mc) (hrs : rm.slots = ms) (hd : y.cls = Cn ∧ y.cls ≠ "java/lang/invoke/MethodHandle" ∧ y.cls ≠ "java/lang/invoke/VarHandle" ∧ (parseMethodDescriptor y.desc).map (fun d => d.parameters.length) = some n) (hR : rm.frames + 1 ≤ R.frames ∧ 8 + (maxL + 11) + rm.locals ≤ R.locals) (hlen : As.length = n) (hst : st0 = As.reverse ++ .ref b :: st) (hcat : (st.map fun v => v.category).sum ≤ 8) (hFb : ∀ (U : State) (g : JFrame) (mk : MethodId) (a : Array Value), F1 U → F1 (U.calling g mk a)) (hF1 : ∀ (s : State) (H : Heap) (locs : List Loc) (U : State), F s → gI false D A s w H locs → U.heap = H → s.vm.Alike U.vm → F1 U) (hf : kc + mc ≤ R.cells ∧ ks + ms ≤ R.slots) (hn : pc + 3 = q) (k : ∀ (r : Int32) (u : S), post r u → G (kc + mc) (ks + ms) (w' u) L q (.int r :: st)) : G kc ks w L pc st0 := by
  obtain ⟨p, e, s, m, args, below, meth, c, Q, rfl, hx, hb, hml, hown, hts, hK, hF, hi⟩ := C
  subst hn
  subst hst
  intro H locs ls hI hl
  refine va_calli (va_runV (As := As) (rest := st) ⟨hx, hb, hml, hown, hts⟩ hM (cwV n hts hG hw hrc hrs hd hR) ⟨gPc_blind hFb, va_recv hK hI.1 hc he, fun U hU hW => ⟨rfl, by rw [hU]; exact hI.1.sub isC (map_fm hC), va_K.moved hW.alike hK, (hI.2.1.sub isC hnC hC).weaken (fun k x h _ => hm k x h), hF1 s H locs U hF hI hU hW.alike⟩⟩ rfl hlen hl.1 rfl (lv_room hcat) d ⟨hf.1, hf.2⟩) hI.2.2.1 (fun x _ h => hfr x h) hfr (fun r u t H1 locs1 ht hvm hp hB hz hkp hS => ?_)
  have hP1 : va_P D vwCl (W' u) H1 := by rw [← ht]; exact hB.1
  have hj2 := va_joinA hI.1 hI.2.1 isC isR hC hR0 hnR hdis (hAA H.size) hkp hfr hP1 hB.2
  exact k r u hp H1 locs1 ls ⟨hj2.1.sub js (map_fm (hj u)), hj2.2.sub js hnj (hj u), hS, fun h => by cases h⟩ hl
theorem gcV_qv (C : GB l D tys A F R cc nL own Ts false ini G) {Cn : String} {T : u_T} {N ci b : Nat} {fs : List Value} (z : Nat) {S : Type} {post : S → Prop} {W' : S → va_W} {mc ms : Nat} (hDD : va_D A w → va_D A1 w) (hfr : ∀ x : Nat, A1 x → A x) (d : decode cc pc = .ok (.invokevirtual i, 3)) (hc : vwCl[ci]? = some (Cn, T, N)) (he : w[z]? = some (b, .inr (ci, fs))) (hG : GoodIn Ts (wsV own i Cn y ws)) (hM : Met l y ws rm (gPc D tys A1 F1 w (.ref b :: As)) (va_Qv post (fun u t => va_P D vwCl (W' u) t.heap ∧ va_D A1 (W' u)) A1) mc ms A1) (hw : ws = Cond.code y bytes maxL ret :: ws') (hrc : rm.cells = mc) (hrs : rm.slots = ms) (hd : y.cls = Cn ∧ y.cls ≠ "java/lang/invoke/MethodHandle" ∧ y.cls ≠ "java/lang/invoke/VarHandle" ∧ (parseMethodDescriptor y.desc).map (fun d => d.parameters.length) = some n) (hR : rm.frames + 1 ≤ R.frames ∧ 8 + (maxL + 11) + rm.locals ≤ R.locals) (hlen : As.length = n) (hst : st0 = As.reverse ++ .ref b :: st) (hcat : (st.map fun v => v.category).sum ≤ 8) (hFb : ∀ (U : State) (g : JFrame) (mk : MethodId) (a : Array Value), F1 U → F1 (U.calling g mk a)) (hF1 : ∀ (s : State) (H : Heap) (locs : List Loc) (U : State), F s → gI false D A s w H locs → U.heap = H → s.vm.Alike U.vm → F1 U) (hf : kc + mc ≤ R.cells ∧ ks + ms ≤ R.slots) (hn : pc + 3 = q) (k : ∀ (u : S), post u → G (kc + mc) (ks + ms) (W' u) L q st) : G kc ks w L pc st0 := by
  obtain ⟨p, e, s, m, args, below, meth, c, Q, rfl, hx, hb, hml, hown, hts, hK, hF, hi⟩ := C
  subst hn
  subst hst
  intro H locs ls hI hl
  refine va_callv (va_runV (As := As) (rest := st) ⟨hx, hb, hml, hown, hts⟩ hM (cwV n hts hG hw hrc hrs hd hR) ⟨gPc_blind hFb, va_recv hK hI.1 hc he, fun U hU hW => ⟨rfl, by rw [hU]; exact hI.1, va_K.moved hW.alike hK, hDD hI.2.1, hF1 s H locs U hF hI hU hW.alike⟩⟩ rfl hlen hl.1 rfl (lv_room hcat) d ⟨hf.1, hf.2⟩) hI.2.2.1 (fun x _ h => hfr x h) hfr (fun u t H1 locs1 ht hvm hp hB hz hkp hS => ?_)
  exact k u hp H1 locs1 ls ⟨by rw [← ht]; exact hB.1, hB.2.weaken (fun _ x _ h => hfr x.1 h), hS, fun h => by cases h⟩ hl
theorem gcV_qvf (C : GB l D tys A F R cc nL own Ts false ini G) {Cn : String} {T : u_T} {N ci b : Nat} {fs : List Value} (z : Nat) {S : Type} {post : S → Prop} {W' : S → va_W} {mc ms : Nat} {wc wr : va_W} (isC isR : List Nat) (hC : isC.map (fun i => w[i]?) = wc.map some) (hnC : va_nd isC = true) (hm : ∀ (k : Nat) (x : Nat × va_E), wc[k]? = some x → A1 x.1) (w' : S → va_W) (hR0 : isR.map (fun i => w[i]?) = wr.map some) (hnR : va_nd isR = true) (hdis : ∀ i ∈ isR, i ∉ isC) (hAA : ∀ (sz x : Nat), A1 x → va_A wc sz x) (hfr : ∀ x : Nat, A1 x → A x) (js : List Nat) (hnj : va_nd js = true) (hj : ∀ u, js.map (fun i => (wr ++ W' u)[i]?) = (w' u).map some) (d : decode cc pc = .ok (.invokevirtual i, 3)) (hc : vwCl[ci]? = some (Cn, T, N)) (he : w[z]? = some (b, .inr (ci, fs))) (hG : GoodIn Ts (wsV own i Cn y ws)) (hM : Met l y ws rm (gPc D tys A1 F1 wc (.ref b :: As)) (va_Qv post (fun u t => va_P D vwCl (W' u) t.heap ∧ va_D A1 (W' u)) A1) mc ms A1) (hw : ws = Cond.code y bytes maxL ret :: ws') (hrc : rm.cells = mc) (hrs : rm.slots = ms) (hd : y.cls = Cn ∧ y.cls ≠ "java/lang/invoke/MethodHandle" ∧ y.cls ≠ "java/lang/invoke/VarHandle" ∧ (parseMethodDescriptor y.desc).map (fun d => d.parameters.length) = some n) (hR : rm.frames + 1 ≤ R.frames ∧ 8 + (maxL + 11) + rm.locals ≤ R.locals) (hlen : As.length = n) (hst : st0 = As.reverse ++ .ref b :: st) (hcat : (st.map fun v => v.category).sum ≤ 8) (hFb : ∀ (U : State) (g : JFrame) (mk : MethodId) (a : Array Value), F1 U → F1 (U.calling g mk a)) (hF1 : ∀ (s : State) (H : Heap) (locs : List Loc) (U : State), F s → gI false D A s w H locs → U.heap = H → s.vm.Alike U.vm → F1 U) (hf : kc + mc ≤ R.cells ∧ ks + ms ≤ R.slots) (hn : pc + 3 = q) (k : ∀ (u : S), post u → G (kc + mc) (ks + ms) (w' u) L q st) : G kc ks w L pc st0 := by
  obtain ⟨p, e, s, m, args, below, meth, c, Q, rfl, hx, hb, hml, hown, hts, hK, hF, hi⟩ := C
  subst hn
  subst hst
  intro H locs ls hI hl
  refine va_callv (va_runV (As := As) (rest := st) ⟨hx, hb, hml, hown, hts⟩ hM (cwV n hts hG hw hrc hrs hd hR) ⟨gPc_blind hFb, va_recv hK hI.1 hc he, fun U hU hW => ⟨rfl, by rw [hU]; exact hI.1.sub isC (map_fm hC), va_K.moved hW.alike hK, (hI.2.1.sub isC hnC hC).weaken (fun k x h _ => hm k x h), hF1 s H locs U hF hI hU hW.alike⟩⟩ rfl hlen hl.1 rfl (lv_room hcat) d ⟨hf.1, hf.2⟩) hI.2.2.1 (fun x _ h => hfr x h) hfr (fun u t H1 locs1 ht hvm hp hB hz hkp hS => ?_)
  have hP1 : va_P D vwCl (W' u) H1 := by rw [← ht]; exact hB.1
  have hj2 := va_joinA hI.1 hI.2.1 isC isR hC hR0 hnR hdis (hAA H.size) hkp hfr hP1 hB.2
  exact k u hp H1 locs1 ls ⟨hj2.1.sub js (map_fm (hj u)), hj2.2.sub js hnj (hj u), hS, fun h => by cases h⟩ hl
theorem gcV_qr (C : GB l D tys A F R cc nL own Ts false ini G) {Cn : String} {T : u_T} {N ci b : Nat} {fs : List Value} (z : Nat) {S : Type} {post : S → Prop} {Ra : S → Nat → Prop} {W' : S → va_W} {mc ms : Nat} (hDD : va_D A w → va_D A1 w) (hfr : ∀ x : Nat, A1 x → A x) (d : decode cc pc = .ok (.invokevirtual i, 3)) (hc : vwCl[ci]? = some (Cn, T, N)) (he : w[z]? = some (b, .inr (ci, fs))) (hG : GoodIn Ts (wsV own i Cn y ws)) (hM : Met l y ws rm (gPc D tys A1 F1 w (.ref b :: As)) (va_Qr post (fun u a t => Ra u a ∧ va_P D vwCl (W' u) t.heap ∧ va_D A1 (W' u)) A1) mc ms A1) (hw : ws = Cond.code y bytes maxL ret :: ws') (hrc : rm.cells = mc) (hrs : rm.slots = ms) (hd : y.cls = Cn ∧ y.cls ≠ "java/lang/invoke/MethodHandle" ∧ y.cls ≠ "java/lang/invoke/VarHandle" ∧ (parseMethodDescriptor y.desc).map (fun d => d.parameters.length) = some n) (hR : rm.frames + 1 ≤ R.frames ∧ 8 + (maxL + 11) + rm.locals ≤ R.locals) (hlen : As.length = n) (hst : st0 = As.reverse ++ .ref b :: st) (hcat : (st.map fun v => v.category).sum ≤ 8) (hFb : ∀ (U : State) (g : JFrame) (mk : MethodId) (a : Array Value), F1 U → F1 (U.calling g mk a)) (hF1 : ∀ (s : State) (H : Heap) (locs : List Loc) (U : State), F s → gI false D A s w H locs → U.heap = H → s.vm.Alike U.vm → F1 U) (hf : kc + mc ≤ R.cells ∧ ks + ms ≤ R.slots) (hn : pc + 3 = q) (k : ∀ (u : S) (a : Nat), post u → Ra u a → G (kc + mc) (ks + ms) (W' u) L q (.ref a :: st)) : G kc ks w L pc st0 := by
  obtain ⟨p, e, s, m, args, below, meth, c, Q, rfl, hx, hb, hml, hown, hts, hK, hF, hi⟩ := C
  subst hn
  subst hst
  intro H locs ls hI hl
  refine va_callr (va_runV (As := As) (rest := st) ⟨hx, hb, hml, hown, hts⟩ hM (cwV n hts hG hw hrc hrs hd hR) ⟨gPc_blind hFb, va_recv hK hI.1 hc he, fun U hU hW => ⟨rfl, by rw [hU]; exact hI.1, va_K.moved hW.alike hK, hDD hI.2.1, hF1 s H locs U hF hI hU hW.alike⟩⟩ rfl hlen hl.1 rfl (lv_room hcat) d ⟨hf.1, hf.2⟩) hI.2.2.1 (fun x _ h => hfr x h) hfr (fun u a t H1 locs1 ht hvm hp hB hz hkp hS => ?_)
  exact k u a hp hB.1 H1 locs1 ls ⟨by rw [← ht]; exact hB.2.1, hB.2.2.weaken (fun _ x _ h => hfr x.1 h), hS, fun h => by cases h⟩ hl
theorem gcS_si (C : GB l D tys A F R cc nL own Ts ro ini G)  {post : Int32 → Prop} (hDD : va_D A w → va_D A1 w) (d : decode cc pc = .ok (.invokestatic i, 3)) (hG : GoodIn Ts (va_wsS own i y ws)) (hM : Met l y ws rm (gPc D tys A1 F1 w (As)) (vp_Si post) 0 0 (fun _ => False)) (hw : ws = Cond.code y bytes maxL ret :: ws') (hrc : rm.cells = 0) (hrs : rm.slots = 0) (hd : y.cls ≠ "java/lang/invoke/MethodHandle" ∧ y.cls ≠ "java/lang/invoke/VarHandle" ∧ (parseMethodDescriptor y.desc).map (fun d => d.parameters.length) = some n) (hR : rm.frames + 1 ≤ R.frames ∧ 8 + (maxL + 11) + rm.locals ≤ R.locals) (hlen : As.length = n) (hst : st0 = As.reverse ++ st) (hcat : (st.map fun v => v.category).sum ≤ 8) (hFb : ∀ (U : State) (g : JFrame) (mk : MethodId) (a : Array Value), F1 U → F1 (U.calling g mk a)) (hF1 : ∀ (s : State) (H : Heap) (locs : List Loc) (U : State), F s → gI ro D A s w H locs → U.heap = H → s.vm.Alike U.vm → F1 U) (hf : kc ≤ R.cells ∧ ks ≤ R.slots) (hn : pc + 3 = q) (k : ∀ r : Int32, post r → G kc ks w L q (.int r :: st)) : G kc ks w L pc st0 := by
  obtain ⟨p, e, s, m, args, below, meth, c, Q, rfl, hx, hb, hml, hown, hts, hK, hF, hi⟩ := C
  subst hn
  subst hst
  intro H locs ls hI hl
  exact vp_callSi (va_runS (As := As) (rest := st) ⟨hx, hb, hml, hown, hts⟩ hM (va_cwS n hts hG hw hrc hrs hd hR) ⟨gPc_blind hFb, fun U hU hW => ⟨rfl, by rw [hU]; exact hI.1, va_K.moved hW.alike hK, hDD hI.2.1, hF1 s H locs U hF hI hU hW.alike⟩⟩ rfl hlen hl.1 rfl (lv_room hcat) d ⟨hf.1, hf.2⟩).run (fun r hr => k r hr H locs ls hI hl)
theorem gcS_sif (C : GB l D tys A F R cc nL own Ts ro ini G)  {post : Int32 → Prop} {wc wr : va_W} (isC isR : List Nat) (hC : isC.map (fun i => w[i]?) = wc.map some) (hnC : va_nd isC = true) (hm : ∀ (k : Nat) (x : Nat × va_E), wc[k]? = some x → A1 x.1) (d : decode cc pc = .ok (.invokestatic i, 3)) (hG : GoodIn Ts (va_wsS own i y ws)) (hM : Met l y ws rm (gPc D tys A1 F1 wc (As)) (vp_Si post) 0 0 (fun _ => False)) (hw : ws = Cond.code y bytes maxL ret :: ws') (hrc : rm.cells = 0) (hrs : rm.slots = 0) (hd : y.cls ≠ "java/lang/invoke/MethodHandle" ∧ y.cls ≠ "java/lang/invoke/VarHandle" ∧ (parseMethodDescriptor y.desc).map (fun d => d.parameters.length) = some n) (hR : rm.frames + 1 ≤ R.frames ∧ 8 + (maxL + 11) + rm.locals ≤ R.locals) (hlen : As.length = n) (hst : st0 = As.reverse ++ st) (hcat : (st.map fun v => v.category).sum ≤ 8) (hFb : ∀ (U : State) (g : JFrame) (mk : MethodId) (a : Array Value), F1 U → F1 (U.calling g mk a)) (hF1 : ∀ (s : State) (H : Heap) (locs : List Loc) (U : State), F s → gI ro D A s w H locs → U.heap = H → s.vm.Alike U.vm → F1 U) (hf : kc ≤ R.cells ∧ ks ≤ R.slots) (hn : pc + 3 = q) (k : ∀ r : Int32, post r → G kc ks w L q (.int r :: st)) : G kc ks w L pc st0 := by
  obtain ⟨p, e, s, m, args, below, meth, c, Q, rfl, hx, hb, hml, hown, hts, hK, hF, hi⟩ := C
  subst hn
  subst hst
  intro H locs ls hI hl
  exact vp_callSi (va_runS (As := As) (rest := st) ⟨hx, hb, hml, hown, hts⟩ hM (va_cwS n hts hG hw hrc hrs hd hR) ⟨gPc_blind hFb, fun U hU hW => ⟨rfl, by rw [hU]; exact hI.1.sub isC (map_fm hC), va_K.moved hW.alike hK, (hI.2.1.sub isC hnC hC).weaken (fun k x h _ => hm k x h), hF1 s H locs U hF hI hU hW.alike⟩⟩ rfl hlen hl.1 rfl (lv_room hcat) d ⟨hf.1, hf.2⟩).run (fun r hr => k r hr H locs ls hI hl)
theorem gcS_sl (C : GB l D tys A F R cc nL own Ts ro ini G)  {post : Int64 → Prop} (hDD : va_D A w → va_D A1 w) (d : decode cc pc = .ok (.invokestatic i, 3)) (hG : GoodIn Ts (va_wsS own i y ws)) (hM : Met l y ws rm (gPc D tys A1 F1 w (As)) (vp_Sl post) 0 0 (fun _ => False)) (hw : ws = Cond.code y bytes maxL ret :: ws') (hrc : rm.cells = 0) (hrs : rm.slots = 0) (hd : y.cls ≠ "java/lang/invoke/MethodHandle" ∧ y.cls ≠ "java/lang/invoke/VarHandle" ∧ (parseMethodDescriptor y.desc).map (fun d => d.parameters.length) = some n) (hR : rm.frames + 1 ≤ R.frames ∧ 8 + (maxL + 11) + rm.locals ≤ R.locals) (hlen : As.length = n) (hst : st0 = As.reverse ++ st) (hcat : (st.map fun v => v.category).sum ≤ 8) (hFb : ∀ (U : State) (g : JFrame) (mk : MethodId) (a : Array Value), F1 U → F1 (U.calling g mk a)) (hF1 : ∀ (s : State) (H : Heap) (locs : List Loc) (U : State), F s → gI ro D A s w H locs → U.heap = H → s.vm.Alike U.vm → F1 U) (hf : kc ≤ R.cells ∧ ks ≤ R.slots) (hn : pc + 3 = q) (k : ∀ r : Int64, post r → G kc ks w L q (.long r :: st)) : G kc ks w L pc st0 := by
  obtain ⟨p, e, s, m, args, below, meth, c, Q, rfl, hx, hb, hml, hown, hts, hK, hF, hi⟩ := C
  subst hn
  subst hst
  intro H locs ls hI hl
  exact vp_callSl (va_runS (As := As) (rest := st) ⟨hx, hb, hml, hown, hts⟩ hM (va_cwS n hts hG hw hrc hrs hd hR) ⟨gPc_blind hFb, fun U hU hW => ⟨rfl, by rw [hU]; exact hI.1, va_K.moved hW.alike hK, hDD hI.2.1, hF1 s H locs U hF hI hU hW.alike⟩⟩ rfl hlen hl.1 rfl (lv_room hcat) d ⟨hf.1, hf.2⟩).run (fun r hr => k r hr H locs ls hI hl)
theorem gcS_slf (C : GB l D tys A F R cc nL own Ts ro ini G)  {post : Int64 → Prop} {wc wr : va_W} (isC isR : List Nat) (hC : isC.map (fun i => w[i]?) = wc.map some) (hnC : va_nd isC = true) (hm : ∀ (k : Nat) (x : Nat × va_E), wc[k]? = some x → A1 x.1) (d : decode cc pc = .ok (.invokestatic i, 3)) (hG : GoodIn Ts (va_wsS own i y ws)) (hM : Met l y ws rm (gPc D tys A1 F1 wc (As)) (vp_Sl post) 0 0 (fun _ => False)) (hw : ws = Cond.code y bytes maxL ret :: ws') (hrc : rm.cells = 0) (hrs : rm.slots = 0) (hd : y.cls ≠ "java/lang/invoke/MethodHandle" ∧ y.cls ≠ "java/lang/invoke/VarHandle" ∧ (parseMethodDescriptor y.desc).map (fun d => d.parameters.length) = some n) (hR : rm.frames + 1 ≤ R.frames ∧ 8 + (maxL + 11) + rm.locals ≤ R.locals) (hlen : As.length = n) (hst : st0 = As.reverse ++ st) (hcat : (st.map fun v => v.category).sum ≤ 8) (hFb : ∀ (U : State) (g : JFrame) (mk : MethodId) (a : Array Value), F1 U → F1 (U.calling g mk a)) (hF1 : ∀ (s : State) (H : Heap) (locs : List Loc) (U : State), F s → gI ro D A s w H locs → U.heap = H → s.vm.Alike U.vm → F1 U) (hf : kc ≤ R.cells ∧ ks ≤ R.slots) (hn : pc + 3 = q) (k : ∀ r : Int64, post r → G kc ks w L q (.long r :: st)) : G kc ks w L pc st0 := by
  obtain ⟨p, e, s, m, args, below, meth, c, Q, rfl, hx, hb, hml, hown, hts, hK, hF, hi⟩ := C
  subst hn
  subst hst
  intro H locs ls hI hl
  exact vp_callSl (va_runS (As := As) (rest := st) ⟨hx, hb, hml, hown, hts⟩ hM (va_cwS n hts hG hw hrc hrs hd hR) ⟨gPc_blind hFb, fun U hU hW => ⟨rfl, by rw [hU]; exact hI.1.sub isC (map_fm hC), va_K.moved hW.alike hK, (hI.2.1.sub isC hnC hC).weaken (fun k x h _ => hm k x h), hF1 s H locs U hF hI hU hW.alike⟩⟩ rfl hlen hl.1 rfl (lv_room hcat) d ⟨hf.1, hf.2⟩).run (fun r hr => k r hr H locs ls hI hl)
theorem gcS_qv (C : GB l D tys A F R cc nL own Ts false ini G)  {S : Type} {post : S → Prop} {W' : S → va_W} {mc ms : Nat} (hDD : va_D A w → va_D A1 w) (hfr : ∀ x : Nat, A1 x → A x) (d : decode cc pc = .ok (.invokestatic i, 3)) (hG : GoodIn Ts (va_wsS own i y ws)) (hM : Met l y ws rm (gPc D tys A1 F1 w (As)) (va_Qv post (fun u t => va_P D vwCl (W' u) t.heap ∧ va_D A1 (W' u)) A1) mc ms A1) (hw : ws = Cond.code y bytes maxL ret :: ws') (hrc : rm.cells = mc) (hrs : rm.slots = ms) (hd : y.cls ≠ "java/lang/invoke/MethodHandle" ∧ y.cls ≠ "java/lang/invoke/VarHandle" ∧ (parseMethodDescriptor y.desc).map (fun d => d.parameters.length) = some n) (hR : rm.frames + 1 ≤ R.frames ∧ 8 + (maxL + 11) + rm.locals ≤ R.locals) (hlen : As.length = n) (hst : st0 = As.reverse ++ st) (hcat : (st.map fun v => v.category).sum ≤ 8) (hFb : ∀ (U : State) (g : JFrame) (mk : MethodId) (a : Array Value), F1 U → F1 (U.calling g mk a)) (hF1 : ∀ (s : State) (H : Heap) (locs : List Loc) (U : State), F s → gI false D A s w H locs → U.heap = H → s.vm.Alike U.vm → F1 U) (hf : kc + mc ≤ R.cells ∧ ks + ms ≤ R.slots) (hn : pc + 3 = q) (k : ∀ (u : S), post u → G (kc + mc) (ks + ms) (W' u) L q st) : G kc ks w L pc st0 := by
  obtain ⟨p, e, s, m, args, below, meth, c, Q, rfl, hx, hb, hml, hown, hts, hK, hF, hi⟩ := C
  subst hn
  subst hst
  intro H locs ls hI hl
  refine va_callv (va_runS (As := As) (rest := st) ⟨hx, hb, hml, hown, hts⟩ hM (va_cwS n hts hG hw hrc hrs hd hR) ⟨gPc_blind hFb, fun U hU hW => ⟨rfl, by rw [hU]; exact hI.1, va_K.moved hW.alike hK, hDD hI.2.1, hF1 s H locs U hF hI hU hW.alike⟩⟩ rfl hlen hl.1 rfl (lv_room hcat) d ⟨hf.1, hf.2⟩) hI.2.2.1 (fun x _ h => hfr x h) hfr (fun u t H1 locs1 ht hvm hp hB hz hkp hS => ?_)
  exact k u hp H1 locs1 ls ⟨by rw [← ht]; exact hB.1, hB.2.weaken (fun _ x _ h => hfr x.1 h), hS, fun h => by cases h⟩ hl
theorem gcS_qvf (C : GB l D tys A F R cc nL own Ts false ini G)  {S : Type} {post : S → Prop} {W' : S → va_W} {mc ms : Nat} {wc wr : va_W} (isC isR : List Nat) (hC : isC.map (fun i => w[i]?) = wc.map some) (hnC : va_nd isC = true) (hm : ∀ (k : Nat) (x : Nat × va_E), wc[k]? = some x → A1 x.1) (w' : S → va_W) (hR0 : isR.map (fun i => w[i]?) = wr.map some) (hnR : va_nd isR = true) (hdis : ∀ i ∈ isR, i ∉ isC) (hAA : ∀ (sz x : Nat), A1 x → va_A wc sz x) (hfr : ∀ x : Nat, A1 x → A x) (js : List Nat) (hnj : va_nd js = true) (hj : ∀ u, js.map (fun i => (wr ++ W' u)[i]?) = (w' u).map some) (d : decode cc pc = .ok (.invokestatic i, 3)) (hG : GoodIn Ts (va_wsS own i y ws)) (hM : Met l y ws rm (gPc D tys A1 F1 wc (As)) (va_Qv post (fun u t => va_P D vwCl (W' u) t.heap ∧ va_D A1 (W' u)) A1) mc ms A1) (hw : ws = Cond.code y bytes maxL ret :: ws') (hrc : rm.cells = mc) (hrs : rm.slots = ms) (hd : y.cls ≠ "java/lang/invoke/MethodHandle" ∧ y.cls ≠ "java/lang/invoke/VarHandle" ∧ (parseMethodDescriptor y.desc).map (fun d => d.parameters.length) = some n) (hR : rm.frames + 1 ≤ R.frames ∧ 8 + (maxL + 11) + rm.locals ≤ R.locals) (hlen : As.length = n) (hst : st0 = As.reverse ++ st) (hcat : (st.map fun v => v.category).sum ≤ 8) (hFb : ∀ (U : State) (g : JFrame) (mk : MethodId) (a : Array Value), F1 U → F1 (U.calling g mk a)) (hF1 : ∀ (s : State) (H : Heap) (locs : List Loc) (U : State), F s → gI false D A s w H locs → U.heap = H → s.vm.Alike U.vm → F1 U) (hf : kc + mc ≤ R.cells ∧ ks + ms ≤ R.slots) (hn : pc + 3 = q) (k : ∀ (u : S), post u → G (kc + mc) (ks + ms) (w' u) L q st) : G kc ks w L pc st0 := by
  obtain ⟨p, e, s, m, args, below, meth, c, Q, rfl, hx, hb, hml, hown, hts, hK, hF, hi⟩ := C
  subst hn
  subst hst
  intro H locs ls hI hl
  refine va_callv (va_runS (As := As) (rest := st) ⟨hx, hb, hml, hown, hts⟩ hM (va_cwS n hts hG hw hrc hrs hd hR) ⟨gPc_blind hFb, fun U hU hW => ⟨rfl, by rw [hU]; exact hI.1.sub isC (map_fm hC), va_K.moved hW.alike hK, (hI.2.1.sub isC hnC hC).weaken (fun k x h _ => hm k x h), hF1 s H locs U hF hI hU hW.alike⟩⟩ rfl hlen hl.1 rfl (lv_room hcat) d ⟨hf.1, hf.2⟩) hI.2.2.1 (fun x _ h => hfr x h) hfr (fun u t H1 locs1 ht hvm hp hB hz hkp hS => ?_)
  have hP1 : va_P D vwCl (W' u) H1 := by rw [← ht]; exact hB.1
  have hj2 := va_joinA hI.1 hI.2.1 isC isR hC hR0 hnR hdis (hAA H.size) hkp hfr hP1 hB.2
  exact k u hp H1 locs1 ls ⟨hj2.1.sub js (map_fm (hj u)), hj2.2.sub js hnj (hj u), hS, fun h => by cases h⟩ hl
theorem gcI_qvf (C : GB l D tys A F R cc nL own Ts false ini G) {b : Nat} {S : Type} {post : S → Prop} {W' : S → va_W} {mc ms : Nat} {wc wr : va_W} (isC isR : List Nat) (hC : isC.map (fun i => w[i]?) = wc.map some) (hnC : va_nd isC = true) (hm : ∀ (k : Nat) (x : Nat × va_E), wc[k]? = some x → A1 x.1) (w' : S → va_W) (hR0 : isR.map (fun i => w[i]?) = wr.map some) (hnR : va_nd isR = true) (hdis : ∀ i ∈ isR, i ∉ isC) (hAA : ∀ (sz x : Nat), A1 x → va_A wc sz x) (hfr : ∀ x : Nat, A1 x → A x) (js : List Nat) (hnj : va_nd js = true) (hj : ∀ u, js.map (fun i => (wr ++ W' u)[i]?) = (w' u).map some) (d : decode cc pc = .ok (.invokespecial i, 3)) (hG : GoodIn Ts ws) (hin : Cond.initialized y.cls ∈ Ts) (hli : Cond.methodLink own i y ∈ Ts) (hins : Cond.instanceMethod y ∈ Ts) (hy1 : y.name = "<init>") (hM : Met l y ws rm (gPc D tys A1 F1 wc (.ref b :: As)) (va_Qv post (fun u t => va_P D vwCl (W' u) t.heap ∧ va_D A1 (W' u)) A1) mc ms A1) (hw : ws = Cond.code y bytes maxL none :: ws') (hrc : rm.cells = mc) (hrs : rm.slots = ms) (hd : y.cls ≠ "java/lang/invoke/MethodHandle" ∧ y.cls ≠ "java/lang/invoke/VarHandle" ∧ (parseMethodDescriptor y.desc).map (fun d => d.parameters.length) = some n) (hR : rm.frames + 1 ≤ R.frames ∧ 8 + (maxL + 11) + rm.locals ≤ R.locals) (hlen : As.length = n) (hst : st0 = As.reverse ++ .ref b :: st) (hcat : (st.map fun v => v.category).sum ≤ 8) (hFb : ∀ (U : State) (g : JFrame) (mk : MethodId) (a : Array Value), F1 U → F1 (U.calling g mk a)) (hF1 : ∀ (s : State) (H : Heap) (locs : List Loc) (U : State), F s → gI false D A s w H locs → U.heap = H → s.vm.Alike U.vm → F1 U) (hf : kc + mc ≤ R.cells ∧ ks + ms ≤ R.slots) (hn : pc + 3 = q) (k : ∀ (u : S), post u → G (kc + mc) (ks + ms) (w' u) L q st) : G kc ks w L pc st0 := by
  obtain ⟨p, e, s, m, args, below, meth, c, Q, rfl, hx, hb, hml, hown, hts, hK, hF, hi⟩ := C
  subst hn
  subst hst
  intro H locs ls hI hl
  refine va_callv (va_runI (As := As) (rest := st) ⟨hx, hb, hml, hown, hts⟩ hM (cwI n hts hG hw hrc hrs (hts _ hin) (hts _ hli) (hts _ hins) hy1 hd hR) ⟨gPc_blind hFb, fun U hU hW => ⟨rfl, by rw [hU]; exact hI.1.sub isC (map_fm hC), va_K.moved hW.alike hK, (hI.2.1.sub isC hnC hC).weaken (fun k x h _ => hm k x h), hF1 s H locs U hF hI hU hW.alike⟩⟩ rfl hlen hl.1 rfl (lv_room hcat) d ⟨hf.1, hf.2⟩) hI.2.2.1 (fun x _ h => hfr x h) hfr (fun u t H1 locs1 ht hvm hp hB hz hkp hS => ?_)
  have hP1 : va_P D vwCl (W' u) H1 := by rw [← ht]; exact hB.1
  have hj2 := va_joinA hI.1 hI.2.1 isC isR hC hR0 hnR hdis (hAA H.size) hkp hfr hP1 hB.2
  exact k u hp H1 locs1 ls ⟨hj2.1.sub js (map_fm (hj u)), hj2.2.sub js hnj (hj u), hS, fun h => by cases h⟩ hl
end GCALL
end
section
/-! the two worlds: the class (20 cells) and the reference (11 cells) -/
abbrev tyT (cI cJ cZ : ClassId) : TT := [(cI, .int), (cJ, .long), (cZ, .boolean)]
def wC (cI cJ cZ : ClassId) (a : Nat → Nat) (hA nA : Nat) (gr li st sp : Nat → Int32) (ce le : Int32) (nu : Nat → Int32) (ev od : Nat → Int64) (fp ti : Nat → Int32) (wc : Nat → Int64) (wu : Int32) (sc pv : Nat → Int64) (su : Int32) (sd : Nat → Int32) (tl : Int32) : va_W :=
  [(a 0, .inr (6, [.ref (a 1), .ref (a 2), .ref (a 3), .ref (a 4), .ref (a 5), .ref (a 6)])),
   (a 1, .inr (0, [.ref (a 7), .ref (a 8), .ref (a 9), .ref (a 10), .int ce, .int le])),
   (a 2, .inr (4, [.ref (a 13)])),
   (a 3, .inr (3, [.ref (a 1), .ref (a 2)])),
   (a 4, .inr (5, [.ref (a 1), .ref (a 3), .ref (a 11), .ref (a 12), .ref (a 14), .ref (a 15), .ref (a 16), .int wu])),
   (a 5, .inr (2, [.ref (a 1), .ref (a 4), .ref (a 17), .ref (a 18), .int su])),
   (a 6, .inr (1, [.ref (a 1), .ref (a 3), .ref (a 19), .int tl])),
   (a 7, .inl (cI, 16, .inl gr)), (a 8, .inl (cI, 16, .inl li)), (a 9, .inl (cZ, 17, .inl st)), (a 10, .inl (cI, 17, .inl sp)),
   (hA, .inl (cJ, 3787, .inr (.inl ev))), (nA, .inl (cJ, 3787, .inr (.inl od))),
   (a 13, .inl (cI, 5, .inl nu)), (a 14, .inl (cI, 17, .inl fp)), (a 15, .inl (cI, 968, .inl ti)), (a 16, .inl (cJ, 968, .inr (.inl wc))),
   (a 17, .inl (cJ, 1001, .inr (.inl sc))), (a 18, .inl (cJ, 16, .inr (.inl pv))), (a 19, .inl (cI, 17, .inl sd))]
def wA (a : Nat → Nat) (hA nA : Nat) : Nat → Prop := fun q => q ∈ [a 0, a 1, a 2, a 3, a 4, a 5, a 6, a 7, a 8, a 9, a 10, hA, nA, a 13, a 14, a 15, a 16, a 17, a 18, a 19]
def wM (cI cJ cZ : ClassId) (b : Nat → Nat) (ce : Int32) (gr li st tr : Nat → Int32) (tl : Int32) (sd lea : Nat → Int32) (pa : Int32) (pt pp : Nat → Int32) (su : Int32) (sh tt : Nat → Int32) : va_W :=
  [(b 0, .inr (7, [.int ce, .ref (b 1), .ref (b 2), .ref (b 3), .ref (b 4), .int tl, .ref (b 5), .ref (b 6), .int pa, .ref (b 7), .ref (b 8), .int su, .ref (b 9), .ref (b 10)])),
   (b 1, .inl (cI, 16, .inl gr)), (b 2, .inl (cI, 16, .inl li)), (b 3, .inl (cZ, 17, .inl st)), (b 4, .inl (cI, 5, .inl tr)), (b 5, .inl (cI, 17, .inl sd)),
   (b 6, .inl (cI, 119119, .inl lea)), (b 7, .inl (cI, 1001, .inl pt)), (b 8, .inl (cI, 1001, .inl pp)), (b 9, .inl (cI, 17017, .inl sh)), (b 10, .inl (cI, 17017, .inl tt))]
def wB (b : Nat → Nat) : Nat → Prop := fun q => q ∈ [b 0, b 1, b 2, b 3, b 4, b 5, b 6, b 7, b 8, b 9, b 10]
theorem ite_n0 {p : Prop} {_ : Decidable p} (h : ¬ (if p then nI 1 else nI 0) = 0) : p := by
  by_cases hp : p
  · exact hp
  · rw [if_neg hp] at h; exact absurd rfl h
theorem ite_e0 {p : Prop} {_ : Decidable p} (h : (if p then nI 1 else nI 0) = 0) : ¬ p := by
  by_cases hp : p
  · rw [if_pos hp] at h; exact absurd h (by decide)
  · exact hp
theorem z01 {x : Int32} (h : x = nI 0 ∨ x = nI 1) : vp_nar .boolean x = x := by rcases h with rfl | rfl <;> decide
theorem z01b {x : Int32} (h : x = nI 0 ∨ x = nI 1) : narrow .boolean (.int x) = .int x := by rcases h with rfl | rfl <;> decide
/-! pure words -/
def fltE (li f pu br : Int32) (u v : Nat) : Int32 := if li < nI u ∨ li < nI v then nI 1 else if u = 0 ∧ v = 0 then nI 2 else if u + 2 < v ∨ v + 2 < u then nI 3 else if ¬ f ≤ pu then nI 4 else if ¬ -br ≤ f then nI 5 else nI 0
def pwE (q f : Int32) : Int32 := if ¬ f ≤ 0 then f else -(q * -f / nI 10)
def tmN (u v : Nat) : Nat := 60 / (u + v)
def fcN (gr nu : Nat → Int32) (k u v : Nat) : Int32 := nu 0 * (nI (v * v) - nI (u * u)) + nu 0 * gr k + nu 1 * nI (u + v)
def flN (gr li nu : Nat → Int32) (k u v : Nat) : Int32 := fltE (li k) (fcN gr nu k u v) (nu 2) (nu 3) u v
def pwN (gr nu : Nat → Int32) (k u v : Nat) : Int32 := pwE (nu 4) (fcN gr nu k u v)
def sumI (f : Nat → Int32) : Nat → Int32 | 0 => nI 0 | n + 1 => sumI f n + f n
theorem i32_nle {x y : Int32} : ¬ x ≤ y ↔ y < x := Int32.not_le
theorem mx_le {x y z : Int32} (h : (if x < y then y else x) ≤ z) : ¬ (z < x ∨ z < y) := by
  by_cases hp : x < y
  · rw [if_pos hp] at h
    rintro (q | q)
    · exact absurd (Int32.lt_of_le_of_lt h q) (Int32.lt_asymm hp)
    · exact Int32.lt_irrefl (Int32.lt_of_le_of_lt h q)
  · rw [if_neg hp] at h
    rintro (q | q)
    · exact Int32.lt_irrefl (Int32.lt_of_le_of_lt h q)
    · exact hp (Int32.lt_of_le_of_lt h q)
theorem mx_nle {x y z : Int32} (h : ¬ (if x < y then y else x) ≤ z) : z < x ∨ z < y := by
  by_cases hp : x < y
  · rw [if_pos hp] at h; exact Or.inr (i32_nle.mp h)
  · rw [if_neg hp] at h; exact Or.inl (i32_nle.mp h)
theorem ab_dec : ∀ u, u < 7 → ∀ v, v < 7 → ((if 0 ≤ nI u - nI v then nI u - nI v else 0 - (nI u - nI v)) ≤ nI 2 ↔ ¬ (u + 2 < v ∨ v + 2 < u)) := by decide +kernel
theorem ab_le {u v : Nat} (hu : u ≤ 6) (hv : v ≤ 6) (h : (if 0 ≤ nI u - nI v then nI u - nI v else 0 - (nI u - nI v)) ≤ nI 2) : ¬ (u + 2 < v ∨ v + 2 < u) := (ab_dec u (by omega) v (by omega)).mp h
theorem ab_nle {u v : Nat} (hu : u ≤ 6) (hv : v ≤ 6) (h : ¬ (if 0 ≤ nI u - nI v then nI u - nI v else 0 - (nI u - nI v)) ≤ nI 2) : u + 2 < v ∨ v + 2 < u := by
  rw [ab_dec u (by omega) v (by omega)] at h
  exact Classical.not_not.mp h
theorem sumI_s {F : Nat → Int32} {k : Nat} {x : Int32} (h : F k = x) : sumI F k + x = sumI F (k + 1) := by rw [sumI, h]
def lgT (gr li nu : Nat → Int32) (s : Nat → Nat) : Nat → Int32 := fun j => if flN gr li nu j (s j) (s (j + 1)) = 0 then nI (tmN (s j) (s (j + 1))) else nI 0
def lgP (gr li nu : Nat → Int32) (s : Nat → Nat) : Nat → Int32 := fun j => if flN gr li nu j (s j) (s (j + 1)) = 0 then pwN gr nu j (s j) (s (j + 1)) else nI 0
def lgF (gr li nu : Nat → Int32) (s : Nat → Nat) : Nat → Int32 := fun j => if flN gr li nu j (s j) (s (j + 1)) = 0 then nI 0 else nI 1
def lgS (st : Nat → Int32) (s : Nat → Nat) : Nat → Int32 := fun j => if ¬ st j = 0 ∧ ¬ s j = 0 then nI 1 else nI 0
def ffU (F : Nat → Int32) : Nat → Int32 | 0 => -1000000 | k + 1 => if ffU F k = -1000000 then (if F k = nI 0 then -1000000 else nI k) else ffU F k
theorem ffU_stay {F : Nat → Int32} {k : Nat} (h : ¬ ffU F k = -1000000) : ∀ j, ffU F (k + j) = ffU F k
  | 0 => rfl
  | j + 1 => by rw [← Nat.add_assoc, ffU, ffU_stay h j, if_neg h]
theorem nI_nn {k : Nat} (h : k < 2 ^ 31) : ¬ nI k = -1000000 := fun e => by
  have h1 := nI_toInt h
  rw [e] at h1
  have h2 : (-1000000 : Int32).toInt = -1000000 := by decide
  omega
/-- how many stops lie before a post -/
def cnt (st : Nat → Int32) : Nat → Nat | 0 => 0 | k + 1 => cnt st k + (if st k = 0 then 0 else 1)
theorem cnt_le (st : Nat → Int32) : ∀ k, cnt st k ≤ k
  | 0 => Nat.le_refl _
  | k + 1 => by
    have := cnt_le st k
    rw [cnt]; split <;> omega
theorem cnt_mono (st : Nat → Int32) {a b : Nat} (h : a ≤ b) : cnt st a ≤ cnt st b := by
  induction b with
  | zero => rw [show a = 0 by omega]; exact Nat.le_refl _
  | succ b ih =>
    by_cases e : a = b + 1
    · rw [e]; exact Nat.le_refl _
    · exact Nat.le_trans (ih (by omega)) (by rw [cnt]; omega)
theorem cnt_st {st : Nat → Int32} {a : Nat} (h : ¬ st a = 0) : cnt st (a + 1) = cnt st a + 1 := by rw [cnt, if_neg h]
theorem cnt_sz {st : Nat → Int32} {a : Nat} (h : st a = 0) : cnt st (a + 1) = cnt st a := by rw [cnt, if_pos h, Nat.add_zero]
theorem cnt_inj {st : Nat → Int32} {a b : Nat} (ha : ¬ st a = 0) (hb : ¬ st b = 0) (h : cnt st a = cnt st b) : a = b := by
  rcases Nat.lt_trichotomy a b with q | q | q
  · have := cnt_mono st (show a + 1 ≤ b by omega); rw [cnt_st ha] at this; omega
  · exact q
  · have := cnt_mono st (show b + 1 ≤ a by omega); rw [cnt_st hb] at this; omega
/-- the post of the j-th stop -/
def posOf (st : Nat → Int32) (j : Nat) : Nat → Nat | 0 => 0 | n + 1 => if ¬ st (n + 1) = 0 ∧ cnt st (n + 1) = j then n + 1 else posOf st j n
theorem posOf_eq {st : Nat → Int32} {p : Nat} (hs : ¬ st p = 0) : ∀ n, p ≤ n → posOf st (cnt st p) n = p
  | 0, h => by rw [posOf]; omega
  | n + 1, h => by
    rw [posOf]
    by_cases e : p = n + 1
    · rw [if_pos (by rw [← e]; exact ⟨hs, rfl⟩), e]
    · rw [if_neg (fun q => e (cnt_inj hs q.1 q.2.symm)), posOf_eq hs n (by omega)]
theorem posOf_ex {st : Nat → Int32} {j : Nat} : ∀ n, j < cnt st (n + 1) → ∃ p, p ≤ n ∧ ¬ st p = 0 ∧ cnt st p = j
  | 0, h => by
    rw [cnt, cnt] at h
    by_cases e : st 0 = 0
    · rw [if_pos e] at h; omega
    · rw [if_neg e] at h; exact ⟨0, Nat.le_refl _, e, by rw [cnt]; omega⟩
  | n + 1, h => by
    by_cases e : st (n + 1) = 0
    · rw [cnt_sz e] at h
      obtain ⟨p, h1, h2⟩ := posOf_ex n h
      exact ⟨p, by omega, h2⟩
    · rw [cnt_st e] at h
      by_cases q : j = cnt st (n + 1)
      · exact ⟨n + 1, Nat.le_refl _, e, q.symm⟩
      · obtain ⟨p, h1, h2⟩ := posOf_ex n (show j < cnt st (n + 1) by omega)
        exact ⟨p, by omega, h2⟩
theorem posOf_spec {st : Nat → Int32} {j n : Nat} (h : j < cnt st (n + 1)) : posOf st j n ≤ n ∧ ¬ st (posOf st j n) = 0 ∧ cnt st (posOf st j n) = j := by
  obtain ⟨p, h1, h2, h3⟩ := posOf_ex n h
  have e := posOf_eq h2 n h1
  rw [h3] at e
  rw [e]; exact ⟨h1, h2, h3⟩
/-- what a line is: n cells, m legs, the stops' posts in sp -/
def LInv (st sp : Nat → Int32) (n m : Nat) : Prop := 1 ≤ n ∧ n ≤ 16 ∧ (∀ j, st j = nI 0 ∨ st j = nI 1) ∧ ¬ st 0 = 0 ∧ ¬ st n = 0 ∧ cnt st (n + 1) = m + 1 ∧ ∀ j, j ≤ m → sp j = nI (posOf st j n)
theorem LInv.pos {st sp : Nat → Int32} {n m : Nat} (h : LInv st sp n m) {j : Nat} (hj : j ≤ m) : posOf st j n ≤ n ∧ ¬ st (posOf st j n) = 0 ∧ cnt st (posOf st j n) = j := posOf_spec (by have := h.2.2.2.2.2.1; omega)
theorem LInv.m_le {st sp : Nat → Int32} {n m : Nat} (h : LInv st sp n m) : m ≤ n := by
  have h1 := h.2.2.2.2.2.1
  have h2 := cnt_le st (n + 1)
  omega
theorem LInv.m_pos {st sp : Nat → Int32} {n m : Nat} (h : LInv st sp n m) : 1 ≤ m := by
  obtain ⟨h1, h2, h3, h4, h5, h6, h7⟩ := h
  have e := cnt_st h5
  have f := cnt_mono st (show 0 + 1 ≤ n by omega)
  rw [cnt_st h4] at f
  omega
theorem LInv.mono {st sp : Nat → Int32} {n m : Nat} (h : LInv st sp n m) {j : Nat} (hj : j < m) : posOf st j n < posOf st (j + 1) n := by
  obtain ⟨a1, a2, a3⟩ := h.pos (show j ≤ m by omega)
  obtain ⟨b1, b2, b3⟩ := h.pos (show j + 1 ≤ m by omega)
  rcases Nat.lt_or_ge (posOf st j n) (posOf st (j + 1) n) with q | q
  · exact q
  · have := cnt_mono st q; omega
theorem LInv.z {st sp : Nat → Int32} {n m : Nat} (h : LInv st sp n m) : posOf st 0 n = 0 := by
  have := posOf_eq h.2.2.2.1 n (Nat.zero_le _)
  rwa [cnt] at this
theorem LInv.e {st sp : Nat → Int32} {n m : Nat} (h : LInv st sp n m) : posOf st m n = n := by
  have e := posOf_eq h.2.2.2.2.1 n (Nat.le_refl _)
  have c := cnt_st h.2.2.2.2.1
  have := h.2.2.2.2.2.1
  rwa [show cnt st n = m by omega] at e
def stL (n : Nat) : Nat → Int32 := fun j => if j = 0 ∨ j = n then nI 1 else nI 0
theorem stL_01 (n : Nat) : ∀ j, stL n j = nI 0 ∨ stL n j = nI 1 := fun j => by unfold stL; split <;> simp
theorem LInv_of {st sp : Nat → Int32} {n m : Nat} (h1 : 1 ≤ n) (h2 : n ≤ 16) (h3 : ∀ j, st j = nI 0 ∨ st j = nI 1) (h4 : ¬ st 0 = 0) (h5 : ¬ st n = 0) (h6 : m = cnt st (n + 1) - 1) (h7 : ∀ p, p ≤ n → ¬ st p = 0 → sp (cnt st p) = nI p) : LInv st sp n m := by
  have c := cnt_st h5
  refine ⟨h1, h2, h3, h4, h5, by omega, fun j hj => ?_⟩
  obtain ⟨a1, a2, a3⟩ := posOf_spec (st := st) (j := j) (n := n) (by omega)
  have := h7 _ a1 a2
  rwa [a3] at this
theorem stL_LInv {sp : Nat → Int32} {n m : Nat} (h1 : 1 ≤ n) (h2 : n ≤ 16) (h6 : m = cnt (stL n) (n + 1) - 1) (h7 : ∀ p, p ≤ n → ¬ stL n p = 0 → sp (cnt (stL n) p) = nI p) : LInv (stL n) sp n m :=
  LInv_of h1 h2 (stL_01 n) (by rw [stL, if_pos (Or.inl rfl)]; decide) (by rw [stL, if_pos (Or.inr rfl)]; decide) h6 h7
/-- a speed -/
def spd (x : Int32) : Prop := ∃ v : Nat, v ≤ 6 ∧ x = nI v
end
section
set_option maxHeartbeats 4000000 in
set_option maxRecDepth 100000 in
theorem c_X0_cellCount (l : Launch) (D : va_G) (cI cJ cZ : ClassId) (a : Nat → Nat) (hA nA : Nat) (gr li st sp : Nat → Int32) (n m : Nat) (nu : Nat → Int32) (ev od : Nat → Int64) (fp ti : Nat → Int32) (wc : Nat → Int64) (wu : Int32) (sc pv : Nat → Int64) (su : Int32) (sd : Nat → Int32) (t : Nat) : Met l yX0_cellCount wsX0_cellCount { frames := 0, cells := 0, slots := 0, locals := 0 } (gPc D (tyT cI cJ cZ) (wA a hA nA) FT (wC cI cJ cZ a hA nA gr li st sp (nI n) (nI m) nu ev od fp ti wc wu sc pv su sd (nI t)) [.ref (a 1)]) (vp_Si (fun r => r = nI n)) 0 0 (fun _ => False) := by
  refine gs_si (cc := cX0_cellCount) (nL := 1) (ty := .int) (by decide) rfl (Nat.le_of_ble_eq_true rfl) (fun G C hret => ?_)
  show G 0 0 (wC cI cJ cZ a hA nA gr li st sp (nI n) (nI m) nu ev od fp ti wc wu sc pv su sd (nI t)) [(0, .ref (a 1))] 0 []
  refine g_aload_n C 0 dX0_cellCount_0 rfl rfl rfl (q := 1) ?_
  refine g_get C 1 4 dX0_cellCount_1 (Cn := RX0) (T := TX0) (N := 6) (fun _ h => List.mem_cons_of_mem _ (List.mem_append_right _ h)) rfl rfl (by decide) (List.mem_cons_of_mem _ (List.mem_append_left _ (List.mem_of_getElem? (i := 0) rfl))) rfl (q := 4) rfl ?_
  exact hret _ 4 _ _ dX0_cellCount_4 rfl (rfl)
set_option maxHeartbeats 4000000 in
set_option maxRecDepth 100000 in
theorem c_X0_legCount (l : Launch) (D : va_G) (cI cJ cZ : ClassId) (a : Nat → Nat) (hA nA : Nat) (gr li st sp : Nat → Int32) (n m : Nat) (nu : Nat → Int32) (ev od : Nat → Int64) (fp ti : Nat → Int32) (wc : Nat → Int64) (wu : Int32) (sc pv : Nat → Int64) (su : Int32) (sd : Nat → Int32) (t : Nat) : Met l yX0_legCount wsX0_legCount { frames := 0, cells := 0, slots := 0, locals := 0 } (gPc D (tyT cI cJ cZ) (wA a hA nA) FT (wC cI cJ cZ a hA nA gr li st sp (nI n) (nI m) nu ev od fp ti wc wu sc pv su sd (nI t)) [.ref (a 1)]) (vp_Si (fun r => r = nI m)) 0 0 (fun _ => False) := by
  refine gs_si (cc := cX0_legCount) (nL := 1) (ty := .int) (by decide) rfl (Nat.le_of_ble_eq_true rfl) (fun G C hret => ?_)
  show G 0 0 (wC cI cJ cZ a hA nA gr li st sp (nI n) (nI m) nu ev od fp ti wc wu sc pv su sd (nI t)) [(0, .ref (a 1))] 0 []
  refine g_aload_n C 0 dX0_legCount_0 rfl rfl rfl (q := 1) ?_
  refine g_get C 1 5 dX0_legCount_1 (Cn := RX0) (T := TX0) (N := 6) (fun _ h => List.mem_cons_of_mem _ (List.mem_append_right _ h)) rfl rfl (by decide) (List.mem_cons_of_mem _ (List.mem_append_left _ (List.mem_of_getElem? (i := 0) rfl))) rfl (q := 4) rfl ?_
  exact hret _ 4 _ _ dX0_legCount_4 rfl (rfl)
set_option maxHeartbeats 4000000 in
set_option maxRecDepth 100000 in
theorem c_X0_hasCell (l : Launch) (D : va_G) (cI cJ cZ : ClassId) (a : Nat → Nat) (hA nA : Nat) (gr li st sp : Nat → Int32) (n m : Nat) (nu : Nat → Int32) (ev od : Nat → Int64) (fp ti : Nat → Int32) (wc : Nat → Int64) (wu : Int32) (sc pv : Nat → Int64) (su : Int32) (sd : Nat → Int32) (t : Nat) (k : Int32) : Met l yX0_hasCell wsX0_hasCell { frames := 0, cells := 0, slots := 0, locals := 0 } (gPc D (tyT cI cJ cZ) (wA a hA nA) FT (wC cI cJ cZ a hA nA gr li st sp (nI n) (nI m) nu ev od fp ti wc wu sc pv su sd (nI t)) [.ref (a 1), .int k]) (vp_Si (fun r => r = if ¬ k < 0 ∧ ¬ nI n ≤ k then nI 1 else nI 0)) 0 0 (fun _ => False) := by
  refine gs_si (cc := cX0_hasCell) (nL := 2) (ty := .boolean) (by decide) rfl (Nat.le_of_ble_eq_true rfl) (fun G C hret => ?_)
  show G 0 0 (wC cI cJ cZ a hA nA gr li st sp (nI n) (nI m) nu ev od fp ti wc wu sc pv su sd (nI t)) [(0, .ref (a 1)), (1, .int k)] 0 []
  refine g_iload_n C 1 dX0_hasCell_0 rfl rfl rfl (q := 1) ?_
  refine g_if_lt C (t := 16) dX0_hasCell_1 (by decide) (q := 4) rfl (fun c_1 => ?_) (fun c_1 => ?_)
  · refine g_iconst C (nI 0) dX0_hasCell_16 (by decide) (q := 17) rfl ?_
    exact hret _ 17 _ _ dX0_hasCell_17 (by decide) ((if_neg (by first | assumption | (refine ⟨?_, ?_⟩ <;> assumption) | (refine ⟨?_, ?_, ?_⟩ <;> assumption) | omega | simp_all)).symm)
  · refine g_iload_n C 1 dX0_hasCell_4 rfl rfl rfl (q := 5) ?_
    refine g_aload_n C 0 dX0_hasCell_5 rfl rfl rfl (q := 6) ?_
    refine g_get C 1 4 dX0_hasCell_6 (Cn := RX0) (T := TX0) (N := 6) (fun _ h => List.mem_cons_of_mem _ (List.mem_append_right _ h)) rfl rfl (by decide) (List.mem_cons_of_mem _ (List.mem_append_left _ (List.mem_of_getElem? (i := 0) rfl))) rfl (q := 9) rfl ?_
    refine g_icmp_ge C (t := 16) dX0_hasCell_9 (by decide) (q := 12) rfl (fun c_9 => ?_) (fun c_9 => ?_)
    · refine g_iconst C (nI 0) dX0_hasCell_16 (by decide) (q := 17) rfl ?_
      exact hret _ 17 _ _ dX0_hasCell_17 (by decide) ((if_neg (by first | assumption | (refine ⟨?_, ?_⟩ <;> assumption) | (refine ⟨?_, ?_, ?_⟩ <;> assumption) | omega | simp_all)).symm)
    · refine g_iconst C (nI 1) dX0_hasCell_12 (by decide) (q := 13) rfl ?_
      refine g_goto C (q := 17) dX0_hasCell_13 (by decide) ?_
      exact hret _ 17 _ _ dX0_hasCell_17 (by decide) ((if_pos (by first | assumption | (refine ⟨?_, ?_⟩ <;> assumption) | (refine ⟨?_, ?_, ?_⟩ <;> assumption) | omega | simp_all)).symm)
set_option maxHeartbeats 4000000 in
set_option maxRecDepth 100000 in
theorem c_X0_hasPost (l : Launch) (D : va_G) (cI cJ cZ : ClassId) (a : Nat → Nat) (hA nA : Nat) (gr li st sp : Nat → Int32) (n m : Nat) (nu : Nat → Int32) (ev od : Nat → Int64) (fp ti : Nat → Int32) (wc : Nat → Int64) (wu : Int32) (sc pv : Nat → Int64) (su : Int32) (sd : Nat → Int32) (t : Nat) (k : Int32) : Met l yX0_hasPost wsX0_hasPost { frames := 0, cells := 0, slots := 0, locals := 0 } (gPc D (tyT cI cJ cZ) (wA a hA nA) FT (wC cI cJ cZ a hA nA gr li st sp (nI n) (nI m) nu ev od fp ti wc wu sc pv su sd (nI t)) [.ref (a 1), .int k]) (vp_Si (fun r => r = if ¬ k < 0 ∧ ¬ nI n < k then nI 1 else nI 0)) 0 0 (fun _ => False) := by
  refine gs_si (cc := cX0_hasPost) (nL := 2) (ty := .boolean) (by decide) rfl (Nat.le_of_ble_eq_true rfl) (fun G C hret => ?_)
  show G 0 0 (wC cI cJ cZ a hA nA gr li st sp (nI n) (nI m) nu ev od fp ti wc wu sc pv su sd (nI t)) [(0, .ref (a 1)), (1, .int k)] 0 []
  refine g_iload_n C 1 dX0_hasPost_0 rfl rfl rfl (q := 1) ?_
  refine g_if_lt C (t := 16) dX0_hasPost_1 (by decide) (q := 4) rfl (fun c_1 => ?_) (fun c_1 => ?_)
  · refine g_iconst C (nI 0) dX0_hasPost_16 (by decide) (q := 17) rfl ?_
    exact hret _ 17 _ _ dX0_hasPost_17 (by decide) ((if_neg (by first | assumption | (refine ⟨?_, ?_⟩ <;> assumption) | (refine ⟨?_, ?_, ?_⟩ <;> assumption) | omega | simp_all)).symm)
  · refine g_iload_n C 1 dX0_hasPost_4 rfl rfl rfl (q := 5) ?_
    refine g_aload_n C 0 dX0_hasPost_5 rfl rfl rfl (q := 6) ?_
    refine g_get C 1 4 dX0_hasPost_6 (Cn := RX0) (T := TX0) (N := 6) (fun _ h => List.mem_cons_of_mem _ (List.mem_append_right _ h)) rfl rfl (by decide) (List.mem_cons_of_mem _ (List.mem_append_left _ (List.mem_of_getElem? (i := 0) rfl))) rfl (q := 9) rfl ?_
    refine g_icmp_gt C (t := 16) dX0_hasPost_9 (by decide) (q := 12) rfl (fun c_9 => ?_) (fun c_9 => ?_)
    · refine g_iconst C (nI 0) dX0_hasPost_16 (by decide) (q := 17) rfl ?_
      exact hret _ 17 _ _ dX0_hasPost_17 (by decide) ((if_neg (by first | assumption | (refine ⟨?_, ?_⟩ <;> assumption) | (refine ⟨?_, ?_, ?_⟩ <;> assumption) | omega | simp_all)).symm)
    · refine g_iconst C (nI 1) dX0_hasPost_12 (by decide) (q := 13) rfl ?_
      refine g_goto C (q := 17) dX0_hasPost_13 (by decide) ?_
      exact hret _ 17 _ _ dX0_hasPost_17 (by decide) ((if_pos (by first | assumption | (refine ⟨?_, ?_⟩ <;> assumption) | (refine ⟨?_, ?_, ?_⟩ <;> assumption) | omega | simp_all)).symm)
set_option maxHeartbeats 4000000 in
set_option maxRecDepth 100000 in
theorem c_X0_hasLeg (l : Launch) (D : va_G) (cI cJ cZ : ClassId) (a : Nat → Nat) (hA nA : Nat) (gr li st sp : Nat → Int32) (n m : Nat) (nu : Nat → Int32) (ev od : Nat → Int64) (fp ti : Nat → Int32) (wc : Nat → Int64) (wu : Int32) (sc pv : Nat → Int64) (su : Int32) (sd : Nat → Int32) (t : Nat) (k : Int32) : Met l yX0_hasLeg wsX0_hasLeg { frames := 0, cells := 0, slots := 0, locals := 0 } (gPc D (tyT cI cJ cZ) (wA a hA nA) FT (wC cI cJ cZ a hA nA gr li st sp (nI n) (nI m) nu ev od fp ti wc wu sc pv su sd (nI t)) [.ref (a 1), .int k]) (vp_Si (fun r => r = if ¬ k < 0 ∧ ¬ nI m ≤ k then nI 1 else nI 0)) 0 0 (fun _ => False) := by
  refine gs_si (cc := cX0_hasLeg) (nL := 2) (ty := .boolean) (by decide) rfl (Nat.le_of_ble_eq_true rfl) (fun G C hret => ?_)
  show G 0 0 (wC cI cJ cZ a hA nA gr li st sp (nI n) (nI m) nu ev od fp ti wc wu sc pv su sd (nI t)) [(0, .ref (a 1)), (1, .int k)] 0 []
  refine g_iload_n C 1 dX0_hasLeg_0 rfl rfl rfl (q := 1) ?_
  refine g_if_lt C (t := 16) dX0_hasLeg_1 (by decide) (q := 4) rfl (fun c_1 => ?_) (fun c_1 => ?_)
  · refine g_iconst C (nI 0) dX0_hasLeg_16 (by decide) (q := 17) rfl ?_
    exact hret _ 17 _ _ dX0_hasLeg_17 (by decide) ((if_neg (by first | assumption | (refine ⟨?_, ?_⟩ <;> assumption) | (refine ⟨?_, ?_, ?_⟩ <;> assumption) | omega | simp_all)).symm)
  · refine g_iload_n C 1 dX0_hasLeg_4 rfl rfl rfl (q := 5) ?_
    refine g_aload_n C 0 dX0_hasLeg_5 rfl rfl rfl (q := 6) ?_
    refine g_get C 1 5 dX0_hasLeg_6 (Cn := RX0) (T := TX0) (N := 6) (fun _ h => List.mem_cons_of_mem _ (List.mem_append_right _ h)) rfl rfl (by decide) (List.mem_cons_of_mem _ (List.mem_append_left _ (List.mem_of_getElem? (i := 0) rfl))) rfl (q := 9) rfl ?_
    refine g_icmp_ge C (t := 16) dX0_hasLeg_9 (by decide) (q := 12) rfl (fun c_9 => ?_) (fun c_9 => ?_)
    · refine g_iconst C (nI 0) dX0_hasLeg_16 (by decide) (q := 17) rfl ?_
      exact hret _ 17 _ _ dX0_hasLeg_17 (by decide) ((if_neg (by first | assumption | (refine ⟨?_, ?_⟩ <;> assumption) | (refine ⟨?_, ?_, ?_⟩ <;> assumption) | omega | simp_all)).symm)
    · refine g_iconst C (nI 1) dX0_hasLeg_12 (by decide) (q := 13) rfl ?_
      refine g_goto C (q := 17) dX0_hasLeg_13 (by decide) ?_
      exact hret _ 17 _ _ dX0_hasLeg_17 (by decide) ((if_pos (by first | assumption | (refine ⟨?_, ?_⟩ <;> assumption) | (refine ⟨?_, ?_, ?_⟩ <;> assumption) | omega | simp_all)).symm)
set_option maxHeartbeats 4000000 in
set_option maxRecDepth 100000 in
theorem c_X0_isEnd (l : Launch) (D : va_G) (cI cJ cZ : ClassId) (a : Nat → Nat) (hA nA : Nat) (gr li st sp : Nat → Int32) (n m : Nat) (nu : Nat → Int32) (ev od : Nat → Int64) (fp ti : Nat → Int32) (wc : Nat → Int64) (wu : Int32) (sc pv : Nat → Int64) (su : Int32) (sd : Nat → Int32) (t k : Nat) (hk : k ≤ n) (hn : n ≤ 16) : Met l yX0_isEnd wsX0_isEnd { frames := 0, cells := 0, slots := 0, locals := 0 } (gPc D (tyT cI cJ cZ) (wA a hA nA) FT (wC cI cJ cZ a hA nA gr li st sp (nI n) (nI m) nu ev od fp ti wc wu sc pv su sd (nI t)) [.ref (a 1), .int (nI k)]) (vp_Si (fun r => r = if k = 0 ∨ k = n then nI 1 else nI 0)) 0 0 (fun _ => False) := by
  refine gs_si (cc := cX0_isEnd) (nL := 2) (ty := .boolean) (by decide) rfl (Nat.le_of_ble_eq_true rfl) (fun G C hret => ?_)
  show G 0 0 (wC cI cJ cZ a hA nA gr li st sp (nI n) (nI m) nu ev od fp ti wc wu sc pv su sd (nI t)) [(0, .ref (a 1)), (1, .int (nI k))] 0 []
  refine g_iload_n C 1 dX0_isEnd_0 rfl rfl rfl (q := 1) ?_
  refine g_if_eq C (t := 12) dX0_isEnd_1 (by decide) (q := 4) rfl (fun c_1 => ?_) (fun c_1 => ?_)
  · rw [← nI_0, nI_eq (by omega) (by omega)] at c_1
    refine g_iconst C (nI 1) dX0_isEnd_12 (by decide) (q := 13) rfl ?_
    refine g_goto C (q := 17) dX0_isEnd_13 (by decide) ?_
    exact hret _ 17 _ _ dX0_isEnd_17 (by decide) ((if_pos (by first | assumption | (refine ⟨?_, ?_⟩ <;> assumption) | (refine ⟨?_, ?_, ?_⟩ <;> assumption) | omega | simp_all)).symm)
  · rw [← nI_0, nI_eq (by omega) (by omega)] at c_1
    refine g_iload_n C 1 dX0_isEnd_4 rfl rfl rfl (q := 5) ?_
    refine g_aload_n C 0 dX0_isEnd_5 rfl rfl rfl (q := 6) ?_
    refine g_get C 1 4 dX0_isEnd_6 (Cn := RX0) (T := TX0) (N := 6) (fun _ h => List.mem_cons_of_mem _ (List.mem_append_right _ h)) rfl rfl (by decide) (List.mem_cons_of_mem _ (List.mem_append_left _ (List.mem_of_getElem? (i := 0) rfl))) rfl (q := 9) rfl ?_
    refine g_icmp_ne C (t := 16) dX0_isEnd_9 (by decide) (q := 12) rfl (fun c_9 => ?_) (fun c_9 => ?_)
    · rw [nI_eq (by omega) (by omega)] at c_9
      refine g_iconst C (nI 0) dX0_isEnd_16 (by decide) (q := 17) rfl ?_
      exact hret _ 17 _ _ dX0_isEnd_17 (by decide) ((if_neg (by first | assumption | (refine ⟨?_, ?_⟩ <;> assumption) | (refine ⟨?_, ?_, ?_⟩ <;> assumption) | omega | simp_all)).symm)
    · rw [nI_eq (by omega) (by omega)] at c_9
      refine g_iconst C (nI 1) dX0_isEnd_12 (by decide) (q := 13) rfl ?_
      refine g_goto C (q := 17) dX0_isEnd_13 (by decide) ?_
      exact hret _ 17 _ _ dX0_isEnd_17 (by decide) ((if_pos (by first | assumption | (refine ⟨?_, ?_⟩ <;> assumption) | (refine ⟨?_, ?_, ?_⟩ <;> assumption) | omega | simp_all)).symm)
set_option maxHeartbeats 4000000 in
set_option maxRecDepth 100000 in
theorem c_X0_isStop (l : Launch) (D : va_G) (cI cJ cZ : ClassId) (a : Nat → Nat) (hA nA : Nat) (gr li st sp : Nat → Int32) (n m : Nat) (nu : Nat → Int32) (ev od : Nat → Int64) (fp ti : Nat → Int32) (wc : Nat → Int64) (wu : Int32) (sc pv : Nat → Int64) (su : Int32) (sd : Nat → Int32) (t k : Nat) (hk : k ≤ 16) (hst : ∀ j, st j = nI 0 ∨ st j = nI 1) : Met l yX0_isStop wsX0_isStop { frames := 0, cells := 0, slots := 0, locals := 0 } (gPc D (tyT cI cJ cZ) (wA a hA nA) FT (wC cI cJ cZ a hA nA gr li st sp (nI n) (nI m) nu ev od fp ti wc wu sc pv su sd (nI t)) [.ref (a 1), .int (nI k)]) (vp_Si (fun r => r = st k)) 0 0 (fun _ => False) := by
  refine gs_si (cc := cX0_isStop) (nL := 2) (ty := .boolean) (by decide) rfl (Nat.le_of_ble_eq_true rfl) (fun G C hret => ?_)
  show G 0 0 (wC cI cJ cZ a hA nA gr li st sp (nI n) (nI m) nu ev od fp ti wc wu sc pv su sd (nI t)) [(0, .ref (a 1)), (1, .int (nI k))] 0 []
  refine g_aload_n C 0 dX0_isStop_0 rfl rfl rfl (q := 1) ?_
  refine g_get C 1 2 dX0_isStop_1 (Cn := RX0) (T := TX0) (N := 6) (fun _ h => List.mem_cons_of_mem _ (List.mem_append_right _ h)) rfl rfl (by decide) (List.mem_cons_of_mem _ (List.mem_append_left _ (List.mem_of_getElem? (i := 0) rfl))) rfl (q := 4) rfl ?_
  refine g_iload_n C 1 dX0_isStop_4 rfl rfl rfl (q := 5) ?_
  refine g_zald C 9 2 dX0_isStop_5 rfl rfl (vp_in_nI (by omega) (by decide)) (q := 6) rfl ?_
  refine g_eqi C (y := st k) (by rw [nI_clamp (by omega)]) ?_
  exact hret _ 6 _ _ dX0_isStop_6 (z01b (hst k)) rfl
set_option maxHeartbeats 4000000 in
set_option maxRecDepth 100000 in
theorem c_X0_gradeOf (l : Launch) (D : va_G) (cI cJ cZ : ClassId) (a : Nat → Nat) (hA nA : Nat) (gr li st sp : Nat → Int32) (n m : Nat) (nu : Nat → Int32) (ev od : Nat → Int64) (fp ti : Nat → Int32) (wc : Nat → Int64) (wu : Int32) (sc pv : Nat → Int64) (su : Int32) (sd : Nat → Int32) (t k : Nat) (hk : k < 16) : Met l yX0_gradeOf wsX0_gradeOf { frames := 0, cells := 0, slots := 0, locals := 0 } (gPc D (tyT cI cJ cZ) (wA a hA nA) FT (wC cI cJ cZ a hA nA gr li st sp (nI n) (nI m) nu ev od fp ti wc wu sc pv su sd (nI t)) [.ref (a 1), .int (nI k)]) (vp_Si (fun r => r = gr k)) 0 0 (fun _ => False) := by
  refine gs_si (cc := cX0_gradeOf) (nL := 2) (ty := .int) (by decide) rfl (Nat.le_of_ble_eq_true rfl) (fun G C hret => ?_)
  show G 0 0 (wC cI cJ cZ a hA nA gr li st sp (nI n) (nI m) nu ev od fp ti wc wu sc pv su sd (nI t)) [(0, .ref (a 1)), (1, .int (nI k))] 0 []
  refine g_aload_n C 0 dX0_gradeOf_0 rfl rfl rfl (q := 1) ?_
  refine g_get C 1 0 dX0_gradeOf_1 (Cn := RX0) (T := TX0) (N := 6) (fun _ h => List.mem_cons_of_mem _ (List.mem_append_right _ h)) rfl rfl (by decide) (List.mem_cons_of_mem _ (List.mem_append_left _ (List.mem_of_getElem? (i := 0) rfl))) rfl (q := 4) rfl ?_
  refine g_iload_n C 1 dX0_gradeOf_4 rfl rfl rfl (q := 5) ?_
  refine g_iald C 7 0 dX0_gradeOf_5 rfl rfl (vp_in_nI (by omega) (by decide)) (q := 6) rfl ?_
  refine g_eqi C (y := gr k) (by rw [nI_clamp (by omega)]) ?_
  exact hret _ 6 _ _ dX0_gradeOf_6 rfl (rfl)
set_option maxHeartbeats 4000000 in
set_option maxRecDepth 100000 in
theorem c_X0_limitOf (l : Launch) (D : va_G) (cI cJ cZ : ClassId) (a : Nat → Nat) (hA nA : Nat) (gr li st sp : Nat → Int32) (n m : Nat) (nu : Nat → Int32) (ev od : Nat → Int64) (fp ti : Nat → Int32) (wc : Nat → Int64) (wu : Int32) (sc pv : Nat → Int64) (su : Int32) (sd : Nat → Int32) (t k : Nat) (hk : k < 16) : Met l yX0_limitOf wsX0_limitOf { frames := 0, cells := 0, slots := 0, locals := 0 } (gPc D (tyT cI cJ cZ) (wA a hA nA) FT (wC cI cJ cZ a hA nA gr li st sp (nI n) (nI m) nu ev od fp ti wc wu sc pv su sd (nI t)) [.ref (a 1), .int (nI k)]) (vp_Si (fun r => r = li k)) 0 0 (fun _ => False) := by
  refine gs_si (cc := cX0_limitOf) (nL := 2) (ty := .int) (by decide) rfl (Nat.le_of_ble_eq_true rfl) (fun G C hret => ?_)
  show G 0 0 (wC cI cJ cZ a hA nA gr li st sp (nI n) (nI m) nu ev od fp ti wc wu sc pv su sd (nI t)) [(0, .ref (a 1)), (1, .int (nI k))] 0 []
  refine g_aload_n C 0 dX0_limitOf_0 rfl rfl rfl (q := 1) ?_
  refine g_get C 1 1 dX0_limitOf_1 (Cn := RX0) (T := TX0) (N := 6) (fun _ h => List.mem_cons_of_mem _ (List.mem_append_right _ h)) rfl rfl (by decide) (List.mem_cons_of_mem _ (List.mem_append_left _ (List.mem_of_getElem? (i := 0) rfl))) rfl (q := 4) rfl ?_
  refine g_iload_n C 1 dX0_limitOf_4 rfl rfl rfl (q := 5) ?_
  refine g_iald C 8 0 dX0_limitOf_5 rfl rfl (vp_in_nI (by omega) (by decide)) (q := 6) rfl ?_
  refine g_eqi C (y := li k) (by rw [nI_clamp (by omega)]) ?_
  exact hret _ 6 _ _ dX0_limitOf_6 rfl (rfl)
set_option maxHeartbeats 4000000 in
set_option maxRecDepth 100000 in
theorem c_X0_firstPost (l : Launch) (D : va_G) (cI cJ cZ : ClassId) (a : Nat → Nat) (hA nA : Nat) (gr li st sp : Nat → Int32) (n m : Nat) (nu : Nat → Int32) (ev od : Nat → Int64) (fp ti : Nat → Int32) (wc : Nat → Int64) (wu : Int32) (sc pv : Nat → Int64) (su : Int32) (sd : Nat → Int32) (t k : Nat) (hk : k < 16) : Met l yX0_firstPost wsX0_firstPost { frames := 0, cells := 0, slots := 0, locals := 0 } (gPc D (tyT cI cJ cZ) (wA a hA nA) FT (wC cI cJ cZ a hA nA gr li st sp (nI n) (nI m) nu ev od fp ti wc wu sc pv su sd (nI t)) [.ref (a 1), .int (nI k)]) (vp_Si (fun r => r = sp k)) 0 0 (fun _ => False) := by
  refine gs_si (cc := cX0_firstPost) (nL := 2) (ty := .int) (by decide) rfl (Nat.le_of_ble_eq_true rfl) (fun G C hret => ?_)
  show G 0 0 (wC cI cJ cZ a hA nA gr li st sp (nI n) (nI m) nu ev od fp ti wc wu sc pv su sd (nI t)) [(0, .ref (a 1)), (1, .int (nI k))] 0 []
  refine g_aload_n C 0 dX0_firstPost_0 rfl rfl rfl (q := 1) ?_
  refine g_get C 1 3 dX0_firstPost_1 (Cn := RX0) (T := TX0) (N := 6) (fun _ h => List.mem_cons_of_mem _ (List.mem_append_right _ h)) rfl rfl (by decide) (List.mem_cons_of_mem _ (List.mem_append_left _ (List.mem_of_getElem? (i := 0) rfl))) rfl (q := 4) rfl ?_
  refine g_iload_n C 1 dX0_firstPost_4 rfl rfl rfl (q := 5) ?_
  refine g_iald C 10 0 dX0_firstPost_5 rfl rfl (vp_in_nI (by omega) (by decide)) (q := 6) rfl ?_
  refine g_eqi C (y := sp k) (by rw [nI_clamp (by omega)]) ?_
  exact hret _ 6 _ _ dX0_firstPost_6 rfl (rfl)
set_option maxHeartbeats 4000000 in
set_option maxRecDepth 100000 in
theorem c_X0_lastPost (l : Launch) (D : va_G) (cI cJ cZ : ClassId) (a : Nat → Nat) (hA nA : Nat) (gr li st sp : Nat → Int32) (n m : Nat) (nu : Nat → Int32) (ev od : Nat → Int64) (fp ti : Nat → Int32) (wc : Nat → Int64) (wu : Int32) (sc pv : Nat → Int64) (su : Int32) (sd : Nat → Int32) (t k : Nat) (hk : k < 16) : Met l yX0_lastPost wsX0_lastPost { frames := 0, cells := 0, slots := 0, locals := 0 } (gPc D (tyT cI cJ cZ) (wA a hA nA) FT (wC cI cJ cZ a hA nA gr li st sp (nI n) (nI m) nu ev od fp ti wc wu sc pv su sd (nI t)) [.ref (a 1), .int (nI k)]) (vp_Si (fun r => r = sp (k + 1))) 0 0 (fun _ => False) := by
  refine gs_si (cc := cX0_lastPost) (nL := 2) (ty := .int) (by decide) rfl (Nat.le_of_ble_eq_true rfl) (fun G C hret => ?_)
  show G 0 0 (wC cI cJ cZ a hA nA gr li st sp (nI n) (nI m) nu ev od fp ti wc wu sc pv su sd (nI t)) [(0, .ref (a 1)), (1, .int (nI k))] 0 []
  refine g_aload_n C 0 dX0_lastPost_0 rfl rfl rfl (q := 1) ?_
  refine g_get C 1 3 dX0_lastPost_1 (Cn := RX0) (T := TX0) (N := 6) (fun _ h => List.mem_cons_of_mem _ (List.mem_append_right _ h)) rfl rfl (by decide) (List.mem_cons_of_mem _ (List.mem_append_left _ (List.mem_of_getElem? (i := 0) rfl))) rfl (q := 4) rfl ?_
  refine g_iload_n C 1 dX0_lastPost_4 rfl rfl rfl (q := 5) ?_
  refine g_iconst C (nI 1) dX0_lastPost_5 (by decide) (q := 6) rfl ?_
  refine g_iadd C dX0_lastPost_6 (q := 7) rfl ?_
  refine g_eqi C (y := nI (k + 1)) (nI_add k 1) ?_
  refine g_iald C 10 0 dX0_lastPost_7 rfl rfl (vp_in_nI (by omega) (by decide)) (q := 8) rfl ?_
  refine g_eqi C (y := sp (k + 1)) (by rw [nI_clamp (by omega)]) ?_
  exact hret _ 8 _ _ dX0_lastPost_8 rfl (rfl)
set_option maxHeartbeats 4000000 in
set_option maxRecDepth 100000 in
theorem c_X4_knows (l : Launch) (D : va_G) (cI cJ cZ : ClassId) (a : Nat → Nat) (hA nA : Nat) (gr li st sp : Nat → Int32) (n m : Nat) (nu : Nat → Int32) (ev od : Nat → Int64) (fp ti : Nat → Int32) (wc : Nat → Int64) (wu : Int32) (sc pv : Nat → Int64) (su : Int32) (sd : Nat → Int32) (t : Nat) (k : Int32) : Met l yX4_knows wsX4_knows { frames := 0, cells := 0, slots := 0, locals := 0 } (gPc D (tyT cI cJ cZ) (wA a hA nA) FT (wC cI cJ cZ a hA nA gr li st sp (nI n) (nI m) nu ev od fp ti wc wu sc pv su sd (nI t)) [.ref (a 2), .int k]) (vp_Si (fun r => r = if ¬ k < 0 ∧ ¬ nI 5 ≤ k then nI 1 else nI 0)) 0 0 (fun _ => False) := by
  refine gs_si (cc := cX4_knows) (nL := 2) (ty := .boolean) (by decide) rfl (Nat.le_of_ble_eq_true rfl) (fun G C hret => ?_)
  show G 0 0 (wC cI cJ cZ a hA nA gr li st sp (nI n) (nI m) nu ev od fp ti wc wu sc pv su sd (nI t)) [(0, .ref (a 2)), (1, .int k)] 0 []
  refine g_iload_n C 1 dX4_knows_0 rfl rfl rfl (q := 1) ?_
  refine g_if_lt C (t := 17) dX4_knows_1 (by decide) (q := 4) rfl (fun c_1 => ?_) (fun c_1 => ?_)
  · refine g_iconst C (nI 0) dX4_knows_17 (by decide) (q := 18) rfl ?_
    exact hret _ 18 _ _ dX4_knows_18 (by decide) ((if_neg (by first | assumption | (refine ⟨?_, ?_⟩ <;> assumption) | (refine ⟨?_, ?_, ?_⟩ <;> assumption) | omega | simp_all)).symm)
  · refine g_iload_n C 1 dX4_knows_4 rfl rfl rfl (q := 5) ?_
    refine g_aload_n C 0 dX4_knows_5 rfl rfl rfl (q := 6) ?_
    refine g_get C 2 0 dX4_knows_6 (Cn := RX4) (T := TX4) (N := 1) (fun _ h => List.mem_cons_of_mem _ (List.mem_append_right _ h)) rfl rfl (by decide) (List.mem_cons_of_mem _ (List.mem_append_left _ (List.mem_of_getElem? (i := 0) rfl))) rfl (q := 9) rfl ?_
    refine g_alen C 13 0 dX4_knows_9 rfl rfl (v := nI 5) rfl (q := 10) rfl ?_
    refine g_icmp_ge C (t := 17) dX4_knows_10 (by decide) (q := 13) rfl (fun c_10 => ?_) (fun c_10 => ?_)
    · refine g_iconst C (nI 0) dX4_knows_17 (by decide) (q := 18) rfl ?_
      exact hret _ 18 _ _ dX4_knows_18 (by decide) ((if_neg (by first | assumption | (refine ⟨?_, ?_⟩ <;> assumption) | (refine ⟨?_, ?_, ?_⟩ <;> assumption) | omega | simp_all)).symm)
    · refine g_iconst C (nI 1) dX4_knows_13 (by decide) (q := 14) rfl ?_
      refine g_goto C (q := 18) dX4_knows_14 (by decide) ?_
      exact hret _ 18 _ _ dX4_knows_18 (by decide) ((if_pos (by first | assumption | (refine ⟨?_, ?_⟩ <;> assumption) | (refine ⟨?_, ?_, ?_⟩ <;> assumption) | omega | simp_all)).symm)
set_option maxHeartbeats 4000000 in
set_option maxRecDepth 100000 in
theorem c_X4_number (l : Launch) (D : va_G) (cI cJ cZ : ClassId) (a : Nat → Nat) (hA nA : Nat) (gr li st sp : Nat → Int32) (n m : Nat) (nu : Nat → Int32) (ev od : Nat → Int64) (fp ti : Nat → Int32) (wc : Nat → Int64) (wu : Int32) (sc pv : Nat → Int64) (su : Int32) (sd : Nat → Int32) (t k : Nat) (hk : k < 5) : Met l yX4_number wsX4_number { frames := 0, cells := 0, slots := 0, locals := 0 } (gPc D (tyT cI cJ cZ) (wA a hA nA) FT (wC cI cJ cZ a hA nA gr li st sp (nI n) (nI m) nu ev od fp ti wc wu sc pv su sd (nI t)) [.ref (a 2), .int (nI k)]) (vp_Si (fun r => r = nu k)) 0 0 (fun _ => False) := by
  refine gs_si (cc := cX4_number) (nL := 2) (ty := .int) (by decide) rfl (Nat.le_of_ble_eq_true rfl) (fun G C hret => ?_)
  show G 0 0 (wC cI cJ cZ a hA nA gr li st sp (nI n) (nI m) nu ev od fp ti wc wu sc pv su sd (nI t)) [(0, .ref (a 2)), (1, .int (nI k))] 0 []
  refine g_aload_n C 0 dX4_number_0 rfl rfl rfl (q := 1) ?_
  refine g_get C 2 0 dX4_number_1 (Cn := RX4) (T := TX4) (N := 1) (fun _ h => List.mem_cons_of_mem _ (List.mem_append_right _ h)) rfl rfl (by decide) (List.mem_cons_of_mem _ (List.mem_append_left _ (List.mem_of_getElem? (i := 0) rfl))) rfl (q := 4) rfl ?_
  refine g_iload_n C 1 dX4_number_4 rfl rfl rfl (q := 5) ?_
  refine g_iald C 13 0 dX4_number_5 rfl rfl (vp_in_nI (by omega) (by decide)) (q := 6) rfl ?_
  refine g_eqi C (y := nu k) (by rw [nI_clamp (by omega)]) ?_
  exact hret _ 6 _ _ dX4_number_6 rfl (rfl)
set_option maxHeartbeats 4000000 in
set_option maxRecDepth 100000 in
theorem c_X4_put (l : Launch) (D : va_G) (cI cJ cZ : ClassId) (a : Nat → Nat) (hA nA : Nat) (gr li st sp : Nat → Int32) (n m : Nat) (nu : Nat → Int32) (ev od : Nat → Int64) (fp ti : Nat → Int32) (wc : Nat → Int64) (wu : Int32) (sc pv : Nat → Int64) (su : Int32) (sd : Nat → Int32) (t k : Nat) (v : Int32) (hk : k < 5) : Met l yX4_put wsX4_put { frames := 0, cells := 0, slots := 0, locals := 0 } (gPc D (tyT cI cJ cZ) (wA a hA nA) FT (wC cI cJ cZ a hA nA gr li st sp (nI n) (nI m) nu ev od fp ti wc wu sc pv su sd (nI t)) [.ref (a 2), .int (nI k), .int v]) (va_Qv (fun (u : Unit) => True) (fun u tS => va_P D vwCl ((fun (u : Unit) => wC cI cJ cZ a hA nA gr li st sp (nI n) (nI m) (upd nu k v) ev od fp ti wc wu sc pv su sd (nI t)) u) tS.heap ∧ va_D (wA a hA nA) ((fun (u : Unit) => wC cI cJ cZ a hA nA gr li st sp (nI n) (nI m) (upd nu k v) ev od fp ti wc wu sc pv su sd (nI t)) u)) (wA a hA nA)) 0 0 (wA a hA nA) := by
  refine gs_qv (cc := cX4_put) (nL := 3) (W' := fun (u : Unit) => wC cI cJ cZ a hA nA gr li st sp (nI n) (nI m) (upd nu k v) ev od fp ti wc wu sc pv su sd (nI t)) (by decide) rfl (Nat.le_of_ble_eq_true rfl) (fun G C hret => ?_)
  show G 0 0 (wC cI cJ cZ a hA nA gr li st sp (nI n) (nI m) nu ev od fp ti wc wu sc pv su sd (nI t)) [(0, .ref (a 2)), (1, .int (nI k)), (2, .int v)] 0 []
  refine g_aload_n C 0 dX4_put_0 rfl rfl rfl (q := 1) ?_
  refine g_get C 2 0 dX4_put_1 (Cn := RX4) (T := TX4) (N := 1) (fun _ h => List.mem_cons_of_mem _ (List.mem_append_right _ h)) rfl rfl (by decide) (List.mem_cons_of_mem _ (List.mem_append_left _ (List.mem_of_getElem? (i := 0) rfl))) rfl (q := 4) rfl ?_
  refine g_iload_n C 1 dX4_put_4 rfl rfl rfl (q := 5) ?_
  refine g_iload_n C 2 dX4_put_5 rfl rfl rfl (q := 6) ?_
  refine g_iast C 13 0 (wC cI cJ cZ a hA nA gr li st sp (nI n) (nI m) (upd nu k v) ev od fp ti wc wu sc pv su sd (nI t)) dX4_put_6 rfl rfl (vp_in_nI (by omega) (by decide)) (by rw [nI_clamp (by omega)]; rfl) (q := 7) rfl ?_
  exact hret () 7 _ dX4_put_7 (trivial)
set_option maxHeartbeats 4000000 in
set_option maxRecDepth 100000 in
theorem c_X3_forceOf (l : Launch) (D : va_G) (cI cJ cZ : ClassId) (a : Nat → Nat) (hA nA : Nat) (gr li st sp : Nat → Int32) (n m : Nat) (nu : Nat → Int32) (ev od : Nat → Int64) (fp ti : Nat → Int32) (wc : Nat → Int64) (wu : Int32) (sc pv : Nat → Int64) (su : Int32) (sd : Nat → Int32) (t k u v : Nat) (hk : k < 16) : Met l yX3_forceOf wsX3_forceOf { frames := 1, cells := 0, slots := 0, locals := 21 } (gPc D (tyT cI cJ cZ) (wA a hA nA) FT (wC cI cJ cZ a hA nA gr li st sp (nI n) (nI m) nu ev od fp ti wc wu sc pv su sd (nI t)) [.ref (a 3), .int (nI k), .int (nI u), .int (nI v)]) (vp_Si (fun r => r = fcN gr nu k u v)) 0 0 (fun _ => False) := by
  refine gs_si (cc := cX3_forceOf) (nL := 5) (ty := .int) (by decide) rfl (Nat.le_of_ble_eq_true rfl) (fun G C hret => ?_)
  show G 0 0 (wC cI cJ cZ a hA nA gr li st sp (nI n) (nI m) nu ev od fp ti wc wu sc pv su sd (nI t)) [(0, .ref (a 3)), (1, .int (nI k)), (2, .int (nI u)), (3, .int (nI v))] 0 []
  refine g_aload_n C 0 dX3_forceOf_0 rfl rfl rfl (q := 1) ?_
  refine g_get C 3 1 dX3_forceOf_1 (Cn := RX3) (T := TX3) (N := 2) (fun _ h => List.mem_cons_of_mem _ (List.mem_append_left _ (List.mem_append_left _ (List.mem_append_right _ h)))) rfl rfl (by decide) (List.mem_cons_of_mem _ (List.mem_append_left _ (List.mem_append_left _ (List.mem_append_left _ (List.mem_of_getElem? (i := 0) rfl))))) rfl (q := 4) rfl ?_
  refine g_iconst C (nI 0) dX3_forceOf_4 (by decide) (q := 5) rfl ?_
  refine gcV_si C (n := 1) (As := [.int (nI 0)]) (st := []) 2 (fun h => h) dX3_forceOf_5 rfl rfl gX3_forceOf_X4_number (c_X4_number l D cI cJ cZ a hA nA gr li st sp n m nu ev od fp ti wc wu sc pv su sd t 0 (by first | assumption | omega)) rfl rfl rfl (by decide +kernel) ⟨Nat.le_of_ble_eq_true rfl, Nat.le_of_ble_eq_true rfl⟩ rfl rfl (Nat.le_of_ble_eq_true rfl) FT_b FT_h ⟨Nat.le_of_ble_eq_true rfl, Nat.le_of_ble_eq_true rfl⟩ (q := 8) rfl (fun r_5 h_5 => ?_)
  subst h_5
  refine g_istore C [(4, .int (nu 0)), (0, .ref (a 3)), (1, .int (nI k)), (2, .int (nI u)), (3, .int (nI v))] dX3_forceOf_8 (by decide) rfl (q := 10) rfl ?_
  refine g_iload C 0 dX3_forceOf_10 rfl rfl (q := 12) ?_
  refine g_iload_n C 4 dX3_forceOf_12 rfl rfl rfl (q := 13) ?_
  refine g_iload_n C 4 dX3_forceOf_13 rfl rfl rfl (q := 14) ?_
  refine g_imul C dX3_forceOf_14 (q := 15) rfl ?_
  refine g_eqi C (y := nI (v * v)) (pk_mul v v) ?_
  refine g_iload_n C 3 dX3_forceOf_15 rfl rfl rfl (q := 16) ?_
  refine g_iload_n C 3 dX3_forceOf_16 rfl rfl rfl (q := 17) ?_
  refine g_imul C dX3_forceOf_17 (q := 18) rfl ?_
  refine g_eqi C (y := nI (u * u)) (pk_mul u u) ?_
  refine g_isub C dX3_forceOf_18 (q := 19) rfl ?_
  refine g_imul C dX3_forceOf_19 (q := 20) rfl ?_
  refine g_iload C 0 dX3_forceOf_20 rfl rfl (q := 22) ?_
  refine g_aload_n C 1 dX3_forceOf_22 rfl rfl rfl (q := 23) ?_
  refine g_get C 3 0 dX3_forceOf_23 (Cn := RX3) (T := TX3) (N := 2) (fun _ h => List.mem_cons_of_mem _ (List.mem_append_left _ (List.mem_append_left _ (List.mem_append_right _ h)))) rfl rfl (by decide) (List.mem_cons_of_mem _ (List.mem_append_left _ (List.mem_append_left _ (List.mem_append_left _ (List.mem_of_getElem? (i := 1) rfl))))) rfl (q := 26) rfl ?_
  refine g_iload_n C 2 dX3_forceOf_26 rfl rfl rfl (q := 27) ?_
  refine gcV_si C (n := 1) (As := [.int (nI k)]) (st := [.int (nu 0), .int ((nu 0) * ((nI (v * v)) - (nI (u * u))))]) 1 (fun h => h) dX3_forceOf_27 rfl rfl gX3_forceOf_X0_gradeOf (c_X0_gradeOf l D cI cJ cZ a hA nA gr li st sp n m nu ev od fp ti wc wu sc pv su sd t k (by first | assumption | omega)) rfl rfl rfl (by decide +kernel) ⟨Nat.le_of_ble_eq_true rfl, Nat.le_of_ble_eq_true rfl⟩ rfl rfl (Nat.le_of_ble_eq_true rfl) FT_b FT_h ⟨Nat.le_of_ble_eq_true rfl, Nat.le_of_ble_eq_true rfl⟩ (q := 30) rfl (fun r_27 h_27 => ?_)
  subst h_27
  refine g_imul C dX3_forceOf_30 (q := 31) rfl ?_
  refine g_iadd C dX3_forceOf_31 (q := 32) rfl ?_
  refine g_aload_n C 1 dX3_forceOf_32 rfl rfl rfl (q := 33) ?_
  refine g_get C 3 1 dX3_forceOf_33 (Cn := RX3) (T := TX3) (N := 2) (fun _ h => List.mem_cons_of_mem _ (List.mem_append_left _ (List.mem_append_left _ (List.mem_append_right _ h)))) rfl rfl (by decide) (List.mem_cons_of_mem _ (List.mem_append_left _ (List.mem_append_left _ (List.mem_append_left _ (List.mem_of_getElem? (i := 0) rfl))))) rfl (q := 36) rfl ?_
  refine g_iconst C (nI 1) dX3_forceOf_36 (by decide) (q := 37) rfl ?_
  refine gcV_si C (n := 1) (As := [.int (nI 1)]) (st := [.int (((nu 0) * ((nI (v * v)) - (nI (u * u)))) + ((nu 0) * (gr k)))]) 2 (fun h => h) dX3_forceOf_37 rfl rfl gX3_forceOf_X4_number (c_X4_number l D cI cJ cZ a hA nA gr li st sp n m nu ev od fp ti wc wu sc pv su sd t 1 (by first | assumption | omega)) rfl rfl rfl (by decide +kernel) ⟨Nat.le_of_ble_eq_true rfl, Nat.le_of_ble_eq_true rfl⟩ rfl rfl (Nat.le_of_ble_eq_true rfl) FT_b FT_h ⟨Nat.le_of_ble_eq_true rfl, Nat.le_of_ble_eq_true rfl⟩ (q := 40) rfl (fun r_37 h_37 => ?_)
  subst h_37
  refine g_iload_n C 3 dX3_forceOf_40 rfl rfl rfl (q := 41) ?_
  refine g_iload_n C 4 dX3_forceOf_41 rfl rfl rfl (q := 42) ?_
  refine g_iadd C dX3_forceOf_42 (q := 43) rfl ?_
  refine g_eqi C (y := nI (u + v)) (nI_add u v) ?_
  refine g_imul C dX3_forceOf_43 (q := 44) rfl ?_
  refine g_iadd C dX3_forceOf_44 (q := 45) rfl ?_
  exact hret _ 45 _ _ dX3_forceOf_45 rfl (rfl)
set_option maxHeartbeats 4000000 in
set_option maxRecDepth 100000 in
theorem c_X1_size (l : Launch) (D : va_G) (cI cJ cZ : ClassId) (a : Nat → Nat) (hA nA : Nat) (gr li st sp : Nat → Int32) (n m : Nat) (nu : Nat → Int32) (ev od : Nat → Int64) (fp ti : Nat → Int32) (wc : Nat → Int64) (wu : Int32) (sc pv : Nat → Int64) (su : Int32) (sd : Nat → Int32) (t : Nat) : Met l yX1_size wsX1_size { frames := 0, cells := 0, slots := 0, locals := 0 } (gPc D (tyT cI cJ cZ) (wA a hA nA) FT (wC cI cJ cZ a hA nA gr li st sp (nI n) (nI m) nu ev od fp ti wc wu sc pv su sd (nI t)) [.ref (a 6)]) (vp_Si (fun r => r = nI t)) 0 0 (fun _ => False) := by
  refine gs_si (cc := cX1_size) (nL := 1) (ty := .int) (by decide) rfl (Nat.le_of_ble_eq_true rfl) (fun G C hret => ?_)
  show G 0 0 (wC cI cJ cZ a hA nA gr li st sp (nI n) (nI m) nu ev od fp ti wc wu sc pv su sd (nI t)) [(0, .ref (a 6))] 0 []
  refine g_aload_n C 0 dX1_size_0 rfl rfl rfl (q := 1) ?_
  refine g_get C 6 3 dX1_size_1 (Cn := RX1) (T := TX1) (N := 4) (fun _ h => List.mem_cons_of_mem _ (List.mem_append_right _ h)) rfl rfl (by decide) (List.mem_cons_of_mem _ (List.mem_append_left _ (List.mem_of_getElem? (i := 0) rfl))) rfl (q := 4) rfl ?_
  exact hret _ 4 _ _ dX1_size_4 rfl (rfl)
set_option maxHeartbeats 4000000 in
set_option maxRecDepth 100000 in
theorem c_X1_isFull (l : Launch) (D : va_G) (cI cJ cZ : ClassId) (a : Nat → Nat) (hA nA : Nat) (gr li st sp : Nat → Int32) (n m : Nat) (nu : Nat → Int32) (ev od : Nat → Int64) (fp ti : Nat → Int32) (wc : Nat → Int64) (wu : Int32) (sc pv : Nat → Int64) (su : Int32) (sd : Nat → Int32) (t : Nat) (hn : n ≤ 16) (ht : t ≤ 17) : Met l yX1_isFull wsX1_isFull { frames := 1, cells := 0, slots := 0, locals := 20 } (gPc D (tyT cI cJ cZ) (wA a hA nA) FT (wC cI cJ cZ a hA nA gr li st sp (nI n) (nI m) nu ev od fp ti wc wu sc pv su sd (nI t)) [.ref (a 6)]) (vp_Si (fun r => r = if n < t then nI 1 else nI 0)) 0 0 (fun _ => False) := by
  refine gs_si (cc := cX1_isFull) (nL := 1) (ty := .boolean) (by decide) rfl (Nat.le_of_ble_eq_true rfl) (fun G C hret => ?_)
  show G 0 0 (wC cI cJ cZ a hA nA gr li st sp (nI n) (nI m) nu ev od fp ti wc wu sc pv su sd (nI t)) [(0, .ref (a 6))] 0 []
  refine g_aload_n C 0 dX1_isFull_0 rfl rfl rfl (q := 1) ?_
  refine g_get C 6 3 dX1_isFull_1 (Cn := RX1) (T := TX1) (N := 4) (fun _ h => List.mem_cons_of_mem _ (List.mem_append_left _ (List.mem_append_right _ h))) rfl rfl (by decide) (List.mem_cons_of_mem _ (List.mem_append_left _ (List.mem_append_left _ (List.mem_of_getElem? (i := 0) rfl)))) rfl (q := 4) rfl ?_
  refine g_aload_n C 0 dX1_isFull_4 rfl rfl rfl (q := 5) ?_
  refine g_get C 6 0 dX1_isFull_5 (Cn := RX1) (T := TX1) (N := 4) (fun _ h => List.mem_cons_of_mem _ (List.mem_append_left _ (List.mem_append_right _ h))) rfl rfl (by decide) (List.mem_cons_of_mem _ (List.mem_append_left _ (List.mem_append_left _ (List.mem_of_getElem? (i := 1) rfl)))) rfl (q := 8) rfl ?_
  refine gcV_si C (n := 0) (As := []) (st := [.int (nI t)]) 1 (fun h => h) dX1_isFull_8 rfl rfl gX1_isFull_X0_cellCount (c_X0_cellCount l D cI cJ cZ a hA nA gr li st sp n m nu ev od fp ti wc wu sc pv su sd t) rfl rfl rfl (by decide +kernel) ⟨Nat.le_of_ble_eq_true rfl, Nat.le_of_ble_eq_true rfl⟩ rfl rfl (Nat.le_of_ble_eq_true rfl) FT_b FT_h ⟨Nat.le_of_ble_eq_true rfl, Nat.le_of_ble_eq_true rfl⟩ (q := 11) rfl (fun r_8 h_8 => ?_)
  subst h_8
  refine g_icmp_le C (t := 18) dX1_isFull_11 (by decide) (q := 14) rfl (fun c_11 => ?_) (fun c_11 => ?_)
  · rw [nI_leI (by omega) (by omega)] at c_11
    refine g_iconst C (nI 0) dX1_isFull_18 (by decide) (q := 19) rfl ?_
    exact hret _ 19 _ _ dX1_isFull_19 (by decide) ((if_neg (by first | assumption | (refine ⟨?_, ?_⟩ <;> assumption) | (refine ⟨?_, ?_, ?_⟩ <;> assumption) | omega | simp_all)).symm)
  · rw [nI_leI (by omega) (by omega)] at c_11
    refine g_iconst C (nI 1) dX1_isFull_14 (by decide) (q := 15) rfl ?_
    refine g_goto C (q := 19) dX1_isFull_15 (by decide) ?_
    exact hret _ 19 _ _ dX1_isFull_19 (by decide) ((if_pos (by first | assumption | (refine ⟨?_, ?_⟩ <;> assumption) | (refine ⟨?_, ?_, ?_⟩ <;> assumption) | omega | simp_all)).symm)
set_option maxHeartbeats 4000000 in
set_option maxRecDepth 100000 in
theorem c_X1_add (l : Launch) (D : va_G) (cI cJ cZ : ClassId) (a : Nat → Nat) (hA nA : Nat) (gr li st sp : Nat → Int32) (n m : Nat) (nu : Nat → Int32) (ev od : Nat → Int64) (fp ti : Nat → Int32) (wc : Nat → Int64) (wu : Int32) (sc pv : Nat → Int64) (su : Int32) (sd : Nat → Int32) (t : Nat) (v : Int32) (ht : t < 17) : Met l yX1_add wsX1_add { frames := 0, cells := 0, slots := 0, locals := 0 } (gPc D (tyT cI cJ cZ) (wA a hA nA) FT (wC cI cJ cZ a hA nA gr li st sp (nI n) (nI m) nu ev od fp ti wc wu sc pv su sd (nI t)) [.ref (a 6), .int v]) (va_Qv (fun (u : Unit) => True) (fun u tS => va_P D vwCl ((fun (u : Unit) => wC cI cJ cZ a hA nA gr li st sp (nI n) (nI m) nu ev od fp ti wc wu sc pv su (upd sd t v) (nI (t + 1))) u) tS.heap ∧ va_D (wA a hA nA) ((fun (u : Unit) => wC cI cJ cZ a hA nA gr li st sp (nI n) (nI m) nu ev od fp ti wc wu sc pv su (upd sd t v) (nI (t + 1))) u)) (wA a hA nA)) 0 0 (wA a hA nA) := by
  refine gs_qv (cc := cX1_add) (nL := 2) (W' := fun (u : Unit) => wC cI cJ cZ a hA nA gr li st sp (nI n) (nI m) nu ev od fp ti wc wu sc pv su (upd sd t v) (nI (t + 1))) (by decide) rfl (Nat.le_of_ble_eq_true rfl) (fun G C hret => ?_)
  show G 0 0 (wC cI cJ cZ a hA nA gr li st sp (nI n) (nI m) nu ev od fp ti wc wu sc pv su sd (nI t)) [(0, .ref (a 6)), (1, .int v)] 0 []
  refine g_aload_n C 0 dX1_add_0 rfl rfl rfl (q := 1) ?_
  refine g_get C 6 2 dX1_add_1 (Cn := RX1) (T := TX1) (N := 4) (fun _ h => List.mem_cons_of_mem _ (List.mem_append_right _ h)) rfl rfl (by decide) (List.mem_cons_of_mem _ (List.mem_append_left _ (List.mem_of_getElem? (i := 0) rfl))) rfl (q := 4) rfl ?_
  refine g_aload_n C 0 dX1_add_4 rfl rfl rfl (q := 5) ?_
  refine g_get C 6 3 dX1_add_5 (Cn := RX1) (T := TX1) (N := 4) (fun _ h => List.mem_cons_of_mem _ (List.mem_append_right _ h)) rfl rfl (by decide) (List.mem_cons_of_mem _ (List.mem_append_left _ (List.mem_of_getElem? (i := 1) rfl))) rfl (q := 8) rfl ?_
  refine g_iload_n C 1 dX1_add_8 rfl rfl rfl (q := 9) ?_
  refine g_iast C 19 0 (wC cI cJ cZ a hA nA gr li st sp (nI n) (nI m) nu ev od fp ti wc wu sc pv su (upd sd t v) (nI t)) dX1_add_9 rfl rfl (vp_in_nI (by omega) (by decide)) (by rw [nI_clamp (by omega)]; rfl) (q := 10) rfl ?_
  refine g_aload_n C 0 dX1_add_10 rfl rfl rfl (q := 11) ?_
  refine g_dup C dX1_add_11 rfl (q := 12) rfl ?_
  refine g_get C 6 3 dX1_add_12 (Cn := RX1) (T := TX1) (N := 4) (fun _ h => List.mem_cons_of_mem _ (List.mem_append_right _ h)) rfl rfl (by decide) (List.mem_cons_of_mem _ (List.mem_append_left _ (List.mem_of_getElem? (i := 1) rfl))) rfl (q := 15) rfl ?_
  refine g_iconst C (nI 1) dX1_add_15 (by decide) (q := 16) rfl ?_
  refine g_iadd C dX1_add_16 (q := 17) rfl ?_
  refine g_eqi C (y := nI (t + 1)) (nI_add t 1) ?_
  refine g_put C 6 3 (wC cI cJ cZ a hA nA gr li st sp (nI n) (nI m) nu ev od fp ti wc wu sc pv su (upd sd t v) (nI (t + 1))) dX1_add_17 (Cn := RX1) (T := TX1) (N := 4) (fun _ h => List.mem_cons_of_mem _ (List.mem_append_right _ h)) tyX1_ok nmX1 rfl rfl (by decide) (List.mem_cons_of_mem _ (List.mem_append_left _ (List.mem_of_getElem? (i := 1) rfl))) rfl (ty := .int) (by decide +kernel) rfl rfl (Nat.le_of_ble_eq_true rfl) rfl (q := 20) rfl ?_
  exact hret () 20 _ dX1_add_20 (trivial)
set_option maxHeartbeats 4000000 in
set_option maxRecDepth 100000 in
theorem c_X1_wipe (l : Launch) (D : va_G) (cI cJ cZ : ClassId) (a : Nat → Nat) (hA nA : Nat) (gr li st sp : Nat → Int32) (n m : Nat) (nu : Nat → Int32) (ev od : Nat → Int64) (fp ti : Nat → Int32) (wc : Nat → Int64) (wu : Int32) (sc pv : Nat → Int64) (su : Int32) (sd : Nat → Int32) (t : Nat) : Met l yX1_wipe wsX1_wipe { frames := 0, cells := 0, slots := 0, locals := 0 } (gPc D (tyT cI cJ cZ) (wA a hA nA) FT (wC cI cJ cZ a hA nA gr li st sp (nI n) (nI m) nu ev od fp ti wc wu sc pv su sd (nI t)) [.ref (a 6)]) (va_Qv (fun (u : Unit) => True) (fun u tS => va_P D vwCl ((fun (u : Unit) => wC cI cJ cZ a hA nA gr li st sp (nI n) (nI m) nu ev od fp ti wc wu sc pv su sd (nI 0)) u) tS.heap ∧ va_D (wA a hA nA) ((fun (u : Unit) => wC cI cJ cZ a hA nA gr li st sp (nI n) (nI m) nu ev od fp ti wc wu sc pv su sd (nI 0)) u)) (wA a hA nA)) 0 0 (wA a hA nA) := by
  refine gs_qv (cc := cX1_wipe) (nL := 1) (W' := fun (u : Unit) => wC cI cJ cZ a hA nA gr li st sp (nI n) (nI m) nu ev od fp ti wc wu sc pv su sd (nI 0)) (by decide) rfl (Nat.le_of_ble_eq_true rfl) (fun G C hret => ?_)
  show G 0 0 (wC cI cJ cZ a hA nA gr li st sp (nI n) (nI m) nu ev od fp ti wc wu sc pv su sd (nI t)) [(0, .ref (a 6))] 0 []
  refine g_aload_n C 0 dX1_wipe_0 rfl rfl rfl (q := 1) ?_
  refine g_iconst C (nI 0) dX1_wipe_1 (by decide) (q := 2) rfl ?_
  refine g_put C 6 3 (wC cI cJ cZ a hA nA gr li st sp (nI n) (nI m) nu ev od fp ti wc wu sc pv su sd (nI 0)) dX1_wipe_2 (Cn := RX1) (T := TX1) (N := 4) (fun _ h => List.mem_cons_of_mem _ (List.mem_append_right _ h)) tyX1_ok nmX1 rfl rfl (by decide) (List.mem_cons_of_mem _ (List.mem_append_left _ (List.mem_of_getElem? (i := 0) rfl))) rfl (ty := .int) (by decide +kernel) rfl rfl (Nat.le_of_ble_eq_true rfl) rfl (q := 5) rfl ?_
  exact hret () 5 _ dX1_wipe_5 (trivial)
set_option maxHeartbeats 4000000 in
set_option maxRecDepth 100000 in
theorem c_X5_forget (l : Launch) (D : va_G) (cI cJ cZ : ClassId) (a : Nat → Nat) (hA nA : Nat) (gr li st sp : Nat → Int32) (n m : Nat) (nu : Nat → Int32) (ev od : Nat → Int64) (fp ti : Nat → Int32) (wc : Nat → Int64) (wu : Int32) (sc pv : Nat → Int64) (su : Int32) (sd : Nat → Int32) (t : Nat) : Met l yX5_forget wsX5_forget { frames := 0, cells := 0, slots := 0, locals := 0 } (gPc D (tyT cI cJ cZ) (wA a hA nA) FT (wC cI cJ cZ a hA nA gr li st sp (nI n) (nI m) nu ev od fp ti wc wu sc pv su sd (nI t)) [.ref (a 4)]) (va_Qv (fun (u : Unit) => True) (fun u tS => va_P D vwCl ((fun (u : Unit) => wC cI cJ cZ a hA nA gr li st sp (nI n) (nI m) nu ev od fp ti wc (nI 0) sc pv su sd (nI t)) u) tS.heap ∧ va_D (wA a hA nA) ((fun (u : Unit) => wC cI cJ cZ a hA nA gr li st sp (nI n) (nI m) nu ev od fp ti wc (nI 0) sc pv su sd (nI t)) u)) (wA a hA nA)) 0 0 (wA a hA nA) := by
  refine gs_qv (cc := cX5_forget) (nL := 1) (W' := fun (u : Unit) => wC cI cJ cZ a hA nA gr li st sp (nI n) (nI m) nu ev od fp ti wc (nI 0) sc pv su sd (nI t)) (by decide) rfl (Nat.le_of_ble_eq_true rfl) (fun G C hret => ?_)
  show G 0 0 (wC cI cJ cZ a hA nA gr li st sp (nI n) (nI m) nu ev od fp ti wc wu sc pv su sd (nI t)) [(0, .ref (a 4))] 0 []
  refine g_aload_n C 0 dX5_forget_0 rfl rfl rfl (q := 1) ?_
  refine g_iconst C (nI 0) dX5_forget_1 (by decide) (q := 2) rfl ?_
  refine g_put C 4 7 (wC cI cJ cZ a hA nA gr li st sp (nI n) (nI m) nu ev od fp ti wc (nI 0) sc pv su sd (nI t)) dX5_forget_2 (Cn := RX5) (T := TX5) (N := 8) (fun _ h => List.mem_cons_of_mem _ (List.mem_append_right _ h)) tyX5_ok nmX5 rfl rfl (by decide) (List.mem_cons_of_mem _ (List.mem_append_left _ (List.mem_of_getElem? (i := 0) rfl))) rfl (ty := .boolean) (by decide +kernel) (by decide) rfl (Nat.le_of_ble_eq_true rfl) rfl (q := 5) rfl ?_
  exact hret () 5 _ dX5_forget_5 (trivial)
set_option maxHeartbeats 4000000 in
set_option maxRecDepth 100000 in
theorem c_X2_forget (l : Launch) (D : va_G) (cI cJ cZ : ClassId) (a : Nat → Nat) (hA nA : Nat) (gr li st sp : Nat → Int32) (n m : Nat) (nu : Nat → Int32) (ev od : Nat → Int64) (fp ti : Nat → Int32) (wc : Nat → Int64) (wu : Int32) (sc pv : Nat → Int64) (su : Int32) (sd : Nat → Int32) (t : Nat) : Met l yX2_forget wsX2_forget { frames := 0, cells := 0, slots := 0, locals := 0 } (gPc D (tyT cI cJ cZ) (wA a hA nA) FT (wC cI cJ cZ a hA nA gr li st sp (nI n) (nI m) nu ev od fp ti wc wu sc pv su sd (nI t)) [.ref (a 5)]) (va_Qv (fun (u : Unit) => True) (fun u tS => va_P D vwCl ((fun (u : Unit) => wC cI cJ cZ a hA nA gr li st sp (nI n) (nI m) nu ev od fp ti wc wu sc pv (nI 0) sd (nI t)) u) tS.heap ∧ va_D (wA a hA nA) ((fun (u : Unit) => wC cI cJ cZ a hA nA gr li st sp (nI n) (nI m) nu ev od fp ti wc wu sc pv (nI 0) sd (nI t)) u)) (wA a hA nA)) 0 0 (wA a hA nA) := by
  refine gs_qv (cc := cX2_forget) (nL := 1) (W' := fun (u : Unit) => wC cI cJ cZ a hA nA gr li st sp (nI n) (nI m) nu ev od fp ti wc wu sc pv (nI 0) sd (nI t)) (by decide) rfl (Nat.le_of_ble_eq_true rfl) (fun G C hret => ?_)
  show G 0 0 (wC cI cJ cZ a hA nA gr li st sp (nI n) (nI m) nu ev od fp ti wc wu sc pv su sd (nI t)) [(0, .ref (a 5))] 0 []
  refine g_aload_n C 0 dX2_forget_0 rfl rfl rfl (q := 1) ?_
  refine g_iconst C (nI 0) dX2_forget_1 (by decide) (q := 2) rfl ?_
  refine g_put C 5 4 (wC cI cJ cZ a hA nA gr li st sp (nI n) (nI m) nu ev od fp ti wc wu sc pv (nI 0) sd (nI t)) dX2_forget_2 (Cn := RX2) (T := TX2) (N := 5) (fun _ h => List.mem_cons_of_mem _ (List.mem_append_right _ h)) tyX2_ok nmX2 rfl rfl (by decide) (List.mem_cons_of_mem _ (List.mem_append_left _ (List.mem_of_getElem? (i := 0) rfl))) rfl (ty := .boolean) (by decide +kernel) (by decide) rfl (Nat.le_of_ble_eq_true rfl) rfl (q := 5) rfl ?_
  exact hret () 5 _ dX2_forget_5 (trivial)
end
section
set_option maxHeartbeats 4000000 in
set_option maxRecDepth 100000 in
theorem c_X3_timeOf (l : Launch) (D : va_G) (cI cJ cZ : ClassId) (a : Nat → Nat) (hA nA : Nat) (gr li st sp : Nat → Int32) (n m : Nat) (nu : Nat → Int32) (ev od : Nat → Int64) (fp ti : Nat → Int32) (wc : Nat → Int64) (wu : Int32) (sc pv : Nat → Int64) (su : Int32) (sd : Nat → Int32) (t u v : Nat) (hu : u ≤ 6) (hv : v ≤ 6) : Met l yX3_timeOf wsX3_timeOf { frames := 0, cells := 0, slots := 0, locals := 0 } (gPc D (tyT cI cJ cZ) (wA a hA nA) FT (wC cI cJ cZ a hA nA gr li st sp (nI n) (nI m) nu ev od fp ti wc wu sc pv su sd (nI t)) [.ref (a 3), .int (nI u), .int (nI v)]) (vp_Si (fun r => r = nI (tmN u v))) 0 0 (fun _ => False) := by
  refine gs_si (cc := cX3_timeOf) (nL := 4) (ty := .int) (by decide) rfl (Nat.le_of_ble_eq_true rfl) (fun G C hret => ?_)
  show G 0 0 (wC cI cJ cZ a hA nA gr li st sp (nI n) (nI m) nu ev od fp ti wc wu sc pv su sd (nI t)) [(0, .ref (a 3)), (1, .int (nI u)), (2, .int (nI v))] 0 []
  refine g_iload_n C 1 dX3_timeOf_0 rfl rfl rfl (q := 1) ?_
  refine g_iload_n C 2 dX3_timeOf_1 rfl rfl rfl (q := 2) ?_
  refine g_iadd C dX3_timeOf_2 (q := 3) rfl ?_
  refine g_eqi C (y := nI (u + v)) (nI_add u v) ?_
  refine g_istore_n C [(3, .int (nI (u + v))), (0, .ref (a 3)), (1, .int (nI u)), (2, .int (nI v))] dX3_timeOf_3 rfl (by decide) rfl (q := 4) rfl ?_
  refine g_iload_n C 0 dX3_timeOf_4 rfl rfl rfl (q := 5) ?_
  refine g_if_le C (t := 15) dX3_timeOf_5 (by decide) (q := 8) rfl (fun c_5 => ?_) (fun c_5 => ?_)
  · rw [← nI_0, nI_leI (by omega) (by omega)] at c_5
    refine g_iconst C (nI 0) dX3_timeOf_15 (by decide) (q := 16) rfl ?_
    exact hret _ 16 _ _ dX3_timeOf_16 rfl (by first | rfl | (rw [show u = 0 by omega, show v = 0 by omega]; rfl))
  · rw [← nI_0, nI_leI (by omega) (by omega)] at c_5
    refine g_bipush C (nI 60) dX3_timeOf_8 (by decide) (q := 10) rfl ?_
    refine g_iload_n C 0 dX3_timeOf_10 rfl rfl rfl (q := 11) ?_
    refine g_idiv C dX3_timeOf_11 (nI_ne0 (by omega) (by omega)) (q := 12) rfl ?_
    refine g_eqi C (y := nI (tmN u v)) (pk_div (by decide) (by omega) (by omega)) ?_
    refine g_goto C (q := 16) dX3_timeOf_12 (by decide) ?_
    exact hret _ 16 _ _ dX3_timeOf_16 rfl (by first | rfl | (rw [show u = 0 by omega, show v = 0 by omega]; rfl))
set_option maxHeartbeats 4000000 in
set_option maxRecDepth 100000 in
theorem c_X3_faultOf (l : Launch) (D : va_G) (cI cJ cZ : ClassId) (a : Nat → Nat) (hA nA : Nat) (gr li st sp : Nat → Int32) (n m : Nat) (nu : Nat → Int32) (ev od : Nat → Int64) (fp ti : Nat → Int32) (wc : Nat → Int64) (wu : Int32) (sc pv : Nat → Int64) (su : Int32) (sd : Nat → Int32) (t k u v : Nat) (hk : k < 16) (hu : u ≤ 6) (hv : v ≤ 6) : Met l yX3_faultOf wsX3_faultOf { frames := 2, cells := 0, slots := 0, locals := 45 } (gPc D (tyT cI cJ cZ) (wA a hA nA) FT (wC cI cJ cZ a hA nA gr li st sp (nI n) (nI m) nu ev od fp ti wc wu sc pv su sd (nI t)) [.ref (a 3), .int (nI k), .int (nI u), .int (nI v)]) (vp_Si (fun r => r = flN gr li nu k u v)) 0 0 (fun _ => False) := by
  refine gs_si (cc := cX3_faultOf) (nL := 5) (ty := .int) (by decide) rfl (Nat.le_of_ble_eq_true rfl) (fun G C hret => ?_)
  show G 0 0 (wC cI cJ cZ a hA nA gr li st sp (nI n) (nI m) nu ev od fp ti wc wu sc pv su sd (nI t)) [(0, .ref (a 3)), (1, .int (nI k)), (2, .int (nI u)), (3, .int (nI v))] 0 []
  refine g_iload_n C 2 dX3_faultOf_0 rfl rfl rfl (q := 1) ?_
  refine g_iload_n C 3 dX3_faultOf_1 rfl rfl rfl (q := 2) ?_
  refine g_mmax C dX3_faultOf_2 (List.mem_cons_of_mem _ (List.mem_append_left _ (List.mem_append_left _ (List.mem_append_left _ (List.mem_of_getElem? (i := 0) rfl))))) (List.mem_cons_of_mem _ (List.mem_append_left _ (List.mem_append_left _ (List.mem_append_left _ (List.mem_of_getElem? (i := 1) rfl))))) (List.mem_cons_of_mem _ (List.mem_append_left _ (List.mem_append_left _ (List.mem_append_left _ (List.mem_of_getElem? (i := 2) rfl))))) (List.mem_cons_of_mem _ (List.mem_append_left _ (List.mem_append_left _ (List.mem_append_left _ (List.mem_of_getElem? (i := 3) rfl))))) (by decide) (Nat.le_of_ble_eq_true rfl) (Nat.le_of_ble_eq_true rfl) (Nat.le_of_ble_eq_true rfl) (q := 5) rfl ?_
  refine g_aload_n C 0 dX3_faultOf_5 rfl rfl rfl (q := 6) ?_
  refine g_get C 3 0 dX3_faultOf_6 (Cn := RX3) (T := TX3) (N := 2) (fun _ h => List.mem_cons_of_mem _ (List.mem_append_left _ (List.mem_append_left _ (List.mem_append_right _ h)))) rfl rfl (by decide) (List.mem_cons_of_mem _ (List.mem_append_left _ (List.mem_append_left _ (List.mem_append_left _ (List.mem_of_getElem? (i := 4) rfl))))) rfl (q := 9) rfl ?_
  refine g_iload_n C 1 dX3_faultOf_9 rfl rfl rfl (q := 10) ?_
  refine gcV_si C (n := 1) (As := [.int (nI k)]) (st := [.int (if nI u < nI v then nI v else nI u)]) 1 (fun h => h) dX3_faultOf_10 rfl rfl gX3_faultOf_X0_limitOf (c_X0_limitOf l D cI cJ cZ a hA nA gr li st sp n m nu ev od fp ti wc wu sc pv su sd t k (by first | assumption | omega)) rfl rfl rfl (by decide +kernel) ⟨Nat.le_of_ble_eq_true rfl, Nat.le_of_ble_eq_true rfl⟩ rfl rfl (Nat.le_of_ble_eq_true rfl) FT_b FT_h ⟨Nat.le_of_ble_eq_true rfl, Nat.le_of_ble_eq_true rfl⟩ (q := 13) rfl (fun r_10 h_10 => ?_)
  subst h_10
  refine g_icmp_le C (t := 18) dX3_faultOf_13 (by decide) (q := 16) rfl (fun c_13 => ?_) (fun c_13 => ?_)
  · replace c_13 := mx_le c_13
    refine g_iload_n C 2 dX3_faultOf_18 rfl rfl rfl (q := 19) ?_
    refine g_if_ne C (t := 28) dX3_faultOf_19 (by decide) (q := 22) rfl (fun c_19 => ?_) (fun c_19 => ?_)
    · rw [← nI_0, nI_eq (by omega) (by omega)] at c_19
      refine g_iload_n C 2 dX3_faultOf_28 rfl rfl rfl (q := 29) ?_
      refine g_iload_n C 3 dX3_faultOf_29 rfl rfl rfl (q := 30) ?_
      refine g_isub C dX3_faultOf_30 (q := 31) rfl ?_
      refine g_mabs C dX3_faultOf_31 (List.mem_cons_of_mem _ (List.mem_append_left _ (List.mem_append_left _ (List.mem_append_left _ (List.mem_of_getElem? (i := 5) rfl))))) (List.mem_cons_of_mem _ (List.mem_append_left _ (List.mem_append_left _ (List.mem_append_left _ (List.mem_of_getElem? (i := 6) rfl))))) (List.mem_cons_of_mem _ (List.mem_append_left _ (List.mem_append_left _ (List.mem_append_left _ (List.mem_of_getElem? (i := 2) rfl))))) (List.mem_cons_of_mem _ (List.mem_append_left _ (List.mem_append_left _ (List.mem_append_left _ (List.mem_of_getElem? (i := 7) rfl))))) (by decide) (Nat.le_of_ble_eq_true rfl) (Nat.le_of_ble_eq_true rfl) (Nat.le_of_ble_eq_true rfl) (q := 34) rfl ?_
      refine g_iconst C (nI 2) dX3_faultOf_34 (by decide) (q := 35) rfl ?_
      refine g_icmp_le C (t := 40) dX3_faultOf_35 (by decide) (q := 38) rfl (fun c_35 => ?_) (fun c_35 => ?_)
      · replace c_35 := ab_le hu hv c_35
        refine g_aload_n C 0 dX3_faultOf_40 rfl rfl rfl (q := 41) ?_
        refine g_iload_n C 1 dX3_faultOf_41 rfl rfl rfl (q := 42) ?_
        refine g_iload_n C 2 dX3_faultOf_42 rfl rfl rfl (q := 43) ?_
        refine g_iload_n C 3 dX3_faultOf_43 rfl rfl rfl (q := 44) ?_
        refine gcV_si C (n := 3) (As := [.int (nI k), .int (nI u), .int (nI v)]) (st := []) 3 (fun h => h) dX3_faultOf_44 rfl rfl gX3_faultOf_X3_forceOf (c_X3_forceOf l D cI cJ cZ a hA nA gr li st sp n m nu ev od fp ti wc wu sc pv su sd t k u v (by first | assumption | omega)) rfl rfl rfl (by decide +kernel) ⟨Nat.le_of_ble_eq_true rfl, Nat.le_of_ble_eq_true rfl⟩ rfl rfl (Nat.le_of_ble_eq_true rfl) FT_b FT_h ⟨Nat.le_of_ble_eq_true rfl, Nat.le_of_ble_eq_true rfl⟩ (q := 47) rfl (fun r_44 h_44 => ?_)
        subst h_44
        refine g_istore C [(4, .int (fcN gr nu k u v)), (0, .ref (a 3)), (1, .int (nI k)), (2, .int (nI u)), (3, .int (nI v))] dX3_faultOf_47 (by decide) rfl (q := 49) rfl ?_
        refine g_iload C 0 dX3_faultOf_49 rfl rfl (q := 51) ?_
        refine g_aload_n C 1 dX3_faultOf_51 rfl rfl rfl (q := 52) ?_
        refine g_get C 3 1 dX3_faultOf_52 (Cn := RX3) (T := TX3) (N := 2) (fun _ h => List.mem_cons_of_mem _ (List.mem_append_left _ (List.mem_append_left _ (List.mem_append_right _ h)))) rfl rfl (by decide) (List.mem_cons_of_mem _ (List.mem_append_left _ (List.mem_append_left _ (List.mem_append_left _ (List.mem_of_getElem? (i := 8) rfl))))) rfl (q := 55) rfl ?_
        refine g_iconst C (nI 2) dX3_faultOf_55 (by decide) (q := 56) rfl ?_
        refine gcV_si C (n := 1) (As := [.int (nI 2)]) (st := [.int (fcN gr nu k u v)]) 2 (fun h => h) dX3_faultOf_56 rfl rfl gX3_faultOf_X4_number (c_X4_number l D cI cJ cZ a hA nA gr li st sp n m nu ev od fp ti wc wu sc pv su sd t 2 (by first | assumption | omega)) rfl rfl rfl (by decide +kernel) ⟨Nat.le_of_ble_eq_true rfl, Nat.le_of_ble_eq_true rfl⟩ rfl rfl (Nat.le_of_ble_eq_true rfl) FT_b FT_h ⟨Nat.le_of_ble_eq_true rfl, Nat.le_of_ble_eq_true rfl⟩ (q := 59) rfl (fun r_56 h_56 => ?_)
        subst h_56
        refine g_icmp_le C (t := 64) dX3_faultOf_59 (by decide) (q := 62) rfl (fun c_59 => ?_) (fun c_59 => ?_)
        · refine g_iload C 0 dX3_faultOf_64 rfl rfl (q := 66) ?_
          refine g_aload_n C 1 dX3_faultOf_66 rfl rfl rfl (q := 67) ?_
          refine g_get C 3 1 dX3_faultOf_67 (Cn := RX3) (T := TX3) (N := 2) (fun _ h => List.mem_cons_of_mem _ (List.mem_append_left _ (List.mem_append_left _ (List.mem_append_right _ h)))) rfl rfl (by decide) (List.mem_cons_of_mem _ (List.mem_append_left _ (List.mem_append_left _ (List.mem_append_left _ (List.mem_of_getElem? (i := 8) rfl))))) rfl (q := 70) rfl ?_
          refine g_iconst C (nI 3) dX3_faultOf_70 (by decide) (q := 71) rfl ?_
          refine gcV_si C (n := 1) (As := [.int (nI 3)]) (st := [.int (fcN gr nu k u v)]) 2 (fun h => h) dX3_faultOf_71 rfl rfl gX3_faultOf_X4_number (c_X4_number l D cI cJ cZ a hA nA gr li st sp n m nu ev od fp ti wc wu sc pv su sd t 3 (by first | assumption | omega)) rfl rfl rfl (by decide +kernel) ⟨Nat.le_of_ble_eq_true rfl, Nat.le_of_ble_eq_true rfl⟩ rfl rfl (Nat.le_of_ble_eq_true rfl) FT_b FT_h ⟨Nat.le_of_ble_eq_true rfl, Nat.le_of_ble_eq_true rfl⟩ (q := 74) rfl (fun r_71 h_71 => ?_)
          subst h_71
          refine g_ineg C dX3_faultOf_74 (q := 75) rfl ?_
          refine g_icmp_ge C (t := 82) dX3_faultOf_75 (by decide) (q := 78) rfl (fun c_75 => ?_) (fun c_75 => ?_)
          · refine g_iconst C (nI 0) dX3_faultOf_82 (by decide) (q := 83) rfl ?_
            exact hret _ 83 _ _ dX3_faultOf_83 rfl (by first | (rw [flN, fltE, if_neg c_13, if_neg (by omega), if_neg c_35, if_neg (not_not_intro c_59), if_pos c_75]) | (rw [flN, fltE, if_neg c_13, if_neg (by omega), if_neg c_35, if_neg (not_not_intro c_59), if_neg (not_not_intro c_75)]))
          · refine g_iconst C (nI 5) dX3_faultOf_78 (by decide) (q := 79) rfl ?_
            refine g_goto C (q := 83) dX3_faultOf_79 (by decide) ?_
            exact hret _ 83 _ _ dX3_faultOf_83 rfl (by first | (rw [flN, fltE, if_neg c_13, if_neg (by omega), if_neg c_35, if_neg (not_not_intro c_59), if_pos c_75]) | (rw [flN, fltE, if_neg c_13, if_neg (by omega), if_neg c_35, if_neg (not_not_intro c_59), if_neg (not_not_intro c_75)]))
        · refine g_iconst C (nI 4) dX3_faultOf_62 (by decide) (q := 63) rfl ?_
          exact hret _ 63 _ _ dX3_faultOf_63 rfl (by rw [flN, fltE, if_neg c_13, if_neg (by omega), if_neg c_35, if_pos c_59])
      · replace c_35 := ab_nle hu hv c_35
        refine g_iconst C (nI 3) dX3_faultOf_38 (by decide) (q := 39) rfl ?_
        exact hret _ 39 _ _ dX3_faultOf_39 rfl (by rw [flN, fltE, if_neg c_13, if_neg (by omega), if_pos c_35])
    · rw [← nI_0, nI_eq (by omega) (by omega)] at c_19
      refine g_iload_n C 3 dX3_faultOf_22 rfl rfl rfl (q := 23) ?_
      refine g_if_ne C (t := 28) dX3_faultOf_23 (by decide) (q := 26) rfl (fun c_23 => ?_) (fun c_23 => ?_)
      · rw [← nI_0, nI_eq (by omega) (by omega)] at c_23
        refine g_iload_n C 2 dX3_faultOf_28 rfl rfl rfl (q := 29) ?_
        refine g_iload_n C 3 dX3_faultOf_29 rfl rfl rfl (q := 30) ?_
        refine g_isub C dX3_faultOf_30 (q := 31) rfl ?_
        refine g_mabs C dX3_faultOf_31 (List.mem_cons_of_mem _ (List.mem_append_left _ (List.mem_append_left _ (List.mem_append_left _ (List.mem_of_getElem? (i := 5) rfl))))) (List.mem_cons_of_mem _ (List.mem_append_left _ (List.mem_append_left _ (List.mem_append_left _ (List.mem_of_getElem? (i := 6) rfl))))) (List.mem_cons_of_mem _ (List.mem_append_left _ (List.mem_append_left _ (List.mem_append_left _ (List.mem_of_getElem? (i := 2) rfl))))) (List.mem_cons_of_mem _ (List.mem_append_left _ (List.mem_append_left _ (List.mem_append_left _ (List.mem_of_getElem? (i := 7) rfl))))) (by decide) (Nat.le_of_ble_eq_true rfl) (Nat.le_of_ble_eq_true rfl) (Nat.le_of_ble_eq_true rfl) (q := 34) rfl ?_
        refine g_iconst C (nI 2) dX3_faultOf_34 (by decide) (q := 35) rfl ?_
        refine g_icmp_le C (t := 40) dX3_faultOf_35 (by decide) (q := 38) rfl (fun c_35 => ?_) (fun c_35 => ?_)
        · replace c_35 := ab_le hu hv c_35
          refine g_aload_n C 0 dX3_faultOf_40 rfl rfl rfl (q := 41) ?_
          refine g_iload_n C 1 dX3_faultOf_41 rfl rfl rfl (q := 42) ?_
          refine g_iload_n C 2 dX3_faultOf_42 rfl rfl rfl (q := 43) ?_
          refine g_iload_n C 3 dX3_faultOf_43 rfl rfl rfl (q := 44) ?_
          refine gcV_si C (n := 3) (As := [.int (nI k), .int (nI u), .int (nI v)]) (st := []) 3 (fun h => h) dX3_faultOf_44 rfl rfl gX3_faultOf_X3_forceOf (c_X3_forceOf l D cI cJ cZ a hA nA gr li st sp n m nu ev od fp ti wc wu sc pv su sd t k u v (by first | assumption | omega)) rfl rfl rfl (by decide +kernel) ⟨Nat.le_of_ble_eq_true rfl, Nat.le_of_ble_eq_true rfl⟩ rfl rfl (Nat.le_of_ble_eq_true rfl) FT_b FT_h ⟨Nat.le_of_ble_eq_true rfl, Nat.le_of_ble_eq_true rfl⟩ (q := 47) rfl (fun r_44 h_44 => ?_)
          subst h_44
          refine g_istore C [(4, .int (fcN gr nu k u v)), (0, .ref (a 3)), (1, .int (nI k)), (2, .int (nI u)), (3, .int (nI v))] dX3_faultOf_47 (by decide) rfl (q := 49) rfl ?_
          refine g_iload C 0 dX3_faultOf_49 rfl rfl (q := 51) ?_
          refine g_aload_n C 1 dX3_faultOf_51 rfl rfl rfl (q := 52) ?_
          refine g_get C 3 1 dX3_faultOf_52 (Cn := RX3) (T := TX3) (N := 2) (fun _ h => List.mem_cons_of_mem _ (List.mem_append_left _ (List.mem_append_left _ (List.mem_append_right _ h)))) rfl rfl (by decide) (List.mem_cons_of_mem _ (List.mem_append_left _ (List.mem_append_left _ (List.mem_append_left _ (List.mem_of_getElem? (i := 8) rfl))))) rfl (q := 55) rfl ?_
          refine g_iconst C (nI 2) dX3_faultOf_55 (by decide) (q := 56) rfl ?_
          refine gcV_si C (n := 1) (As := [.int (nI 2)]) (st := [.int (fcN gr nu k u v)]) 2 (fun h => h) dX3_faultOf_56 rfl rfl gX3_faultOf_X4_number (c_X4_number l D cI cJ cZ a hA nA gr li st sp n m nu ev od fp ti wc wu sc pv su sd t 2 (by first | assumption | omega)) rfl rfl rfl (by decide +kernel) ⟨Nat.le_of_ble_eq_true rfl, Nat.le_of_ble_eq_true rfl⟩ rfl rfl (Nat.le_of_ble_eq_true rfl) FT_b FT_h ⟨Nat.le_of_ble_eq_true rfl, Nat.le_of_ble_eq_true rfl⟩ (q := 59) rfl (fun r_56 h_56 => ?_)
          subst h_56
          refine g_icmp_le C (t := 64) dX3_faultOf_59 (by decide) (q := 62) rfl (fun c_59 => ?_) (fun c_59 => ?_)
          · refine g_iload C 0 dX3_faultOf_64 rfl rfl (q := 66) ?_
            refine g_aload_n C 1 dX3_faultOf_66 rfl rfl rfl (q := 67) ?_
            refine g_get C 3 1 dX3_faultOf_67 (Cn := RX3) (T := TX3) (N := 2) (fun _ h => List.mem_cons_of_mem _ (List.mem_append_left _ (List.mem_append_left _ (List.mem_append_right _ h)))) rfl rfl (by decide) (List.mem_cons_of_mem _ (List.mem_append_left _ (List.mem_append_left _ (List.mem_append_left _ (List.mem_of_getElem? (i := 8) rfl))))) rfl (q := 70) rfl ?_
            refine g_iconst C (nI 3) dX3_faultOf_70 (by decide) (q := 71) rfl ?_
            refine gcV_si C (n := 1) (As := [.int (nI 3)]) (st := [.int (fcN gr nu k u v)]) 2 (fun h => h) dX3_faultOf_71 rfl rfl gX3_faultOf_X4_number (c_X4_number l D cI cJ cZ a hA nA gr li st sp n m nu ev od fp ti wc wu sc pv su sd t 3 (by first | assumption | omega)) rfl rfl rfl (by decide +kernel) ⟨Nat.le_of_ble_eq_true rfl, Nat.le_of_ble_eq_true rfl⟩ rfl rfl (Nat.le_of_ble_eq_true rfl) FT_b FT_h ⟨Nat.le_of_ble_eq_true rfl, Nat.le_of_ble_eq_true rfl⟩ (q := 74) rfl (fun r_71 h_71 => ?_)
            subst h_71
            refine g_ineg C dX3_faultOf_74 (q := 75) rfl ?_
            refine g_icmp_ge C (t := 82) dX3_faultOf_75 (by decide) (q := 78) rfl (fun c_75 => ?_) (fun c_75 => ?_)
            · refine g_iconst C (nI 0) dX3_faultOf_82 (by decide) (q := 83) rfl ?_
              exact hret _ 83 _ _ dX3_faultOf_83 rfl (by first | (rw [flN, fltE, if_neg c_13, if_neg (by omega), if_neg c_35, if_neg (not_not_intro c_59), if_pos c_75]) | (rw [flN, fltE, if_neg c_13, if_neg (by omega), if_neg c_35, if_neg (not_not_intro c_59), if_neg (not_not_intro c_75)]))
            · refine g_iconst C (nI 5) dX3_faultOf_78 (by decide) (q := 79) rfl ?_
              refine g_goto C (q := 83) dX3_faultOf_79 (by decide) ?_
              exact hret _ 83 _ _ dX3_faultOf_83 rfl (by first | (rw [flN, fltE, if_neg c_13, if_neg (by omega), if_neg c_35, if_neg (not_not_intro c_59), if_pos c_75]) | (rw [flN, fltE, if_neg c_13, if_neg (by omega), if_neg c_35, if_neg (not_not_intro c_59), if_neg (not_not_intro c_75)]))
          · refine g_iconst C (nI 4) dX3_faultOf_62 (by decide) (q := 63) rfl ?_
            exact hret _ 63 _ _ dX3_faultOf_63 rfl (by rw [flN, fltE, if_neg c_13, if_neg (by omega), if_neg c_35, if_pos c_59])
        · replace c_35 := ab_nle hu hv c_35
          refine g_iconst C (nI 3) dX3_faultOf_38 (by decide) (q := 39) rfl ?_
          exact hret _ 39 _ _ dX3_faultOf_39 rfl (by rw [flN, fltE, if_neg c_13, if_neg (by omega), if_pos c_35])
      · rw [← nI_0, nI_eq (by omega) (by omega)] at c_23
        refine g_iconst C (nI 2) dX3_faultOf_26 (by decide) (q := 27) rfl ?_
        exact hret _ 27 _ _ dX3_faultOf_27 rfl (by rw [flN, fltE, if_neg c_13, if_pos ⟨c_19, c_23⟩])
  · replace c_13 := mx_nle c_13
    refine g_iconst C (nI 1) dX3_faultOf_16 (by decide) (q := 17) rfl ?_
    exact hret _ 17 _ _ dX3_faultOf_17 rfl (by rw [flN, fltE, if_pos c_13])
set_option maxHeartbeats 4000000 in
set_option maxRecDepth 100000 in
theorem c_X3_powerOf (l : Launch) (D : va_G) (cI cJ cZ : ClassId) (a : Nat → Nat) (hA nA : Nat) (gr li st sp : Nat → Int32) (n m : Nat) (nu : Nat → Int32) (ev od : Nat → Int64) (fp ti : Nat → Int32) (wc : Nat → Int64) (wu : Int32) (sc pv : Nat → Int64) (su : Int32) (sd : Nat → Int32) (t k u v : Nat) (hk : k < 16) : Met l yX3_powerOf wsX3_powerOf { frames := 2, cells := 0, slots := 0, locals := 45 } (gPc D (tyT cI cJ cZ) (wA a hA nA) FT (wC cI cJ cZ a hA nA gr li st sp (nI n) (nI m) nu ev od fp ti wc wu sc pv su sd (nI t)) [.ref (a 3), .int (nI k), .int (nI u), .int (nI v)]) (vp_Si (fun r => r = pwN gr nu k u v)) 0 0 (fun _ => False) := by
  refine gs_si (cc := cX3_powerOf) (nL := 5) (ty := .int) (by decide) rfl (Nat.le_of_ble_eq_true rfl) (fun G C hret => ?_)
  show G 0 0 (wC cI cJ cZ a hA nA gr li st sp (nI n) (nI m) nu ev od fp ti wc wu sc pv su sd (nI t)) [(0, .ref (a 3)), (1, .int (nI k)), (2, .int (nI u)), (3, .int (nI v))] 0 []
  refine g_aload_n C 0 dX3_powerOf_0 rfl rfl rfl (q := 1) ?_
  refine g_iload_n C 1 dX3_powerOf_1 rfl rfl rfl (q := 2) ?_
  refine g_iload_n C 2 dX3_powerOf_2 rfl rfl rfl (q := 3) ?_
  refine g_iload_n C 3 dX3_powerOf_3 rfl rfl rfl (q := 4) ?_
  refine gcV_si C (n := 3) (As := [.int (nI k), .int (nI u), .int (nI v)]) (st := []) 3 (fun h => h) dX3_powerOf_4 rfl rfl gX3_powerOf_X3_forceOf (c_X3_forceOf l D cI cJ cZ a hA nA gr li st sp n m nu ev od fp ti wc wu sc pv su sd t k u v (by first | assumption | omega)) rfl rfl rfl (by decide +kernel) ⟨Nat.le_of_ble_eq_true rfl, Nat.le_of_ble_eq_true rfl⟩ rfl rfl (Nat.le_of_ble_eq_true rfl) FT_b FT_h ⟨Nat.le_of_ble_eq_true rfl, Nat.le_of_ble_eq_true rfl⟩ (q := 7) rfl (fun r_4 h_4 => ?_)
  subst h_4
  refine g_istore C [(4, .int (fcN gr nu k u v)), (0, .ref (a 3)), (1, .int (nI k)), (2, .int (nI u)), (3, .int (nI v))] dX3_powerOf_7 (by decide) rfl (q := 9) rfl ?_
  refine g_iload C 0 dX3_powerOf_9 rfl rfl (q := 11) ?_
  refine g_if_le C (t := 19) dX3_powerOf_11 (by decide) (q := 14) rfl (fun c_11 => ?_) (fun c_11 => ?_)
  · refine g_aload_n C 1 dX3_powerOf_19 rfl rfl rfl (q := 20) ?_
    refine g_get C 3 1 dX3_powerOf_20 (Cn := RX3) (T := TX3) (N := 2) (fun _ h => List.mem_cons_of_mem _ (List.mem_append_left _ (List.mem_append_left _ (List.mem_append_right _ h)))) rfl rfl (by decide) (List.mem_cons_of_mem _ (List.mem_append_left _ (List.mem_append_left _ (List.mem_append_left _ (List.mem_of_getElem? (i := 0) rfl))))) rfl (q := 23) rfl ?_
    refine g_iconst C (nI 4) dX3_powerOf_23 (by decide) (q := 24) rfl ?_
    refine gcV_si C (n := 1) (As := [.int (nI 4)]) (st := []) 2 (fun h => h) dX3_powerOf_24 rfl rfl gX3_powerOf_X4_number (c_X4_number l D cI cJ cZ a hA nA gr li st sp n m nu ev od fp ti wc wu sc pv su sd t 4 (by first | assumption | omega)) rfl rfl rfl (by decide +kernel) ⟨Nat.le_of_ble_eq_true rfl, Nat.le_of_ble_eq_true rfl⟩ rfl rfl (Nat.le_of_ble_eq_true rfl) FT_b FT_h ⟨Nat.le_of_ble_eq_true rfl, Nat.le_of_ble_eq_true rfl⟩ (q := 27) rfl (fun r_24 h_24 => ?_)
    subst h_24
    refine g_iload C 0 dX3_powerOf_27 rfl rfl (q := 29) ?_
    refine g_ineg C dX3_powerOf_29 (q := 30) rfl ?_
    refine g_imul C dX3_powerOf_30 (q := 31) rfl ?_
    refine g_bipush C (nI 10) dX3_powerOf_31 (by decide) (q := 33) rfl ?_
    refine g_idiv C dX3_powerOf_33 (by decide) (q := 34) rfl ?_
    refine g_ineg C dX3_powerOf_34 (q := 35) rfl ?_
    exact hret _ 35 _ _ dX3_powerOf_35 rfl (by first | (rw [pwN, pwE, if_pos c_11]) | (rw [pwN, pwE, if_neg (not_not_intro c_11)]))
  · refine g_iload C 0 dX3_powerOf_14 rfl rfl (q := 16) ?_
    refine g_goto C (q := 35) dX3_powerOf_16 (by decide) ?_
    exact hret _ 35 _ _ dX3_powerOf_35 rfl (by first | (rw [pwN, pwE, if_pos c_11]) | (rw [pwN, pwE, if_neg (not_not_intro c_11)]))
set_option maxHeartbeats 4000000 in
set_option maxRecDepth 100000 in
theorem c_X1_isFaulty (l : Launch) (D : va_G) (cI cJ cZ : ClassId) (a : Nat → Nat) (hA nA : Nat) (gr li st sp : Nat → Int32) (n m : Nat) (nu : Nat → Int32) (ev od : Nat → Int64) (fp ti : Nat → Int32) (wc : Nat → Int64) (wu : Int32) (sc pv : Nat → Int64) (su : Int32) (sd : Nat → Int32) (t k : Nat) (s : Nat → Nat) (hk : k < 16) (hs : ∀ j, sd j = nI (s j) ∧ s j ≤ 6) : Met l yX1_isFaulty wsX1_isFaulty { frames := 3, cells := 0, slots := 0, locals := 69 } (gPc D (tyT cI cJ cZ) (wA a hA nA) FT (wC cI cJ cZ a hA nA gr li st sp (nI n) (nI m) nu ev od fp ti wc wu sc pv su sd (nI t)) [.ref (a 6), .int (nI k)]) (vp_Si (fun r => r = if ¬ flN gr li nu k (s k) (s (k + 1)) = 0 then nI 1 else nI 0)) 0 0 (fun _ => False) := by
  refine gs_si (cc := cX1_isFaulty) (nL := 2) (ty := .boolean) (by decide) rfl (Nat.le_of_ble_eq_true rfl) (fun G C hret => ?_)
  show G 0 0 (wC cI cJ cZ a hA nA gr li st sp (nI n) (nI m) nu ev od fp ti wc wu sc pv su sd (nI t)) [(0, .ref (a 6)), (1, .int (nI k))] 0 []
  have hu := (hs k).2
  have hv := (hs (k + 1)).2
  refine g_aload_n C 0 dX1_isFaulty_0 rfl rfl rfl (q := 1) ?_
  refine g_get C 6 1 dX1_isFaulty_1 (Cn := RX1) (T := TX1) (N := 4) (fun _ h => List.mem_cons_of_mem _ (List.mem_append_left _ (List.mem_append_left _ (List.mem_append_left _ (List.mem_append_right _ h))))) rfl rfl (by decide) (List.mem_cons_of_mem _ (List.mem_append_left _ (List.mem_append_left _ (List.mem_append_left _ (List.mem_append_left _ (List.mem_of_getElem? (i := 0) rfl)))))) rfl (q := 4) rfl ?_
  refine g_iload_n C 1 dX1_isFaulty_4 rfl rfl rfl (q := 5) ?_
  refine g_aload_n C 0 dX1_isFaulty_5 rfl rfl rfl (q := 6) ?_
  refine g_get C 6 2 dX1_isFaulty_6 (Cn := RX1) (T := TX1) (N := 4) (fun _ h => List.mem_cons_of_mem _ (List.mem_append_left _ (List.mem_append_left _ (List.mem_append_left _ (List.mem_append_right _ h))))) rfl rfl (by decide) (List.mem_cons_of_mem _ (List.mem_append_left _ (List.mem_append_left _ (List.mem_append_left _ (List.mem_append_left _ (List.mem_of_getElem? (i := 1) rfl)))))) rfl (q := 9) rfl ?_
  refine g_iload_n C 1 dX1_isFaulty_9 rfl rfl rfl (q := 10) ?_
  refine g_iald C 19 0 dX1_isFaulty_10 rfl rfl (vp_in_nI (by omega) (by decide)) (q := 11) rfl ?_
  refine g_eqi C (y := sd k) (by rw [nI_clamp (by omega)]) ?_
  refine g_eqi C (y := nI (s k)) ((hs k).1) ?_
  refine g_aload_n C 0 dX1_isFaulty_11 rfl rfl rfl (q := 12) ?_
  refine g_get C 6 2 dX1_isFaulty_12 (Cn := RX1) (T := TX1) (N := 4) (fun _ h => List.mem_cons_of_mem _ (List.mem_append_left _ (List.mem_append_left _ (List.mem_append_left _ (List.mem_append_right _ h))))) rfl rfl (by decide) (List.mem_cons_of_mem _ (List.mem_append_left _ (List.mem_append_left _ (List.mem_append_left _ (List.mem_append_left _ (List.mem_of_getElem? (i := 1) rfl)))))) rfl (q := 15) rfl ?_
  refine g_iload_n C 1 dX1_isFaulty_15 rfl rfl rfl (q := 16) ?_
  refine g_iconst C (nI 1) dX1_isFaulty_16 (by decide) (q := 17) rfl ?_
  refine g_iadd C dX1_isFaulty_17 (q := 18) rfl ?_
  refine g_eqi C (y := nI (k + 1)) (nI_add k 1) ?_
  refine g_iald C 19 0 dX1_isFaulty_18 rfl rfl (vp_in_nI (by omega) (by decide)) (q := 19) rfl ?_
  refine g_eqi C (y := sd (k + 1)) (by rw [nI_clamp (by omega)]) ?_
  refine g_eqi C (y := nI (s (k + 1))) ((hs (k + 1)).1) ?_
  refine gcV_si C (n := 3) (As := [.int (nI k), .int (nI (s k)), .int (nI (s (k + 1)))]) (st := []) 3 (fun h => h) dX1_isFaulty_19 rfl rfl gX1_isFaulty_X3_faultOf (c_X3_faultOf l D cI cJ cZ a hA nA gr li st sp n m nu ev od fp ti wc wu sc pv su sd t k (s k) (s (k + 1)) (by first | assumption | omega) (by first | assumption | omega) (by first | assumption | omega)) rfl rfl rfl (by decide +kernel) ⟨Nat.le_of_ble_eq_true rfl, Nat.le_of_ble_eq_true rfl⟩ rfl rfl (Nat.le_of_ble_eq_true rfl) FT_b FT_h ⟨Nat.le_of_ble_eq_true rfl, Nat.le_of_ble_eq_true rfl⟩ (q := 22) rfl (fun r_19 h_19 => ?_)
  subst h_19
  refine g_if_eq C (t := 29) dX1_isFaulty_22 (by decide) (q := 25) rfl (fun c_22 => ?_) (fun c_22 => ?_)
  · refine g_iconst C (nI 0) dX1_isFaulty_29 (by decide) (q := 30) rfl ?_
    exact hret _ 30 _ _ dX1_isFaulty_30 (by decide) ((if_neg (by first | assumption | (refine ⟨?_, ?_⟩ <;> assumption) | (refine ⟨?_, ?_, ?_⟩ <;> assumption) | omega | simp_all)).symm)
  · refine g_iconst C (nI 1) dX1_isFaulty_25 (by decide) (q := 26) rfl ?_
    refine g_goto C (q := 30) dX1_isFaulty_26 (by decide) ?_
    exact hret _ 30 _ _ dX1_isFaulty_30 (by decide) ((if_pos (by first | assumption | (refine ⟨?_, ?_⟩ <;> assumption) | (refine ⟨?_, ?_, ?_⟩ <;> assumption) | omega | simp_all)).symm)
set_option maxHeartbeats 4000000 in
set_option maxRecDepth 100000 in
theorem c_X1_timeTogether (l : Launch) (D : va_G) (cI cJ cZ : ClassId) (a : Nat → Nat) (hA nA : Nat) (gr li st sp : Nat → Int32) (n m : Nat) (nu : Nat → Int32) (ev od : Nat → Int64) (fp ti : Nat → Int32) (wc : Nat → Int64) (wu : Int32) (sc pv : Nat → Int64) (su : Int32) (sd : Nat → Int32) (t : Nat) (s : Nat → Nat) (ht : t ≤ 17) (hs : ∀ j, sd j = nI (s j) ∧ s j ≤ 6) : Met l yX1_timeTogether wsX1_timeTogether { frames := 4, cells := 0, slots := 0, locals := 90 } (gPc D (tyT cI cJ cZ) (wA a hA nA) FT (wC cI cJ cZ a hA nA gr li st sp (nI n) (nI m) nu ev od fp ti wc wu sc pv su sd (nI t)) [.ref (a 6)]) (vp_Si (fun r => r = sumI (lgT gr li nu s) (t - 1))) 0 0 (fun _ => False) := by
  refine gs_si (cc := cX1_timeTogether) (nL := 3) (ty := .int) (by decide) rfl (Nat.le_of_ble_eq_true rfl) (fun G C hret => ?_)
  show G 0 0 (wC cI cJ cZ a hA nA gr li st sp (nI n) (nI m) nu ev od fp ti wc wu sc pv su sd (nI t)) [(0, .ref (a 6))] 0 []
  refine g_iconst C (nI 0) dX1_timeTogether_0 (by decide) (q := 1) rfl ?_
  refine g_istore_n C [(1, .int (nI 0)), (0, .ref (a 6))] dX1_timeTogether_1 rfl (by decide) rfl (q := 2) rfl ?_
  refine g_iconst C (nI 0) dX1_timeTogether_2 (by decide) (q := 3) rfl ?_
  refine g_istore_n C [(2, .int (nI 0)), (1, .int (nI 0)), (0, .ref (a 6))] dX1_timeTogether_3 rfl (by decide) rfl (q := 4) rfl ?_
  have lp_4 : ∀ (N : Nat) (k : Nat), (k ≤ t - 1) → t - k < N → G 0 0 (wC cI cJ cZ a hA nA gr li st sp (nI n) (nI m) nu ev od fp ti wc wu sc pv su sd (nI t)) [(2, .int (nI k)), (1, .int (sumI (lgT gr li nu s) k)), (0, .ref (a 6))] 4 [] := by
    intro N
    induction N with
    | zero => intro k _ hmu; exact absurd hmu (Nat.not_lt_zero _)
    | succ N ih_4 =>
      intro k hk hmu
      have hu := (hs k).2
      have hv := (hs (k + 1)).2
      refine g_iload_n C 0 dX1_timeTogether_4 rfl rfl rfl (q := 5) ?_
      refine g_iconst C (nI 1) dX1_timeTogether_5 (by decide) (q := 6) rfl ?_
      refine g_iadd C dX1_timeTogether_6 (q := 7) rfl ?_
      refine g_eqi C (y := nI (k + 1)) (nI_add k 1) ?_
      refine g_aload_n C 2 dX1_timeTogether_7 rfl rfl rfl (q := 8) ?_
      refine g_get C 6 3 dX1_timeTogether_8 (Cn := RX1) (T := TX1) (N := 4) (fun _ h => List.mem_cons_of_mem _ (List.mem_append_left _ (List.mem_append_left _ (List.mem_append_left _ (List.mem_append_right _ h))))) rfl rfl (by decide) (List.mem_cons_of_mem _ (List.mem_append_left _ (List.mem_append_left _ (List.mem_append_left _ (List.mem_append_left _ (List.mem_of_getElem? (i := 0) rfl)))))) rfl (q := 11) rfl ?_
      refine g_icmp_ge C (t := 56) dX1_timeTogether_11 (by decide) (q := 14) rfl (fun c_11 => ?_) (fun c_11 => ?_)
      · rw [nI_leI (by omega) (by omega)] at c_11
        refine g_iload_n C 1 dX1_timeTogether_56 rfl rfl rfl (q := 57) ?_
        exact hret _ 57 _ _ dX1_timeTogether_57 rfl (by rw [show k = t - 1 by omega])
      · rw [nI_leI (by omega) (by omega)] at c_11
        refine g_iload_n C 1 dX1_timeTogether_14 rfl rfl rfl (q := 15) ?_
        refine g_aload_n C 2 dX1_timeTogether_15 rfl rfl rfl (q := 16) ?_
        refine g_iload_n C 0 dX1_timeTogether_16 rfl rfl rfl (q := 17) ?_
        refine gcV_si C (n := 1) (As := [.int (nI k)]) (st := [.int (sumI (lgT gr li nu s) k)]) 6 (fun h => h) dX1_timeTogether_17 rfl rfl gX1_timeTogether_X1_isFaulty (c_X1_isFaulty l D cI cJ cZ a hA nA gr li st sp n m nu ev od fp ti wc wu sc pv su sd t k s (by first | assumption | omega) (by first | assumption | omega)) rfl rfl rfl (by decide +kernel) ⟨Nat.le_of_ble_eq_true rfl, Nat.le_of_ble_eq_true rfl⟩ rfl rfl (Nat.le_of_ble_eq_true rfl) FT_b FT_h ⟨Nat.le_of_ble_eq_true rfl, Nat.le_of_ble_eq_true rfl⟩ (q := 20) rfl (fun r_17 h_17 => ?_)
        subst h_17
        refine g_if_eq C (t := 27) dX1_timeTogether_20 (by decide) (q := 23) rfl (fun c_20 => ?_) (fun c_20 => ?_)
        · replace c_20 := ite_e0 c_20
          refine g_aload_n C 2 dX1_timeTogether_27 rfl rfl rfl (q := 28) ?_
          refine g_get C 6 1 dX1_timeTogether_28 (Cn := RX1) (T := TX1) (N := 4) (fun _ h => List.mem_cons_of_mem _ (List.mem_append_left _ (List.mem_append_left _ (List.mem_append_left _ (List.mem_append_right _ h))))) rfl rfl (by decide) (List.mem_cons_of_mem _ (List.mem_append_left _ (List.mem_append_left _ (List.mem_append_left _ (List.mem_append_left _ (List.mem_of_getElem? (i := 1) rfl)))))) rfl (q := 31) rfl ?_
          refine g_aload_n C 2 dX1_timeTogether_31 rfl rfl rfl (q := 32) ?_
          refine g_get C 6 2 dX1_timeTogether_32 (Cn := RX1) (T := TX1) (N := 4) (fun _ h => List.mem_cons_of_mem _ (List.mem_append_left _ (List.mem_append_left _ (List.mem_append_left _ (List.mem_append_right _ h))))) rfl rfl (by decide) (List.mem_cons_of_mem _ (List.mem_append_left _ (List.mem_append_left _ (List.mem_append_left _ (List.mem_append_left _ (List.mem_of_getElem? (i := 2) rfl)))))) rfl (q := 35) rfl ?_
          refine g_iload_n C 0 dX1_timeTogether_35 rfl rfl rfl (q := 36) ?_
          refine g_iald C 19 0 dX1_timeTogether_36 rfl rfl (vp_in_nI (by omega) (by decide)) (q := 37) rfl ?_
          refine g_eqi C (y := sd k) (by rw [nI_clamp (by omega)]) ?_
          refine g_eqi C (y := nI (s k)) ((hs k).1) ?_
          refine g_aload_n C 2 dX1_timeTogether_37 rfl rfl rfl (q := 38) ?_
          refine g_get C 6 2 dX1_timeTogether_38 (Cn := RX1) (T := TX1) (N := 4) (fun _ h => List.mem_cons_of_mem _ (List.mem_append_left _ (List.mem_append_left _ (List.mem_append_left _ (List.mem_append_right _ h))))) rfl rfl (by decide) (List.mem_cons_of_mem _ (List.mem_append_left _ (List.mem_append_left _ (List.mem_append_left _ (List.mem_append_left _ (List.mem_of_getElem? (i := 2) rfl)))))) rfl (q := 41) rfl ?_
          refine g_iload_n C 0 dX1_timeTogether_41 rfl rfl rfl (q := 42) ?_
          refine g_iconst C (nI 1) dX1_timeTogether_42 (by decide) (q := 43) rfl ?_
          refine g_iadd C dX1_timeTogether_43 (q := 44) rfl ?_
          refine g_eqi C (y := nI (k + 1)) (nI_add k 1) ?_
          refine g_iald C 19 0 dX1_timeTogether_44 rfl rfl (vp_in_nI (by omega) (by decide)) (q := 45) rfl ?_
          refine g_eqi C (y := sd (k + 1)) (by rw [nI_clamp (by omega)]) ?_
          refine g_eqi C (y := nI (s (k + 1))) ((hs (k + 1)).1) ?_
          refine gcV_si C (n := 2) (As := [.int (nI (s k)), .int (nI (s (k + 1)))]) (st := [.int (sumI (lgT gr li nu s) k)]) 3 (fun h => h) dX1_timeTogether_45 rfl rfl gX1_timeTogether_X3_timeOf (c_X3_timeOf l D cI cJ cZ a hA nA gr li st sp n m nu ev od fp ti wc wu sc pv su sd t (s k) (s (k + 1)) (by first | assumption | omega) (by first | assumption | omega)) rfl rfl rfl (by decide +kernel) ⟨Nat.le_of_ble_eq_true rfl, Nat.le_of_ble_eq_true rfl⟩ rfl rfl (Nat.le_of_ble_eq_true rfl) FT_b FT_h ⟨Nat.le_of_ble_eq_true rfl, Nat.le_of_ble_eq_true rfl⟩ (q := 48) rfl (fun r_45 h_45 => ?_)
          subst h_45
          refine g_iadd C dX1_timeTogether_48 (q := 49) rfl ?_
          refine g_eqi C (y := sumI (lgT gr li nu s) (k + 1)) (sumI_s (by first | exact if_pos (Classical.not_not.mp c_20) | exact if_neg c_20)) ?_
          refine g_istore_n C [(1, .int (sumI (lgT gr li nu s) (k + 1))), (2, .int (nI k)), (0, .ref (a 6))] dX1_timeTogether_49 rfl (by decide) rfl (q := 50) rfl ?_
          refine g_iinc C (z := 1) (nI (k + 1)) [(2, .int (nI (k + 1))), (1, .int (sumI (lgT gr li nu s) (k + 1))), (0, .ref (a 6))] dX1_timeTogether_50 rfl (nI_add k 1) (by decide) rfl (q := 53) rfl ?_
          refine g_goto C (q := 4) dX1_timeTogether_53 (by decide) ?_
          exact ih_4 (k + 1) (by first | assumption | omega) (by omega)
        · replace c_20 := ite_n0 c_20
          refine g_iconst C (nI 0) dX1_timeTogether_23 (by decide) (q := 24) rfl ?_
          refine g_goto C (q := 48) dX1_timeTogether_24 (by decide) ?_
          refine g_iadd C dX1_timeTogether_48 (q := 49) rfl ?_
          refine g_eqi C (y := sumI (lgT gr li nu s) (k + 1)) (sumI_s (by first | exact if_pos (Classical.not_not.mp c_20) | exact if_neg c_20)) ?_
          refine g_istore_n C [(1, .int (sumI (lgT gr li nu s) (k + 1))), (2, .int (nI k)), (0, .ref (a 6))] dX1_timeTogether_49 rfl (by decide) rfl (q := 50) rfl ?_
          refine g_iinc C (z := 1) (nI (k + 1)) [(2, .int (nI (k + 1))), (1, .int (sumI (lgT gr li nu s) (k + 1))), (0, .ref (a 6))] dX1_timeTogether_50 rfl (nI_add k 1) (by decide) rfl (q := 53) rfl ?_
          refine g_goto C (q := 4) dX1_timeTogether_53 (by decide) ?_
          exact ih_4 (k + 1) (by first | assumption | omega) (by omega)
  exact lp_4 _ 0 (by first | assumption | omega) (Nat.lt_succ_self _)
set_option maxHeartbeats 4000000 in
set_option maxRecDepth 100000 in
theorem c_X1_powerTogether (l : Launch) (D : va_G) (cI cJ cZ : ClassId) (a : Nat → Nat) (hA nA : Nat) (gr li st sp : Nat → Int32) (n m : Nat) (nu : Nat → Int32) (ev od : Nat → Int64) (fp ti : Nat → Int32) (wc : Nat → Int64) (wu : Int32) (sc pv : Nat → Int64) (su : Int32) (sd : Nat → Int32) (t : Nat) (s : Nat → Nat) (ht : t ≤ 17) (hs : ∀ j, sd j = nI (s j) ∧ s j ≤ 6) : Met l yX1_powerTogether wsX1_powerTogether { frames := 4, cells := 0, slots := 0, locals := 90 } (gPc D (tyT cI cJ cZ) (wA a hA nA) FT (wC cI cJ cZ a hA nA gr li st sp (nI n) (nI m) nu ev od fp ti wc wu sc pv su sd (nI t)) [.ref (a 6)]) (vp_Si (fun r => r = sumI (lgP gr li nu s) (t - 1))) 0 0 (fun _ => False) := by
  refine gs_si (cc := cX1_powerTogether) (nL := 3) (ty := .int) (by decide) rfl (Nat.le_of_ble_eq_true rfl) (fun G C hret => ?_)
  show G 0 0 (wC cI cJ cZ a hA nA gr li st sp (nI n) (nI m) nu ev od fp ti wc wu sc pv su sd (nI t)) [(0, .ref (a 6))] 0 []
  refine g_iconst C (nI 0) dX1_powerTogether_0 (by decide) (q := 1) rfl ?_
  refine g_istore_n C [(1, .int (nI 0)), (0, .ref (a 6))] dX1_powerTogether_1 rfl (by decide) rfl (q := 2) rfl ?_
  refine g_iconst C (nI 0) dX1_powerTogether_2 (by decide) (q := 3) rfl ?_
  refine g_istore_n C [(2, .int (nI 0)), (1, .int (nI 0)), (0, .ref (a 6))] dX1_powerTogether_3 rfl (by decide) rfl (q := 4) rfl ?_
  have lp_4 : ∀ (N : Nat) (k : Nat), (k ≤ t - 1) → t - k < N → G 0 0 (wC cI cJ cZ a hA nA gr li st sp (nI n) (nI m) nu ev od fp ti wc wu sc pv su sd (nI t)) [(2, .int (nI k)), (1, .int (sumI (lgP gr li nu s) k)), (0, .ref (a 6))] 4 [] := by
    intro N
    induction N with
    | zero => intro k _ hmu; exact absurd hmu (Nat.not_lt_zero _)
    | succ N ih_4 =>
      intro k hk hmu
      have hu := (hs k).2
      have hv := (hs (k + 1)).2
      refine g_iload_n C 0 dX1_powerTogether_4 rfl rfl rfl (q := 5) ?_
      refine g_iconst C (nI 1) dX1_powerTogether_5 (by decide) (q := 6) rfl ?_
      refine g_iadd C dX1_powerTogether_6 (q := 7) rfl ?_
      refine g_eqi C (y := nI (k + 1)) (nI_add k 1) ?_
      refine g_aload_n C 2 dX1_powerTogether_7 rfl rfl rfl (q := 8) ?_
      refine g_get C 6 3 dX1_powerTogether_8 (Cn := RX1) (T := TX1) (N := 4) (fun _ h => List.mem_cons_of_mem _ (List.mem_append_left _ (List.mem_append_left _ (List.mem_append_left _ (List.mem_append_right _ h))))) rfl rfl (by decide) (List.mem_cons_of_mem _ (List.mem_append_left _ (List.mem_append_left _ (List.mem_append_left _ (List.mem_append_left _ (List.mem_of_getElem? (i := 0) rfl)))))) rfl (q := 11) rfl ?_
      refine g_icmp_ge C (t := 57) dX1_powerTogether_11 (by decide) (q := 14) rfl (fun c_11 => ?_) (fun c_11 => ?_)
      · rw [nI_leI (by omega) (by omega)] at c_11
        refine g_iload_n C 1 dX1_powerTogether_57 rfl rfl rfl (q := 58) ?_
        exact hret _ 58 _ _ dX1_powerTogether_58 rfl (by rw [show k = t - 1 by omega])
      · rw [nI_leI (by omega) (by omega)] at c_11
        refine g_iload_n C 1 dX1_powerTogether_14 rfl rfl rfl (q := 15) ?_
        refine g_aload_n C 2 dX1_powerTogether_15 rfl rfl rfl (q := 16) ?_
        refine g_iload_n C 0 dX1_powerTogether_16 rfl rfl rfl (q := 17) ?_
        refine gcV_si C (n := 1) (As := [.int (nI k)]) (st := [.int (sumI (lgP gr li nu s) k)]) 6 (fun h => h) dX1_powerTogether_17 rfl rfl gX1_powerTogether_X1_isFaulty (c_X1_isFaulty l D cI cJ cZ a hA nA gr li st sp n m nu ev od fp ti wc wu sc pv su sd t k s (by first | assumption | omega) (by first | assumption | omega)) rfl rfl rfl (by decide +kernel) ⟨Nat.le_of_ble_eq_true rfl, Nat.le_of_ble_eq_true rfl⟩ rfl rfl (Nat.le_of_ble_eq_true rfl) FT_b FT_h ⟨Nat.le_of_ble_eq_true rfl, Nat.le_of_ble_eq_true rfl⟩ (q := 20) rfl (fun r_17 h_17 => ?_)
        subst h_17
        refine g_if_eq C (t := 27) dX1_powerTogether_20 (by decide) (q := 23) rfl (fun c_20 => ?_) (fun c_20 => ?_)
        · replace c_20 := ite_e0 c_20
          refine g_aload_n C 2 dX1_powerTogether_27 rfl rfl rfl (q := 28) ?_
          refine g_get C 6 1 dX1_powerTogether_28 (Cn := RX1) (T := TX1) (N := 4) (fun _ h => List.mem_cons_of_mem _ (List.mem_append_left _ (List.mem_append_left _ (List.mem_append_left _ (List.mem_append_right _ h))))) rfl rfl (by decide) (List.mem_cons_of_mem _ (List.mem_append_left _ (List.mem_append_left _ (List.mem_append_left _ (List.mem_append_left _ (List.mem_of_getElem? (i := 1) rfl)))))) rfl (q := 31) rfl ?_
          refine g_iload_n C 0 dX1_powerTogether_31 rfl rfl rfl (q := 32) ?_
          refine g_aload_n C 2 dX1_powerTogether_32 rfl rfl rfl (q := 33) ?_
          refine g_get C 6 2 dX1_powerTogether_33 (Cn := RX1) (T := TX1) (N := 4) (fun _ h => List.mem_cons_of_mem _ (List.mem_append_left _ (List.mem_append_left _ (List.mem_append_left _ (List.mem_append_right _ h))))) rfl rfl (by decide) (List.mem_cons_of_mem _ (List.mem_append_left _ (List.mem_append_left _ (List.mem_append_left _ (List.mem_append_left _ (List.mem_of_getElem? (i := 2) rfl)))))) rfl (q := 36) rfl ?_
          refine g_iload_n C 0 dX1_powerTogether_36 rfl rfl rfl (q := 37) ?_
          refine g_iald C 19 0 dX1_powerTogether_37 rfl rfl (vp_in_nI (by omega) (by decide)) (q := 38) rfl ?_
          refine g_eqi C (y := sd k) (by rw [nI_clamp (by omega)]) ?_
          refine g_eqi C (y := nI (s k)) ((hs k).1) ?_
          refine g_aload_n C 2 dX1_powerTogether_38 rfl rfl rfl (q := 39) ?_
          refine g_get C 6 2 dX1_powerTogether_39 (Cn := RX1) (T := TX1) (N := 4) (fun _ h => List.mem_cons_of_mem _ (List.mem_append_left _ (List.mem_append_left _ (List.mem_append_left _ (List.mem_append_right _ h))))) rfl rfl (by decide) (List.mem_cons_of_mem _ (List.mem_append_left _ (List.mem_append_left _ (List.mem_append_left _ (List.mem_append_left _ (List.mem_of_getElem? (i := 2) rfl)))))) rfl (q := 42) rfl ?_
          refine g_iload_n C 0 dX1_powerTogether_42 rfl rfl rfl (q := 43) ?_
          refine g_iconst C (nI 1) dX1_powerTogether_43 (by decide) (q := 44) rfl ?_
          refine g_iadd C dX1_powerTogether_44 (q := 45) rfl ?_
          refine g_eqi C (y := nI (k + 1)) (nI_add k 1) ?_
          refine g_iald C 19 0 dX1_powerTogether_45 rfl rfl (vp_in_nI (by omega) (by decide)) (q := 46) rfl ?_
          refine g_eqi C (y := sd (k + 1)) (by rw [nI_clamp (by omega)]) ?_
          refine g_eqi C (y := nI (s (k + 1))) ((hs (k + 1)).1) ?_
          refine gcV_si C (n := 3) (As := [.int (nI k), .int (nI (s k)), .int (nI (s (k + 1)))]) (st := [.int (sumI (lgP gr li nu s) k)]) 3 (fun h => h) dX1_powerTogether_46 rfl rfl gX1_powerTogether_X3_powerOf (c_X3_powerOf l D cI cJ cZ a hA nA gr li st sp n m nu ev od fp ti wc wu sc pv su sd t k (s k) (s (k + 1)) (by first | assumption | omega)) rfl rfl rfl (by decide +kernel) ⟨Nat.le_of_ble_eq_true rfl, Nat.le_of_ble_eq_true rfl⟩ rfl rfl (Nat.le_of_ble_eq_true rfl) FT_b FT_h ⟨Nat.le_of_ble_eq_true rfl, Nat.le_of_ble_eq_true rfl⟩ (q := 49) rfl (fun r_46 h_46 => ?_)
          subst h_46
          refine g_iadd C dX1_powerTogether_49 (q := 50) rfl ?_
          refine g_eqi C (y := sumI (lgP gr li nu s) (k + 1)) (sumI_s (by first | exact if_pos (Classical.not_not.mp c_20) | exact if_neg c_20)) ?_
          refine g_istore_n C [(1, .int (sumI (lgP gr li nu s) (k + 1))), (2, .int (nI k)), (0, .ref (a 6))] dX1_powerTogether_50 rfl (by decide) rfl (q := 51) rfl ?_
          refine g_iinc C (z := 1) (nI (k + 1)) [(2, .int (nI (k + 1))), (1, .int (sumI (lgP gr li nu s) (k + 1))), (0, .ref (a 6))] dX1_powerTogether_51 rfl (nI_add k 1) (by decide) rfl (q := 54) rfl ?_
          refine g_goto C (q := 4) dX1_powerTogether_54 (by decide) ?_
          exact ih_4 (k + 1) (by first | assumption | omega) (by omega)
        · replace c_20 := ite_n0 c_20
          refine g_iconst C (nI 0) dX1_powerTogether_23 (by decide) (q := 24) rfl ?_
          refine g_goto C (q := 49) dX1_powerTogether_24 (by decide) ?_
          refine g_iadd C dX1_powerTogether_49 (q := 50) rfl ?_
          refine g_eqi C (y := sumI (lgP gr li nu s) (k + 1)) (sumI_s (by first | exact if_pos (Classical.not_not.mp c_20) | exact if_neg c_20)) ?_
          refine g_istore_n C [(1, .int (sumI (lgP gr li nu s) (k + 1))), (2, .int (nI k)), (0, .ref (a 6))] dX1_powerTogether_50 rfl (by decide) rfl (q := 51) rfl ?_
          refine g_iinc C (z := 1) (nI (k + 1)) [(2, .int (nI (k + 1))), (1, .int (sumI (lgP gr li nu s) (k + 1))), (0, .ref (a 6))] dX1_powerTogether_51 rfl (nI_add k 1) (by decide) rfl (q := 54) rfl ?_
          refine g_goto C (q := 4) dX1_powerTogether_54 (by decide) ?_
          exact ih_4 (k + 1) (by first | assumption | omega) (by omega)
  exact lp_4 _ 0 (by first | assumption | omega) (Nat.lt_succ_self _)
set_option maxHeartbeats 4000000 in
set_option maxRecDepth 100000 in
theorem c_X1_faultCount (l : Launch) (D : va_G) (cI cJ cZ : ClassId) (a : Nat → Nat) (hA nA : Nat) (gr li st sp : Nat → Int32) (n m : Nat) (nu : Nat → Int32) (ev od : Nat → Int64) (fp ti : Nat → Int32) (wc : Nat → Int64) (wu : Int32) (sc pv : Nat → Int64) (su : Int32) (sd : Nat → Int32) (t : Nat) (s : Nat → Nat) (ht : t ≤ 17) (hs : ∀ j, sd j = nI (s j) ∧ s j ≤ 6) : Met l yX1_faultCount wsX1_faultCount { frames := 4, cells := 0, slots := 0, locals := 90 } (gPc D (tyT cI cJ cZ) (wA a hA nA) FT (wC cI cJ cZ a hA nA gr li st sp (nI n) (nI m) nu ev od fp ti wc wu sc pv su sd (nI t)) [.ref (a 6)]) (vp_Si (fun r => r = sumI (lgF gr li nu s) (t - 1))) 0 0 (fun _ => False) := by
  refine gs_si (cc := cX1_faultCount) (nL := 3) (ty := .int) (by decide) rfl (Nat.le_of_ble_eq_true rfl) (fun G C hret => ?_)
  show G 0 0 (wC cI cJ cZ a hA nA gr li st sp (nI n) (nI m) nu ev od fp ti wc wu sc pv su sd (nI t)) [(0, .ref (a 6))] 0 []
  refine g_iconst C (nI 0) dX1_faultCount_0 (by decide) (q := 1) rfl ?_
  refine g_istore_n C [(1, .int (nI 0)), (0, .ref (a 6))] dX1_faultCount_1 rfl (by decide) rfl (q := 2) rfl ?_
  refine g_iconst C (nI 0) dX1_faultCount_2 (by decide) (q := 3) rfl ?_
  refine g_istore_n C [(2, .int (nI 0)), (1, .int (nI 0)), (0, .ref (a 6))] dX1_faultCount_3 rfl (by decide) rfl (q := 4) rfl ?_
  have lp_4 : ∀ (N : Nat) (k : Nat), (k ≤ t - 1) → t - k < N → G 0 0 (wC cI cJ cZ a hA nA gr li st sp (nI n) (nI m) nu ev od fp ti wc wu sc pv su sd (nI t)) [(2, .int (nI k)), (1, .int (sumI (lgF gr li nu s) k)), (0, .ref (a 6))] 4 [] := by
    intro N
    induction N with
    | zero => intro k _ hmu; exact absurd hmu (Nat.not_lt_zero _)
    | succ N ih_4 =>
      intro k hk hmu
      refine g_iload_n C 0 dX1_faultCount_4 rfl rfl rfl (q := 5) ?_
      refine g_iconst C (nI 1) dX1_faultCount_5 (by decide) (q := 6) rfl ?_
      refine g_iadd C dX1_faultCount_6 (q := 7) rfl ?_
      refine g_eqi C (y := nI (k + 1)) (nI_add k 1) ?_
      refine g_aload_n C 2 dX1_faultCount_7 rfl rfl rfl (q := 8) ?_
      refine g_get C 6 3 dX1_faultCount_8 (Cn := RX1) (T := TX1) (N := 4) (fun _ h => List.mem_cons_of_mem _ (List.mem_append_left _ (List.mem_append_left _ (List.mem_append_left _ (List.mem_append_right _ h))))) rfl rfl (by decide) (List.mem_cons_of_mem _ (List.mem_append_left _ (List.mem_append_left _ (List.mem_append_left _ (List.mem_append_left _ (List.mem_of_getElem? (i := 0) rfl)))))) rfl (q := 11) rfl ?_
      refine g_icmp_ge C (t := 36) dX1_faultCount_11 (by decide) (q := 14) rfl (fun c_11 => ?_) (fun c_11 => ?_)
      · rw [nI_leI (by omega) (by omega)] at c_11
        refine g_iload_n C 1 dX1_faultCount_36 rfl rfl rfl (q := 37) ?_
        exact hret _ 37 _ _ dX1_faultCount_37 rfl (by rw [show k = t - 1 by omega])
      · rw [nI_leI (by omega) (by omega)] at c_11
        refine g_iload_n C 1 dX1_faultCount_14 rfl rfl rfl (q := 15) ?_
        refine g_aload_n C 2 dX1_faultCount_15 rfl rfl rfl (q := 16) ?_
        refine g_iload_n C 0 dX1_faultCount_16 rfl rfl rfl (q := 17) ?_
        refine gcV_si C (n := 1) (As := [.int (nI k)]) (st := [.int (sumI (lgF gr li nu s) k)]) 6 (fun h => h) dX1_faultCount_17 rfl rfl gX1_faultCount_X1_isFaulty (c_X1_isFaulty l D cI cJ cZ a hA nA gr li st sp n m nu ev od fp ti wc wu sc pv su sd t k s (by first | assumption | omega) (by first | assumption | omega)) rfl rfl rfl (by decide +kernel) ⟨Nat.le_of_ble_eq_true rfl, Nat.le_of_ble_eq_true rfl⟩ rfl rfl (Nat.le_of_ble_eq_true rfl) FT_b FT_h ⟨Nat.le_of_ble_eq_true rfl, Nat.le_of_ble_eq_true rfl⟩ (q := 20) rfl (fun r_17 h_17 => ?_)
        subst h_17
        refine g_if_eq C (t := 27) dX1_faultCount_20 (by decide) (q := 23) rfl (fun c_20 => ?_) (fun c_20 => ?_)
        · replace c_20 := ite_e0 c_20
          refine g_iconst C (nI 0) dX1_faultCount_27 (by decide) (q := 28) rfl ?_
          refine g_iadd C dX1_faultCount_28 (q := 29) rfl ?_
          refine g_eqi C (y := sumI (lgF gr li nu s) (k + 1)) (sumI_s (by first | exact if_pos (Classical.not_not.mp c_20) | exact if_neg c_20)) ?_
          refine g_istore_n C [(1, .int (sumI (lgF gr li nu s) (k + 1))), (2, .int (nI k)), (0, .ref (a 6))] dX1_faultCount_29 rfl (by decide) rfl (q := 30) rfl ?_
          refine g_iinc C (z := 1) (nI (k + 1)) [(2, .int (nI (k + 1))), (1, .int (sumI (lgF gr li nu s) (k + 1))), (0, .ref (a 6))] dX1_faultCount_30 rfl (nI_add k 1) (by decide) rfl (q := 33) rfl ?_
          refine g_goto C (q := 4) dX1_faultCount_33 (by decide) ?_
          exact ih_4 (k + 1) (by first | assumption | omega) (by omega)
        · replace c_20 := ite_n0 c_20
          refine g_iconst C (nI 1) dX1_faultCount_23 (by decide) (q := 24) rfl ?_
          refine g_goto C (q := 28) dX1_faultCount_24 (by decide) ?_
          refine g_iadd C dX1_faultCount_28 (q := 29) rfl ?_
          refine g_eqi C (y := sumI (lgF gr li nu s) (k + 1)) (sumI_s (by first | exact if_pos (Classical.not_not.mp c_20) | exact if_neg c_20)) ?_
          refine g_istore_n C [(1, .int (sumI (lgF gr li nu s) (k + 1))), (2, .int (nI k)), (0, .ref (a 6))] dX1_faultCount_29 rfl (by decide) rfl (q := 30) rfl ?_
          refine g_iinc C (z := 1) (nI (k + 1)) [(2, .int (nI (k + 1))), (1, .int (sumI (lgF gr li nu s) (k + 1))), (0, .ref (a 6))] dX1_faultCount_30 rfl (nI_add k 1) (by decide) rfl (q := 33) rfl ?_
          refine g_goto C (q := 4) dX1_faultCount_33 (by decide) ?_
          exact ih_4 (k + 1) (by first | assumption | omega) (by omega)
  exact lp_4 _ 0 (by first | assumption | omega) (Nat.lt_succ_self _)
set_option maxHeartbeats 4000000 in
set_option maxRecDepth 100000 in
theorem c_X1_firstFaultCell (l : Launch) (D : va_G) (cI cJ cZ : ClassId) (a : Nat → Nat) (hA nA : Nat) (gr li st sp : Nat → Int32) (n m : Nat) (nu : Nat → Int32) (ev od : Nat → Int64) (fp ti : Nat → Int32) (wc : Nat → Int64) (wu : Int32) (sc pv : Nat → Int64) (su : Int32) (sd : Nat → Int32) (t : Nat) (s : Nat → Nat) (ht : t ≤ 17) (hs : ∀ j, sd j = nI (s j) ∧ s j ≤ 6) : Met l yX1_firstFaultCell wsX1_firstFaultCell { frames := 4, cells := 0, slots := 0, locals := 90 } (gPc D (tyT cI cJ cZ) (wA a hA nA) FT (wC cI cJ cZ a hA nA gr li st sp (nI n) (nI m) nu ev od fp ti wc wu sc pv su sd (nI t)) [.ref (a 6)]) (vp_Si (fun r => r = ffU (lgF gr li nu s) (t - 1))) 0 0 (fun _ => False) := by
  refine gs_si (cc := cX1_firstFaultCell) (nL := 2) (ty := .int) (by decide) rfl (Nat.le_of_ble_eq_true rfl) (fun G C hret => ?_)
  show G 0 0 (wC cI cJ cZ a hA nA gr li st sp (nI n) (nI m) nu ev od fp ti wc wu sc pv su sd (nI t)) [(0, .ref (a 6))] 0 []
  refine g_iconst C (nI 0) dX1_firstFaultCell_0 (by decide) (q := 1) rfl ?_
  refine g_istore_n C [(1, .int (nI 0)), (0, .ref (a 6))] dX1_firstFaultCell_1 rfl (by decide) rfl (q := 2) rfl ?_
  have lp_2 : ∀ (N : Nat) (k : Nat), (k ≤ t - 1) → (ffU (lgF gr li nu s) k = -1000000) → t - k < N → G 0 0 (wC cI cJ cZ a hA nA gr li st sp (nI n) (nI m) nu ev od fp ti wc wu sc pv su sd (nI t)) [(1, .int (nI k)), (0, .ref (a 6))] 2 [] := by
    intro N
    induction N with
    | zero => intro k _ _ hmu; exact absurd hmu (Nat.not_lt_zero _)
    | succ N ih_2 =>
      intro k hk hz hmu
      refine g_iload_n C 0 dX1_firstFaultCell_2 rfl rfl rfl (q := 3) ?_
      refine g_iconst C (nI 1) dX1_firstFaultCell_3 (by decide) (q := 4) rfl ?_
      refine g_iadd C dX1_firstFaultCell_4 (q := 5) rfl ?_
      refine g_eqi C (y := nI (k + 1)) (nI_add k 1) ?_
      refine g_aload_n C 1 dX1_firstFaultCell_5 rfl rfl rfl (q := 6) ?_
      refine g_get C 6 3 dX1_firstFaultCell_6 (Cn := RX1) (T := TX1) (N := 4) (fun _ h => List.mem_cons_of_mem _ (List.mem_append_left _ (List.mem_append_left _ (List.mem_append_left _ (List.mem_append_right _ h))))) rfl rfl (by decide) (List.mem_cons_of_mem _ (List.mem_append_left _ (List.mem_append_left _ (List.mem_append_left _ (List.mem_append_left _ (List.mem_of_getElem? (i := 0) rfl)))))) rfl (q := 9) rfl ?_
      refine g_icmp_ge C (t := 28) dX1_firstFaultCell_9 (by decide) (q := 12) rfl (fun c_9 => ?_) (fun c_9 => ?_)
      · rw [nI_leI (by omega) (by omega)] at c_9
        refine g_ldc C (v := (-1000000)) dX1_firstFaultCell_28 (List.mem_cons_of_mem _ (List.mem_append_left _ (List.mem_append_left _ (List.mem_append_left _ (List.mem_append_left _ (List.mem_of_getElem? (i := 1) rfl)))))) (q := 30) rfl ?_
        exact hret _ 30 _ _ dX1_firstFaultCell_30 rfl (by rw [← hz, show k = t - 1 by omega])
      · rw [nI_leI (by omega) (by omega)] at c_9
        refine g_aload_n C 1 dX1_firstFaultCell_12 rfl rfl rfl (q := 13) ?_
        refine g_iload_n C 0 dX1_firstFaultCell_13 rfl rfl rfl (q := 14) ?_
        refine gcV_si C (n := 1) (As := [.int (nI k)]) (st := []) 6 (fun h => h) dX1_firstFaultCell_14 rfl rfl gX1_firstFaultCell_X1_isFaulty (c_X1_isFaulty l D cI cJ cZ a hA nA gr li st sp n m nu ev od fp ti wc wu sc pv su sd t k s (by first | assumption | omega) (by first | assumption | omega)) rfl rfl rfl (by decide +kernel) ⟨Nat.le_of_ble_eq_true rfl, Nat.le_of_ble_eq_true rfl⟩ rfl rfl (Nat.le_of_ble_eq_true rfl) FT_b FT_h ⟨Nat.le_of_ble_eq_true rfl, Nat.le_of_ble_eq_true rfl⟩ (q := 17) rfl (fun r_14 h_14 => ?_)
        subst h_14
        refine g_if_eq C (t := 22) dX1_firstFaultCell_17 (by decide) (q := 20) rfl (fun c_17 => ?_) (fun c_17 => ?_)
        · replace c_17 := ite_e0 c_17
          refine g_iinc C (z := 0) (nI (k + 1)) [(1, .int (nI (k + 1))), (0, .ref (a 6))] dX1_firstFaultCell_22 rfl (nI_add k 1) (by decide) rfl (q := 25) rfl ?_
          refine g_goto C (q := 2) dX1_firstFaultCell_25 (by decide) ?_
          exact ih_2 (k + 1) (by first | assumption | omega) (by rw [ffU, if_pos hz]; exact if_pos (if_pos (Classical.not_not.mp c_17))) (by omega)
        · replace c_17 := ite_n0 c_17
          refine g_iload_n C 0 dX1_firstFaultCell_20 rfl rfl rfl (q := 21) ?_
          exact hret _ 21 _ _ dX1_firstFaultCell_21 rfl (by have e : ffU (lgF gr li nu s) (k + 1) = nI k := (by rw [ffU, if_pos hz]; exact if_neg (by unfold lgF; rw [if_neg c_17]; decide)); have e2 := ffU_stay (j := t - 1 - (k + 1)) (k := k + 1) (F := lgF gr li nu s) (by rw [e]; exact nI_nn (by omega)); rw [show k + 1 + (t - 1 - (k + 1)) = t - 1 by omega] at e2; rw [e2, e])
  exact lp_2 _ 0 (by first | assumption | omega) rfl (Nat.lt_succ_self _)
set_option maxHeartbeats 4000000 in
set_option maxRecDepth 100000 in
theorem c_X1_stopsPassed (l : Launch) (D : va_G) (cI cJ cZ : ClassId) (a : Nat → Nat) (hA nA : Nat) (gr li st sp : Nat → Int32) (n m : Nat) (nu : Nat → Int32) (ev od : Nat → Int64) (fp ti : Nat → Int32) (wc : Nat → Int64) (wu : Int32) (sc pv : Nat → Int64) (su : Int32) (sd : Nat → Int32) (t : Nat) (s : Nat → Nat) (ht : t ≤ 17) (hs : ∀ j, sd j = nI (s j) ∧ s j ≤ 6) (hst : ∀ j, st j = nI 0 ∨ st j = nI 1) : Met l yX1_stopsPassed wsX1_stopsPassed { frames := 1, cells := 0, slots := 0, locals := 21 } (gPc D (tyT cI cJ cZ) (wA a hA nA) FT (wC cI cJ cZ a hA nA gr li st sp (nI n) (nI m) nu ev od fp ti wc wu sc pv su sd (nI t)) [.ref (a 6)]) (vp_Si (fun r => r = sumI (lgS st s) t)) 0 0 (fun _ => False) := by
  refine gs_si (cc := cX1_stopsPassed) (nL := 3) (ty := .int) (by decide) rfl (Nat.le_of_ble_eq_true rfl) (fun G C hret => ?_)
  show G 0 0 (wC cI cJ cZ a hA nA gr li st sp (nI n) (nI m) nu ev od fp ti wc wu sc pv su sd (nI t)) [(0, .ref (a 6))] 0 []
  refine g_iconst C (nI 0) dX1_stopsPassed_0 (by decide) (q := 1) rfl ?_
  refine g_istore_n C [(1, .int (nI 0)), (0, .ref (a 6))] dX1_stopsPassed_1 rfl (by decide) rfl (q := 2) rfl ?_
  refine g_iconst C (nI 0) dX1_stopsPassed_2 (by decide) (q := 3) rfl ?_
  refine g_istore_n C [(2, .int (nI 0)), (1, .int (nI 0)), (0, .ref (a 6))] dX1_stopsPassed_3 rfl (by decide) rfl (q := 4) rfl ?_
  have lp_4 : ∀ (N : Nat) (k : Nat), (k ≤ t) → t - k < N → G 0 0 (wC cI cJ cZ a hA nA gr li st sp (nI n) (nI m) nu ev od fp ti wc wu sc pv su sd (nI t)) [(2, .int (nI k)), (1, .int (sumI (lgS st s) k)), (0, .ref (a 6))] 4 [] := by
    intro N
    induction N with
    | zero => intro k _ hmu; exact absurd hmu (Nat.not_lt_zero _)
    | succ N ih_4 =>
      intro k hk hmu
      have hv := (hs k).2
      refine g_iload_n C 0 dX1_stopsPassed_4 rfl rfl rfl (q := 5) ?_
      refine g_aload_n C 2 dX1_stopsPassed_5 rfl rfl rfl (q := 6) ?_
      refine g_get C 6 3 dX1_stopsPassed_6 (Cn := RX1) (T := TX1) (N := 4) (fun _ h => List.mem_cons_of_mem _ (List.mem_append_left _ (List.mem_append_right _ h))) rfl rfl (by decide) (List.mem_cons_of_mem _ (List.mem_append_left _ (List.mem_append_left _ (List.mem_of_getElem? (i := 0) rfl)))) rfl (q := 9) rfl ?_
      refine g_icmp_ge C (t := 46) dX1_stopsPassed_9 (by decide) (q := 12) rfl (fun c_9 => ?_) (fun c_9 => ?_)
      · rw [nI_leI (by omega) (by omega)] at c_9
        refine g_iload_n C 1 dX1_stopsPassed_46 rfl rfl rfl (q := 47) ?_
        exact hret _ 47 _ _ dX1_stopsPassed_47 rfl (by rw [show k = t by omega])
      · rw [nI_leI (by omega) (by omega)] at c_9
        refine g_iload_n C 1 dX1_stopsPassed_12 rfl rfl rfl (q := 13) ?_
        refine g_aload_n C 2 dX1_stopsPassed_13 rfl rfl rfl (q := 14) ?_
        refine g_get C 6 0 dX1_stopsPassed_14 (Cn := RX1) (T := TX1) (N := 4) (fun _ h => List.mem_cons_of_mem _ (List.mem_append_left _ (List.mem_append_right _ h))) rfl rfl (by decide) (List.mem_cons_of_mem _ (List.mem_append_left _ (List.mem_append_left _ (List.mem_of_getElem? (i := 1) rfl)))) rfl (q := 17) rfl ?_
        refine g_iload_n C 0 dX1_stopsPassed_17 rfl rfl rfl (q := 18) ?_
        refine gcV_si C (n := 1) (As := [.int (nI k)]) (st := [.int (sumI (lgS st s) k)]) 1 (fun h => h) dX1_stopsPassed_18 rfl rfl gX1_stopsPassed_X0_isStop (c_X0_isStop l D cI cJ cZ a hA nA gr li st sp n m nu ev od fp ti wc wu sc pv su sd t k (by first | assumption | omega) (by first | assumption | omega)) rfl rfl rfl (by decide +kernel) ⟨Nat.le_of_ble_eq_true rfl, Nat.le_of_ble_eq_true rfl⟩ rfl rfl (Nat.le_of_ble_eq_true rfl) FT_b FT_h ⟨Nat.le_of_ble_eq_true rfl, Nat.le_of_ble_eq_true rfl⟩ (q := 21) rfl (fun r_18 h_18 => ?_)
        subst h_18
        refine g_if_eq C (t := 37) dX1_stopsPassed_21 (by decide) (q := 24) rfl (fun c_21 => ?_) (fun c_21 => ?_)
        · refine g_iconst C (nI 0) dX1_stopsPassed_37 (by decide) (q := 38) rfl ?_
          refine g_iadd C dX1_stopsPassed_38 (q := 39) rfl ?_
          refine g_eqi C (y := sumI (lgS st s) (k + 1)) (sumI_s (by show (if ¬ st k = 0 ∧ ¬ s k = 0 then nI 1 else nI 0) = _; simp [*])) ?_
          refine g_istore_n C [(1, .int (sumI (lgS st s) (k + 1))), (2, .int (nI k)), (0, .ref (a 6))] dX1_stopsPassed_39 rfl (by decide) rfl (q := 40) rfl ?_
          refine g_iinc C (z := 1) (nI (k + 1)) [(2, .int (nI (k + 1))), (1, .int (sumI (lgS st s) (k + 1))), (0, .ref (a 6))] dX1_stopsPassed_40 rfl (nI_add k 1) (by decide) rfl (q := 43) rfl ?_
          refine g_goto C (q := 4) dX1_stopsPassed_43 (by decide) ?_
          exact ih_4 (k + 1) (by first | assumption | omega) (by omega)
        · refine g_aload_n C 2 dX1_stopsPassed_24 rfl rfl rfl (q := 25) ?_
          refine g_get C 6 2 dX1_stopsPassed_25 (Cn := RX1) (T := TX1) (N := 4) (fun _ h => List.mem_cons_of_mem _ (List.mem_append_left _ (List.mem_append_right _ h))) rfl rfl (by decide) (List.mem_cons_of_mem _ (List.mem_append_left _ (List.mem_append_left _ (List.mem_of_getElem? (i := 2) rfl)))) rfl (q := 28) rfl ?_
          refine g_iload_n C 0 dX1_stopsPassed_28 rfl rfl rfl (q := 29) ?_
          refine g_iald C 19 0 dX1_stopsPassed_29 rfl rfl (vp_in_nI (by omega) (by decide)) (q := 30) rfl ?_
          refine g_eqi C (y := sd k) (by rw [nI_clamp (by omega)]) ?_
          refine g_eqi C (y := nI (s k)) ((hs k).1) ?_
          refine g_if_eq C (t := 37) dX1_stopsPassed_30 (by decide) (q := 33) rfl (fun c_30 => ?_) (fun c_30 => ?_)
          · rw [← nI_0, nI_eq (by omega) (by omega)] at c_30
            refine g_iconst C (nI 0) dX1_stopsPassed_37 (by decide) (q := 38) rfl ?_
            refine g_iadd C dX1_stopsPassed_38 (q := 39) rfl ?_
            refine g_eqi C (y := sumI (lgS st s) (k + 1)) (sumI_s (by show (if ¬ st k = 0 ∧ ¬ s k = 0 then nI 1 else nI 0) = _; simp [*])) ?_
            refine g_istore_n C [(1, .int (sumI (lgS st s) (k + 1))), (2, .int (nI k)), (0, .ref (a 6))] dX1_stopsPassed_39 rfl (by decide) rfl (q := 40) rfl ?_
            refine g_iinc C (z := 1) (nI (k + 1)) [(2, .int (nI (k + 1))), (1, .int (sumI (lgS st s) (k + 1))), (0, .ref (a 6))] dX1_stopsPassed_40 rfl (nI_add k 1) (by decide) rfl (q := 43) rfl ?_
            refine g_goto C (q := 4) dX1_stopsPassed_43 (by decide) ?_
            exact ih_4 (k + 1) (by first | assumption | omega) (by omega)
          · rw [← nI_0, nI_eq (by omega) (by omega)] at c_30
            refine g_iconst C (nI 1) dX1_stopsPassed_33 (by decide) (q := 34) rfl ?_
            refine g_goto C (q := 38) dX1_stopsPassed_34 (by decide) ?_
            refine g_iadd C dX1_stopsPassed_38 (q := 39) rfl ?_
            refine g_eqi C (y := sumI (lgS st s) (k + 1)) (sumI_s (by show (if ¬ st k = 0 ∧ ¬ s k = 0 then nI 1 else nI 0) = _; simp [*])) ?_
            refine g_istore_n C [(1, .int (sumI (lgS st s) (k + 1))), (2, .int (nI k)), (0, .ref (a 6))] dX1_stopsPassed_39 rfl (by decide) rfl (q := 40) rfl ?_
            refine g_iinc C (z := 1) (nI (k + 1)) [(2, .int (nI (k + 1))), (1, .int (sumI (lgS st s) (k + 1))), (0, .ref (a 6))] dX1_stopsPassed_40 rfl (nI_add k 1) (by decide) rfl (q := 43) rfl ?_
            refine g_goto C (q := 4) dX1_stopsPassed_43 (by decide) ?_
            exact ih_4 (k + 1) (by first | assumption | omega) (by omega)
  exact lp_4 _ 0 (by first | assumption | omega) (Nat.lt_succ_self _)
end
section
set_option maxHeartbeats 4000000 in
set_option maxRecDepth 100000 in
theorem c_X0_findLegs (l : Launch) (D : va_G) (cI cJ cZ : ClassId) (a : Nat → Nat) (hA nA : Nat) (gr li st sp : Nat → Int32) (n : Nat) (le : Int32) (nu : Nat → Int32) (ev od : Nat → Int64) (fp ti : Nat → Int32) (wc : Nat → Int64) (wu : Int32) (sc pv : Nat → Int64) (su : Int32) (sd : Nat → Int32) (t : Nat) (hn : n ≤ 16) (h0 : ¬ st 0 = 0) : Met l yX0_findLegs wsX0_findLegs { frames := 0, cells := 0, slots := 0, locals := 0 } (gPc D (tyT cI cJ cZ) (wA a hA nA) FT (wC cI cJ cZ a hA nA gr li st sp (nI n) le nu ev od fp ti wc wu sc pv su sd (nI t)) [.ref (a 1)]) (va_Qv (fun (u : (Nat → Int32)) => ∀ p, p ≤ n → ¬ st p = 0 → u (cnt st p) = nI p) (fun u tS => va_P D vwCl ((fun (u : (Nat → Int32)) => wC cI cJ cZ a hA nA gr li st u (nI n) (nI (cnt st (n + 1) - 1)) nu ev od fp ti wc wu sc pv su sd (nI t)) u) tS.heap ∧ va_D (wA a hA nA) ((fun (u : (Nat → Int32)) => wC cI cJ cZ a hA nA gr li st u (nI n) (nI (cnt st (n + 1) - 1)) nu ev od fp ti wc wu sc pv su sd (nI t)) u)) (wA a hA nA)) 0 0 (wA a hA nA) := by
  refine gs_qv (cc := cX0_findLegs) (nL := 3) (W' := fun (u : (Nat → Int32)) => wC cI cJ cZ a hA nA gr li st u (nI n) (nI (cnt st (n + 1) - 1)) nu ev od fp ti wc wu sc pv su sd (nI t)) (by decide) rfl (Nat.le_of_ble_eq_true rfl) (fun G C hret => ?_)
  show G 0 0 (wC cI cJ cZ a hA nA gr li st sp (nI n) le nu ev od fp ti wc wu sc pv su sd (nI t)) [(0, .ref (a 1))] 0 []
  refine g_iconst C (nI 0) dX0_findLegs_0 (by decide) (q := 1) rfl ?_
  refine g_istore_n C [(1, .int (nI 0)), (0, .ref (a 1))] dX0_findLegs_1 rfl (by decide) rfl (q := 2) rfl ?_
  refine g_iconst C (nI 0) dX0_findLegs_2 (by decide) (q := 3) rfl ?_
  refine g_istore_n C [(2, .int (nI 0)), (1, .int (nI 0)), (0, .ref (a 1))] dX0_findLegs_3 rfl (by decide) rfl (q := 4) rfl ?_
  have lp_4 : ∀ (N : Nat) (k : Nat) (f : Nat → Int32), (k ≤ n + 1) → (∀ p, p < k → ¬ st p = 0 → f (cnt st p) = nI p) → n + 1 - k < N → G 0 0 (wC cI cJ cZ a hA nA gr li st f (nI n) le nu ev od fp ti wc wu sc pv su sd (nI t)) [(2, .int (nI k)), (1, .int (nI (cnt st k))), (0, .ref (a 1))] 4 [] := by
    intro N
    induction N with
    | zero => intro k f _ _ hmu; exact absurd hmu (Nat.not_lt_zero _)
    | succ N ih_4 =>
      intro k f hk hf hmu
      have hcl := cnt_le st k
      refine g_iload_n C 0 dX0_findLegs_4 rfl rfl rfl (q := 5) ?_
      refine g_aload_n C 2 dX0_findLegs_5 rfl rfl rfl (q := 6) ?_
      refine g_get C 1 4 dX0_findLegs_6 (Cn := RX0) (T := TX0) (N := 6) (fun _ h => List.mem_cons_of_mem _ (List.mem_append_right _ h)) rfl rfl (by decide) (List.mem_cons_of_mem _ (List.mem_append_left _ (List.mem_of_getElem? (i := 0) rfl))) rfl (q := 9) rfl ?_
      refine g_icmp_gt C (t := 37) dX0_findLegs_9 (by decide) (q := 12) rfl (fun c_9 => ?_) (fun c_9 => ?_)
      · rw [nI_ltI (by omega) (by omega)] at c_9
        obtain rfl : k = n + 1 := by omega
        show G 0 0 (wC cI cJ cZ a hA nA gr li st f (nI n) le nu ev od fp ti wc wu sc pv su sd (nI t)) [(2, .int (nI (n + 1))), (1, .int (nI (cnt st (n + 1)))), (0, .ref (a 1))] 37 []
        refine g_aload_n C 2 dX0_findLegs_37 rfl rfl rfl (q := 38) ?_
        refine g_iload_n C 1 dX0_findLegs_38 rfl rfl rfl (q := 39) ?_
        refine g_iconst C (nI 1) dX0_findLegs_39 (by decide) (q := 40) rfl ?_
        refine g_isub C dX0_findLegs_40 (q := 41) rfl ?_
        refine g_eqi C (y := nI ((cnt st (n + 1)) - 1)) (pk_sub (by have := cnt_mono st (show 0 + 1 ≤ n + 1 by omega); have := cnt_st h0; omega)) ?_
        refine g_put C 1 5 (wC cI cJ cZ a hA nA gr li st f (nI n) (nI ((cnt st (n + 1)) - 1)) nu ev od fp ti wc wu sc pv su sd (nI t)) dX0_findLegs_41 (Cn := RX0) (T := TX0) (N := 6) (fun _ h => List.mem_cons_of_mem _ (List.mem_append_right _ h)) tyX0_ok nmX0 rfl rfl (by decide) (List.mem_cons_of_mem _ (List.mem_append_left _ (List.mem_of_getElem? (i := 3) rfl))) rfl (ty := .int) (by decide +kernel) rfl rfl (Nat.le_of_ble_eq_true rfl) rfl (q := 44) rfl ?_
        exact hret f 44 _ dX0_findLegs_44 (fun p hp hs => hf p (by omega) hs)
      · rw [nI_ltI (by omega) (by omega)] at c_9
        refine g_aload_n C 2 dX0_findLegs_12 rfl rfl rfl (q := 13) ?_
        refine g_get C 1 2 dX0_findLegs_13 (Cn := RX0) (T := TX0) (N := 6) (fun _ h => List.mem_cons_of_mem _ (List.mem_append_right _ h)) rfl rfl (by decide) (List.mem_cons_of_mem _ (List.mem_append_left _ (List.mem_of_getElem? (i := 1) rfl))) rfl (q := 16) rfl ?_
        refine g_iload_n C 0 dX0_findLegs_16 rfl rfl rfl (q := 17) ?_
        refine g_zald C 9 2 dX0_findLegs_17 rfl rfl (vp_in_nI (by omega) (by decide)) (q := 18) rfl ?_
        refine g_eqi C (y := st k) (by rw [nI_clamp (by omega)]) ?_
        refine g_if_eq C (t := 31) dX0_findLegs_18 (by decide) (q := 21) rfl (fun c_18 => ?_) (fun c_18 => ?_)
        · have ec : nI (cnt st k) = nI (cnt st (k + 1)) := by rw [cnt_sz c_18]
          rw [ec]
          refine g_iinc C (z := 0) (nI (k + 1)) [(2, .int (nI (k + 1))), (1, .int (nI (cnt st (k + 1)))), (0, .ref (a 1))] dX0_findLegs_31 rfl (nI_add k 1) (by decide) rfl (q := 34) rfl ?_
          refine g_goto C (q := 4) dX0_findLegs_34 (by decide) ?_
          exact ih_4 (k + 1) f (by first | assumption | omega) (by intro p hp hs; by_cases e : p = k; (subst e; first | exact pk_us | exact absurd c_18 hs); (first | (rw [pk_un (fun q => e (cnt_inj hs c_18 q))]; exact hf p (by omega) hs) | exact hf p (by omega) hs)) (by omega)
        · refine g_aload_n C 2 dX0_findLegs_21 rfl rfl rfl (q := 22) ?_
          refine g_get C 1 3 dX0_findLegs_22 (Cn := RX0) (T := TX0) (N := 6) (fun _ h => List.mem_cons_of_mem _ (List.mem_append_right _ h)) rfl rfl (by decide) (List.mem_cons_of_mem _ (List.mem_append_left _ (List.mem_of_getElem? (i := 2) rfl))) rfl (q := 25) rfl ?_
          refine g_iload_n C 1 dX0_findLegs_25 rfl rfl rfl (q := 26) ?_
          refine g_iload_n C 0 dX0_findLegs_26 rfl rfl rfl (q := 27) ?_
          refine g_iast C 10 0 (wC cI cJ cZ a hA nA gr li st (upd f (cnt st k) (nI k)) (nI n) le nu ev od fp ti wc wu sc pv su sd (nI t)) dX0_findLegs_27 rfl rfl (vp_in_nI (by omega) (by decide)) (by rw [nI_clamp (by omega)]; rfl) (q := 28) rfl ?_
          refine g_iinc C (z := 1) (nI ((cnt st k) + 1)) [(1, .int (nI ((cnt st k) + 1))), (2, .int (nI k)), (0, .ref (a 1))] dX0_findLegs_28 rfl (nI_add (cnt st k) 1) (by decide) rfl (q := 31) rfl ?_
          have ec : nI ((cnt st k) + 1) = nI (cnt st (k + 1)) := by rw [cnt_st c_18]
          rw [ec]
          refine g_iinc C (z := 1) (nI (k + 1)) [(2, .int (nI (k + 1))), (1, .int (nI (cnt st (k + 1)))), (0, .ref (a 1))] dX0_findLegs_31 rfl (nI_add k 1) (by decide) rfl (q := 34) rfl ?_
          refine g_goto C (q := 4) dX0_findLegs_34 (by decide) ?_
          exact ih_4 (k + 1) (upd f (cnt st k) (nI k)) (by first | assumption | omega) (by intro p hp hs; by_cases e : p = k; (subst e; first | exact pk_us | exact absurd c_18 hs); (first | (rw [pk_un (fun q => e (cnt_inj hs c_18 q))]; exact hf p (by omega) hs) | exact hf p (by omega) hs)) (by omega)
  exact lp_4 _ 0 sp (by first | assumption | omega) (fun p h => absurd h (Nat.not_lt_zero _)) (Nat.lt_succ_self _)
set_option maxHeartbeats 4000000 in
set_option maxRecDepth 100000 in
theorem c_X0_shape (l : Launch) (D : va_G) (cI cJ cZ : ClassId) (a : Nat → Nat) (hA nA : Nat) (gr li st sp : Nat → Int32) (n m : Nat) (nu : Nat → Int32) (ev od : Nat → Int64) (fp ti : Nat → Int32) (wc : Nat → Int64) (wu : Int32) (sc pv : Nat → Int64) (su : Int32) (sd : Nat → Int32) (t k : Nat) (g v : Int32) (hk : k < 16) : Met l yX0_shape wsX0_shape { frames := 0, cells := 0, slots := 0, locals := 0 } (gPc D (tyT cI cJ cZ) (wA a hA nA) FT (wC cI cJ cZ a hA nA gr li st sp (nI n) (nI m) nu ev od fp ti wc wu sc pv su sd (nI t)) [.ref (a 1), .int (nI k), .int g, .int v]) (va_Qv (fun (u : Unit) => True) (fun u tS => va_P D vwCl ((fun (u : Unit) => wC cI cJ cZ a hA nA (upd gr k g) (upd li k v) st sp (nI n) (nI m) nu ev od fp ti wc wu sc pv su sd (nI t)) u) tS.heap ∧ va_D (wA a hA nA) ((fun (u : Unit) => wC cI cJ cZ a hA nA (upd gr k g) (upd li k v) st sp (nI n) (nI m) nu ev od fp ti wc wu sc pv su sd (nI t)) u)) (wA a hA nA)) 0 0 (wA a hA nA) := by
  refine gs_qv (cc := cX0_shape) (nL := 4) (W' := fun (u : Unit) => wC cI cJ cZ a hA nA (upd gr k g) (upd li k v) st sp (nI n) (nI m) nu ev od fp ti wc wu sc pv su sd (nI t)) (by decide) rfl (Nat.le_of_ble_eq_true rfl) (fun G C hret => ?_)
  show G 0 0 (wC cI cJ cZ a hA nA gr li st sp (nI n) (nI m) nu ev od fp ti wc wu sc pv su sd (nI t)) [(0, .ref (a 1)), (1, .int (nI k)), (2, .int g), (3, .int v)] 0 []
  refine g_aload_n C 0 dX0_shape_0 rfl rfl rfl (q := 1) ?_
  refine g_get C 1 0 dX0_shape_1 (Cn := RX0) (T := TX0) (N := 6) (fun _ h => List.mem_cons_of_mem _ (List.mem_append_right _ h)) rfl rfl (by decide) (List.mem_cons_of_mem _ (List.mem_append_left _ (List.mem_of_getElem? (i := 0) rfl))) rfl (q := 4) rfl ?_
  refine g_iload_n C 1 dX0_shape_4 rfl rfl rfl (q := 5) ?_
  refine g_iload_n C 2 dX0_shape_5 rfl rfl rfl (q := 6) ?_
  refine g_iast C 7 0 (wC cI cJ cZ a hA nA (upd gr k g) li st sp (nI n) (nI m) nu ev od fp ti wc wu sc pv su sd (nI t)) dX0_shape_6 rfl rfl (vp_in_nI (by omega) (by decide)) (by rw [nI_clamp (by omega)]; rfl) (q := 7) rfl ?_
  refine g_aload_n C 0 dX0_shape_7 rfl rfl rfl (q := 8) ?_
  refine g_get C 1 1 dX0_shape_8 (Cn := RX0) (T := TX0) (N := 6) (fun _ h => List.mem_cons_of_mem _ (List.mem_append_right _ h)) rfl rfl (by decide) (List.mem_cons_of_mem _ (List.mem_append_left _ (List.mem_of_getElem? (i := 1) rfl))) rfl (q := 11) rfl ?_
  refine g_iload_n C 1 dX0_shape_11 rfl rfl rfl (q := 12) ?_
  refine g_iload_n C 3 dX0_shape_12 rfl rfl rfl (q := 13) ?_
  refine g_iast C 8 0 (wC cI cJ cZ a hA nA (upd gr k g) (upd li k v) st sp (nI n) (nI m) nu ev od fp ti wc wu sc pv su sd (nI t)) dX0_shape_13 rfl rfl (vp_in_nI (by omega) (by decide)) (by rw [nI_clamp (by omega)]; rfl) (q := 14) rfl ?_
  exact hret () 14 _ dX0_shape_14 (trivial)
set_option maxHeartbeats 4000000 in
set_option maxRecDepth 100000 in
theorem c_X0_markStop (l : Launch) (D : va_G) (cI cJ cZ : ClassId) (a : Nat → Nat) (hA nA : Nat) (gr li st sp : Nat → Int32) (n : Nat) (le : Int32) (nu : Nat → Int32) (ev od : Nat → Int64) (fp ti : Nat → Int32) (wc : Nat → Int64) (wu : Int32) (sc pv : Nat → Int64) (su : Int32) (sd : Nat → Int32) (t k : Nat) (v : Int32) (hk : k ≤ 16) (hn : n ≤ 16) (h0 : ¬ st 0 = 0) (hk0 : 0 < k) (hv : v = nI 0 ∨ v = nI 1) : Met l yX0_markStop wsX0_markStop { frames := 1, cells := 0, slots := 0, locals := 22 } (gPc D (tyT cI cJ cZ) (wA a hA nA) FT (wC cI cJ cZ a hA nA gr li st sp (nI n) le nu ev od fp ti wc wu sc pv su sd (nI t)) [.ref (a 1), .int (nI k), .int v]) (va_Qv (fun (u : (Nat → Int32)) => ∀ p, p ≤ n → ¬ upd st k v p = 0 → u (cnt (upd st k v) p) = nI p) (fun u tS => va_P D vwCl ((fun (u : (Nat → Int32)) => wC cI cJ cZ a hA nA gr li (upd st k v) u (nI n) (nI (cnt (upd st k v) (n + 1) - 1)) nu ev od fp ti wc wu sc pv su sd (nI t)) u) tS.heap ∧ va_D (wA a hA nA) ((fun (u : (Nat → Int32)) => wC cI cJ cZ a hA nA gr li (upd st k v) u (nI n) (nI (cnt (upd st k v) (n + 1) - 1)) nu ev od fp ti wc wu sc pv su sd (nI t)) u)) (wA a hA nA)) 0 0 (wA a hA nA) := by
  refine gs_qv (cc := cX0_markStop) (nL := 3) (W' := fun (u : (Nat → Int32)) => wC cI cJ cZ a hA nA gr li (upd st k v) u (nI n) (nI (cnt (upd st k v) (n + 1) - 1)) nu ev od fp ti wc wu sc pv su sd (nI t)) (by decide) rfl (Nat.le_of_ble_eq_true rfl) (fun G C hret => ?_)
  show G 0 0 (wC cI cJ cZ a hA nA gr li st sp (nI n) le nu ev od fp ti wc wu sc pv su sd (nI t)) [(0, .ref (a 1)), (1, .int (nI k)), (2, .int v)] 0 []
  refine g_aload_n C 0 dX0_markStop_0 rfl rfl rfl (q := 1) ?_
  refine g_get C 1 2 dX0_markStop_1 (Cn := RX0) (T := TX0) (N := 6) (fun _ h => List.mem_cons_of_mem _ (List.mem_append_right _ h)) rfl rfl (by decide) (List.mem_cons_of_mem _ (List.mem_append_left _ (List.mem_of_getElem? (i := 0) rfl))) rfl (q := 4) rfl ?_
  refine g_iload_n C 1 dX0_markStop_4 rfl rfl rfl (q := 5) ?_
  refine g_iload_n C 2 dX0_markStop_5 rfl rfl rfl (q := 6) ?_
  refine g_zast C 9 2 (wC cI cJ cZ a hA nA gr li (upd st k v) sp (nI n) le nu ev od fp ti wc wu sc pv su sd (nI t)) dX0_markStop_6 rfl rfl (vp_in_nI (by omega) (by decide)) (by rw [nI_clamp (by omega)]; rw [z01 hv]; rfl) (q := 7) rfl ?_
  refine g_aload_n C 0 dX0_markStop_7 rfl rfl rfl (q := 8) ?_
  refine gcV_qv C (n := 0) (As := []) (st := []) 1 (fun h => h) (fun _ h => h) dX0_markStop_8 rfl rfl gX0_markStop_X0_findLegs (c_X0_findLegs l D cI cJ cZ a hA nA gr li (upd st k v) sp n le nu ev od fp ti wc wu sc pv su sd t hn (by rw [pk_un (by omega)]; exact h0)) rfl rfl rfl (by decide +kernel) ⟨Nat.le_of_ble_eq_true rfl, Nat.le_of_ble_eq_true rfl⟩ rfl rfl (Nat.le_of_ble_eq_true rfl) FT_b FT_h ⟨Nat.le_of_ble_eq_true rfl, Nat.le_of_ble_eq_true rfl⟩ (q := 11) rfl (fun u_8 h_8 => ?_)
  have h_8 : ∀ p, p ≤ n → ¬ (upd st k v) p = 0 → u_8 (cnt (upd st k v) p) = nI p := h_8
  show G 0 0 (wC cI cJ cZ a hA nA gr li (upd st k v) u_8 (nI n) (nI (cnt (upd st k v) (n + 1) - 1)) nu ev od fp ti wc wu sc pv su sd (nI t)) [(0, .ref (a 1)), (1, .int (nI k)), (2, .int v)] 11 []
  exact hret u_8 11 _ dX0_markStop_11 (h_8)
set_option maxHeartbeats 4000000 in
set_option maxRecDepth 100000 in
theorem c_X0_lay (l : Launch) (D : va_G) (cI cJ cZ : ClassId) (a : Nat → Nat) (hA nA : Nat) (gr li st sp : Nat → Int32) (ce le : Int32) (nu : Nat → Int32) (ev od : Nat → Int64) (fp ti : Nat → Int32) (wc : Nat → Int64) (wu : Int32) (sc pv : Nat → Int64) (su : Int32) (sd : Nat → Int32) (t z : Nat) (hz : 1 ≤ z) (hz2 : z ≤ 16) : Met l yX0_lay wsX0_lay { frames := 1, cells := 0, slots := 0, locals := 22 } (gPc D (tyT cI cJ cZ) (wA a hA nA) FT (wC cI cJ cZ a hA nA gr li st sp ce le nu ev od fp ti wc wu sc pv su sd (nI t)) [.ref (a 1), .int (nI z)]) (va_Qv (fun (u : (Nat → Int32)) => ∀ p, p ≤ z → ¬ stL z p = 0 → u (cnt (stL z) p) = nI p) (fun u tS => va_P D vwCl ((fun (u : (Nat → Int32)) => wC cI cJ cZ a hA nA (fun _ => nI 0) (fun _ => nI 6) (stL z) u (nI z) (nI (cnt (stL z) (z + 1) - 1)) nu ev od fp ti wc wu sc pv su sd (nI t)) u) tS.heap ∧ va_D (wA a hA nA) ((fun (u : (Nat → Int32)) => wC cI cJ cZ a hA nA (fun _ => nI 0) (fun _ => nI 6) (stL z) u (nI z) (nI (cnt (stL z) (z + 1) - 1)) nu ev od fp ti wc wu sc pv su sd (nI t)) u)) (wA a hA nA)) 0 0 (wA a hA nA) := by
  refine gs_qv (cc := cX0_lay) (nL := 3) (W' := fun (u : (Nat → Int32)) => wC cI cJ cZ a hA nA (fun _ => nI 0) (fun _ => nI 6) (stL z) u (nI z) (nI (cnt (stL z) (z + 1) - 1)) nu ev od fp ti wc wu sc pv su sd (nI t)) (by decide) rfl (Nat.le_of_ble_eq_true rfl) (fun G C hret => ?_)
  show G 0 0 (wC cI cJ cZ a hA nA gr li st sp ce le nu ev od fp ti wc wu sc pv su sd (nI t)) [(0, .ref (a 1)), (1, .int (nI z))] 0 []
  refine g_aload_n C 0 dX0_lay_0 rfl rfl rfl (q := 1) ?_
  refine g_iload_n C 1 dX0_lay_1 rfl rfl rfl (q := 2) ?_
  refine g_put C 1 4 (wC cI cJ cZ a hA nA gr li st sp (nI z) le nu ev od fp ti wc wu sc pv su sd (nI t)) dX0_lay_2 (Cn := RX0) (T := TX0) (N := 6) (fun _ h => List.mem_cons_of_mem _ (List.mem_append_right _ h)) tyX0_ok nmX0 rfl rfl (by decide) (List.mem_cons_of_mem _ (List.mem_append_left _ (List.mem_of_getElem? (i := 0) rfl))) rfl (ty := .int) (by decide +kernel) rfl rfl (Nat.le_of_ble_eq_true rfl) rfl (q := 5) rfl ?_
  refine g_iconst C (nI 0) dX0_lay_5 (by decide) (q := 6) rfl ?_
  refine g_istore_n C [(2, .int (nI 0)), (0, .ref (a 1)), (1, .int (nI z))] dX0_lay_6 rfl (by decide) rfl (q := 7) rfl ?_
  have lp_7 : ∀ (N : Nat) (k : Nat) (f g : Nat → Int32), (k ≤ 16) → (∀ p, p < k → f p = nI 0) → (∀ p, p < k → g p = nI 6) → 16 - k < N → G 0 0 (wC cI cJ cZ a hA nA f g st sp (nI z) le nu ev od fp ti wc wu sc pv su sd (nI t)) [(2, .int (nI k)), (0, .ref (a 1)), (1, .int (nI z))] 7 [] := by
    intro N
    induction N with
    | zero => intro k f g _ _ _ hmu; exact absurd hmu (Nat.not_lt_zero _)
    | succ N ih_7 =>
      intro k f g hk hf hg hmu
      refine g_iload_n C 0 dX0_lay_7 rfl rfl rfl (q := 8) ?_
      refine g_bipush C (nI 16) dX0_lay_8 (by decide) (q := 10) rfl ?_
      refine g_icmp_ge C (t := 34) dX0_lay_10 (by decide) (q := 13) rfl (fun c_10 => ?_) (fun c_10 => ?_)
      · rw [nI_leI (by omega) (by omega)] at c_10
        refine g_arrI C (fun _ => nI 0) 7 (wC cI cJ cZ a hA nA (fun _ => nI 0) g st sp (nI z) le nu ev od fp ti wc wu sc pv su sd (nI t)) rfl (fun j hj => hf j (by omega)) rfl ?_
        refine g_arrI C (fun _ => nI 6) 8 (wC cI cJ cZ a hA nA (fun _ => nI 0) (fun _ => nI 6) st sp (nI z) le nu ev od fp ti wc wu sc pv su sd (nI t)) rfl (fun j hj => hg j (by omega)) rfl ?_
        refine g_iconst C (nI 0) dX0_lay_34 (by decide) (q := 35) rfl ?_
        refine g_istore_n C [(2, .int (nI 0)), (0, .ref (a 1)), (1, .int (nI z))] dX0_lay_35 rfl (by decide) rfl (q := 36) rfl ?_
        have lp_36 : ∀ (N : Nat) (k : Nat) (f2 : Nat → Int32), (k ≤ 17) → (∀ p, p < k → f2 p = stL z p) → 17 - k < N → G 0 0 (wC cI cJ cZ a hA nA (fun _ => nI 0) (fun _ => nI 6) f2 sp (nI z) le nu ev od fp ti wc wu sc pv su sd (nI t)) [(2, .int (nI k)), (0, .ref (a 1)), (1, .int (nI z))] 36 [] := by
          intro N
          induction N with
          | zero => intro k f2 _ _ hmu; exact absurd hmu (Nat.not_lt_zero _)
          | succ N ih_36 =>
            intro k f2 hk hf2 hmu
            refine g_iload_n C 0 dX0_lay_36 rfl rfl rfl (q := 37) ?_
            refine g_bipush C (nI 16) dX0_lay_37 (by decide) (q := 39) rfl ?_
            refine g_icmp_gt C (t := 68) dX0_lay_39 (by decide) (q := 42) rfl (fun c_39 => ?_) (fun c_39 => ?_)
            · rw [nI_ltI (by omega) (by omega)] at c_39
              refine g_arrI C (stL z) 9 (wC cI cJ cZ a hA nA (fun _ => nI 0) (fun _ => nI 6) (stL z) sp (nI z) le nu ev od fp ti wc wu sc pv su sd (nI t)) rfl (fun j hj => hf2 j (by omega)) rfl ?_
              refine g_aload_n C 1 dX0_lay_68 rfl rfl rfl (q := 69) ?_
              refine gcV_qv C (n := 0) (As := []) (st := []) 1 (fun h => h) (fun _ h => h) dX0_lay_69 rfl rfl gX0_lay_X0_findLegs (c_X0_findLegs l D cI cJ cZ a hA nA (fun _ => nI 0) (fun _ => nI 6) (stL z) sp z le nu ev od fp ti wc wu sc pv su sd t hz2 (by rw [stL, if_pos (Or.inl rfl)]; decide)) rfl rfl rfl (by decide +kernel) ⟨Nat.le_of_ble_eq_true rfl, Nat.le_of_ble_eq_true rfl⟩ rfl rfl (Nat.le_of_ble_eq_true rfl) FT_b FT_h ⟨Nat.le_of_ble_eq_true rfl, Nat.le_of_ble_eq_true rfl⟩ (q := 72) rfl (fun u_69 h_69 => ?_)
              have h_69 : ∀ p, p ≤ z → ¬ (stL z) p = 0 → u_69 (cnt (stL z) p) = nI p := h_69
              show G 0 0 (wC cI cJ cZ a hA nA (fun _ => nI 0) (fun _ => nI 6) (stL z) u_69 (nI z) (nI (cnt (stL z) (z + 1) - 1)) nu ev od fp ti wc wu sc pv su sd (nI t)) [(2, .int (nI k)), (0, .ref (a 1)), (1, .int (nI z))] 72 []
              exact hret u_69 72 _ dX0_lay_72 (h_69)
            · rw [nI_ltI (by omega) (by omega)] at c_39
              refine g_aload_n C 1 dX0_lay_42 rfl rfl rfl (q := 43) ?_
              refine g_get C 1 2 dX0_lay_43 (Cn := RX0) (T := TX0) (N := 6) (fun _ h => List.mem_cons_of_mem _ (List.mem_append_right _ h)) rfl rfl (by decide) (List.mem_cons_of_mem _ (List.mem_append_left _ (List.mem_of_getElem? (i := 3) rfl))) rfl (q := 46) rfl ?_
              refine g_iload_n C 0 dX0_lay_46 rfl rfl rfl (q := 47) ?_
              refine g_iload_n C 0 dX0_lay_47 rfl rfl rfl (q := 48) ?_
              refine g_if_eq C (t := 56) dX0_lay_48 (by decide) (q := 51) rfl (fun c_48 => ?_) (fun c_48 => ?_)
              · rw [← nI_0, nI_eq (by omega) (by omega)] at c_48
                refine g_iconst C (nI 1) dX0_lay_56 (by decide) (q := 57) rfl ?_
                refine g_goto C (q := 61) dX0_lay_57 (by decide) ?_
                refine g_zast C 9 2 (wC cI cJ cZ a hA nA (fun _ => nI 0) (fun _ => nI 6) (upd f2 k (nI 1)) sp (nI z) le nu ev od fp ti wc wu sc pv su sd (nI t)) dX0_lay_61 rfl rfl (vp_in_nI (by omega) (by decide)) (by rw [nI_clamp (by omega)]; rw [show vp_nar .boolean (nI 1) = (nI 1) from rfl]; rfl) (q := 62) rfl ?_
                refine g_iinc C (z := 0) (nI (k + 1)) [(2, .int (nI (k + 1))), (0, .ref (a 1)), (1, .int (nI z))] dX0_lay_62 rfl (nI_add k 1) (by decide) rfl (q := 65) rfl ?_
                refine g_goto C (q := 36) dX0_lay_65 (by decide) ?_
                exact ih_36 (k + 1) (upd f2 k (nI 1)) (by first | assumption | omega) (by intro p hp; by_cases e : p = k; (subst e; rw [pk_us, stL]; first | exact (if_pos (by omega)).symm | exact (if_neg (by omega)).symm); (rw [pk_un e]; exact hf2 p (by omega))) (by omega)
              · rw [← nI_0, nI_eq (by omega) (by omega)] at c_48
                refine g_iload_n C 0 dX0_lay_51 rfl rfl rfl (q := 52) ?_
                refine g_iload_n C 2 dX0_lay_52 rfl rfl rfl (q := 53) ?_
                refine g_icmp_ne C (t := 60) dX0_lay_53 (by decide) (q := 56) rfl (fun c_53 => ?_) (fun c_53 => ?_)
                · rw [nI_eq (by omega) (by omega)] at c_53
                  refine g_iconst C (nI 0) dX0_lay_60 (by decide) (q := 61) rfl ?_
                  refine g_zast C 9 2 (wC cI cJ cZ a hA nA (fun _ => nI 0) (fun _ => nI 6) (upd f2 k (nI 0)) sp (nI z) le nu ev od fp ti wc wu sc pv su sd (nI t)) dX0_lay_61 rfl rfl (vp_in_nI (by omega) (by decide)) (by rw [nI_clamp (by omega)]; rw [show vp_nar .boolean (nI 0) = (nI 0) from rfl]; rfl) (q := 62) rfl ?_
                  refine g_iinc C (z := 0) (nI (k + 1)) [(2, .int (nI (k + 1))), (0, .ref (a 1)), (1, .int (nI z))] dX0_lay_62 rfl (nI_add k 1) (by decide) rfl (q := 65) rfl ?_
                  refine g_goto C (q := 36) dX0_lay_65 (by decide) ?_
                  exact ih_36 (k + 1) (upd f2 k (nI 0)) (by first | assumption | omega) (by intro p hp; by_cases e : p = k; (subst e; rw [pk_us, stL]; first | exact (if_pos (by omega)).symm | exact (if_neg (by omega)).symm); (rw [pk_un e]; exact hf2 p (by omega))) (by omega)
                · rw [nI_eq (by omega) (by omega)] at c_53
                  refine g_iconst C (nI 1) dX0_lay_56 (by decide) (q := 57) rfl ?_
                  refine g_goto C (q := 61) dX0_lay_57 (by decide) ?_
                  refine g_zast C 9 2 (wC cI cJ cZ a hA nA (fun _ => nI 0) (fun _ => nI 6) (upd f2 k (nI 1)) sp (nI z) le nu ev od fp ti wc wu sc pv su sd (nI t)) dX0_lay_61 rfl rfl (vp_in_nI (by omega) (by decide)) (by rw [nI_clamp (by omega)]; rw [show vp_nar .boolean (nI 1) = (nI 1) from rfl]; rfl) (q := 62) rfl ?_
                  refine g_iinc C (z := 0) (nI (k + 1)) [(2, .int (nI (k + 1))), (0, .ref (a 1)), (1, .int (nI z))] dX0_lay_62 rfl (nI_add k 1) (by decide) rfl (q := 65) rfl ?_
                  refine g_goto C (q := 36) dX0_lay_65 (by decide) ?_
                  exact ih_36 (k + 1) (upd f2 k (nI 1)) (by first | assumption | omega) (by intro p hp; by_cases e : p = k; (subst e; rw [pk_us, stL]; first | exact (if_pos (by omega)).symm | exact (if_neg (by omega)).symm); (rw [pk_un e]; exact hf2 p (by omega))) (by omega)
        exact lp_36 _ 0 st (by first | assumption | omega) (fun p h => absurd h (Nat.not_lt_zero _)) (Nat.lt_succ_self _)
      · rw [nI_leI (by omega) (by omega)] at c_10
        refine g_aload_n C 1 dX0_lay_13 rfl rfl rfl (q := 14) ?_
        refine g_get C 1 0 dX0_lay_14 (Cn := RX0) (T := TX0) (N := 6) (fun _ h => List.mem_cons_of_mem _ (List.mem_append_right _ h)) rfl rfl (by decide) (List.mem_cons_of_mem _ (List.mem_append_left _ (List.mem_of_getElem? (i := 1) rfl))) rfl (q := 17) rfl ?_
        refine g_iload_n C 0 dX0_lay_17 rfl rfl rfl (q := 18) ?_
        refine g_iconst C (nI 0) dX0_lay_18 (by decide) (q := 19) rfl ?_
        refine g_iast C 7 0 (wC cI cJ cZ a hA nA (upd f k (nI 0)) g st sp (nI z) le nu ev od fp ti wc wu sc pv su sd (nI t)) dX0_lay_19 rfl rfl (vp_in_nI (by omega) (by decide)) (by rw [nI_clamp (by omega)]; rfl) (q := 20) rfl ?_
        refine g_aload_n C 1 dX0_lay_20 rfl rfl rfl (q := 21) ?_
        refine g_get C 1 1 dX0_lay_21 (Cn := RX0) (T := TX0) (N := 6) (fun _ h => List.mem_cons_of_mem _ (List.mem_append_right _ h)) rfl rfl (by decide) (List.mem_cons_of_mem _ (List.mem_append_left _ (List.mem_of_getElem? (i := 2) rfl))) rfl (q := 24) rfl ?_
        refine g_iload_n C 0 dX0_lay_24 rfl rfl rfl (q := 25) ?_
        refine g_bipush C (nI 6) dX0_lay_25 (by decide) (q := 27) rfl ?_
        refine g_iast C 8 0 (wC cI cJ cZ a hA nA (upd f k (nI 0)) (upd g k (nI 6)) st sp (nI z) le nu ev od fp ti wc wu sc pv su sd (nI t)) dX0_lay_27 rfl rfl (vp_in_nI (by omega) (by decide)) (by rw [nI_clamp (by omega)]; rfl) (q := 28) rfl ?_
        refine g_iinc C (z := 0) (nI (k + 1)) [(2, .int (nI (k + 1))), (0, .ref (a 1)), (1, .int (nI z))] dX0_lay_28 rfl (nI_add k 1) (by decide) rfl (q := 31) rfl ?_
        refine g_goto C (q := 7) dX0_lay_31 (by decide) ?_
        exact ih_7 (k + 1) (upd f k (nI 0)) (upd g k (nI 6)) (by first | assumption | omega) (by intro p hp; by_cases e : p = k; (subst e; exact pk_us); (rw [pk_un e]; exact hf p (by omega))) (by intro p hp; by_cases e : p = k; (subst e; exact pk_us); (rw [pk_un e]; exact hg p (by omega))) (by omega)
  exact lp_7 _ 0 gr li (by first | assumption | omega) (fun p h => absurd h (Nat.not_lt_zero _)) (fun p h => absurd h (Nat.not_lt_zero _)) (Nat.lt_succ_self _)
end
section
/-! the class: what its simple calls answer -/
abbrev hcP (n : Nat) (k : Int32) : Prop := ¬ k < 0 ∧ ¬ nI n ≤ k
abbrev hpP (n : Nat) (k : Int32) : Prop := ¬ k < 0 ∧ ¬ nI n < k
abbrev spP (x : Int32) : Prop := ¬ x < 0 ∧ ¬ nI 6 < x
abbrev tmP (x : Int32) : Prop := ¬ x < 0 ∧ ¬ nI 1000 < x
theorem hcP_of {n : Nat} {k : Int32} (h : hcP n k) (hn : n < 2 ^ 31) : ∃ j : Nat, j < n ∧ k = nI j := by
  rcases pk_ix k hn with q | q | q
  · exact absurd q h.1
  · exact absurd q h.2
  · exact q
theorem hcP_nI {n k : Nat} (hn : n < 2 ^ 31) (h : k < n) : hcP n (nI k) := ⟨nI_pos (by omega), nI_ge h hn⟩
theorem hpP_of {n : Nat} {k : Int32} (h : hpP n k) (hn : n < 2 ^ 31) : ∃ j : Nat, j ≤ n ∧ k = nI j := nI_of2 (nI_toInt hn) h.1 (Int32.not_lt.mp h.2)
theorem spP_of {x : Int32} (h : spP x) : ∃ v : Nat, v ≤ 6 ∧ x = nI v := nI_of2 (nI_toInt (by decide)) h.1 (Int32.not_lt.mp h.2)
theorem tmP_of {x : Int32} (h : tmP x) : ∃ v : Nat, v ≤ 1000 ∧ x = nI v := nI_of2 (nI_toInt (by decide)) h.1 (Int32.not_lt.mp h.2)
def aSR (n : Nat) (k u v : Int32) : Int32 := if hcP n k then (if spP u ∧ spP v then nI 0 else -2) else -1
def aSt (F : Nat → Nat → Nat → Int32) (n : Nat) (k u v : Int32) : Int32 := if aSR n k u v = 0 then F k.toNatClampNeg u.toNatClampNeg v.toNatClampNeg else aSR n k u v
theorem aSR_0 {n : Nat} {k u v : Int32} (h : aSR n k u v = 0) (hn : n ≤ 16) : ∃ a b c : Nat, a < n ∧ b ≤ 6 ∧ c ≤ 6 ∧ k = nI a ∧ u = nI b ∧ v = nI c := by
  unfold aSR at h
  by_cases h1 : hcP n k
  · rw [if_pos h1] at h
    by_cases h2 : spP u ∧ spP v
    · obtain ⟨a, ha, e1⟩ := hcP_of h1 (by omega)
      obtain ⟨b, hb, e2⟩ := spP_of h2.1
      obtain ⟨c, hc, e3⟩ := spP_of h2.2
      exact ⟨a, b, c, ha, hb, hc, e1, e2, e3⟩
    · rw [if_neg h2] at h; exact absurd h (by decide)
  · rw [if_neg h1] at h; exact absurd h (by decide)
theorem aSt_1 {F : Nat → Nat → Nat → Int32} {n k u v : Nat} (h : aSR n (nI k) (nI u) (nI v) = 0) (hk : k < 16) (hu : u ≤ 6) (hv : v ≤ 6) {x : Int32} (e : x = F k u v) : x = aSt F n (nI k) (nI u) (nI v) := by
  rw [aSt, if_pos h, nI_clamp (by omega), nI_clamp (by omega), nI_clamp (by omega), e]
def aDR (m : Nat) (k t : Int32) : Int32 := if hcP m k then (if tmP t then nI 0 else -2) else -1
theorem aDR_0 {m : Nat} {k t : Int32} (h : aDR m k t = 0) (hm : m ≤ 16) : ∃ a b : Nat, a < m ∧ b ≤ 1000 ∧ k = nI a ∧ t = nI b := by
  unfold aDR at h
  by_cases h1 : hcP m k
  · rw [if_pos h1] at h
    by_cases h2 : tmP t
    · obtain ⟨a, ha, e1⟩ := hcP_of h1 (by omega)
      obtain ⟨b, hb, e2⟩ := tmP_of h2
      exact ⟨a, b, ha, hb, e1, e2⟩
    · rw [if_neg h2] at h; exact absurd h (by decide)
  · rw [if_neg h1] at h; exact absurd h (by decide)
def aTm (gr li nu : Nat → Int32) (k u v : Nat) : Int32 := if flN gr li nu k u v = 0 then nI (tmN u v) else -1000000
def aPw (gr li nu : Nat → Int32) (k u v : Nat) : Int32 := if flN gr li nu k u v = 0 then pwN gr nu k u v else -1000000
def aHas (nu : Nat → Int32) (k : Int32) : Int32 := if hcP 5 k then nu k.toNatClampNeg else -2
def aLeg (st : Nat → Int32) (n m : Nat) (k b : Int32) : Int32 := if hcP m k then nI (posOf st (k.toNatClampNeg + (if b = 0 then 0 else 1)) n) else -1
def aCount (n m t : Nat) (k : Int32) : Int32 := if k = nI 0 then nI n else if k = nI 1 then nI m else if k = nI 2 then nI t else -2
def aJudged (gr li nu st : Nat → Int32) (s : Nat → Nat) (t : Nat) (k : Int32) : Int32 := if k = nI 0 then sumI (lgT gr li nu s) (t - 1) else if k = nI 1 then sumI (lgP gr li nu s) (t - 1) else if k = nI 2 then sumI (lgF gr li nu s) (t - 1) else if k = nI 3 then ffU (lgF gr li nu s) (t - 1) else if k = nI 4 then sumI (lgS st s) t else -2
theorem tb_out {x : Int32} {n : Nat} (h : ∀ i, i < n → ¬ x = nI i) (hn : n < 2 ^ 31) : x.toInt < 0 ∨ ((n : Int) - 1) < x.toInt := by
  rcases Int.lt_or_le x.toInt 0 with q | q
  · exact Or.inl q
  · rcases Int.lt_or_le ((n : Int) - 1) x.toInt with r | r
    · exact Or.inr r
    · refine absurd ?_ (h x.toInt.toNat (by omega))
      apply Int32.toInt_inj.mp
      rw [nI_toInt (by omega)]
      omega
def aLog (n t : Nat) (sd : Nat → Int32) (v : Int32) : Int32 × (Nat → Int32) × Nat := if spP v then (if n < t then (-4, sd, t) else (nI (t + 1), upd sd t v, t + 1)) else (-2, sd, t)
abbrev okC (g v : Int32) : Prop := ¬ g < -4 ∧ ¬ nI 4 < g ∧ ¬ v < nI 1 ∧ ¬ nI 6 < v
def aCell (gr li : Nat → Int32) (n : Nat) (k g v : Int32) : Int32 × (Nat → Int32) × (Nat → Int32) := if hcP n k then (if okC g v then (li k.toNatClampNeg, upd gr k.toNatClampNeg g, upd li k.toNatClampNeg v) else (-2, gr, li)) else (-1, gr, li)
def aStop (st : Nat → Int32) (n : Nat) (k v : Int32) : Int32 × (Nat → Int32) := if hpP n k then (if k = nI 0 ∨ k = nI n then (-3, st) else (nI (cnt (upd st k.toNatClampNeg v) (n + 1) - 1), upd st k.toNatClampNeg v)) else (-1, st)
abbrev lnP (k : Int32) : Prop := ¬ k < nI 1 ∧ ¬ nI 16 < k
theorem lnP_of {k : Int32} (h : lnP k) : ∃ z : Nat, 1 ≤ z ∧ z ≤ 16 ∧ k = nI z := by
  obtain ⟨z, hz, e⟩ := nI_of2 (x := k) (M := nI 16) (n := 16) (nI_toInt (by decide)) (fun q => h.1 (Int32.lt_trans q (by decide))) (Int32.not_lt.mp h.2)
  subst e
  refine ⟨z, ?_, hz, rfl⟩
  have := h.1
  rw [nI_ltI (by omega) (by decide)] at this
  omega
theorem upd_01 {st : Nat → Int32} {k : Nat} {v : Int32} (h : ∀ j, st j = nI 0 ∨ st j = nI 1) (hv : v = nI 0 ∨ v = nI 1) : ∀ j, upd st k v j = nI 0 ∨ upd st k v j = nI 1 := by
  intro j
  by_cases e : j = k
  · subst e; rw [pk_us]; exact hv
  · rw [pk_un e]; exact h j
set_option maxHeartbeats 4000000 in
set_option maxRecDepth 100000 in
theorem c_X6_isSpeed (l : Launch) (D : va_G) (cI cJ cZ : ClassId) (a : Nat → Nat) (hA nA : Nat) (gr li st sp : Nat → Int32) (n m : Nat) (nu : Nat → Int32) (ev od : Nat → Int64) (fp ti : Nat → Int32) (wc : Nat → Int64) (wu : Int32) (sc pv : Nat → Int64) (su : Int32) (sd : Nat → Int32) (t : Nat) (x : Int32) : Met l yX6_isSpeed wsX6_isSpeed { frames := 0, cells := 0, slots := 0, locals := 0 } (gPc D (tyT cI cJ cZ) (wA a hA nA) FT (wC cI cJ cZ a hA nA gr li st sp (nI n) (nI m) nu ev od fp ti wc wu sc pv su sd (nI t)) [.int x]) (vp_Si (fun r => r = if spP x then nI 1 else nI 0)) 0 0 (fun _ => False) := by
  refine gs_si (cc := cX6_isSpeed) (nL := 1) (ty := .boolean) (by decide) rfl (Nat.le_of_ble_eq_true rfl) (fun G C hret => ?_)
  show G 0 0 (wC cI cJ cZ a hA nA gr li st sp (nI n) (nI m) nu ev od fp ti wc wu sc pv su sd (nI t)) [(0, .int x)] 0 []
  refine g_iload_n C 0 dX6_isSpeed_0 rfl rfl rfl (q := 1) ?_
  refine g_if_lt C (t := 14) dX6_isSpeed_1 (by decide) (q := 4) rfl (fun c_1 => ?_) (fun c_1 => ?_)
  · refine g_iconst C (nI 0) dX6_isSpeed_14 (by decide) (q := 15) rfl ?_
    exact hret _ 15 _ _ dX6_isSpeed_15 (by decide) ((if_neg (by first | assumption | (refine ⟨?_, ?_⟩ <;> assumption) | (refine ⟨?_, ?_, ?_⟩ <;> assumption) | omega | simp_all)).symm)
  · refine g_iload_n C 0 dX6_isSpeed_4 rfl rfl rfl (q := 5) ?_
    refine g_bipush C (nI 6) dX6_isSpeed_5 (by decide) (q := 7) rfl ?_
    refine g_icmp_gt C (t := 14) dX6_isSpeed_7 (by decide) (q := 10) rfl (fun c_7 => ?_) (fun c_7 => ?_)
    · refine g_iconst C (nI 0) dX6_isSpeed_14 (by decide) (q := 15) rfl ?_
      exact hret _ 15 _ _ dX6_isSpeed_15 (by decide) ((if_neg (by first | assumption | (refine ⟨?_, ?_⟩ <;> assumption) | (refine ⟨?_, ?_, ?_⟩ <;> assumption) | omega | simp_all)).symm)
    · refine g_iconst C (nI 1) dX6_isSpeed_10 (by decide) (q := 11) rfl ?_
      refine g_goto C (q := 15) dX6_isSpeed_11 (by decide) ?_
      exact hret _ 15 _ _ dX6_isSpeed_15 (by decide) ((if_pos (by first | assumption | (refine ⟨?_, ?_⟩ <;> assumption) | (refine ⟨?_, ?_, ?_⟩ <;> assumption) | omega | simp_all)).symm)
set_option maxHeartbeats 4000000 in
set_option maxRecDepth 100000 in
theorem c_X6_isTime (l : Launch) (D : va_G) (cI cJ cZ : ClassId) (a : Nat → Nat) (hA nA : Nat) (gr li st sp : Nat → Int32) (n m : Nat) (nu : Nat → Int32) (ev od : Nat → Int64) (fp ti : Nat → Int32) (wc : Nat → Int64) (wu : Int32) (sc pv : Nat → Int64) (su : Int32) (sd : Nat → Int32) (t : Nat) (x : Int32) : Met l yX6_isTime wsX6_isTime { frames := 0, cells := 0, slots := 0, locals := 0 } (gPc D (tyT cI cJ cZ) (wA a hA nA) FT (wC cI cJ cZ a hA nA gr li st sp (nI n) (nI m) nu ev od fp ti wc wu sc pv su sd (nI t)) [.int x]) (vp_Si (fun r => r = if tmP x then nI 1 else nI 0)) 0 0 (fun _ => False) := by
  refine gs_si (cc := cX6_isTime) (nL := 1) (ty := .boolean) (by decide) rfl (Nat.le_of_ble_eq_true rfl) (fun G C hret => ?_)
  show G 0 0 (wC cI cJ cZ a hA nA gr li st sp (nI n) (nI m) nu ev od fp ti wc wu sc pv su sd (nI t)) [(0, .int x)] 0 []
  refine g_iload_n C 0 dX6_isTime_0 rfl rfl rfl (q := 1) ?_
  refine g_if_lt C (t := 15) dX6_isTime_1 (by decide) (q := 4) rfl (fun c_1 => ?_) (fun c_1 => ?_)
  · refine g_iconst C (nI 0) dX6_isTime_15 (by decide) (q := 16) rfl ?_
    exact hret _ 16 _ _ dX6_isTime_16 (by decide) ((if_neg (by first | assumption | (refine ⟨?_, ?_⟩ <;> assumption) | (refine ⟨?_, ?_, ?_⟩ <;> assumption) | omega | simp_all)).symm)
  · refine g_iload_n C 0 dX6_isTime_4 rfl rfl rfl (q := 5) ?_
    refine g_sipush C (nI 1000) dX6_isTime_5 (by decide) (q := 8) rfl ?_
    refine g_icmp_gt C (t := 15) dX6_isTime_8 (by decide) (q := 11) rfl (fun c_8 => ?_) (fun c_8 => ?_)
    · refine g_iconst C (nI 0) dX6_isTime_15 (by decide) (q := 16) rfl ?_
      exact hret _ 16 _ _ dX6_isTime_16 (by decide) ((if_neg (by first | assumption | (refine ⟨?_, ?_⟩ <;> assumption) | (refine ⟨?_, ?_, ?_⟩ <;> assumption) | omega | simp_all)).symm)
    · refine g_iconst C (nI 1) dX6_isTime_11 (by decide) (q := 12) rfl ?_
      refine g_goto C (q := 16) dX6_isTime_12 (by decide) ?_
      exact hret _ 16 _ _ dX6_isTime_16 (by decide) ((if_pos (by first | assumption | (refine ⟨?_, ?_⟩ <;> assumption) | (refine ⟨?_, ?_, ?_⟩ <;> assumption) | omega | simp_all)).symm)
set_option maxHeartbeats 4000000 in
set_option maxRecDepth 100000 in
theorem c_X6_forgetChoices (l : Launch) (D : va_G) (cI cJ cZ : ClassId) (a : Nat → Nat) (hA nA : Nat) (gr li st sp : Nat → Int32) (n m : Nat) (nu : Nat → Int32) (ev od : Nat → Int64) (fp ti : Nat → Int32) (wc : Nat → Int64) (wu : Int32) (sc pv : Nat → Int64) (su : Int32) (sd : Nat → Int32) (t : Nat) : Met l yX6_forgetChoices wsX6_forgetChoices { frames := 1, cells := 0, slots := 0, locals := 20 } (gPc D (tyT cI cJ cZ) (wA a hA nA) FT (wC cI cJ cZ a hA nA gr li st sp (nI n) (nI m) nu ev od fp ti wc wu sc pv su sd (nI t)) [.ref (a 0)]) (va_Qv (fun (u : Unit) => True) (fun u tS => va_P D vwCl ((fun (u : Unit) => wC cI cJ cZ a hA nA gr li st sp (nI n) (nI m) nu ev od fp ti wc (nI 0) sc pv (nI 0) sd (nI t)) u) tS.heap ∧ va_D (wA a hA nA) ((fun (u : Unit) => wC cI cJ cZ a hA nA gr li st sp (nI n) (nI m) nu ev od fp ti wc (nI 0) sc pv (nI 0) sd (nI t)) u)) (wA a hA nA)) 0 0 (wA a hA nA) := by
  refine gs_qv (cc := cX6_forgetChoices) (nL := 1) (W' := fun (u : Unit) => wC cI cJ cZ a hA nA gr li st sp (nI n) (nI m) nu ev od fp ti wc (nI 0) sc pv (nI 0) sd (nI t)) (by decide) rfl (Nat.le_of_ble_eq_true rfl) (fun G C hret => ?_)
  show G 0 0 (wC cI cJ cZ a hA nA gr li st sp (nI n) (nI m) nu ev od fp ti wc wu sc pv su sd (nI t)) [(0, .ref (a 0))] 0 []
  refine g_aload_n C 0 dX6_forgetChoices_0 rfl rfl rfl (q := 1) ?_
  refine g_get C 0 3 dX6_forgetChoices_1 (Cn := RX6) (T := TX6) (N := 6) (fun _ h => List.mem_cons_of_mem _ (List.mem_append_left _ (List.mem_append_left _ (List.mem_append_right _ h)))) rfl rfl (by decide) (List.mem_cons_of_mem _ (List.mem_append_left _ (List.mem_append_left _ (List.mem_append_left _ (List.mem_of_getElem? (i := 0) rfl))))) rfl (q := 4) rfl ?_
  refine gcV_qv C (n := 0) (As := []) (st := []) 4 (fun h => h) (fun _ h => h) dX6_forgetChoices_4 rfl rfl gX6_forgetChoices_X5_forget (c_X5_forget l D cI cJ cZ a hA nA gr li st sp n m nu ev od fp ti wc wu sc pv su sd t) rfl rfl rfl (by decide +kernel) ⟨Nat.le_of_ble_eq_true rfl, Nat.le_of_ble_eq_true rfl⟩ rfl rfl (Nat.le_of_ble_eq_true rfl) FT_b FT_h ⟨Nat.le_of_ble_eq_true rfl, Nat.le_of_ble_eq_true rfl⟩ (q := 7) rfl (fun u_4 h_4 => ?_)
  refine g_aload_n C 0 dX6_forgetChoices_7 rfl rfl rfl (q := 8) ?_
  refine g_get C 0 4 dX6_forgetChoices_8 (Cn := RX6) (T := TX6) (N := 6) (fun _ h => List.mem_cons_of_mem _ (List.mem_append_left _ (List.mem_append_left _ (List.mem_append_right _ h)))) rfl rfl (by decide) (List.mem_cons_of_mem _ (List.mem_append_left _ (List.mem_append_left _ (List.mem_append_left _ (List.mem_of_getElem? (i := 1) rfl))))) rfl (q := 11) rfl ?_
  refine gcV_qv C (n := 0) (As := []) (st := []) 5 (fun h => h) (fun _ h => h) dX6_forgetChoices_11 rfl rfl gX6_forgetChoices_X2_forget (c_X2_forget l D cI cJ cZ a hA nA gr li st sp n m nu ev od fp ti wc (nI 0) sc pv su sd t) rfl rfl rfl (by decide +kernel) ⟨Nat.le_of_ble_eq_true rfl, Nat.le_of_ble_eq_true rfl⟩ rfl rfl (Nat.le_of_ble_eq_true rfl) FT_b FT_h ⟨Nat.le_of_ble_eq_true rfl, Nat.le_of_ble_eq_true rfl⟩ (q := 14) rfl (fun u_11 h_11 => ?_)
  exact hret () 14 _ dX6_forgetChoices_14 (trivial)
set_option maxHeartbeats 4000000 in
set_option maxRecDepth 100000 in
theorem c_X6_stepRefusal (l : Launch) (D : va_G) (cI cJ cZ : ClassId) (a : Nat → Nat) (hA nA : Nat) (gr li st sp : Nat → Int32) (n m : Nat) (nu : Nat → Int32) (ev od : Nat → Int64) (fp ti : Nat → Int32) (wc : Nat → Int64) (wu : Int32) (sc pv : Nat → Int64) (su : Int32) (sd : Nat → Int32) (t : Nat) (k u v : Int32) : Met l yX6_stepRefusal wsX6_stepRefusal { frames := 1, cells := 0, slots := 0, locals := 21 } (gPc D (tyT cI cJ cZ) (wA a hA nA) FT (wC cI cJ cZ a hA nA gr li st sp (nI n) (nI m) nu ev od fp ti wc wu sc pv su sd (nI t)) [.ref (a 0), .int k, .int u, .int v]) (vp_Si (fun r => r = aSR n k u v)) 0 0 (fun _ => False) := by
  refine gs_si (cc := cX6_stepRefusal) (nL := 4) (ty := .int) (by decide) rfl (Nat.le_of_ble_eq_true rfl) (fun G C hret => ?_)
  show G 0 0 (wC cI cJ cZ a hA nA gr li st sp (nI n) (nI m) nu ev od fp ti wc wu sc pv su sd (nI t)) [(0, .ref (a 0)), (1, .int k), (2, .int u), (3, .int v)] 0 []
  refine g_aload_n C 0 dX6_stepRefusal_0 rfl rfl rfl (q := 1) ?_
  refine g_get C 0 0 dX6_stepRefusal_1 (Cn := RX6) (T := TX6) (N := 6) (fun _ h => List.mem_cons_of_mem _ (List.mem_append_left _ (List.mem_append_right _ h))) rfl rfl (by decide) (List.mem_cons_of_mem _ (List.mem_append_left _ (List.mem_append_left _ (List.mem_of_getElem? (i := 0) rfl)))) rfl (q := 4) rfl ?_
  refine g_iload_n C 1 dX6_stepRefusal_4 rfl rfl rfl (q := 5) ?_
  refine gcV_si C (n := 1) (As := [.int k]) (st := []) 1 (fun h => h) dX6_stepRefusal_5 rfl rfl gX6_stepRefusal_X0_hasCell (c_X0_hasCell l D cI cJ cZ a hA nA gr li st sp n m nu ev od fp ti wc wu sc pv su sd t k) rfl rfl rfl (by decide +kernel) ⟨Nat.le_of_ble_eq_true rfl, Nat.le_of_ble_eq_true rfl⟩ rfl rfl (Nat.le_of_ble_eq_true rfl) FT_b FT_h ⟨Nat.le_of_ble_eq_true rfl, Nat.le_of_ble_eq_true rfl⟩ (q := 8) rfl (fun r_5 h_5 => ?_)
  subst h_5
  refine g_if_ne C (t := 13) dX6_stepRefusal_8 (by decide) (q := 11) rfl (fun c_8 => ?_) (fun c_8 => ?_)
  · replace c_8 := ite_n0 c_8
    refine g_iload_n C 2 dX6_stepRefusal_13 rfl rfl rfl (q := 14) ?_
    refine gcS_si C (n := 1) (As := [.int u]) (st := []) (fun h => h) dX6_stepRefusal_14 gX6_stepRefusal_X6_isSpeed (c_X6_isSpeed l D cI cJ cZ a hA nA gr li st sp n m nu ev od fp ti wc wu sc pv su sd t u) rfl rfl rfl (by decide +kernel) ⟨Nat.le_of_ble_eq_true rfl, Nat.le_of_ble_eq_true rfl⟩ rfl rfl (Nat.le_of_ble_eq_true rfl) FT_b FT_h ⟨Nat.le_of_ble_eq_true rfl, Nat.le_of_ble_eq_true rfl⟩ (q := 17) rfl (fun r_14 h_14 => ?_)
    subst h_14
    refine g_if_eq C (t := 31) dX6_stepRefusal_17 (by decide) (q := 20) rfl (fun c_17 => ?_) (fun c_17 => ?_)
    · replace c_17 := ite_e0 c_17
      refine g_bipush C (-2) dX6_stepRefusal_31 (by decide) (q := 33) rfl ?_
      exact hret _ 33 _ _ dX6_stepRefusal_33 rfl (by first | (rw [aSR, if_pos c_8, if_neg (show ¬ (spP u ∧ spP v) from fun h => c_17 h.1)]) | (rw [aSR, if_pos c_8, if_neg (show ¬ (spP u ∧ spP v) from fun h => c_24 h.2)]) | (rw [aSR, if_pos c_8, if_pos (show spP u ∧ spP v from ⟨c_17, c_24⟩)]))
    · replace c_17 := ite_n0 c_17
      refine g_iload_n C 3 dX6_stepRefusal_20 rfl rfl rfl (q := 21) ?_
      refine gcS_si C (n := 1) (As := [.int v]) (st := []) (fun h => h) dX6_stepRefusal_21 gX6_stepRefusal_X6_isSpeed (c_X6_isSpeed l D cI cJ cZ a hA nA gr li st sp n m nu ev od fp ti wc wu sc pv su sd t v) rfl rfl rfl (by decide +kernel) ⟨Nat.le_of_ble_eq_true rfl, Nat.le_of_ble_eq_true rfl⟩ rfl rfl (Nat.le_of_ble_eq_true rfl) FT_b FT_h ⟨Nat.le_of_ble_eq_true rfl, Nat.le_of_ble_eq_true rfl⟩ (q := 24) rfl (fun r_21 h_21 => ?_)
      subst h_21
      refine g_if_eq C (t := 31) dX6_stepRefusal_24 (by decide) (q := 27) rfl (fun c_24 => ?_) (fun c_24 => ?_)
      · replace c_24 := ite_e0 c_24
        refine g_bipush C (-2) dX6_stepRefusal_31 (by decide) (q := 33) rfl ?_
        exact hret _ 33 _ _ dX6_stepRefusal_33 rfl (by first | (rw [aSR, if_pos c_8, if_neg (show ¬ (spP u ∧ spP v) from fun h => c_17 h.1)]) | (rw [aSR, if_pos c_8, if_neg (show ¬ (spP u ∧ spP v) from fun h => c_24 h.2)]) | (rw [aSR, if_pos c_8, if_pos (show spP u ∧ spP v from ⟨c_17, c_24⟩)]))
      · replace c_24 := ite_n0 c_24
        refine g_iconst C (nI 0) dX6_stepRefusal_27 (by decide) (q := 28) rfl ?_
        refine g_goto C (q := 33) dX6_stepRefusal_28 (by decide) ?_
        exact hret _ 33 _ _ dX6_stepRefusal_33 rfl (by first | (rw [aSR, if_pos c_8, if_neg (show ¬ (spP u ∧ spP v) from fun h => c_17 h.1)]) | (rw [aSR, if_pos c_8, if_neg (show ¬ (spP u ∧ spP v) from fun h => c_24 h.2)]) | (rw [aSR, if_pos c_8, if_pos (show spP u ∧ spP v from ⟨c_17, c_24⟩)]))
  · replace c_8 := ite_e0 c_8
    refine g_iconst C (-1) dX6_stepRefusal_11 (by decide) (q := 12) rfl ?_
    exact hret _ 12 _ _ dX6_stepRefusal_12 rfl (by rw [aSR, if_neg c_8])
set_option maxHeartbeats 4000000 in
set_option maxRecDepth 100000 in
theorem c_X6_driveRefusal (l : Launch) (D : va_G) (cI cJ cZ : ClassId) (a : Nat → Nat) (hA nA : Nat) (gr li st sp : Nat → Int32) (n m : Nat) (nu : Nat → Int32) (ev od : Nat → Int64) (fp ti : Nat → Int32) (wc : Nat → Int64) (wu : Int32) (sc pv : Nat → Int64) (su : Int32) (sd : Nat → Int32) (t : Nat) (k z : Int32) : Met l yX6_driveRefusal wsX6_driveRefusal { frames := 1, cells := 0, slots := 0, locals := 21 } (gPc D (tyT cI cJ cZ) (wA a hA nA) FT (wC cI cJ cZ a hA nA gr li st sp (nI n) (nI m) nu ev od fp ti wc wu sc pv su sd (nI t)) [.ref (a 0), .int k, .int z]) (vp_Si (fun r => r = aDR m k z)) 0 0 (fun _ => False) := by
  refine gs_si (cc := cX6_driveRefusal) (nL := 3) (ty := .int) (by decide) rfl (Nat.le_of_ble_eq_true rfl) (fun G C hret => ?_)
  show G 0 0 (wC cI cJ cZ a hA nA gr li st sp (nI n) (nI m) nu ev od fp ti wc wu sc pv su sd (nI t)) [(0, .ref (a 0)), (1, .int k), (2, .int z)] 0 []
  refine g_aload_n C 0 dX6_driveRefusal_0 rfl rfl rfl (q := 1) ?_
  refine g_get C 0 0 dX6_driveRefusal_1 (Cn := RX6) (T := TX6) (N := 6) (fun _ h => List.mem_cons_of_mem _ (List.mem_append_left _ (List.mem_append_right _ h))) rfl rfl (by decide) (List.mem_cons_of_mem _ (List.mem_append_left _ (List.mem_append_left _ (List.mem_of_getElem? (i := 0) rfl)))) rfl (q := 4) rfl ?_
  refine g_iload_n C 1 dX6_driveRefusal_4 rfl rfl rfl (q := 5) ?_
  refine gcV_si C (n := 1) (As := [.int k]) (st := []) 1 (fun h => h) dX6_driveRefusal_5 rfl rfl gX6_driveRefusal_X0_hasLeg (c_X0_hasLeg l D cI cJ cZ a hA nA gr li st sp n m nu ev od fp ti wc wu sc pv su sd t k) rfl rfl rfl (by decide +kernel) ⟨Nat.le_of_ble_eq_true rfl, Nat.le_of_ble_eq_true rfl⟩ rfl rfl (Nat.le_of_ble_eq_true rfl) FT_b FT_h ⟨Nat.le_of_ble_eq_true rfl, Nat.le_of_ble_eq_true rfl⟩ (q := 8) rfl (fun r_5 h_5 => ?_)
  subst h_5
  refine g_if_ne C (t := 13) dX6_driveRefusal_8 (by decide) (q := 11) rfl (fun c_8 => ?_) (fun c_8 => ?_)
  · replace c_8 := ite_n0 c_8
    refine g_iload_n C 2 dX6_driveRefusal_13 rfl rfl rfl (q := 14) ?_
    refine gcS_si C (n := 1) (As := [.int z]) (st := []) (fun h => h) dX6_driveRefusal_14 gX6_driveRefusal_X6_isTime (c_X6_isTime l D cI cJ cZ a hA nA gr li st sp n m nu ev od fp ti wc wu sc pv su sd t z) rfl rfl rfl (by decide +kernel) ⟨Nat.le_of_ble_eq_true rfl, Nat.le_of_ble_eq_true rfl⟩ rfl rfl (Nat.le_of_ble_eq_true rfl) FT_b FT_h ⟨Nat.le_of_ble_eq_true rfl, Nat.le_of_ble_eq_true rfl⟩ (q := 17) rfl (fun r_14 h_14 => ?_)
    subst h_14
    refine g_if_eq C (t := 24) dX6_driveRefusal_17 (by decide) (q := 20) rfl (fun c_17 => ?_) (fun c_17 => ?_)
    · replace c_17 := ite_e0 c_17
      refine g_bipush C (-2) dX6_driveRefusal_24 (by decide) (q := 26) rfl ?_
      exact hret _ 26 _ _ dX6_driveRefusal_26 rfl (by first | (rw [aDR, if_pos c_8, if_neg c_17]) | (rw [aDR, if_pos c_8, if_pos c_17]))
    · replace c_17 := ite_n0 c_17
      refine g_iconst C (nI 0) dX6_driveRefusal_20 (by decide) (q := 21) rfl ?_
      refine g_goto C (q := 26) dX6_driveRefusal_21 (by decide) ?_
      exact hret _ 26 _ _ dX6_driveRefusal_26 rfl (by first | (rw [aDR, if_pos c_8, if_neg c_17]) | (rw [aDR, if_pos c_8, if_pos c_17]))
  · replace c_8 := ite_e0 c_8
    refine g_iconst C (-1) dX6_driveRefusal_11 (by decide) (q := 12) rfl ?_
    exact hret _ 12 _ _ dX6_driveRefusal_12 rfl (by rw [aDR, if_neg c_8])
set_option maxHeartbeats 4000000 in
set_option maxRecDepth 100000 in
theorem c_X6_force (l : Launch) (D : va_G) (cI cJ cZ : ClassId) (a : Nat → Nat) (hA nA : Nat) (gr li st sp : Nat → Int32) (n m : Nat) (nu : Nat → Int32) (ev od : Nat → Int64) (fp ti : Nat → Int32) (wc : Nat → Int64) (wu : Int32) (sc pv : Nat → Int64) (su : Int32) (sd : Nat → Int32) (t : Nat) (k u v : Int32) (hn : n ≤ 16) : Met l yX6_force wsX6_force { frames := 2, cells := 0, slots := 0, locals := 45 } (gPc D (tyT cI cJ cZ) (wA a hA nA) FT (wC cI cJ cZ a hA nA gr li st sp (nI n) (nI m) nu ev od fp ti wc wu sc pv su sd (nI t)) [.ref (a 0), .int k, .int u, .int v]) (vp_Si (fun r => r = aSt (fcN gr nu) n k u v)) 0 0 (fun _ => False) := by
  refine gs_si (cc := cX6_force) (nL := 5) (ty := .int) (by decide) rfl (Nat.le_of_ble_eq_true rfl) (fun G C hret => ?_)
  show G 0 0 (wC cI cJ cZ a hA nA gr li st sp (nI n) (nI m) nu ev od fp ti wc wu sc pv su sd (nI t)) [(0, .ref (a 0)), (1, .int k), (2, .int u), (3, .int v)] 0 []
  refine g_aload_n C 0 dX6_force_0 rfl rfl rfl (q := 1) ?_
  refine g_iload_n C 1 dX6_force_1 rfl rfl rfl (q := 2) ?_
  refine g_iload_n C 2 dX6_force_2 rfl rfl rfl (q := 3) ?_
  refine g_iload_n C 3 dX6_force_3 rfl rfl rfl (q := 4) ?_
  refine gcV_si C (n := 3) (As := [.int k, .int u, .int v]) (st := []) 0 (fun h => h) dX6_force_4 rfl rfl gX6_force_X6_stepRefusal (c_X6_stepRefusal l D cI cJ cZ a hA nA gr li st sp n m nu ev od fp ti wc wu sc pv su sd t k u v) rfl rfl rfl (by decide +kernel) ⟨Nat.le_of_ble_eq_true rfl, Nat.le_of_ble_eq_true rfl⟩ rfl rfl (Nat.le_of_ble_eq_true rfl) FT_b FT_h ⟨Nat.le_of_ble_eq_true rfl, Nat.le_of_ble_eq_true rfl⟩ (q := 7) rfl (fun r_4 h_4 => ?_)
  subst h_4
  refine g_istore C [(4, .int (aSR n k u v)), (0, .ref (a 0)), (1, .int k), (2, .int u), (3, .int v)] dX6_force_7 (by decide) rfl (q := 9) rfl ?_
  refine g_iload C 0 dX6_force_9 rfl rfl (q := 11) ?_
  refine g_if_eq C (t := 19) dX6_force_11 (by decide) (q := 14) rfl (fun c_11 => ?_) (fun c_11 => ?_)
  · obtain ⟨k1, u1, v1, hk, hu, hv, rfl, rfl, rfl⟩ := aSR_0 c_11 hn
    refine g_aload_n C 1 dX6_force_19 rfl rfl rfl (q := 20) ?_
    refine g_get C 0 2 dX6_force_20 (Cn := RX6) (T := TX6) (N := 6) (fun _ h => List.mem_cons_of_mem _ (List.mem_append_left _ (List.mem_append_left _ (List.mem_append_left _ (List.mem_append_right _ h))))) rfl rfl (by decide) (List.mem_cons_of_mem _ (List.mem_append_left _ (List.mem_append_left _ (List.mem_append_left _ (List.mem_append_left _ (List.mem_of_getElem? (i := 0) rfl)))))) rfl (q := 23) rfl ?_
    refine g_iload_n C 2 dX6_force_23 rfl rfl rfl (q := 24) ?_
    refine g_iload_n C 3 dX6_force_24 rfl rfl rfl (q := 25) ?_
    refine g_iload_n C 4 dX6_force_25 rfl rfl rfl (q := 26) ?_
    refine gcV_si C (n := 3) (As := [.int (nI k1), .int (nI u1), .int (nI v1)]) (st := []) 3 (fun h => h) dX6_force_26 rfl rfl gX6_force_X3_forceOf (c_X3_forceOf l D cI cJ cZ a hA nA gr li st sp n m nu ev od fp ti wc wu sc pv su sd t k1 u1 v1 (by first | assumption | omega)) rfl rfl rfl (by decide +kernel) ⟨Nat.le_of_ble_eq_true rfl, Nat.le_of_ble_eq_true rfl⟩ rfl rfl (Nat.le_of_ble_eq_true rfl) FT_b FT_h ⟨Nat.le_of_ble_eq_true rfl, Nat.le_of_ble_eq_true rfl⟩ (q := 29) rfl (fun r_26 h_26 => ?_)
    subst h_26
    exact hret _ 29 _ _ dX6_force_29 rfl (by first | exact aSt_1 c_11 (by omega) hu hv rfl | rw [aSt, if_neg c_11])
  · refine g_iload C 0 dX6_force_14 rfl rfl (q := 16) ?_
    refine g_goto C (q := 29) dX6_force_16 (by decide) ?_
    exact hret _ 29 _ _ dX6_force_29 rfl (by first | exact aSt_1 c_11 (by omega) hu hv rfl | rw [aSt, if_neg c_11])
set_option maxHeartbeats 4000000 in
set_option maxRecDepth 100000 in
theorem c_X6_fault (l : Launch) (D : va_G) (cI cJ cZ : ClassId) (a : Nat → Nat) (hA nA : Nat) (gr li st sp : Nat → Int32) (n m : Nat) (nu : Nat → Int32) (ev od : Nat → Int64) (fp ti : Nat → Int32) (wc : Nat → Int64) (wu : Int32) (sc pv : Nat → Int64) (su : Int32) (sd : Nat → Int32) (t : Nat) (k u v : Int32) (hn : n ≤ 16) : Met l yX6_fault wsX6_fault { frames := 3, cells := 0, slots := 0, locals := 69 } (gPc D (tyT cI cJ cZ) (wA a hA nA) FT (wC cI cJ cZ a hA nA gr li st sp (nI n) (nI m) nu ev od fp ti wc wu sc pv su sd (nI t)) [.ref (a 0), .int k, .int u, .int v]) (vp_Si (fun r => r = aSt (flN gr li nu) n k u v)) 0 0 (fun _ => False) := by
  refine gs_si (cc := cX6_fault) (nL := 5) (ty := .int) (by decide) rfl (Nat.le_of_ble_eq_true rfl) (fun G C hret => ?_)
  show G 0 0 (wC cI cJ cZ a hA nA gr li st sp (nI n) (nI m) nu ev od fp ti wc wu sc pv su sd (nI t)) [(0, .ref (a 0)), (1, .int k), (2, .int u), (3, .int v)] 0 []
  refine g_aload_n C 0 dX6_fault_0 rfl rfl rfl (q := 1) ?_
  refine g_iload_n C 1 dX6_fault_1 rfl rfl rfl (q := 2) ?_
  refine g_iload_n C 2 dX6_fault_2 rfl rfl rfl (q := 3) ?_
  refine g_iload_n C 3 dX6_fault_3 rfl rfl rfl (q := 4) ?_
  refine gcV_si C (n := 3) (As := [.int k, .int u, .int v]) (st := []) 0 (fun h => h) dX6_fault_4 rfl rfl gX6_fault_X6_stepRefusal (c_X6_stepRefusal l D cI cJ cZ a hA nA gr li st sp n m nu ev od fp ti wc wu sc pv su sd t k u v) rfl rfl rfl (by decide +kernel) ⟨Nat.le_of_ble_eq_true rfl, Nat.le_of_ble_eq_true rfl⟩ rfl rfl (Nat.le_of_ble_eq_true rfl) FT_b FT_h ⟨Nat.le_of_ble_eq_true rfl, Nat.le_of_ble_eq_true rfl⟩ (q := 7) rfl (fun r_4 h_4 => ?_)
  subst h_4
  refine g_istore C [(4, .int (aSR n k u v)), (0, .ref (a 0)), (1, .int k), (2, .int u), (3, .int v)] dX6_fault_7 (by decide) rfl (q := 9) rfl ?_
  refine g_iload C 0 dX6_fault_9 rfl rfl (q := 11) ?_
  refine g_if_eq C (t := 19) dX6_fault_11 (by decide) (q := 14) rfl (fun c_11 => ?_) (fun c_11 => ?_)
  · obtain ⟨k1, u1, v1, hk, hu, hv, rfl, rfl, rfl⟩ := aSR_0 c_11 hn
    refine g_aload_n C 1 dX6_fault_19 rfl rfl rfl (q := 20) ?_
    refine g_get C 0 2 dX6_fault_20 (Cn := RX6) (T := TX6) (N := 6) (fun _ h => List.mem_cons_of_mem _ (List.mem_append_left _ (List.mem_append_left _ (List.mem_append_left _ (List.mem_append_right _ h))))) rfl rfl (by decide) (List.mem_cons_of_mem _ (List.mem_append_left _ (List.mem_append_left _ (List.mem_append_left _ (List.mem_append_left _ (List.mem_of_getElem? (i := 0) rfl)))))) rfl (q := 23) rfl ?_
    refine g_iload_n C 2 dX6_fault_23 rfl rfl rfl (q := 24) ?_
    refine g_iload_n C 3 dX6_fault_24 rfl rfl rfl (q := 25) ?_
    refine g_iload_n C 4 dX6_fault_25 rfl rfl rfl (q := 26) ?_
    refine gcV_si C (n := 3) (As := [.int (nI k1), .int (nI u1), .int (nI v1)]) (st := []) 3 (fun h => h) dX6_fault_26 rfl rfl gX6_fault_X3_faultOf (c_X3_faultOf l D cI cJ cZ a hA nA gr li st sp n m nu ev od fp ti wc wu sc pv su sd t k1 u1 v1 (by first | assumption | omega) (by first | assumption | omega) (by first | assumption | omega)) rfl rfl rfl (by decide +kernel) ⟨Nat.le_of_ble_eq_true rfl, Nat.le_of_ble_eq_true rfl⟩ rfl rfl (Nat.le_of_ble_eq_true rfl) FT_b FT_h ⟨Nat.le_of_ble_eq_true rfl, Nat.le_of_ble_eq_true rfl⟩ (q := 29) rfl (fun r_26 h_26 => ?_)
    subst h_26
    exact hret _ 29 _ _ dX6_fault_29 rfl (by first | exact aSt_1 c_11 (by omega) hu hv rfl | rw [aSt, if_neg c_11])
  · refine g_iload C 0 dX6_fault_14 rfl rfl (q := 16) ?_
    refine g_goto C (q := 29) dX6_fault_16 (by decide) ?_
    exact hret _ 29 _ _ dX6_fault_29 rfl (by first | exact aSt_1 c_11 (by omega) hu hv rfl | rw [aSt, if_neg c_11])
set_option maxHeartbeats 4000000 in
set_option maxRecDepth 100000 in
theorem c_X6_time (l : Launch) (D : va_G) (cI cJ cZ : ClassId) (a : Nat → Nat) (hA nA : Nat) (gr li st sp : Nat → Int32) (n m : Nat) (nu : Nat → Int32) (ev od : Nat → Int64) (fp ti : Nat → Int32) (wc : Nat → Int64) (wu : Int32) (sc pv : Nat → Int64) (su : Int32) (sd : Nat → Int32) (t : Nat) (k u v : Int32) (hn : n ≤ 16) : Met l yX6_time wsX6_time { frames := 3, cells := 0, slots := 0, locals := 69 } (gPc D (tyT cI cJ cZ) (wA a hA nA) FT (wC cI cJ cZ a hA nA gr li st sp (nI n) (nI m) nu ev od fp ti wc wu sc pv su sd (nI t)) [.ref (a 0), .int k, .int u, .int v]) (vp_Si (fun r => r = aSt (aTm gr li nu) n k u v)) 0 0 (fun _ => False) := by
  refine gs_si (cc := cX6_time) (nL := 5) (ty := .int) (by decide) rfl (Nat.le_of_ble_eq_true rfl) (fun G C hret => ?_)
  show G 0 0 (wC cI cJ cZ a hA nA gr li st sp (nI n) (nI m) nu ev od fp ti wc wu sc pv su sd (nI t)) [(0, .ref (a 0)), (1, .int k), (2, .int u), (3, .int v)] 0 []
  refine g_aload_n C 0 dX6_time_0 rfl rfl rfl (q := 1) ?_
  refine g_iload_n C 1 dX6_time_1 rfl rfl rfl (q := 2) ?_
  refine g_iload_n C 2 dX6_time_2 rfl rfl rfl (q := 3) ?_
  refine g_iload_n C 3 dX6_time_3 rfl rfl rfl (q := 4) ?_
  refine gcV_si C (n := 3) (As := [.int k, .int u, .int v]) (st := []) 0 (fun h => h) dX6_time_4 rfl rfl gX6_time_X6_stepRefusal (c_X6_stepRefusal l D cI cJ cZ a hA nA gr li st sp n m nu ev od fp ti wc wu sc pv su sd t k u v) rfl rfl rfl (by decide +kernel) ⟨Nat.le_of_ble_eq_true rfl, Nat.le_of_ble_eq_true rfl⟩ rfl rfl (Nat.le_of_ble_eq_true rfl) FT_b FT_h ⟨Nat.le_of_ble_eq_true rfl, Nat.le_of_ble_eq_true rfl⟩ (q := 7) rfl (fun r_4 h_4 => ?_)
  subst h_4
  refine g_istore C [(4, .int (aSR n k u v)), (0, .ref (a 0)), (1, .int k), (2, .int u), (3, .int v)] dX6_time_7 (by decide) rfl (q := 9) rfl ?_
  refine g_iload C 0 dX6_time_9 rfl rfl (q := 11) ?_
  refine g_if_eq C (t := 17) dX6_time_11 (by decide) (q := 14) rfl (fun c_11 => ?_) (fun c_11 => ?_)
  · obtain ⟨k1, u1, v1, hk, hu, hv, rfl, rfl, rfl⟩ := aSR_0 c_11 hn
    refine g_aload_n C 1 dX6_time_17 rfl rfl rfl (q := 18) ?_
    refine g_get C 0 2 dX6_time_18 (Cn := RX6) (T := TX6) (N := 6) (fun _ h => List.mem_cons_of_mem _ (List.mem_append_left _ (List.mem_append_left _ (List.mem_append_left _ (List.mem_append_right _ h))))) rfl rfl (by decide) (List.mem_cons_of_mem _ (List.mem_append_left _ (List.mem_append_left _ (List.mem_append_left _ (List.mem_append_left _ (List.mem_of_getElem? (i := 0) rfl)))))) rfl (q := 21) rfl ?_
    refine g_iload_n C 2 dX6_time_21 rfl rfl rfl (q := 22) ?_
    refine g_iload_n C 3 dX6_time_22 rfl rfl rfl (q := 23) ?_
    refine g_iload_n C 4 dX6_time_23 rfl rfl rfl (q := 24) ?_
    refine gcV_si C (n := 3) (As := [.int (nI k1), .int (nI u1), .int (nI v1)]) (st := []) 3 (fun h => h) dX6_time_24 rfl rfl gX6_time_X3_faultOf (c_X3_faultOf l D cI cJ cZ a hA nA gr li st sp n m nu ev od fp ti wc wu sc pv su sd t k1 u1 v1 (by first | assumption | omega) (by first | assumption | omega) (by first | assumption | omega)) rfl rfl rfl (by decide +kernel) ⟨Nat.le_of_ble_eq_true rfl, Nat.le_of_ble_eq_true rfl⟩ rfl rfl (Nat.le_of_ble_eq_true rfl) FT_b FT_h ⟨Nat.le_of_ble_eq_true rfl, Nat.le_of_ble_eq_true rfl⟩ (q := 27) rfl (fun r_24 h_24 => ?_)
    subst h_24
    refine g_if_eq C (t := 35) dX6_time_27 (by decide) (q := 30) rfl (fun c_27 => ?_) (fun c_27 => ?_)
    · refine g_aload_n C 1 dX6_time_35 rfl rfl rfl (q := 36) ?_
      refine g_get C 0 2 dX6_time_36 (Cn := RX6) (T := TX6) (N := 6) (fun _ h => List.mem_cons_of_mem _ (List.mem_append_left _ (List.mem_append_left _ (List.mem_append_left _ (List.mem_append_right _ h))))) rfl rfl (by decide) (List.mem_cons_of_mem _ (List.mem_append_left _ (List.mem_append_left _ (List.mem_append_left _ (List.mem_append_left _ (List.mem_of_getElem? (i := 0) rfl)))))) rfl (q := 39) rfl ?_
      refine g_iload_n C 3 dX6_time_39 rfl rfl rfl (q := 40) ?_
      refine g_iload_n C 4 dX6_time_40 rfl rfl rfl (q := 41) ?_
      refine gcV_si C (n := 2) (As := [.int (nI u1), .int (nI v1)]) (st := []) 3 (fun h => h) dX6_time_41 rfl rfl gX6_time_X3_timeOf (c_X3_timeOf l D cI cJ cZ a hA nA gr li st sp n m nu ev od fp ti wc wu sc pv su sd t u1 v1 (by first | assumption | omega) (by first | assumption | omega)) rfl rfl rfl (by decide +kernel) ⟨Nat.le_of_ble_eq_true rfl, Nat.le_of_ble_eq_true rfl⟩ rfl rfl (Nat.le_of_ble_eq_true rfl) FT_b FT_h ⟨Nat.le_of_ble_eq_true rfl, Nat.le_of_ble_eq_true rfl⟩ (q := 44) rfl (fun r_41 h_41 => ?_)
      subst h_41
      exact hret _ 44 _ _ dX6_time_44 rfl (aSt_1 c_11 (by omega) hu hv (by first | exact (if_neg c_27).symm | exact (if_pos c_27).symm))
    · refine g_ldc C (v := (-1000000)) dX6_time_30 (List.mem_cons_of_mem _ (List.mem_append_left _ (List.mem_append_left _ (List.mem_append_left _ (List.mem_append_left _ (List.mem_of_getElem? (i := 1) rfl)))))) (q := 32) rfl ?_
      refine g_goto C (q := 44) dX6_time_32 (by decide) ?_
      exact hret _ 44 _ _ dX6_time_44 rfl (aSt_1 c_11 (by omega) hu hv (by first | exact (if_neg c_27).symm | exact (if_pos c_27).symm))
  · refine g_iload C 0 dX6_time_14 rfl rfl (q := 16) ?_
    exact hret _ 16 _ _ dX6_time_16 rfl (by rw [aSt, if_neg c_11])
set_option maxHeartbeats 4000000 in
set_option maxRecDepth 100000 in
theorem c_X6_power (l : Launch) (D : va_G) (cI cJ cZ : ClassId) (a : Nat → Nat) (hA nA : Nat) (gr li st sp : Nat → Int32) (n m : Nat) (nu : Nat → Int32) (ev od : Nat → Int64) (fp ti : Nat → Int32) (wc : Nat → Int64) (wu : Int32) (sc pv : Nat → Int64) (su : Int32) (sd : Nat → Int32) (t : Nat) (k u v : Int32) (hn : n ≤ 16) : Met l yX6_power wsX6_power { frames := 3, cells := 0, slots := 0, locals := 69 } (gPc D (tyT cI cJ cZ) (wA a hA nA) FT (wC cI cJ cZ a hA nA gr li st sp (nI n) (nI m) nu ev od fp ti wc wu sc pv su sd (nI t)) [.ref (a 0), .int k, .int u, .int v]) (vp_Si (fun r => r = aSt (aPw gr li nu) n k u v)) 0 0 (fun _ => False) := by
  refine gs_si (cc := cX6_power) (nL := 5) (ty := .int) (by decide) rfl (Nat.le_of_ble_eq_true rfl) (fun G C hret => ?_)
  show G 0 0 (wC cI cJ cZ a hA nA gr li st sp (nI n) (nI m) nu ev od fp ti wc wu sc pv su sd (nI t)) [(0, .ref (a 0)), (1, .int k), (2, .int u), (3, .int v)] 0 []
  refine g_aload_n C 0 dX6_power_0 rfl rfl rfl (q := 1) ?_
  refine g_iload_n C 1 dX6_power_1 rfl rfl rfl (q := 2) ?_
  refine g_iload_n C 2 dX6_power_2 rfl rfl rfl (q := 3) ?_
  refine g_iload_n C 3 dX6_power_3 rfl rfl rfl (q := 4) ?_
  refine gcV_si C (n := 3) (As := [.int k, .int u, .int v]) (st := []) 0 (fun h => h) dX6_power_4 rfl rfl gX6_power_X6_stepRefusal (c_X6_stepRefusal l D cI cJ cZ a hA nA gr li st sp n m nu ev od fp ti wc wu sc pv su sd t k u v) rfl rfl rfl (by decide +kernel) ⟨Nat.le_of_ble_eq_true rfl, Nat.le_of_ble_eq_true rfl⟩ rfl rfl (Nat.le_of_ble_eq_true rfl) FT_b FT_h ⟨Nat.le_of_ble_eq_true rfl, Nat.le_of_ble_eq_true rfl⟩ (q := 7) rfl (fun r_4 h_4 => ?_)
  subst h_4
  refine g_istore C [(4, .int (aSR n k u v)), (0, .ref (a 0)), (1, .int k), (2, .int u), (3, .int v)] dX6_power_7 (by decide) rfl (q := 9) rfl ?_
  refine g_iload C 0 dX6_power_9 rfl rfl (q := 11) ?_
  refine g_if_eq C (t := 17) dX6_power_11 (by decide) (q := 14) rfl (fun c_11 => ?_) (fun c_11 => ?_)
  · obtain ⟨k1, u1, v1, hk, hu, hv, rfl, rfl, rfl⟩ := aSR_0 c_11 hn
    refine g_aload_n C 1 dX6_power_17 rfl rfl rfl (q := 18) ?_
    refine g_get C 0 2 dX6_power_18 (Cn := RX6) (T := TX6) (N := 6) (fun _ h => List.mem_cons_of_mem _ (List.mem_append_left _ (List.mem_append_left _ (List.mem_append_left _ (List.mem_append_right _ h))))) rfl rfl (by decide) (List.mem_cons_of_mem _ (List.mem_append_left _ (List.mem_append_left _ (List.mem_append_left _ (List.mem_append_left _ (List.mem_of_getElem? (i := 0) rfl)))))) rfl (q := 21) rfl ?_
    refine g_iload_n C 2 dX6_power_21 rfl rfl rfl (q := 22) ?_
    refine g_iload_n C 3 dX6_power_22 rfl rfl rfl (q := 23) ?_
    refine g_iload_n C 4 dX6_power_23 rfl rfl rfl (q := 24) ?_
    refine gcV_si C (n := 3) (As := [.int (nI k1), .int (nI u1), .int (nI v1)]) (st := []) 3 (fun h => h) dX6_power_24 rfl rfl gX6_power_X3_faultOf (c_X3_faultOf l D cI cJ cZ a hA nA gr li st sp n m nu ev od fp ti wc wu sc pv su sd t k1 u1 v1 (by first | assumption | omega) (by first | assumption | omega) (by first | assumption | omega)) rfl rfl rfl (by decide +kernel) ⟨Nat.le_of_ble_eq_true rfl, Nat.le_of_ble_eq_true rfl⟩ rfl rfl (Nat.le_of_ble_eq_true rfl) FT_b FT_h ⟨Nat.le_of_ble_eq_true rfl, Nat.le_of_ble_eq_true rfl⟩ (q := 27) rfl (fun r_24 h_24 => ?_)
    subst h_24
    refine g_if_eq C (t := 35) dX6_power_27 (by decide) (q := 30) rfl (fun c_27 => ?_) (fun c_27 => ?_)
    · refine g_aload_n C 1 dX6_power_35 rfl rfl rfl (q := 36) ?_
      refine g_get C 0 2 dX6_power_36 (Cn := RX6) (T := TX6) (N := 6) (fun _ h => List.mem_cons_of_mem _ (List.mem_append_left _ (List.mem_append_left _ (List.mem_append_left _ (List.mem_append_right _ h))))) rfl rfl (by decide) (List.mem_cons_of_mem _ (List.mem_append_left _ (List.mem_append_left _ (List.mem_append_left _ (List.mem_append_left _ (List.mem_of_getElem? (i := 0) rfl)))))) rfl (q := 39) rfl ?_
      refine g_iload_n C 2 dX6_power_39 rfl rfl rfl (q := 40) ?_
      refine g_iload_n C 3 dX6_power_40 rfl rfl rfl (q := 41) ?_
      refine g_iload_n C 4 dX6_power_41 rfl rfl rfl (q := 42) ?_
      refine gcV_si C (n := 3) (As := [.int (nI k1), .int (nI u1), .int (nI v1)]) (st := []) 3 (fun h => h) dX6_power_42 rfl rfl gX6_power_X3_powerOf (c_X3_powerOf l D cI cJ cZ a hA nA gr li st sp n m nu ev od fp ti wc wu sc pv su sd t k1 u1 v1 (by first | assumption | omega)) rfl rfl rfl (by decide +kernel) ⟨Nat.le_of_ble_eq_true rfl, Nat.le_of_ble_eq_true rfl⟩ rfl rfl (Nat.le_of_ble_eq_true rfl) FT_b FT_h ⟨Nat.le_of_ble_eq_true rfl, Nat.le_of_ble_eq_true rfl⟩ (q := 45) rfl (fun r_42 h_42 => ?_)
      subst h_42
      exact hret _ 45 _ _ dX6_power_45 rfl (aSt_1 c_11 (by omega) hu hv (by first | exact (if_neg c_27).symm | exact (if_pos c_27).symm))
    · refine g_ldc C (v := (-1000000)) dX6_power_30 (List.mem_cons_of_mem _ (List.mem_append_left _ (List.mem_append_left _ (List.mem_append_left _ (List.mem_append_left _ (List.mem_of_getElem? (i := 1) rfl)))))) (q := 32) rfl ?_
      refine g_goto C (q := 45) dX6_power_32 (by decide) ?_
      exact hret _ 45 _ _ dX6_power_45 rfl (aSt_1 c_11 (by omega) hu hv (by first | exact (if_neg c_27).symm | exact (if_pos c_27).symm))
  · refine g_iload C 0 dX6_power_14 rfl rfl (q := 16) ?_
    exact hret _ 16 _ _ dX6_power_16 rfl (by rw [aSt, if_neg c_11])
set_option maxHeartbeats 4000000 in
set_option maxRecDepth 100000 in
theorem c_X6_has (l : Launch) (D : va_G) (cI cJ cZ : ClassId) (a : Nat → Nat) (hA nA : Nat) (gr li st sp : Nat → Int32) (n m : Nat) (nu : Nat → Int32) (ev od : Nat → Int64) (fp ti : Nat → Int32) (wc : Nat → Int64) (wu : Int32) (sc pv : Nat → Int64) (su : Int32) (sd : Nat → Int32) (t : Nat) (k : Int32) : Met l yX6_has wsX6_has { frames := 1, cells := 0, slots := 0, locals := 21 } (gPc D (tyT cI cJ cZ) (wA a hA nA) FT (wC cI cJ cZ a hA nA gr li st sp (nI n) (nI m) nu ev od fp ti wc wu sc pv su sd (nI t)) [.ref (a 0), .int k]) (vp_Si (fun r => r = aHas nu k)) 0 0 (fun _ => False) := by
  refine gs_si (cc := cX6_has) (nL := 2) (ty := .int) (by decide) rfl (Nat.le_of_ble_eq_true rfl) (fun G C hret => ?_)
  show G 0 0 (wC cI cJ cZ a hA nA gr li st sp (nI n) (nI m) nu ev od fp ti wc wu sc pv su sd (nI t)) [(0, .ref (a 0)), (1, .int k)] 0 []
  refine g_aload_n C 0 dX6_has_0 rfl rfl rfl (q := 1) ?_
  refine g_get C 0 1 dX6_has_1 (Cn := RX6) (T := TX6) (N := 6) (fun _ h => List.mem_cons_of_mem _ (List.mem_append_left _ (List.mem_append_right _ h))) rfl rfl (by decide) (List.mem_cons_of_mem _ (List.mem_append_left _ (List.mem_append_left _ (List.mem_of_getElem? (i := 0) rfl)))) rfl (q := 4) rfl ?_
  refine g_iload_n C 1 dX6_has_4 rfl rfl rfl (q := 5) ?_
  refine gcV_si C (n := 1) (As := [.int k]) (st := []) 2 (fun h => h) dX6_has_5 rfl rfl gX6_has_X4_knows (c_X4_knows l D cI cJ cZ a hA nA gr li st sp n m nu ev od fp ti wc wu sc pv su sd t k) rfl rfl rfl (by decide +kernel) ⟨Nat.le_of_ble_eq_true rfl, Nat.le_of_ble_eq_true rfl⟩ rfl rfl (Nat.le_of_ble_eq_true rfl) FT_b FT_h ⟨Nat.le_of_ble_eq_true rfl, Nat.le_of_ble_eq_true rfl⟩ (q := 8) rfl (fun r_5 h_5 => ?_)
  subst h_5
  refine g_if_eq C (t := 22) dX6_has_8 (by decide) (q := 11) rfl (fun c_8 => ?_) (fun c_8 => ?_)
  · replace c_8 := ite_e0 c_8
    refine g_bipush C (-2) dX6_has_22 (by decide) (q := 24) rfl ?_
    exact hret _ 24 _ _ dX6_has_24 rfl (by first | (rw [aHas, if_neg c_8]) | (rw [aHas, if_pos c_8, nI_clamp (by omega)]))
  · replace c_8 := ite_n0 c_8
    obtain ⟨k1, hk, rfl⟩ := hcP_of c_8 (by decide)
    refine g_aload_n C 0 dX6_has_11 rfl rfl rfl (q := 12) ?_
    refine g_get C 0 1 dX6_has_12 (Cn := RX6) (T := TX6) (N := 6) (fun _ h => List.mem_cons_of_mem _ (List.mem_append_left _ (List.mem_append_right _ h))) rfl rfl (by decide) (List.mem_cons_of_mem _ (List.mem_append_left _ (List.mem_append_left _ (List.mem_of_getElem? (i := 0) rfl)))) rfl (q := 15) rfl ?_
    refine g_iload_n C 1 dX6_has_15 rfl rfl rfl (q := 16) ?_
    refine gcV_si C (n := 1) (As := [.int (nI k1)]) (st := []) 2 (fun h => h) dX6_has_16 rfl rfl gX6_has_X4_number (c_X4_number l D cI cJ cZ a hA nA gr li st sp n m nu ev od fp ti wc wu sc pv su sd t k1 (by first | assumption | omega)) rfl rfl rfl (by decide +kernel) ⟨Nat.le_of_ble_eq_true rfl, Nat.le_of_ble_eq_true rfl⟩ rfl rfl (Nat.le_of_ble_eq_true rfl) FT_b FT_h ⟨Nat.le_of_ble_eq_true rfl, Nat.le_of_ble_eq_true rfl⟩ (q := 19) rfl (fun r_16 h_16 => ?_)
    subst h_16
    refine g_goto C (q := 24) dX6_has_19 (by decide) ?_
    exact hret _ 24 _ _ dX6_has_24 rfl (by first | (rw [aHas, if_neg c_8]) | (rw [aHas, if_pos c_8, nI_clamp (by omega)]))
set_option maxHeartbeats 4000000 in
set_option maxRecDepth 100000 in
theorem c_X6_leg (l : Launch) (D : va_G) (cI cJ cZ : ClassId) (a : Nat → Nat) (hA nA : Nat) (gr li st sp : Nat → Int32) (n m : Nat) (nu : Nat → Int32) (ev od : Nat → Int64) (fp ti : Nat → Int32) (wc : Nat → Int64) (wu : Int32) (sc pv : Nat → Int64) (su : Int32) (sd : Nat → Int32) (t : Nat) (k v : Int32) (hL : LInv st sp n m) : Met l yX6_leg wsX6_leg { frames := 1, cells := 0, slots := 0, locals := 21 } (gPc D (tyT cI cJ cZ) (wA a hA nA) FT (wC cI cJ cZ a hA nA gr li st sp (nI n) (nI m) nu ev od fp ti wc wu sc pv su sd (nI t)) [.ref (a 0), .int k, .int v]) (vp_Si (fun r => r = aLeg st n m k v)) 0 0 (fun _ => False) := by
  refine gs_si (cc := cX6_leg) (nL := 3) (ty := .int) (by decide) rfl (Nat.le_of_ble_eq_true rfl) (fun G C hret => ?_)
  show G 0 0 (wC cI cJ cZ a hA nA gr li st sp (nI n) (nI m) nu ev od fp ti wc wu sc pv su sd (nI t)) [(0, .ref (a 0)), (1, .int k), (2, .int v)] 0 []
  have hn := hL.2.1
  have hmn := hL.m_le
  refine g_aload_n C 0 dX6_leg_0 rfl rfl rfl (q := 1) ?_
  refine g_get C 0 0 dX6_leg_1 (Cn := RX6) (T := TX6) (N := 6) (fun _ h => List.mem_cons_of_mem _ (List.mem_append_left _ (List.mem_append_right _ h))) rfl rfl (by decide) (List.mem_cons_of_mem _ (List.mem_append_left _ (List.mem_append_left _ (List.mem_of_getElem? (i := 0) rfl)))) rfl (q := 4) rfl ?_
  refine g_iload_n C 1 dX6_leg_4 rfl rfl rfl (q := 5) ?_
  refine gcV_si C (n := 1) (As := [.int k]) (st := []) 1 (fun h => h) dX6_leg_5 rfl rfl gX6_leg_X0_hasLeg (c_X0_hasLeg l D cI cJ cZ a hA nA gr li st sp n m nu ev od fp ti wc wu sc pv su sd t k) rfl rfl rfl (by decide +kernel) ⟨Nat.le_of_ble_eq_true rfl, Nat.le_of_ble_eq_true rfl⟩ rfl rfl (Nat.le_of_ble_eq_true rfl) FT_b FT_h ⟨Nat.le_of_ble_eq_true rfl, Nat.le_of_ble_eq_true rfl⟩ (q := 8) rfl (fun r_5 h_5 => ?_)
  subst h_5
  refine g_if_ne C (t := 13) dX6_leg_8 (by decide) (q := 11) rfl (fun c_8 => ?_) (fun c_8 => ?_)
  · replace c_8 := ite_n0 c_8
    obtain ⟨k1, hk, rfl⟩ := hcP_of c_8 (by omega)
    refine g_iload_n C 2 dX6_leg_13 rfl rfl rfl (q := 14) ?_
    refine g_if_eq C (t := 28) dX6_leg_14 (by decide) (q := 17) rfl (fun c_14 => ?_) (fun c_14 => ?_)
    · refine g_aload_n C 0 dX6_leg_28 rfl rfl rfl (q := 29) ?_
      refine g_get C 0 0 dX6_leg_29 (Cn := RX6) (T := TX6) (N := 6) (fun _ h => List.mem_cons_of_mem _ (List.mem_append_left _ (List.mem_append_right _ h))) rfl rfl (by decide) (List.mem_cons_of_mem _ (List.mem_append_left _ (List.mem_append_left _ (List.mem_of_getElem? (i := 0) rfl)))) rfl (q := 32) rfl ?_
      refine g_iload_n C 1 dX6_leg_32 rfl rfl rfl (q := 33) ?_
      refine gcV_si C (n := 1) (As := [.int (nI k1)]) (st := []) 1 (fun h => h) dX6_leg_33 rfl rfl gX6_leg_X0_firstPost (c_X0_firstPost l D cI cJ cZ a hA nA gr li st sp n m nu ev od fp ti wc wu sc pv su sd t k1 (by first | assumption | omega)) rfl rfl rfl (by decide +kernel) ⟨Nat.le_of_ble_eq_true rfl, Nat.le_of_ble_eq_true rfl⟩ rfl rfl (Nat.le_of_ble_eq_true rfl) FT_b FT_h ⟨Nat.le_of_ble_eq_true rfl, Nat.le_of_ble_eq_true rfl⟩ (q := 36) rfl (fun r_33 h_33 => ?_)
      subst h_33
      refine g_eqi C (y := nI (posOf st k1 n)) (hL.2.2.2.2.2.2 _ (by omega)) ?_
      exact hret _ 36 _ _ dX6_leg_36 rfl (by first | (rw [aLeg, if_pos c_8, nI_clamp (by omega), if_neg c_14]) | (rw [aLeg, if_pos c_8, nI_clamp (by omega), if_pos c_14]; rfl))
    · refine g_aload_n C 0 dX6_leg_17 rfl rfl rfl (q := 18) ?_
      refine g_get C 0 0 dX6_leg_18 (Cn := RX6) (T := TX6) (N := 6) (fun _ h => List.mem_cons_of_mem _ (List.mem_append_left _ (List.mem_append_right _ h))) rfl rfl (by decide) (List.mem_cons_of_mem _ (List.mem_append_left _ (List.mem_append_left _ (List.mem_of_getElem? (i := 0) rfl)))) rfl (q := 21) rfl ?_
      refine g_iload_n C 1 dX6_leg_21 rfl rfl rfl (q := 22) ?_
      refine gcV_si C (n := 1) (As := [.int (nI k1)]) (st := []) 1 (fun h => h) dX6_leg_22 rfl rfl gX6_leg_X0_lastPost (c_X0_lastPost l D cI cJ cZ a hA nA gr li st sp n m nu ev od fp ti wc wu sc pv su sd t k1 (by first | assumption | omega)) rfl rfl rfl (by decide +kernel) ⟨Nat.le_of_ble_eq_true rfl, Nat.le_of_ble_eq_true rfl⟩ rfl rfl (Nat.le_of_ble_eq_true rfl) FT_b FT_h ⟨Nat.le_of_ble_eq_true rfl, Nat.le_of_ble_eq_true rfl⟩ (q := 25) rfl (fun r_22 h_22 => ?_)
      subst h_22
      refine g_eqi C (y := nI (posOf st (k1 + 1) n)) (hL.2.2.2.2.2.2 _ (by omega)) ?_
      refine g_goto C (q := 36) dX6_leg_25 (by decide) ?_
      exact hret _ 36 _ _ dX6_leg_36 rfl (by first | (rw [aLeg, if_pos c_8, nI_clamp (by omega), if_neg c_14]) | (rw [aLeg, if_pos c_8, nI_clamp (by omega), if_pos c_14]; rfl))
  · replace c_8 := ite_e0 c_8
    refine g_iconst C (-1) dX6_leg_11 (by decide) (q := 12) rfl ?_
    exact hret _ 12 _ _ dX6_leg_12 rfl (by rw [aLeg, if_neg c_8])
set_option maxHeartbeats 4000000 in
set_option maxRecDepth 100000 in
theorem c_X6_count (l : Launch) (D : va_G) (cI cJ cZ : ClassId) (a : Nat → Nat) (hA nA : Nat) (gr li st sp : Nat → Int32) (n m : Nat) (nu : Nat → Int32) (ev od : Nat → Int64) (fp ti : Nat → Int32) (wc : Nat → Int64) (wu : Int32) (sc pv : Nat → Int64) (su : Int32) (sd : Nat → Int32) (t : Nat) (w : Int32) : Met l yX6_count wsX6_count { frames := 1, cells := 0, slots := 0, locals := 20 } (gPc D (tyT cI cJ cZ) (wA a hA nA) FT (wC cI cJ cZ a hA nA gr li st sp (nI n) (nI m) nu ev od fp ti wc wu sc pv su sd (nI t)) [.ref (a 0), .int w]) (vp_Si (fun r => r = aCount n m t w)) 0 0 (fun _ => False) := by
  refine gs_si (cc := cX6_count) (nL := 2) (ty := .int) (by decide) rfl (Nat.le_of_ble_eq_true rfl) (fun G C hret => ?_)
  show G 0 0 (wC cI cJ cZ a hA nA gr li st sp (nI n) (nI m) nu ev od fp ti wc wu sc pv su sd (nI t)) [(0, .ref (a 0)), (1, .int w)] 0 []
  refine g_iload_n C 1 dX6_count_0 rfl rfl rfl (q := 1) ?_
  by_cases w0 : w = nI 0
  · subst w0
    refine g_tableIn C (q := 28) (off := 27) dX6_count_1 (by decide) (by decide) (by decide +kernel) (by decide) ?_
    refine g_aload_n C 0 dX6_count_28 rfl rfl rfl (q := 29) ?_
    refine g_get C 0 0 dX6_count_29 (Cn := RX6) (T := TX6) (N := 6) (fun _ h => List.mem_cons_of_mem _ (List.mem_append_left _ (List.mem_append_left _ (List.mem_append_right _ h)))) rfl rfl (by decide) (List.mem_cons_of_mem _ (List.mem_append_left _ (List.mem_append_left _ (List.mem_append_left _ (List.mem_of_getElem? (i := 0) rfl))))) rfl (q := 32) rfl ?_
    refine gcV_si C (n := 0) (As := []) (st := []) 1 (fun h => h) dX6_count_32 rfl rfl gX6_count_X0_cellCount (c_X0_cellCount l D cI cJ cZ a hA nA gr li st sp n m nu ev od fp ti wc wu sc pv su sd t) rfl rfl rfl (by decide +kernel) ⟨Nat.le_of_ble_eq_true rfl, Nat.le_of_ble_eq_true rfl⟩ rfl rfl (Nat.le_of_ble_eq_true rfl) FT_b FT_h ⟨Nat.le_of_ble_eq_true rfl, Nat.le_of_ble_eq_true rfl⟩ (q := 35) rfl (fun r_32 h_32 => ?_)
    subst h_32
    exact hret _ 35 _ _ dX6_count_35 rfl (rfl)
  by_cases w1 : w = nI 1
  · subst w1
    refine g_tableIn C (q := 36) (off := 35) dX6_count_1 (by decide) (by decide) (by decide +kernel) (by decide) ?_
    refine g_aload_n C 0 dX6_count_36 rfl rfl rfl (q := 37) ?_
    refine g_get C 0 0 dX6_count_37 (Cn := RX6) (T := TX6) (N := 6) (fun _ h => List.mem_cons_of_mem _ (List.mem_append_left _ (List.mem_append_left _ (List.mem_append_right _ h)))) rfl rfl (by decide) (List.mem_cons_of_mem _ (List.mem_append_left _ (List.mem_append_left _ (List.mem_append_left _ (List.mem_of_getElem? (i := 0) rfl))))) rfl (q := 40) rfl ?_
    refine gcV_si C (n := 0) (As := []) (st := []) 1 (fun h => h) dX6_count_40 rfl rfl gX6_count_X0_legCount (c_X0_legCount l D cI cJ cZ a hA nA gr li st sp n m nu ev od fp ti wc wu sc pv su sd t) rfl rfl rfl (by decide +kernel) ⟨Nat.le_of_ble_eq_true rfl, Nat.le_of_ble_eq_true rfl⟩ rfl rfl (Nat.le_of_ble_eq_true rfl) FT_b FT_h ⟨Nat.le_of_ble_eq_true rfl, Nat.le_of_ble_eq_true rfl⟩ (q := 43) rfl (fun r_40 h_40 => ?_)
    subst h_40
    exact hret _ 43 _ _ dX6_count_43 rfl (rfl)
  by_cases w2 : w = nI 2
  · subst w2
    refine g_tableIn C (q := 44) (off := 43) dX6_count_1 (by decide) (by decide) (by decide +kernel) (by decide) ?_
    refine g_aload_n C 0 dX6_count_44 rfl rfl rfl (q := 45) ?_
    refine g_get C 0 5 dX6_count_45 (Cn := RX6) (T := TX6) (N := 6) (fun _ h => List.mem_cons_of_mem _ (List.mem_append_left _ (List.mem_append_left _ (List.mem_append_right _ h)))) rfl rfl (by decide) (List.mem_cons_of_mem _ (List.mem_append_left _ (List.mem_append_left _ (List.mem_append_left _ (List.mem_of_getElem? (i := 1) rfl))))) rfl (q := 48) rfl ?_
    refine gcV_si C (n := 0) (As := []) (st := []) 6 (fun h => h) dX6_count_48 rfl rfl gX6_count_X1_size (c_X1_size l D cI cJ cZ a hA nA gr li st sp n m nu ev od fp ti wc wu sc pv su sd t) rfl rfl rfl (by decide +kernel) ⟨Nat.le_of_ble_eq_true rfl, Nat.le_of_ble_eq_true rfl⟩ rfl rfl (Nat.le_of_ble_eq_true rfl) FT_b FT_h ⟨Nat.le_of_ble_eq_true rfl, Nat.le_of_ble_eq_true rfl⟩ (q := 51) rfl (fun r_48 h_48 => ?_)
    subst h_48
    exact hret _ 51 _ _ dX6_count_51 rfl (rfl)
  refine g_tableOut C (q := 52) dX6_count_1 (tb_out (n := 3) (fun i hi => by rcases (show i = 0 ∨ i = 1 ∨ i = 2 by omega) with rfl | rfl | rfl <;> assumption) (by decide)) (by decide) ?_
  refine g_bipush C (-2) dX6_count_52 (by decide) (q := 54) rfl ?_
  exact hret _ 54 _ _ dX6_count_54 rfl (by rw [aCount, if_neg w0, if_neg w1, if_neg w2])
set_option maxHeartbeats 4000000 in
set_option maxRecDepth 100000 in
theorem c_X6_judged (l : Launch) (D : va_G) (cI cJ cZ : ClassId) (a : Nat → Nat) (hA nA : Nat) (gr li st sp : Nat → Int32) (n m : Nat) (nu : Nat → Int32) (ev od : Nat → Int64) (fp ti : Nat → Int32) (wc : Nat → Int64) (wu : Int32) (sc pv : Nat → Int64) (su : Int32) (sd : Nat → Int32) (t : Nat) (w : Int32) (s : Nat → Nat) (ht : t ≤ 17) (hs : ∀ j, sd j = nI (s j) ∧ s j ≤ 6) (hst : ∀ j, st j = nI 0 ∨ st j = nI 1) : Met l yX6_judged wsX6_judged { frames := 5, cells := 0, slots := 0, locals := 112 } (gPc D (tyT cI cJ cZ) (wA a hA nA) FT (wC cI cJ cZ a hA nA gr li st sp (nI n) (nI m) nu ev od fp ti wc wu sc pv su sd (nI t)) [.ref (a 0), .int w]) (vp_Si (fun r => r = aJudged gr li nu st s t w)) 0 0 (fun _ => False) := by
  refine gs_si (cc := cX6_judged) (nL := 2) (ty := .int) (by decide) rfl (Nat.le_of_ble_eq_true rfl) (fun G C hret => ?_)
  show G 0 0 (wC cI cJ cZ a hA nA gr li st sp (nI n) (nI m) nu ev od fp ti wc wu sc pv su sd (nI t)) [(0, .ref (a 0)), (1, .int w)] 0 []
  refine g_iload_n C 1 dX6_judged_0 rfl rfl rfl (q := 1) ?_
  by_cases w0 : w = nI 0
  · subst w0
    refine g_tableIn C (q := 36) (off := 35) dX6_judged_1 (by decide) (by decide) (by decide +kernel) (by decide) ?_
    refine g_aload_n C 0 dX6_judged_36 rfl rfl rfl (q := 37) ?_
    refine g_get C 0 5 dX6_judged_37 (Cn := RX6) (T := TX6) (N := 6) (fun _ h => List.mem_cons_of_mem _ (List.mem_append_left _ (List.mem_append_left _ (List.mem_append_left _ (List.mem_append_left _ (List.mem_append_right _ h)))))) rfl rfl (by decide) (List.mem_cons_of_mem _ (List.mem_append_left _ (List.mem_append_left _ (List.mem_append_left _ (List.mem_append_left _ (List.mem_append_left _ (List.mem_of_getElem? (i := 0) rfl))))))) rfl (q := 40) rfl ?_
    refine gcV_si C (n := 0) (As := []) (st := []) 6 (fun h => h) dX6_judged_40 rfl rfl gX6_judged_X1_timeTogether (c_X1_timeTogether l D cI cJ cZ a hA nA gr li st sp n m nu ev od fp ti wc wu sc pv su sd t s (by first | assumption | omega) (by first | assumption | omega)) rfl rfl rfl (by decide +kernel) ⟨Nat.le_of_ble_eq_true rfl, Nat.le_of_ble_eq_true rfl⟩ rfl rfl (Nat.le_of_ble_eq_true rfl) FT_b FT_h ⟨Nat.le_of_ble_eq_true rfl, Nat.le_of_ble_eq_true rfl⟩ (q := 43) rfl (fun r_40 h_40 => ?_)
    subst h_40
    exact hret _ 43 _ _ dX6_judged_43 rfl (rfl)
  by_cases w1 : w = nI 1
  · subst w1
    refine g_tableIn C (q := 44) (off := 43) dX6_judged_1 (by decide) (by decide) (by decide +kernel) (by decide) ?_
    refine g_aload_n C 0 dX6_judged_44 rfl rfl rfl (q := 45) ?_
    refine g_get C 0 5 dX6_judged_45 (Cn := RX6) (T := TX6) (N := 6) (fun _ h => List.mem_cons_of_mem _ (List.mem_append_left _ (List.mem_append_left _ (List.mem_append_left _ (List.mem_append_left _ (List.mem_append_right _ h)))))) rfl rfl (by decide) (List.mem_cons_of_mem _ (List.mem_append_left _ (List.mem_append_left _ (List.mem_append_left _ (List.mem_append_left _ (List.mem_append_left _ (List.mem_of_getElem? (i := 0) rfl))))))) rfl (q := 48) rfl ?_
    refine gcV_si C (n := 0) (As := []) (st := []) 6 (fun h => h) dX6_judged_48 rfl rfl gX6_judged_X1_powerTogether (c_X1_powerTogether l D cI cJ cZ a hA nA gr li st sp n m nu ev od fp ti wc wu sc pv su sd t s (by first | assumption | omega) (by first | assumption | omega)) rfl rfl rfl (by decide +kernel) ⟨Nat.le_of_ble_eq_true rfl, Nat.le_of_ble_eq_true rfl⟩ rfl rfl (Nat.le_of_ble_eq_true rfl) FT_b FT_h ⟨Nat.le_of_ble_eq_true rfl, Nat.le_of_ble_eq_true rfl⟩ (q := 51) rfl (fun r_48 h_48 => ?_)
    subst h_48
    exact hret _ 51 _ _ dX6_judged_51 rfl (rfl)
  by_cases w2 : w = nI 2
  · subst w2
    refine g_tableIn C (q := 52) (off := 51) dX6_judged_1 (by decide) (by decide) (by decide +kernel) (by decide) ?_
    refine g_aload_n C 0 dX6_judged_52 rfl rfl rfl (q := 53) ?_
    refine g_get C 0 5 dX6_judged_53 (Cn := RX6) (T := TX6) (N := 6) (fun _ h => List.mem_cons_of_mem _ (List.mem_append_left _ (List.mem_append_left _ (List.mem_append_left _ (List.mem_append_left _ (List.mem_append_right _ h)))))) rfl rfl (by decide) (List.mem_cons_of_mem _ (List.mem_append_left _ (List.mem_append_left _ (List.mem_append_left _ (List.mem_append_left _ (List.mem_append_left _ (List.mem_of_getElem? (i := 0) rfl))))))) rfl (q := 56) rfl ?_
    refine gcV_si C (n := 0) (As := []) (st := []) 6 (fun h => h) dX6_judged_56 rfl rfl gX6_judged_X1_faultCount (c_X1_faultCount l D cI cJ cZ a hA nA gr li st sp n m nu ev od fp ti wc wu sc pv su sd t s (by first | assumption | omega) (by first | assumption | omega)) rfl rfl rfl (by decide +kernel) ⟨Nat.le_of_ble_eq_true rfl, Nat.le_of_ble_eq_true rfl⟩ rfl rfl (Nat.le_of_ble_eq_true rfl) FT_b FT_h ⟨Nat.le_of_ble_eq_true rfl, Nat.le_of_ble_eq_true rfl⟩ (q := 59) rfl (fun r_56 h_56 => ?_)
    subst h_56
    exact hret _ 59 _ _ dX6_judged_59 rfl (rfl)
  by_cases w3 : w = nI 3
  · subst w3
    refine g_tableIn C (q := 60) (off := 59) dX6_judged_1 (by decide) (by decide) (by decide +kernel) (by decide) ?_
    refine g_aload_n C 0 dX6_judged_60 rfl rfl rfl (q := 61) ?_
    refine g_get C 0 5 dX6_judged_61 (Cn := RX6) (T := TX6) (N := 6) (fun _ h => List.mem_cons_of_mem _ (List.mem_append_left _ (List.mem_append_left _ (List.mem_append_left _ (List.mem_append_left _ (List.mem_append_right _ h)))))) rfl rfl (by decide) (List.mem_cons_of_mem _ (List.mem_append_left _ (List.mem_append_left _ (List.mem_append_left _ (List.mem_append_left _ (List.mem_append_left _ (List.mem_of_getElem? (i := 0) rfl))))))) rfl (q := 64) rfl ?_
    refine gcV_si C (n := 0) (As := []) (st := []) 6 (fun h => h) dX6_judged_64 rfl rfl gX6_judged_X1_firstFaultCell (c_X1_firstFaultCell l D cI cJ cZ a hA nA gr li st sp n m nu ev od fp ti wc wu sc pv su sd t s (by first | assumption | omega) (by first | assumption | omega)) rfl rfl rfl (by decide +kernel) ⟨Nat.le_of_ble_eq_true rfl, Nat.le_of_ble_eq_true rfl⟩ rfl rfl (Nat.le_of_ble_eq_true rfl) FT_b FT_h ⟨Nat.le_of_ble_eq_true rfl, Nat.le_of_ble_eq_true rfl⟩ (q := 67) rfl (fun r_64 h_64 => ?_)
    subst h_64
    exact hret _ 67 _ _ dX6_judged_67 rfl (rfl)
  by_cases w4 : w = nI 4
  · subst w4
    refine g_tableIn C (q := 68) (off := 67) dX6_judged_1 (by decide) (by decide) (by decide +kernel) (by decide) ?_
    refine g_aload_n C 0 dX6_judged_68 rfl rfl rfl (q := 69) ?_
    refine g_get C 0 5 dX6_judged_69 (Cn := RX6) (T := TX6) (N := 6) (fun _ h => List.mem_cons_of_mem _ (List.mem_append_left _ (List.mem_append_left _ (List.mem_append_left _ (List.mem_append_left _ (List.mem_append_right _ h)))))) rfl rfl (by decide) (List.mem_cons_of_mem _ (List.mem_append_left _ (List.mem_append_left _ (List.mem_append_left _ (List.mem_append_left _ (List.mem_append_left _ (List.mem_of_getElem? (i := 0) rfl))))))) rfl (q := 72) rfl ?_
    refine gcV_si C (n := 0) (As := []) (st := []) 6 (fun h => h) dX6_judged_72 rfl rfl gX6_judged_X1_stopsPassed (c_X1_stopsPassed l D cI cJ cZ a hA nA gr li st sp n m nu ev od fp ti wc wu sc pv su sd t s (by first | assumption | omega) (by first | assumption | omega) (by first | assumption | omega)) rfl rfl rfl (by decide +kernel) ⟨Nat.le_of_ble_eq_true rfl, Nat.le_of_ble_eq_true rfl⟩ rfl rfl (Nat.le_of_ble_eq_true rfl) FT_b FT_h ⟨Nat.le_of_ble_eq_true rfl, Nat.le_of_ble_eq_true rfl⟩ (q := 75) rfl (fun r_72 h_72 => ?_)
    subst h_72
    exact hret _ 75 _ _ dX6_judged_75 rfl (rfl)
  refine g_tableOut C (q := 76) dX6_judged_1 (tb_out (n := 5) (fun i hi => by rcases (show i = 0 ∨ i = 1 ∨ i = 2 ∨ i = 3 ∨ i = 4 by omega) with rfl | rfl | rfl | rfl | rfl <;> assumption) (by decide)) (by decide) ?_
  refine g_bipush C (-2) dX6_judged_76 (by decide) (q := 78) rfl ?_
  exact hret _ 78 _ _ dX6_judged_78 rfl (by rw [aJudged, if_neg w0, if_neg w1, if_neg w2, if_neg w3, if_neg w4])
set_option maxHeartbeats 4000000 in
set_option maxRecDepth 100000 in
theorem c_X6_clear (l : Launch) (D : va_G) (cI cJ cZ : ClassId) (a : Nat → Nat) (hA nA : Nat) (gr li st sp : Nat → Int32) (n m : Nat) (nu : Nat → Int32) (ev od : Nat → Int64) (fp ti : Nat → Int32) (wc : Nat → Int64) (wu : Int32) (sc pv : Nat → Int64) (su : Int32) (sd : Nat → Int32) (t : Nat) : Met l yX6_clear wsX6_clear { frames := 1, cells := 0, slots := 0, locals := 20 } (gPc D (tyT cI cJ cZ) (wA a hA nA) FT (wC cI cJ cZ a hA nA gr li st sp (nI n) (nI m) nu ev od fp ti wc wu sc pv su sd (nI t)) [.ref (a 0)]) (va_Qi (fun (r : Int32) (u : Unit) => r = nI t) (fun u tS => va_P D vwCl ((fun (u : Unit) => wC cI cJ cZ a hA nA gr li st sp (nI n) (nI m) nu ev od fp ti wc wu sc pv su sd (nI 0)) u) tS.heap ∧ va_D (wA a hA nA) ((fun (u : Unit) => wC cI cJ cZ a hA nA gr li st sp (nI n) (nI m) nu ev od fp ti wc wu sc pv su sd (nI 0)) u)) (wA a hA nA)) 0 0 (wA a hA nA) := by
  refine gs_qi (cc := cX6_clear) (nL := 2) (ty := .int) (W' := fun (u : Unit) => wC cI cJ cZ a hA nA gr li st sp (nI n) (nI m) nu ev od fp ti wc wu sc pv su sd (nI 0)) (by decide) rfl (Nat.le_of_ble_eq_true rfl) (fun G C hret => ?_)
  show G 0 0 (wC cI cJ cZ a hA nA gr li st sp (nI n) (nI m) nu ev od fp ti wc wu sc pv su sd (nI t)) [(0, .ref (a 0))] 0 []
  refine g_aload_n C 0 dX6_clear_0 rfl rfl rfl (q := 1) ?_
  refine g_get C 0 5 dX6_clear_1 (Cn := RX6) (T := TX6) (N := 6) (fun _ h => List.mem_cons_of_mem _ (List.mem_append_left _ (List.mem_append_right _ h))) rfl rfl (by decide) (List.mem_cons_of_mem _ (List.mem_append_left _ (List.mem_append_left _ (List.mem_of_getElem? (i := 0) rfl)))) rfl (q := 4) rfl ?_
  refine gcV_si C (n := 0) (As := []) (st := []) 6 (fun h => h) dX6_clear_4 rfl rfl gX6_clear_X1_size (c_X1_size l D cI cJ cZ a hA nA gr li st sp n m nu ev od fp ti wc wu sc pv su sd t) rfl rfl rfl (by decide +kernel) ⟨Nat.le_of_ble_eq_true rfl, Nat.le_of_ble_eq_true rfl⟩ rfl rfl (Nat.le_of_ble_eq_true rfl) FT_b FT_h ⟨Nat.le_of_ble_eq_true rfl, Nat.le_of_ble_eq_true rfl⟩ (q := 7) rfl (fun r_4 h_4 => ?_)
  subst h_4
  refine g_istore_n C [(1, .int (nI t)), (0, .ref (a 0))] dX6_clear_7 rfl (by decide) rfl (q := 8) rfl ?_
  refine g_aload_n C 1 dX6_clear_8 rfl rfl rfl (q := 9) ?_
  refine g_get C 0 5 dX6_clear_9 (Cn := RX6) (T := TX6) (N := 6) (fun _ h => List.mem_cons_of_mem _ (List.mem_append_left _ (List.mem_append_right _ h))) rfl rfl (by decide) (List.mem_cons_of_mem _ (List.mem_append_left _ (List.mem_append_left _ (List.mem_of_getElem? (i := 0) rfl)))) rfl (q := 12) rfl ?_
  refine gcV_qv C (n := 0) (As := []) (st := []) 6 (fun h => h) (fun _ h => h) dX6_clear_12 rfl rfl gX6_clear_X1_wipe (c_X1_wipe l D cI cJ cZ a hA nA gr li st sp n m nu ev od fp ti wc wu sc pv su sd t) rfl rfl rfl (by decide +kernel) ⟨Nat.le_of_ble_eq_true rfl, Nat.le_of_ble_eq_true rfl⟩ rfl rfl (Nat.le_of_ble_eq_true rfl) FT_b FT_h ⟨Nat.le_of_ble_eq_true rfl, Nat.le_of_ble_eq_true rfl⟩ (q := 15) rfl (fun u_12 h_12 => ?_)
  refine g_iload_n C 0 dX6_clear_15 rfl rfl rfl (q := 16) ?_
  exact hret _ () 16 _ dX6_clear_16 rfl (rfl)
set_option maxHeartbeats 4000000 in
set_option maxRecDepth 100000 in
theorem c_X6_log (l : Launch) (D : va_G) (cI cJ cZ : ClassId) (a : Nat → Nat) (hA nA : Nat) (gr li st sp : Nat → Int32) (n m : Nat) (nu : Nat → Int32) (ev od : Nat → Int64) (fp ti : Nat → Int32) (wc : Nat → Int64) (wu : Int32) (sc pv : Nat → Int64) (su : Int32) (sd : Nat → Int32) (t : Nat) (v : Int32) (hn : n ≤ 16) (ht : t ≤ n + 1) : Met l yX6_log wsX6_log { frames := 2, cells := 0, slots := 0, locals := 40 } (gPc D (tyT cI cJ cZ) (wA a hA nA) FT (wC cI cJ cZ a hA nA gr li st sp (nI n) (nI m) nu ev od fp ti wc wu sc pv su sd (nI t)) [.ref (a 0), .int v]) (va_Qi (fun (r : Int32) (u : (Nat → Int32) × Nat) => (r, u.1, u.2) = aLog n t sd v) (fun u tS => va_P D vwCl ((fun (u : (Nat → Int32) × Nat) => wC cI cJ cZ a hA nA gr li st sp (nI n) (nI m) nu ev od fp ti wc wu sc pv su u.1 (nI u.2)) u) tS.heap ∧ va_D (wA a hA nA) ((fun (u : (Nat → Int32) × Nat) => wC cI cJ cZ a hA nA gr li st sp (nI n) (nI m) nu ev od fp ti wc wu sc pv su u.1 (nI u.2)) u)) (wA a hA nA)) 0 0 (wA a hA nA) := by
  refine gs_qi (cc := cX6_log) (nL := 2) (ty := .int) (W' := fun (u : (Nat → Int32) × Nat) => wC cI cJ cZ a hA nA gr li st sp (nI n) (nI m) nu ev od fp ti wc wu sc pv su u.1 (nI u.2)) (by decide) rfl (Nat.le_of_ble_eq_true rfl) (fun G C hret => ?_)
  show G 0 0 (wC cI cJ cZ a hA nA gr li st sp (nI n) (nI m) nu ev od fp ti wc wu sc pv su sd (nI t)) [(0, .ref (a 0)), (1, .int v)] 0 []
  refine g_iload_n C 1 dX6_log_0 rfl rfl rfl (q := 1) ?_
  refine gcS_si C (n := 1) (As := [.int v]) (st := []) (fun h => h) dX6_log_1 gX6_log_X6_isSpeed (c_X6_isSpeed l D cI cJ cZ a hA nA gr li st sp n m nu ev od fp ti wc wu sc pv su sd t v) rfl rfl rfl (by decide +kernel) ⟨Nat.le_of_ble_eq_true rfl, Nat.le_of_ble_eq_true rfl⟩ rfl rfl (Nat.le_of_ble_eq_true rfl) FT_b FT_h ⟨Nat.le_of_ble_eq_true rfl, Nat.le_of_ble_eq_true rfl⟩ (q := 4) rfl (fun r_1 h_1 => ?_)
  subst h_1
  refine g_if_ne C (t := 10) dX6_log_4 (by decide) (q := 7) rfl (fun c_4 => ?_) (fun c_4 => ?_)
  · replace c_4 := ite_n0 c_4
    refine g_aload_n C 0 dX6_log_10 rfl rfl rfl (q := 11) ?_
    refine g_get C 0 5 dX6_log_11 (Cn := RX6) (T := TX6) (N := 6) (fun _ h => List.mem_cons_of_mem _ (List.mem_append_left _ (List.mem_append_left _ (List.mem_append_right _ h)))) rfl rfl (by decide) (List.mem_cons_of_mem _ (List.mem_append_left _ (List.mem_append_left _ (List.mem_append_left _ (List.mem_of_getElem? (i := 0) rfl))))) rfl (q := 14) rfl ?_
    refine gcV_si C (n := 0) (As := []) (st := []) 6 (fun h => h) dX6_log_14 rfl rfl gX6_log_X1_isFull (c_X1_isFull l D cI cJ cZ a hA nA gr li st sp n m nu ev od fp ti wc wu sc pv su sd t (by first | assumption | omega) (by first | assumption | omega)) rfl rfl rfl (by decide +kernel) ⟨Nat.le_of_ble_eq_true rfl, Nat.le_of_ble_eq_true rfl⟩ rfl rfl (Nat.le_of_ble_eq_true rfl) FT_b FT_h ⟨Nat.le_of_ble_eq_true rfl, Nat.le_of_ble_eq_true rfl⟩ (q := 17) rfl (fun r_14 h_14 => ?_)
    subst h_14
    refine g_if_eq C (t := 23) dX6_log_17 (by decide) (q := 20) rfl (fun c_17 => ?_) (fun c_17 => ?_)
    · replace c_17 := ite_e0 c_17
      refine g_aload_n C 0 dX6_log_23 rfl rfl rfl (q := 24) ?_
      refine g_get C 0 5 dX6_log_24 (Cn := RX6) (T := TX6) (N := 6) (fun _ h => List.mem_cons_of_mem _ (List.mem_append_left _ (List.mem_append_left _ (List.mem_append_right _ h)))) rfl rfl (by decide) (List.mem_cons_of_mem _ (List.mem_append_left _ (List.mem_append_left _ (List.mem_append_left _ (List.mem_of_getElem? (i := 0) rfl))))) rfl (q := 27) rfl ?_
      refine g_iload_n C 1 dX6_log_27 rfl rfl rfl (q := 28) ?_
      refine gcV_qv C (n := 1) (As := [.int v]) (st := []) 6 (fun h => h) (fun _ h => h) dX6_log_28 rfl rfl gX6_log_X1_add (c_X1_add l D cI cJ cZ a hA nA gr li st sp n m nu ev od fp ti wc wu sc pv su sd t v (by first | assumption | omega)) rfl rfl rfl (by decide +kernel) ⟨Nat.le_of_ble_eq_true rfl, Nat.le_of_ble_eq_true rfl⟩ rfl rfl (Nat.le_of_ble_eq_true rfl) FT_b FT_h ⟨Nat.le_of_ble_eq_true rfl, Nat.le_of_ble_eq_true rfl⟩ (q := 31) rfl (fun u_28 h_28 => ?_)
      refine g_aload_n C 0 dX6_log_31 rfl rfl rfl (q := 32) ?_
      refine g_get C 0 5 dX6_log_32 (Cn := RX6) (T := TX6) (N := 6) (fun _ h => List.mem_cons_of_mem _ (List.mem_append_left _ (List.mem_append_left _ (List.mem_append_right _ h)))) rfl rfl (by decide) (List.mem_cons_of_mem _ (List.mem_append_left _ (List.mem_append_left _ (List.mem_append_left _ (List.mem_of_getElem? (i := 0) rfl))))) rfl (q := 35) rfl ?_
      refine gcV_si C (n := 0) (As := []) (st := []) 6 (fun h => h) dX6_log_35 rfl rfl gX6_log_X1_size (c_X1_size l D cI cJ cZ a hA nA gr li st sp n m nu ev od fp ti wc wu sc pv su (upd sd t v) (t + 1)) rfl rfl rfl (by decide +kernel) ⟨Nat.le_of_ble_eq_true rfl, Nat.le_of_ble_eq_true rfl⟩ rfl rfl (Nat.le_of_ble_eq_true rfl) FT_b FT_h ⟨Nat.le_of_ble_eq_true rfl, Nat.le_of_ble_eq_true rfl⟩ (q := 38) rfl (fun r_35 h_35 => ?_)
      subst h_35
      exact hret _ (upd sd t v, t + 1) 38 _ dX6_log_38 rfl (by rw [aLog, if_pos c_4, if_neg c_17])
    · replace c_17 := ite_n0 c_17
      refine g_bipush C (-4) dX6_log_20 (by decide) (q := 22) rfl ?_
      exact hret _ (sd, t) 22 _ dX6_log_22 rfl (by rw [aLog, if_pos c_4, if_pos c_17])
  · replace c_4 := ite_e0 c_4
    refine g_bipush C (-2) dX6_log_7 (by decide) (q := 9) rfl ?_
    exact hret _ (sd, t) 9 _ dX6_log_9 rfl (by rw [aLog, if_neg c_4])
set_option maxHeartbeats 4000000 in
set_option maxRecDepth 100000 in
theorem c_X6_cell (l : Launch) (D : va_G) (cI cJ cZ : ClassId) (a : Nat → Nat) (hA nA : Nat) (gr li st sp : Nat → Int32) (n m : Nat) (nu : Nat → Int32) (ev od : Nat → Int64) (fp ti : Nat → Int32) (wc : Nat → Int64) (wu : Int32) (sc pv : Nat → Int64) (su : Int32) (sd : Nat → Int32) (t : Nat) (k g v : Int32) (hn : n ≤ 16) : Met l yX6_cell wsX6_cell { frames := 2, cells := 0, slots := 0, locals := 40 } (gPc D (tyT cI cJ cZ) (wA a hA nA) FT (wC cI cJ cZ a hA nA gr li st sp (nI n) (nI m) nu ev od fp ti wc wu sc pv su sd (nI t)) [.ref (a 0), .int k, .int g, .int v]) (va_Qi (fun (r : Int32) (u : (Nat → Int32) × (Nat → Int32) × Int32 × Int32) => (r, u.1, u.2.1) = aCell gr li n k g v ∧ ((u.1 = gr ∧ u.2.1 = li ∧ u.2.2 = (wu, su)) ∨ u.2.2 = (nI 0, nI 0))) (fun u tS => va_P D vwCl ((fun (u : (Nat → Int32) × (Nat → Int32) × Int32 × Int32) => wC cI cJ cZ a hA nA u.1 u.2.1 st sp (nI n) (nI m) nu ev od fp ti wc u.2.2.1 sc pv u.2.2.2 sd (nI t)) u) tS.heap ∧ va_D (wA a hA nA) ((fun (u : (Nat → Int32) × (Nat → Int32) × Int32 × Int32) => wC cI cJ cZ a hA nA u.1 u.2.1 st sp (nI n) (nI m) nu ev od fp ti wc u.2.2.1 sc pv u.2.2.2 sd (nI t)) u)) (wA a hA nA)) 0 0 (wA a hA nA) := by
  refine gs_qi (cc := cX6_cell) (nL := 5) (ty := .int) (W' := fun (u : (Nat → Int32) × (Nat → Int32) × Int32 × Int32) => wC cI cJ cZ a hA nA u.1 u.2.1 st sp (nI n) (nI m) nu ev od fp ti wc u.2.2.1 sc pv u.2.2.2 sd (nI t)) (by decide) rfl (Nat.le_of_ble_eq_true rfl) (fun G C hret => ?_)
  show G 0 0 (wC cI cJ cZ a hA nA gr li st sp (nI n) (nI m) nu ev od fp ti wc wu sc pv su sd (nI t)) [(0, .ref (a 0)), (1, .int k), (2, .int g), (3, .int v)] 0 []
  refine g_aload_n C 0 dX6_cell_0 rfl rfl rfl (q := 1) ?_
  refine g_get C 0 0 dX6_cell_1 (Cn := RX6) (T := TX6) (N := 6) (fun _ h => List.mem_cons_of_mem _ (List.mem_append_left _ (List.mem_append_left _ (List.mem_append_left _ (List.mem_append_right _ h))))) rfl rfl (by decide) (List.mem_cons_of_mem _ (List.mem_append_left _ (List.mem_append_left _ (List.mem_append_left _ (List.mem_append_left _ (List.mem_of_getElem? (i := 0) rfl)))))) rfl (q := 4) rfl ?_
  refine g_iload_n C 1 dX6_cell_4 rfl rfl rfl (q := 5) ?_
  refine gcV_si C (n := 1) (As := [.int k]) (st := []) 1 (fun h => h) dX6_cell_5 rfl rfl gX6_cell_X0_hasCell (c_X0_hasCell l D cI cJ cZ a hA nA gr li st sp n m nu ev od fp ti wc wu sc pv su sd t k) rfl rfl rfl (by decide +kernel) ⟨Nat.le_of_ble_eq_true rfl, Nat.le_of_ble_eq_true rfl⟩ rfl rfl (Nat.le_of_ble_eq_true rfl) FT_b FT_h ⟨Nat.le_of_ble_eq_true rfl, Nat.le_of_ble_eq_true rfl⟩ (q := 8) rfl (fun r_5 h_5 => ?_)
  subst h_5
  refine g_if_ne C (t := 13) dX6_cell_8 (by decide) (q := 11) rfl (fun c_8 => ?_) (fun c_8 => ?_)
  · replace c_8 := ite_n0 c_8
    refine g_iload_n C 2 dX6_cell_13 rfl rfl rfl (q := 14) ?_
    refine g_bipush C (-4) dX6_cell_14 (by decide) (q := 16) rfl ?_
    refine g_icmp_lt C (t := 35) dX6_cell_16 (by decide) (q := 19) rfl (fun c_16 => ?_) (fun c_16 => ?_)
    · refine g_bipush C (-2) dX6_cell_35 (by decide) (q := 37) rfl ?_
      exact hret _ (gr, li, wu, su) 37 _ dX6_cell_37 rfl (⟨by first | (rw [aCell, if_pos c_8, if_neg (show ¬ okC g v from fun h => h.1 c_16)]) | (rw [aCell, if_pos c_8, if_neg (show ¬ okC g v from fun h => h.2.1 c_21)]) | (rw [aCell, if_pos c_8, if_neg (show ¬ okC g v from fun h => h.2.2.1 c_26)]) | (rw [aCell, if_pos c_8, if_neg (show ¬ okC g v from fun h => c_32 (Int32.not_lt.mp h.2.2.2))]), Or.inl ⟨rfl, rfl, rfl⟩⟩)
    · refine g_iload_n C 2 dX6_cell_19 rfl rfl rfl (q := 20) ?_
      refine g_iconst C (nI 4) dX6_cell_20 (by decide) (q := 21) rfl ?_
      refine g_icmp_gt C (t := 35) dX6_cell_21 (by decide) (q := 24) rfl (fun c_21 => ?_) (fun c_21 => ?_)
      · refine g_bipush C (-2) dX6_cell_35 (by decide) (q := 37) rfl ?_
        exact hret _ (gr, li, wu, su) 37 _ dX6_cell_37 rfl (⟨by first | (rw [aCell, if_pos c_8, if_neg (show ¬ okC g v from fun h => h.1 c_16)]) | (rw [aCell, if_pos c_8, if_neg (show ¬ okC g v from fun h => h.2.1 c_21)]) | (rw [aCell, if_pos c_8, if_neg (show ¬ okC g v from fun h => h.2.2.1 c_26)]) | (rw [aCell, if_pos c_8, if_neg (show ¬ okC g v from fun h => c_32 (Int32.not_lt.mp h.2.2.2))]), Or.inl ⟨rfl, rfl, rfl⟩⟩)
      · refine g_iload_n C 3 dX6_cell_24 rfl rfl rfl (q := 25) ?_
        refine g_iconst C (nI 1) dX6_cell_25 (by decide) (q := 26) rfl ?_
        refine g_icmp_lt C (t := 35) dX6_cell_26 (by decide) (q := 29) rfl (fun c_26 => ?_) (fun c_26 => ?_)
        · refine g_bipush C (-2) dX6_cell_35 (by decide) (q := 37) rfl ?_
          exact hret _ (gr, li, wu, su) 37 _ dX6_cell_37 rfl (⟨by first | (rw [aCell, if_pos c_8, if_neg (show ¬ okC g v from fun h => h.1 c_16)]) | (rw [aCell, if_pos c_8, if_neg (show ¬ okC g v from fun h => h.2.1 c_21)]) | (rw [aCell, if_pos c_8, if_neg (show ¬ okC g v from fun h => h.2.2.1 c_26)]) | (rw [aCell, if_pos c_8, if_neg (show ¬ okC g v from fun h => c_32 (Int32.not_lt.mp h.2.2.2))]), Or.inl ⟨rfl, rfl, rfl⟩⟩)
        · refine g_iload_n C 3 dX6_cell_29 rfl rfl rfl (q := 30) ?_
          refine g_bipush C (nI 6) dX6_cell_30 (by decide) (q := 32) rfl ?_
          refine g_icmp_le C (t := 38) dX6_cell_32 (by decide) (q := 35) rfl (fun c_32 => ?_) (fun c_32 => ?_)
          · obtain ⟨k1, hk, rfl⟩ := hcP_of c_8 (by omega)
            refine g_aload_n C 0 dX6_cell_38 rfl rfl rfl (q := 39) ?_
            refine g_get C 0 0 dX6_cell_39 (Cn := RX6) (T := TX6) (N := 6) (fun _ h => List.mem_cons_of_mem _ (List.mem_append_left _ (List.mem_append_left _ (List.mem_append_left _ (List.mem_append_right _ h))))) rfl rfl (by decide) (List.mem_cons_of_mem _ (List.mem_append_left _ (List.mem_append_left _ (List.mem_append_left _ (List.mem_append_left _ (List.mem_of_getElem? (i := 0) rfl)))))) rfl (q := 42) rfl ?_
            refine g_iload_n C 1 dX6_cell_42 rfl rfl rfl (q := 43) ?_
            refine gcV_si C (n := 1) (As := [.int (nI k1)]) (st := []) 1 (fun h => h) dX6_cell_43 rfl rfl gX6_cell_X0_limitOf (c_X0_limitOf l D cI cJ cZ a hA nA gr li st sp n m nu ev od fp ti wc wu sc pv su sd t k1 (by first | assumption | omega)) rfl rfl rfl (by decide +kernel) ⟨Nat.le_of_ble_eq_true rfl, Nat.le_of_ble_eq_true rfl⟩ rfl rfl (Nat.le_of_ble_eq_true rfl) FT_b FT_h ⟨Nat.le_of_ble_eq_true rfl, Nat.le_of_ble_eq_true rfl⟩ (q := 46) rfl (fun r_43 h_43 => ?_)
            subst h_43
            refine g_istore C [(4, .int (li k1)), (0, .ref (a 0)), (1, .int (nI k1)), (2, .int g), (3, .int v)] dX6_cell_46 (by decide) rfl (q := 48) rfl ?_
            refine g_aload_n C 1 dX6_cell_48 rfl rfl rfl (q := 49) ?_
            refine g_get C 0 0 dX6_cell_49 (Cn := RX6) (T := TX6) (N := 6) (fun _ h => List.mem_cons_of_mem _ (List.mem_append_left _ (List.mem_append_left _ (List.mem_append_left _ (List.mem_append_right _ h))))) rfl rfl (by decide) (List.mem_cons_of_mem _ (List.mem_append_left _ (List.mem_append_left _ (List.mem_append_left _ (List.mem_append_left _ (List.mem_of_getElem? (i := 0) rfl)))))) rfl (q := 52) rfl ?_
            refine g_iload_n C 2 dX6_cell_52 rfl rfl rfl (q := 53) ?_
            refine g_iload_n C 3 dX6_cell_53 rfl rfl rfl (q := 54) ?_
            refine g_iload_n C 4 dX6_cell_54 rfl rfl rfl (q := 55) ?_
            refine gcV_qv C (n := 3) (As := [.int (nI k1), .int g, .int v]) (st := []) 1 (fun h => h) (fun _ h => h) dX6_cell_55 rfl rfl gX6_cell_X0_shape (c_X0_shape l D cI cJ cZ a hA nA gr li st sp n m nu ev od fp ti wc wu sc pv su sd t k1 g v (by first | assumption | omega)) rfl rfl rfl (by decide +kernel) ⟨Nat.le_of_ble_eq_true rfl, Nat.le_of_ble_eq_true rfl⟩ rfl rfl (Nat.le_of_ble_eq_true rfl) FT_b FT_h ⟨Nat.le_of_ble_eq_true rfl, Nat.le_of_ble_eq_true rfl⟩ (q := 58) rfl (fun u_55 h_55 => ?_)
            refine g_aload_n C 1 dX6_cell_58 rfl rfl rfl (q := 59) ?_
            refine gcV_qv C (n := 0) (As := []) (st := []) 0 (fun h => h) (fun _ h => h) dX6_cell_59 rfl rfl gX6_cell_X6_forgetChoices (c_X6_forgetChoices l D cI cJ cZ a hA nA (upd gr k1 g) (upd li k1 v) st sp n m nu ev od fp ti wc wu sc pv su sd t) rfl rfl rfl (by decide +kernel) ⟨Nat.le_of_ble_eq_true rfl, Nat.le_of_ble_eq_true rfl⟩ rfl rfl (Nat.le_of_ble_eq_true rfl) FT_b FT_h ⟨Nat.le_of_ble_eq_true rfl, Nat.le_of_ble_eq_true rfl⟩ (q := 62) rfl (fun u_59 h_59 => ?_)
            refine g_iload C 0 dX6_cell_62 rfl rfl (q := 64) ?_
            exact hret _ (upd gr k1 g, upd li k1 v, nI 0, nI 0) 64 _ dX6_cell_64 rfl (⟨by rw [aCell, if_pos c_8, if_pos ⟨c_16, c_21, c_26, Int32.not_lt.mpr c_32⟩, nI_clamp (by omega)], Or.inr rfl⟩)
          · refine g_bipush C (-2) dX6_cell_35 (by decide) (q := 37) rfl ?_
            exact hret _ (gr, li, wu, su) 37 _ dX6_cell_37 rfl (⟨by first | (rw [aCell, if_pos c_8, if_neg (show ¬ okC g v from fun h => h.1 c_16)]) | (rw [aCell, if_pos c_8, if_neg (show ¬ okC g v from fun h => h.2.1 c_21)]) | (rw [aCell, if_pos c_8, if_neg (show ¬ okC g v from fun h => h.2.2.1 c_26)]) | (rw [aCell, if_pos c_8, if_neg (show ¬ okC g v from fun h => c_32 (Int32.not_lt.mp h.2.2.2))]), Or.inl ⟨rfl, rfl, rfl⟩⟩)
  · replace c_8 := ite_e0 c_8
    refine g_iconst C (-1) dX6_cell_11 (by decide) (q := 12) rfl ?_
    exact hret _ (gr, li, wu, su) 12 _ dX6_cell_12 rfl (⟨by rw [aCell, if_neg c_8], Or.inl ⟨rfl, rfl, rfl⟩⟩)
set_option maxHeartbeats 4000000 in
set_option maxRecDepth 100000 in
theorem c_X6_stop (l : Launch) (D : va_G) (cI cJ cZ : ClassId) (a : Nat → Nat) (hA nA : Nat) (gr li st sp : Nat → Int32) (n m : Nat) (nu : Nat → Int32) (ev od : Nat → Int64) (fp ti : Nat → Int32) (wc : Nat → Int64) (wu : Int32) (sc pv : Nat → Int64) (su : Int32) (sd : Nat → Int32) (t : Nat) (k v : Int32) (hL : LInv st sp n m) (hv : v = nI 0 ∨ v = nI 1) : Met l yX6_stop wsX6_stop { frames := 2, cells := 0, slots := 0, locals := 44 } (gPc D (tyT cI cJ cZ) (wA a hA nA) FT (wC cI cJ cZ a hA nA gr li st sp (nI n) (nI m) nu ev od fp ti wc wu sc pv su sd (nI t)) [.ref (a 0), .int k, .int v]) (va_Qi (fun (r : Int32) (u : (Nat → Int32) × (Nat → Int32) × Nat × Int32 × Int32) => (r, u.1) = aStop st n k v ∧ LInv u.1 u.2.1 n u.2.2.1 ∧ ((u.1 = st ∧ u.2.1 = sp ∧ u.2.2.1 = m ∧ u.2.2.2 = (wu, su)) ∨ u.2.2.2 = (nI 0, nI 0))) (fun u tS => va_P D vwCl ((fun (u : (Nat → Int32) × (Nat → Int32) × Nat × Int32 × Int32) => wC cI cJ cZ a hA nA gr li u.1 u.2.1 (nI n) (nI u.2.2.1) nu ev od fp ti wc u.2.2.2.1 sc pv u.2.2.2.2 sd (nI t)) u) tS.heap ∧ va_D (wA a hA nA) ((fun (u : (Nat → Int32) × (Nat → Int32) × Nat × Int32 × Int32) => wC cI cJ cZ a hA nA gr li u.1 u.2.1 (nI n) (nI u.2.2.1) nu ev od fp ti wc u.2.2.2.1 sc pv u.2.2.2.2 sd (nI t)) u)) (wA a hA nA)) 0 0 (wA a hA nA) := by
  refine gs_qi (cc := cX6_stop) (nL := 3) (ty := .int) (W' := fun (u : (Nat → Int32) × (Nat → Int32) × Nat × Int32 × Int32) => wC cI cJ cZ a hA nA gr li u.1 u.2.1 (nI n) (nI u.2.2.1) nu ev od fp ti wc u.2.2.2.1 sc pv u.2.2.2.2 sd (nI t)) (by decide) rfl (Nat.le_of_ble_eq_true rfl) (fun G C hret => ?_)
  show G 0 0 (wC cI cJ cZ a hA nA gr li st sp (nI n) (nI m) nu ev od fp ti wc wu sc pv su sd (nI t)) [(0, .ref (a 0)), (1, .int k), (2, .int v)] 0 []
  have hn := hL.2.1
  have hst := hL.2.2.1
  have h0 := hL.2.2.2.1
  refine g_aload_n C 0 dX6_stop_0 rfl rfl rfl (q := 1) ?_
  refine g_get C 0 0 dX6_stop_1 (Cn := RX6) (T := TX6) (N := 6) (fun _ h => List.mem_cons_of_mem _ (List.mem_append_left _ (List.mem_append_left _ (List.mem_append_left _ (List.mem_append_right _ h))))) rfl rfl (by decide) (List.mem_cons_of_mem _ (List.mem_append_left _ (List.mem_append_left _ (List.mem_append_left _ (List.mem_append_left _ (List.mem_of_getElem? (i := 0) rfl)))))) rfl (q := 4) rfl ?_
  refine g_iload_n C 1 dX6_stop_4 rfl rfl rfl (q := 5) ?_
  refine gcV_si C (n := 1) (As := [.int k]) (st := []) 1 (fun h => h) dX6_stop_5 rfl rfl gX6_stop_X0_hasPost (c_X0_hasPost l D cI cJ cZ a hA nA gr li st sp n m nu ev od fp ti wc wu sc pv su sd t k) rfl rfl rfl (by decide +kernel) ⟨Nat.le_of_ble_eq_true rfl, Nat.le_of_ble_eq_true rfl⟩ rfl rfl (Nat.le_of_ble_eq_true rfl) FT_b FT_h ⟨Nat.le_of_ble_eq_true rfl, Nat.le_of_ble_eq_true rfl⟩ (q := 8) rfl (fun r_5 h_5 => ?_)
  subst h_5
  refine g_if_ne C (t := 13) dX6_stop_8 (by decide) (q := 11) rfl (fun c_8 => ?_) (fun c_8 => ?_)
  · replace c_8 := ite_n0 c_8
    obtain ⟨k1, hk, rfl⟩ := hpP_of c_8 (by omega)
    refine g_aload_n C 0 dX6_stop_13 rfl rfl rfl (q := 14) ?_
    refine g_get C 0 0 dX6_stop_14 (Cn := RX6) (T := TX6) (N := 6) (fun _ h => List.mem_cons_of_mem _ (List.mem_append_left _ (List.mem_append_left _ (List.mem_append_left _ (List.mem_append_right _ h))))) rfl rfl (by decide) (List.mem_cons_of_mem _ (List.mem_append_left _ (List.mem_append_left _ (List.mem_append_left _ (List.mem_append_left _ (List.mem_of_getElem? (i := 0) rfl)))))) rfl (q := 17) rfl ?_
    refine g_iload_n C 1 dX6_stop_17 rfl rfl rfl (q := 18) ?_
    refine gcV_si C (n := 1) (As := [.int (nI k1)]) (st := []) 1 (fun h => h) dX6_stop_18 rfl rfl gX6_stop_X0_isEnd (c_X0_isEnd l D cI cJ cZ a hA nA gr li st sp n m nu ev od fp ti wc wu sc pv su sd t k1 (by first | assumption | omega) (by first | assumption | omega)) rfl rfl rfl (by decide +kernel) ⟨Nat.le_of_ble_eq_true rfl, Nat.le_of_ble_eq_true rfl⟩ rfl rfl (Nat.le_of_ble_eq_true rfl) FT_b FT_h ⟨Nat.le_of_ble_eq_true rfl, Nat.le_of_ble_eq_true rfl⟩ (q := 21) rfl (fun r_18 h_18 => ?_)
    subst h_18
    refine g_if_eq C (t := 27) dX6_stop_21 (by decide) (q := 24) rfl (fun c_21 => ?_) (fun c_21 => ?_)
    · replace c_21 := ite_e0 c_21
      refine g_aload_n C 0 dX6_stop_27 rfl rfl rfl (q := 28) ?_
      refine g_get C 0 0 dX6_stop_28 (Cn := RX6) (T := TX6) (N := 6) (fun _ h => List.mem_cons_of_mem _ (List.mem_append_left _ (List.mem_append_left _ (List.mem_append_left _ (List.mem_append_right _ h))))) rfl rfl (by decide) (List.mem_cons_of_mem _ (List.mem_append_left _ (List.mem_append_left _ (List.mem_append_left _ (List.mem_append_left _ (List.mem_of_getElem? (i := 0) rfl)))))) rfl (q := 31) rfl ?_
      refine g_iload_n C 1 dX6_stop_31 rfl rfl rfl (q := 32) ?_
      refine g_iload_n C 2 dX6_stop_32 rfl rfl rfl (q := 33) ?_
      refine gcV_qv C (n := 2) (As := [.int (nI k1), .int v]) (st := []) 1 (fun h => h) (fun _ h => h) dX6_stop_33 rfl rfl gX6_stop_X0_markStop (c_X0_markStop l D cI cJ cZ a hA nA gr li st sp n (nI m) nu ev od fp ti wc wu sc pv su sd t k1 v (by first | assumption | omega) (by first | assumption | omega) (by first | assumption | omega) (by first | assumption | omega) (by first | assumption | omega)) rfl rfl rfl (by decide +kernel) ⟨Nat.le_of_ble_eq_true rfl, Nat.le_of_ble_eq_true rfl⟩ rfl rfl (Nat.le_of_ble_eq_true rfl) FT_b FT_h ⟨Nat.le_of_ble_eq_true rfl, Nat.le_of_ble_eq_true rfl⟩ (q := 36) rfl (fun u_33 h_33 => ?_)
      have h_33 : ∀ p, p ≤ n → ¬ upd st k1 v p = 0 → u_33 (cnt (upd st k1 v) p) = nI p := h_33
      show G 0 0 (wC cI cJ cZ a hA nA gr li (upd st k1 v) u_33 (nI n) (nI (cnt (upd st k1 v) (n + 1) - 1)) nu ev od fp ti wc wu sc pv su sd (nI t)) [(0, .ref (a 0)), (1, .int (nI k1)), (2, .int v)] 36 []
      refine g_aload_n C 0 dX6_stop_36 rfl rfl rfl (q := 37) ?_
      refine gcV_qv C (n := 0) (As := []) (st := []) 0 (fun h => h) (fun _ h => h) dX6_stop_37 rfl rfl gX6_stop_X6_forgetChoices (c_X6_forgetChoices l D cI cJ cZ a hA nA gr li (upd st k1 v) u_33 n (cnt (upd st k1 v) (n + 1) - 1) nu ev od fp ti wc wu sc pv su sd t) rfl rfl rfl (by decide +kernel) ⟨Nat.le_of_ble_eq_true rfl, Nat.le_of_ble_eq_true rfl⟩ rfl rfl (Nat.le_of_ble_eq_true rfl) FT_b FT_h ⟨Nat.le_of_ble_eq_true rfl, Nat.le_of_ble_eq_true rfl⟩ (q := 40) rfl (fun u_37 h_37 => ?_)
      refine g_aload_n C 0 dX6_stop_40 rfl rfl rfl (q := 41) ?_
      refine g_get C 0 0 dX6_stop_41 (Cn := RX6) (T := TX6) (N := 6) (fun _ h => List.mem_cons_of_mem _ (List.mem_append_left _ (List.mem_append_left _ (List.mem_append_left _ (List.mem_append_right _ h))))) rfl rfl (by decide) (List.mem_cons_of_mem _ (List.mem_append_left _ (List.mem_append_left _ (List.mem_append_left _ (List.mem_append_left _ (List.mem_of_getElem? (i := 0) rfl)))))) rfl (q := 44) rfl ?_
      refine gcV_si C (n := 0) (As := []) (st := []) 1 (fun h => h) dX6_stop_44 rfl rfl gX6_stop_X0_legCount (c_X0_legCount l D cI cJ cZ a hA nA gr li (upd st k1 v) u_33 n (cnt (upd st k1 v) (n + 1) - 1) nu ev od fp ti wc (nI 0) sc pv (nI 0) sd t) rfl rfl rfl (by decide +kernel) ⟨Nat.le_of_ble_eq_true rfl, Nat.le_of_ble_eq_true rfl⟩ rfl rfl (Nat.le_of_ble_eq_true rfl) FT_b FT_h ⟨Nat.le_of_ble_eq_true rfl, Nat.le_of_ble_eq_true rfl⟩ (q := 47) rfl (fun r_44 h_44 => ?_)
      subst h_44
      exact hret _ (upd st k1 v, u_33, cnt (upd st k1 v) (n + 1) - 1, nI 0, nI 0) 47 _ dX6_stop_47 rfl (⟨by rw [aStop, if_pos c_8, if_neg (by rintro (q | q) <;> (rw [nI_eq (by omega) (by omega)] at q; omega)), nI_clamp (by omega)], LInv_of hL.1 hL.2.1 (upd_01 hst hv) (by show ¬ upd st k1 v 0 = 0; rw [pk_un (by omega)]; exact h0) (by show ¬ upd st k1 v n = 0; rw [pk_un (by omega)]; exact hL.2.2.2.2.1) rfl h_33, Or.inr rfl⟩)
    · replace c_21 := ite_n0 c_21
      refine g_bipush C (-3) dX6_stop_24 (by decide) (q := 26) rfl ?_
      exact hret _ (st, sp, m, wu, su) 26 _ dX6_stop_26 rfl (⟨by rw [aStop, if_pos c_8, if_pos (by rcases c_21 with q | q; (rw [q]; exact Or.inl rfl); (rw [q]; exact Or.inr rfl))], hL, Or.inl ⟨rfl, rfl, rfl, rfl⟩⟩)
  · replace c_8 := ite_e0 c_8
    refine g_iconst C (-1) dX6_stop_11 (by decide) (q := 12) rfl ?_
    exact hret _ (st, sp, m, wu, su) 12 _ dX6_stop_12 rfl (⟨by rw [aStop, if_neg c_8], hL, Or.inl ⟨rfl, rfl, rfl, rfl⟩⟩)
set_option maxHeartbeats 4000000 in
set_option maxRecDepth 100000 in
theorem c_X6_line (l : Launch) (D : va_G) (cI cJ cZ : ClassId) (a : Nat → Nat) (hA nA : Nat) (gr li st sp : Nat → Int32) (n m : Nat) (nu : Nat → Int32) (ev od : Nat → Int64) (fp ti : Nat → Int32) (wc : Nat → Int64) (wu : Int32) (sc pv : Nat → Int64) (su : Int32) (sd : Nat → Int32) (t : Nat) (k : Int32) : Met l yX6_line wsX6_line { frames := 2, cells := 0, slots := 0, locals := 44 } (gPc D (tyT cI cJ cZ) (wA a hA nA) FT (wC cI cJ cZ a hA nA gr li st sp (nI n) (nI m) nu ev od fp ti wc wu sc pv su sd (nI t)) [.ref (a 0), .int k]) (va_Qi (fun (r : Int32) (u : (Nat → Int32) × (Nat → Int32) × (Nat → Int32) × (Nat → Int32) × Nat × Nat × Int32 × Int32 × Nat) => (¬ lnP k → r = -2 ∧ u = (gr, li, st, sp, n, m, wu, su, t)) ∧ (lnP k → r = nI n ∧ ∃ (z z2 : Nat) (sp2 : Nat → Int32), k = nI z ∧ u = (fun _ => nI 0, fun _ => nI 6, stL z, sp2, z, z2, nI 0, nI 0, 0) ∧ LInv (stL z) sp2 z z2)) (fun u tS => va_P D vwCl ((fun (u : (Nat → Int32) × (Nat → Int32) × (Nat → Int32) × (Nat → Int32) × Nat × Nat × Int32 × Int32 × Nat) => wC cI cJ cZ a hA nA u.1 u.2.1 u.2.2.1 u.2.2.2.1 (nI u.2.2.2.2.1) (nI u.2.2.2.2.2.1) nu ev od fp ti wc u.2.2.2.2.2.2.1 sc pv u.2.2.2.2.2.2.2.1 sd (nI u.2.2.2.2.2.2.2.2)) u) tS.heap ∧ va_D (wA a hA nA) ((fun (u : (Nat → Int32) × (Nat → Int32) × (Nat → Int32) × (Nat → Int32) × Nat × Nat × Int32 × Int32 × Nat) => wC cI cJ cZ a hA nA u.1 u.2.1 u.2.2.1 u.2.2.2.1 (nI u.2.2.2.2.1) (nI u.2.2.2.2.2.1) nu ev od fp ti wc u.2.2.2.2.2.2.1 sc pv u.2.2.2.2.2.2.2.1 sd (nI u.2.2.2.2.2.2.2.2)) u)) (wA a hA nA)) 0 0 (wA a hA nA) := by
  refine gs_qi (cc := cX6_line) (nL := 3) (ty := .int) (W' := fun (u : (Nat → Int32) × (Nat → Int32) × (Nat → Int32) × (Nat → Int32) × Nat × Nat × Int32 × Int32 × Nat) => wC cI cJ cZ a hA nA u.1 u.2.1 u.2.2.1 u.2.2.2.1 (nI u.2.2.2.2.1) (nI u.2.2.2.2.2.1) nu ev od fp ti wc u.2.2.2.2.2.2.1 sc pv u.2.2.2.2.2.2.2.1 sd (nI u.2.2.2.2.2.2.2.2)) (by decide) rfl (Nat.le_of_ble_eq_true rfl) (fun G C hret => ?_)
  show G 0 0 (wC cI cJ cZ a hA nA gr li st sp (nI n) (nI m) nu ev od fp ti wc wu sc pv su sd (nI t)) [(0, .ref (a 0)), (1, .int k)] 0 []
  refine g_iload_n C 1 dX6_line_0 rfl rfl rfl (q := 1) ?_
  refine g_iconst C (nI 1) dX6_line_1 (by decide) (q := 2) rfl ?_
  refine g_icmp_lt C (t := 11) dX6_line_2 (by decide) (q := 5) rfl (fun c_2 => ?_) (fun c_2 => ?_)
  · refine g_bipush C (-2) dX6_line_11 (by decide) (q := 13) rfl ?_
    exact hret _ (gr, li, st, sp, n, m, wu, su, t) 13 _ dX6_line_13 rfl (⟨fun _ => ⟨rfl, rfl⟩, fun h => by first | exact absurd c_2 h.1 | exact absurd (Int32.not_lt.mp h.2) c_8⟩)
  · refine g_iload_n C 1 dX6_line_5 rfl rfl rfl (q := 6) ?_
    refine g_bipush C (nI 16) dX6_line_6 (by decide) (q := 8) rfl ?_
    refine g_icmp_le C (t := 14) dX6_line_8 (by decide) (q := 11) rfl (fun c_8 => ?_) (fun c_8 => ?_)
    · have hln : lnP k := ⟨c_2, Int32.not_lt.mpr c_8⟩
      obtain ⟨z, hz1, hz2, rfl⟩ := lnP_of hln
      refine g_aload_n C 0 dX6_line_14 rfl rfl rfl (q := 15) ?_
      refine g_get C 0 0 dX6_line_15 (Cn := RX6) (T := TX6) (N := 6) (fun _ h => List.mem_cons_of_mem _ (List.mem_append_left _ (List.mem_append_left _ (List.mem_append_left _ (List.mem_append_left _ (List.mem_append_right _ h)))))) rfl rfl (by decide) (List.mem_cons_of_mem _ (List.mem_append_left _ (List.mem_append_left _ (List.mem_append_left _ (List.mem_append_left _ (List.mem_append_left _ (List.mem_of_getElem? (i := 0) rfl))))))) rfl (q := 18) rfl ?_
      refine gcV_si C (n := 0) (As := []) (st := []) 1 (fun h => h) dX6_line_18 rfl rfl gX6_line_X0_cellCount (c_X0_cellCount l D cI cJ cZ a hA nA gr li st sp n m nu ev od fp ti wc wu sc pv su sd t) rfl rfl rfl (by decide +kernel) ⟨Nat.le_of_ble_eq_true rfl, Nat.le_of_ble_eq_true rfl⟩ rfl rfl (Nat.le_of_ble_eq_true rfl) FT_b FT_h ⟨Nat.le_of_ble_eq_true rfl, Nat.le_of_ble_eq_true rfl⟩ (q := 21) rfl (fun r_18 h_18 => ?_)
      subst h_18
      refine g_istore_n C [(2, .int (nI n)), (0, .ref (a 0)), (1, .int (nI z))] dX6_line_21 rfl (by decide) rfl (q := 22) rfl ?_
      refine g_aload_n C 1 dX6_line_22 rfl rfl rfl (q := 23) ?_
      refine g_get C 0 0 dX6_line_23 (Cn := RX6) (T := TX6) (N := 6) (fun _ h => List.mem_cons_of_mem _ (List.mem_append_left _ (List.mem_append_left _ (List.mem_append_left _ (List.mem_append_left _ (List.mem_append_right _ h)))))) rfl rfl (by decide) (List.mem_cons_of_mem _ (List.mem_append_left _ (List.mem_append_left _ (List.mem_append_left _ (List.mem_append_left _ (List.mem_append_left _ (List.mem_of_getElem? (i := 0) rfl))))))) rfl (q := 26) rfl ?_
      refine g_iload_n C 2 dX6_line_26 rfl rfl rfl (q := 27) ?_
      refine gcV_qv C (n := 1) (As := [.int (nI z)]) (st := []) 1 (fun h => h) (fun _ h => h) dX6_line_27 rfl rfl gX6_line_X0_lay (c_X0_lay l D cI cJ cZ a hA nA gr li st sp (nI n) (nI m) nu ev od fp ti wc wu sc pv su sd t z (by first | assumption | omega) (by first | assumption | omega)) rfl rfl rfl (by decide +kernel) ⟨Nat.le_of_ble_eq_true rfl, Nat.le_of_ble_eq_true rfl⟩ rfl rfl (Nat.le_of_ble_eq_true rfl) FT_b FT_h ⟨Nat.le_of_ble_eq_true rfl, Nat.le_of_ble_eq_true rfl⟩ (q := 30) rfl (fun u_27 h_27 => ?_)
      have h_27 : ∀ p, p ≤ z → ¬ stL z p = 0 → u_27 (cnt (stL z) p) = nI p := h_27
      show G 0 0 (wC cI cJ cZ a hA nA (fun _ => nI 0) (fun _ => nI 6) (stL z) u_27 (nI z) (nI (cnt (stL z) (z + 1) - 1)) nu ev od fp ti wc wu sc pv su sd (nI t)) [(2, .int (nI n)), (0, .ref (a 0)), (1, .int (nI z))] 30 []
      refine g_aload_n C 1 dX6_line_30 rfl rfl rfl (q := 31) ?_
      refine g_get C 0 5 dX6_line_31 (Cn := RX6) (T := TX6) (N := 6) (fun _ h => List.mem_cons_of_mem _ (List.mem_append_left _ (List.mem_append_left _ (List.mem_append_left _ (List.mem_append_left _ (List.mem_append_right _ h)))))) rfl rfl (by decide) (List.mem_cons_of_mem _ (List.mem_append_left _ (List.mem_append_left _ (List.mem_append_left _ (List.mem_append_left _ (List.mem_append_left _ (List.mem_of_getElem? (i := 1) rfl))))))) rfl (q := 34) rfl ?_
      refine gcV_qv C (n := 0) (As := []) (st := []) 6 (fun h => h) (fun _ h => h) dX6_line_34 rfl rfl gX6_line_X1_wipe (c_X1_wipe l D cI cJ cZ a hA nA (fun _ => nI 0) (fun _ => nI 6) (stL z) u_27 z (cnt (stL z) (z + 1) - 1) nu ev od fp ti wc wu sc pv su sd t) rfl rfl rfl (by decide +kernel) ⟨Nat.le_of_ble_eq_true rfl, Nat.le_of_ble_eq_true rfl⟩ rfl rfl (Nat.le_of_ble_eq_true rfl) FT_b FT_h ⟨Nat.le_of_ble_eq_true rfl, Nat.le_of_ble_eq_true rfl⟩ (q := 37) rfl (fun u_34 h_34 => ?_)
      refine g_aload_n C 1 dX6_line_37 rfl rfl rfl (q := 38) ?_
      refine gcV_qv C (n := 0) (As := []) (st := []) 0 (fun h => h) (fun _ h => h) dX6_line_38 rfl rfl gX6_line_X6_forgetChoices (c_X6_forgetChoices l D cI cJ cZ a hA nA (fun _ => nI 0) (fun _ => nI 6) (stL z) u_27 z (cnt (stL z) (z + 1) - 1) nu ev od fp ti wc wu sc pv su sd 0) rfl rfl rfl (by decide +kernel) ⟨Nat.le_of_ble_eq_true rfl, Nat.le_of_ble_eq_true rfl⟩ rfl rfl (Nat.le_of_ble_eq_true rfl) FT_b FT_h ⟨Nat.le_of_ble_eq_true rfl, Nat.le_of_ble_eq_true rfl⟩ (q := 41) rfl (fun u_38 h_38 => ?_)
      refine g_iload_n C 0 dX6_line_41 rfl rfl rfl (q := 42) ?_
      exact hret _ (fun _ => nI 0, fun _ => nI 6, stL z, u_27, z, cnt (stL z) (z + 1) - 1, nI 0, nI 0, 0) 42 _ dX6_line_42 rfl (⟨fun h => absurd hln h, fun _ => ⟨rfl, z, _, u_27, rfl, rfl, stL_LInv hz1 hz2 rfl h_27⟩⟩)
    · refine g_bipush C (-2) dX6_line_11 (by decide) (q := 13) rfl ?_
      exact hret _ (gr, li, st, sp, n, m, wu, su, t) 13 _ dX6_line_13 rfl (⟨fun _ => ⟨rfl, rfl⟩, fun h => by first | exact absurd c_2 h.1 | exact absurd (Int32.not_lt.mp h.2) c_8⟩)
end
