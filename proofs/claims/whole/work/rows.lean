section
-- ===== PART A: goes FIRST, ahead of the names: the tables' words, and 'selects' of the private methods out of them =====
/-- a private method of a class that the tables say can be made, by its rows of tables_1 -/
def lw_okq (q : MethodName × Nat) : Prop := (q.1.cls ≠ "java/lang/invoke/MethodHandle" ∧ q.1.cls ≠ "java/lang/invoke/VarHandle") ∧ Cond.instantiable q.1.cls q.2 ∈ tables_1 ∧ Cond.privateMethod q.1 ∈ tables_1 ∧ Cond.instanceMethod q.1 ∈ tables_1
theorem lw_p0 : lw_okq (⟨"RangeScan", "forgetScan", "()V"⟩, 8) := ⟨⟨by decide +kernel, by decide +kernel⟩, List.mem_of_getElem? (i := 8) (by decide +kernel), List.mem_of_getElem? (i := 108) (by decide +kernel), List.mem_of_getElem? (i := 109) (by decide +kernel)⟩
theorem lw_p1 : lw_okq (⟨"RangeScan", "isInstruction", "(I)Z"⟩, 8) := ⟨⟨by decide +kernel, by decide +kernel⟩, List.mem_of_getElem? (i := 8) (by decide +kernel), List.mem_of_getElem? (i := 124) (by decide +kernel), List.mem_of_getElem? (i := 125) (by decide +kernel)⟩
theorem lw_p2 : lw_okq (⟨"RangeScan", "isWhole", "()Z"⟩, 8) := ⟨⟨by decide +kernel, by decide +kernel⟩, List.mem_of_getElem? (i := 8) (by decide +kernel), List.mem_of_getElem? (i := 132) (by decide +kernel), List.mem_of_getElem? (i := 133) (by decide +kernel)⟩
theorem lw_p3 : lw_okq (⟨"RangeScan", "areAllPlacesInside", "()Z"⟩, 8) := ⟨⟨by decide +kernel, by decide +kernel⟩, List.mem_of_getElem? (i := 8) (by decide +kernel), List.mem_of_getElem? (i := 136) (by decide +kernel), List.mem_of_getElem? (i := 137) (by decide +kernel)⟩
theorem lw_p4 : lw_okq (⟨"RangeScan", "runRound", "()Z"⟩, 8) := ⟨⟨by decide +kernel, by decide +kernel⟩, List.mem_of_getElem? (i := 8) (by decide +kernel), List.mem_of_getElem? (i := 144) (by decide +kernel), List.mem_of_getElem? (i := 145) (by decide +kernel)⟩
theorem lw_p5 : lw_okq (⟨"RangeScan", "sendFlows", "(ILRangeScan$States;Z)Z"⟩, 8) := ⟨⟨by decide +kernel, by decide +kernel⟩, List.mem_of_getElem? (i := 8) (by decide +kernel), List.mem_of_getElem? (i := 152) (by decide +kernel), List.mem_of_getElem? (i := 153) (by decide +kernel)⟩
theorem lw_p6 : lw_okq (⟨"RangeScan", "makeFlowToNext", "(I)V"⟩, 8) := ⟨⟨by decide +kernel, by decide +kernel⟩, List.mem_of_getElem? (i := 8) (by decide +kernel), List.mem_of_getElem? (i := 156) (by decide +kernel), List.mem_of_getElem? (i := 157) (by decide +kernel)⟩
theorem lw_p7 : lw_okq (⟨"RangeScan", "calculate", "(III)V"⟩, 8) := ⟨⟨by decide +kernel, by decide +kernel⟩, List.mem_of_getElem? (i := 8) (by decide +kernel), List.mem_of_getElem? (i := 189) (by decide +kernel), List.mem_of_getElem? (i := 190) (by decide +kernel)⟩
theorem lw_p8 : lw_okq (⟨"RangeScan", "takeEnds", "(IIJJ)V"⟩, 8) := ⟨⟨by decide +kernel, by decide +kernel⟩, List.mem_of_getElem? (i := 8) (by decide +kernel), List.mem_of_getElem? (i := 201) (by decide +kernel), List.mem_of_getElem? (i := 202) (by decide +kernel)⟩
theorem lw_p9 : lw_okq (⟨"RangeScan", "putResults", "(I)V"⟩, 8) := ⟨⟨by decide +kernel, by decide +kernel⟩, List.mem_of_getElem? (i := 8) (by decide +kernel), List.mem_of_getElem? (i := 215) (by decide +kernel), List.mem_of_getElem? (i := 216) (by decide +kernel)⟩
theorem lw_p10 : lw_okq (⟨"RangeScan", "stopOutsideArray", "(I)V"⟩, 8) := ⟨⟨by decide +kernel, by decide +kernel⟩, List.mem_of_getElem? (i := 8) (by decide +kernel), List.mem_of_getElem? (i := 243) (by decide +kernel), List.mem_of_getElem? (i := 244) (by decide +kernel)⟩
theorem lw_p11 : lw_okq (⟨"RangeScan", "keepNotLess", "(II)V"⟩, 8) := ⟨⟨by decide +kernel, by decide +kernel⟩, List.mem_of_getElem? (i := 8) (by decide +kernel), List.mem_of_getElem? (i := 248) (by decide +kernel), List.mem_of_getElem? (i := 249) (by decide +kernel)⟩
theorem lw_p12 : lw_okq (⟨"RangeScan$Flow", "stopIfCrossed", "(I)V"⟩, 3) := ⟨⟨by decide +kernel, by decide +kernel⟩, List.mem_of_getElem? (i := 35) (by decide +kernel), List.mem_of_getElem? (i := 257) (by decide +kernel), List.mem_of_getElem? (i := 258) (by decide +kernel)⟩
theorem lw_p13 : lw_okq (⟨"RangeScan$States", "become", "(ILRangeScan$Flow;)V"⟩, 3) := ⟨⟨by decide +kernel, by decide +kernel⟩, List.mem_of_getElem? (i := 16) (by decide +kernel), List.mem_of_getElem? (i := 274) (by decide +kernel), List.mem_of_getElem? (i := 275) (by decide +kernel)⟩
theorem lw_p14 : lw_okq (⟨"RangeScan$States", "stretch", "(IILRangeScan$Flow;Z)Z"⟩, 3) := ⟨⟨by decide +kernel, by decide +kernel⟩, List.mem_of_getElem? (i := 16) (by decide +kernel), List.mem_of_getElem? (i := 280) (by decide +kernel), List.mem_of_getElem? (i := 281) (by decide +kernel)⟩
theorem lw_p15 : lw_okq (⟨"RangeScan", "makeFlowToPlace", "(I)V"⟩, 8) := ⟨⟨by decide +kernel, by decide +kernel⟩, List.mem_of_getElem? (i := 8) (by decide +kernel), List.mem_of_getElem? (i := 286) (by decide +kernel), List.mem_of_getElem? (i := 287) (by decide +kernel)⟩
def lw_privs_1 : List (MethodName × Nat) := [(⟨"RangeScan", "forgetScan", "()V"⟩, 8), (⟨"RangeScan", "isInstruction", "(I)Z"⟩, 8), (⟨"RangeScan", "isWhole", "()Z"⟩, 8), (⟨"RangeScan", "areAllPlacesInside", "()Z"⟩, 8), (⟨"RangeScan", "runRound", "()Z"⟩, 8), (⟨"RangeScan", "sendFlows", "(ILRangeScan$States;Z)Z"⟩, 8), (⟨"RangeScan", "makeFlowToNext", "(I)V"⟩, 8), (⟨"RangeScan", "calculate", "(III)V"⟩, 8), (⟨"RangeScan", "takeEnds", "(IIJJ)V"⟩, 8), (⟨"RangeScan", "putResults", "(I)V"⟩, 8), (⟨"RangeScan", "stopOutsideArray", "(I)V"⟩, 8), (⟨"RangeScan", "keepNotLess", "(II)V"⟩, 8), (⟨"RangeScan$Flow", "stopIfCrossed", "(I)V"⟩, 3), (⟨"RangeScan$States", "become", "(ILRangeScan$Flow;)V"⟩, 3), (⟨"RangeScan$States", "stretch", "(IILRangeScan$Flow;Z)Z"⟩, 3), (⟨"RangeScan", "makeFlowToPlace", "(I)V"⟩, 8)]
theorem lw_r1 : ∀ q ∈ lw_privs_1, lw_okq q := List.forall_mem_cons.mpr ⟨lw_p0, List.forall_mem_cons.mpr ⟨lw_p1, List.forall_mem_cons.mpr ⟨lw_p2, List.forall_mem_cons.mpr ⟨lw_p3, List.forall_mem_cons.mpr ⟨lw_p4, List.forall_mem_cons.mpr ⟨lw_p5, List.forall_mem_cons.mpr ⟨lw_p6, List.forall_mem_cons.mpr ⟨lw_p7, List.forall_mem_cons.mpr ⟨lw_p8, List.forall_mem_cons.mpr ⟨lw_p9, List.forall_mem_cons.mpr ⟨lw_p10, List.forall_mem_cons.mpr ⟨lw_p11, List.forall_mem_cons.mpr ⟨lw_p12, List.forall_mem_cons.mpr ⟨lw_p13, List.forall_mem_cons.mpr ⟨lw_p14, List.forall_mem_cons.mpr ⟨lw_p15, fun _ h => absurd h List.not_mem_nil⟩⟩⟩⟩⟩⟩⟩⟩⟩⟩⟩⟩⟩⟩⟩⟩
theorem lw_p16 : lw_okq (⟨"RangeScan", "keepLess", "(II)V"⟩, 8) := ⟨⟨by decide +kernel, by decide +kernel⟩, List.mem_of_getElem? (i := 8) (by decide +kernel), List.mem_of_getElem? (i := 290) (by decide +kernel), List.mem_of_getElem? (i := 291) (by decide +kernel)⟩
theorem lw_p17 : lw_okq (⟨"RangeScan", "settle", "()V"⟩, 8) := ⟨⟨by decide +kernel, by decide +kernel⟩, List.mem_of_getElem? (i := 8) (by decide +kernel), List.mem_of_getElem? (i := 294) (by decide +kernel), List.mem_of_getElem? (i := 295) (by decide +kernel)⟩
theorem lw_p18 : lw_okq (⟨"RangeScan", "countAlarms", "()I"⟩, 8) := ⟨⟨by decide +kernel, by decide +kernel⟩, List.mem_of_getElem? (i := 8) (by decide +kernel), List.mem_of_getElem? (i := 298) (by decide +kernel), List.mem_of_getElem? (i := 299) (by decide +kernel)⟩
theorem lw_p19 : lw_okq (⟨"RangeScan", "mayDivideByZero", "(I)Z"⟩, 8) := ⟨⟨by decide +kernel, by decide +kernel⟩, List.mem_of_getElem? (i := 8) (by decide +kernel), List.mem_of_getElem? (i := 310) (by decide +kernel), List.mem_of_getElem? (i := 311) (by decide +kernel)⟩
theorem lw_p20 : lw_okq (⟨"RangeScan", "mayLeaveArray", "(I)Z"⟩, 8) := ⟨⟨by decide +kernel, by decide +kernel⟩, List.mem_of_getElem? (i := 8) (by decide +kernel), List.mem_of_getElem? (i := 316) (by decide +kernel), List.mem_of_getElem? (i := 317) (by decide +kernel)⟩
theorem lw_p21 : lw_okq (⟨"RangeScanModel", "forget", "()V"⟩, 15) := ⟨⟨by decide +kernel, by decide +kernel⟩, List.mem_of_getElem? (i := 335) (by decide +kernel), List.mem_of_getElem? (i := 397) (by decide +kernel), List.mem_of_getElem? (i := 398) (by decide +kernel)⟩
theorem lw_p22 : lw_okq (⟨"RangeScanModel", "whole", "()Z"⟩, 15) := ⟨⟨by decide +kernel, by decide +kernel⟩, List.mem_of_getElem? (i := 335) (by decide +kernel), List.mem_of_getElem? (i := 417) (by decide +kernel), List.mem_of_getElem? (i := 418) (by decide +kernel)⟩
theorem lw_p23 : lw_okq (⟨"RangeScanModel", "flow", "(I)V"⟩, 15) := ⟨⟨by decide +kernel, by decide +kernel⟩, List.mem_of_getElem? (i := 335) (by decide +kernel), List.mem_of_getElem? (i := 422) (by decide +kernel), List.mem_of_getElem? (i := 423) (by decide +kernel)⟩
theorem lw_p24 : lw_okq (⟨"RangeScanModel", "set", "(IJJ)V"⟩, 15) := ⟨⟨by decide +kernel, by decide +kernel⟩, List.mem_of_getElem? (i := 335) (by decide +kernel), List.mem_of_getElem? (i := 426) (by decide +kernel), List.mem_of_getElem? (i := 427) (by decide +kernel)⟩
theorem lw_p25 : lw_okq (⟨"RangeScanModel", "calculate", "(IIIII)V"⟩, 15) := ⟨⟨by decide +kernel, by decide +kernel⟩, List.mem_of_getElem? (i := 335) (by decide +kernel), List.mem_of_getElem? (i := 433) (by decide +kernel), List.mem_of_getElem? (i := 434) (by decide +kernel)⟩
theorem lw_p26 : lw_okq (⟨"RangeScanModel", "corners", "(IJJJJ)V"⟩, 15) := ⟨⟨by decide +kernel, by decide +kernel⟩, List.mem_of_getElem? (i := 335) (by decide +kernel), List.mem_of_getElem? (i := 438) (by decide +kernel), List.mem_of_getElem? (i := 439) (by decide +kernel)⟩
theorem lw_p27 : lw_okq (⟨"RangeScanModel", "meet", "(IJJ)V"⟩, 15) := ⟨⟨by decide +kernel, by decide +kernel⟩, List.mem_of_getElem? (i := 335) (by decide +kernel), List.mem_of_getElem? (i := 442) (by decide +kernel), List.mem_of_getElem? (i := 443) (by decide +kernel)⟩
theorem lw_p28 : lw_okq (⟨"RangeScanModel", "compare", "(III)V"⟩, 15) := ⟨⟨by decide +kernel, by decide +kernel⟩, List.mem_of_getElem? (i := 335) (by decide +kernel), List.mem_of_getElem? (i := 448) (by decide +kernel), List.mem_of_getElem? (i := 449) (by decide +kernel)⟩
theorem lw_p29 : lw_okq (⟨"RangeScanModel", "target", "(II)I"⟩, 15) := ⟨⟨by decide +kernel, by decide +kernel⟩, List.mem_of_getElem? (i := 335) (by decide +kernel), List.mem_of_getElem? (i := 452) (by decide +kernel), List.mem_of_getElem? (i := 453) (by decide +kernel)⟩
theorem lw_p30 : lw_okq (⟨"RangeScanModel", "arrive", "(III)Z"⟩, 15) := ⟨⟨by decide +kernel, by decide +kernel⟩, List.mem_of_getElem? (i := 335) (by decide +kernel), List.mem_of_getElem? (i := 456) (by decide +kernel), List.mem_of_getElem? (i := 457) (by decide +kernel)⟩
theorem lw_p31 : lw_okq (⟨"RangeScanModel", "narrow", "()V"⟩, 15) := ⟨⟨by decide +kernel, by decide +kernel⟩, List.mem_of_getElem? (i := 335) (by decide +kernel), List.mem_of_getElem? (i := 460) (by decide +kernel), List.mem_of_getElem? (i := 461) (by decide +kernel)⟩
def lw_privs_2 : List (MethodName × Nat) := [(⟨"RangeScan", "keepLess", "(II)V"⟩, 8), (⟨"RangeScan", "settle", "()V"⟩, 8), (⟨"RangeScan", "countAlarms", "()I"⟩, 8), (⟨"RangeScan", "mayDivideByZero", "(I)Z"⟩, 8), (⟨"RangeScan", "mayLeaveArray", "(I)Z"⟩, 8), (⟨"RangeScanModel", "forget", "()V"⟩, 15), (⟨"RangeScanModel", "whole", "()Z"⟩, 15), (⟨"RangeScanModel", "flow", "(I)V"⟩, 15), (⟨"RangeScanModel", "set", "(IJJ)V"⟩, 15), (⟨"RangeScanModel", "calculate", "(IIIII)V"⟩, 15), (⟨"RangeScanModel", "corners", "(IJJJJ)V"⟩, 15), (⟨"RangeScanModel", "meet", "(IJJ)V"⟩, 15), (⟨"RangeScanModel", "compare", "(III)V"⟩, 15), (⟨"RangeScanModel", "target", "(II)I"⟩, 15), (⟨"RangeScanModel", "arrive", "(III)Z"⟩, 15), (⟨"RangeScanModel", "narrow", "()V"⟩, 15)]
theorem lw_r2 : ∀ q ∈ lw_privs_2, lw_okq q := List.forall_mem_cons.mpr ⟨lw_p16, List.forall_mem_cons.mpr ⟨lw_p17, List.forall_mem_cons.mpr ⟨lw_p18, List.forall_mem_cons.mpr ⟨lw_p19, List.forall_mem_cons.mpr ⟨lw_p20, List.forall_mem_cons.mpr ⟨lw_p21, List.forall_mem_cons.mpr ⟨lw_p22, List.forall_mem_cons.mpr ⟨lw_p23, List.forall_mem_cons.mpr ⟨lw_p24, List.forall_mem_cons.mpr ⟨lw_p25, List.forall_mem_cons.mpr ⟨lw_p26, List.forall_mem_cons.mpr ⟨lw_p27, List.forall_mem_cons.mpr ⟨lw_p28, List.forall_mem_cons.mpr ⟨lw_p29, List.forall_mem_cons.mpr ⟨lw_p30, List.forall_mem_cons.mpr ⟨lw_p31, fun _ h => absurd h List.not_mem_nil⟩⟩⟩⟩⟩⟩⟩⟩⟩⟩⟩⟩⟩⟩⟩⟩
def lw_privs : List (MethodName × Nat) := lw_privs_1 ++ (lw_privs_2)
def lw_tbl : List Cond := k2_sels lw_privs ++ tables_1
theorem lw_privs_ok : ∀ q ∈ lw_privs, lw_okq q := by
  show ∀ q ∈ lw_privs_1 ++ (lw_privs_2), lw_okq q
  exact List.forall_mem_append.mpr ⟨lw_r1, lw_r2⟩
end
section
theorem goodIn_r {big : List Cond} (ws : List Cond) (ps : List Nat) (hp : ws = ps.filterMap (fun i => big[i]?)) (h : ws.all goodWord = true) : GoodIn big ws := by
  intro w hw
  have h1 := List.all_eq_true.mp h w hw
  rw [hp] at hw
  obtain ⟨i, -, hi⟩ := List.mem_filterMap.mp hw
  have hm : w ∈ big := by first | exact List.mem_of_getElem? hi | exact List.getElem?_mem hi
  exact ⟨hm, good_of_word h1⟩
theorem goodIn_app {big a b : List Cond} (ha : GoodIn big a) (hb : GoodIn big b) : GoodIn big (a ++ b) := fun w h => (List.mem_append.mp h).elim (ha w) (hb w)
theorem goodIn_ca {big a b : List Cond} {c : Cond} (ha : GoodIn big (c :: a)) (hb : GoodIn big b) : GoodIn big (c :: (a ++ b)) := fun w h => (List.mem_cons.mp h).elim (fun e => ha w (List.mem_cons.mpr (Or.inl e))) (fun h => (List.mem_append.mp h).elim (fun h => ha w (List.mem_cons.mpr (Or.inr h))) (hb w))
theorem goodIn_sub {big ws : List Cond} (hm : ∀ w ∈ ws, w ∈ big) (h : ws.all goodWord = true) : GoodIn big ws := fun w hw => ⟨hm w hw, good_of_word (List.all_eq_true.mp h w hw)⟩
def RX0 : String := "RangeScan$Flow"
def TX0 : u_T := fun k => match k with
  | 0 => ("RangeScan$Flow", "something", "Z", false)
  | 1 => ("RangeScan$Flow", "lows", "[J", true)
  | _ => ("RangeScan$Flow", "highs", "[J", true)
def tyX0 : Nat → FieldType := fun k => match k with
  | 0 => .boolean
  | 1 => .array .long
  | _ => .array .long
abbrev wsX00 : List Cond := u_ws RX0 TX0 3
theorem nmX0 : ∀ a, a < 3 → ∀ b, b < 3 → a ≠ b → (TX0 a).2.1 ≠ (TX0 b).2.1 := by decide +kernel
theorem tyX0_ok : ∀ k, k < 3 → parseFieldDescriptor (TX0 k).2.2.1 = some (tyX0 k) := by decide +kernel
abbrev cX0_init : ByteArray := prog_2_method_1_code
def yX0_init : MethodName := ⟨RX0, "<init>", "()V"⟩
abbrev cX0_start : ByteArray := prog_2_method_2_code
def yX0_start : MethodName := ⟨RX0, "start", "()V"⟩
abbrev cX0_stop : ByteArray := prog_2_method_3_code
def yX0_stop : MethodName := ⟨RX0, "stop", "()V"⟩
abbrev cX0_isSomething : ByteArray := prog_2_method_4_code
def yX0_isSomething : MethodName := ⟨RX0, "isSomething", "()Z"⟩
abbrev cX0_lowOf : ByteArray := prog_2_method_5_code
def yX0_lowOf : MethodName := ⟨RX0, "lowOf", "(I)J"⟩
abbrev cX0_highOf : ByteArray := prog_2_method_6_code
def yX0_highOf : MethodName := ⟨RX0, "highOf", "(I)J"⟩
abbrev cX0_put : ByteArray := prog_2_method_7_code
def yX0_put : MethodName := ⟨RX0, "put", "(IJJ)V"⟩
abbrev cX0_raiseLow : ByteArray := prog_2_method_8_code
def yX0_raiseLow : MethodName := ⟨RX0, "raiseLow", "(IJ)V"⟩
abbrev cX0_lowerHigh : ByteArray := prog_2_method_9_code
def yX0_lowerHigh : MethodName := ⟨RX0, "lowerHigh", "(IJ)V"⟩
abbrev cX0_stopIfCrossed : ByteArray := prog_2_method_10_code
def yX0_stopIfCrossed : MethodName := ⟨RX0, "stopIfCrossed", "(I)V"⟩
def RX1 : String := "RangeScan$Results"
def TX1 : u_T := fun k => match k with
  | 0 => ("RangeScan$Results", "empty", "Z", false)
  | 1 => ("RangeScan$Results", "least", "J", false)
  | _ => ("RangeScan$Results", "greatest", "J", false)
def tyX1 : Nat → FieldType := fun k => match k with
  | 0 => .boolean
  | 1 => .long
  | _ => .long
abbrev wsX10 : List Cond := u_ws RX1 TX1 3
theorem nmX1 : ∀ a, a < 3 → ∀ b, b < 3 → a ≠ b → (TX1 a).2.1 ≠ (TX1 b).2.1 := by decide +kernel
theorem tyX1_ok : ∀ k, k < 3 → parseFieldDescriptor (TX1 k).2.2.1 = some (tyX1 k) := by decide +kernel
abbrev cX1_init : ByteArray := prog_3_method_1_code
def yX1_init : MethodName := ⟨RX1, "<init>", "()V"⟩
abbrev cX1_forget : ByteArray := prog_3_method_2_code
def yX1_forget : MethodName := ⟨RX1, "forget", "()V"⟩
abbrev cX1_isEmpty : ByteArray := prog_3_method_3_code
def yX1_isEmpty : MethodName := ⟨RX1, "isEmpty", "()Z"⟩
abbrev cX1_take : ByteArray := prog_3_method_4_code
def yX1_take : MethodName := ⟨RX1, "take", "(J)V"⟩
abbrev cX1_wrapTogether : ByteArray := prog_3_method_5_code
def yX1_wrapTogether : MethodName := ⟨RX1, "wrapTogether", "()Z"⟩
abbrev cX1_wrappedLeast : ByteArray := prog_3_method_6_code
def yX1_wrappedLeast : MethodName := ⟨RX1, "wrappedLeast", "()J"⟩
abbrev cX1_wrappedGreatest : ByteArray := prog_3_method_7_code
def yX1_wrappedGreatest : MethodName := ⟨RX1, "wrappedGreatest", "()J"⟩
def RX2 : String := "RangeScan$States"
def TX2 : u_T := fun k => match k with
  | 0 => ("RangeScan$States", "somewhere", "[Z", true)
  | 1 => ("RangeScan$States", "lows", "[J", true)
  | _ => ("RangeScan$States", "highs", "[J", true)
def tyX2 : Nat → FieldType := fun k => match k with
  | 0 => .array .boolean
  | 1 => .array .long
  | _ => .array .long
abbrev wsX20 : List Cond := u_ws RX2 TX2 3
theorem nmX2 : ∀ a, a < 3 → ∀ b, b < 3 → a ≠ b → (TX2 a).2.1 ≠ (TX2 b).2.1 := by decide +kernel
theorem tyX2_ok : ∀ k, k < 3 → parseFieldDescriptor (TX2 k).2.2.1 = some (tyX2 k) := by decide +kernel
abbrev cX2_init : ByteArray := prog_4_method_1_code
def yX2_init : MethodName := ⟨RX2, "<init>", "()V"⟩
abbrev cX2_begin : ByteArray := prog_4_method_2_code
def yX2_begin : MethodName := ⟨RX2, "begin", "()V"⟩
abbrev cX2_isSomewhere : ByteArray := prog_4_method_3_code
def yX2_isSomewhere : MethodName := ⟨RX2, "isSomewhere", "(I)Z"⟩
abbrev cX2_lowOf : ByteArray := prog_4_method_4_code
def yX2_lowOf : MethodName := ⟨RX2, "lowOf", "(II)J"⟩
abbrev cX2_highOf : ByteArray := prog_4_method_5_code
def yX2_highOf : MethodName := ⟨RX2, "highOf", "(II)J"⟩
abbrev cX2_copyTo : ByteArray := prog_4_method_6_code
def yX2_copyTo : MethodName := ⟨RX2, "copyTo", "(LRangeScan$Flow;I)V"⟩
abbrev cX2_take : ByteArray := prog_4_method_7_code
def yX2_take : MethodName := ⟨RX2, "take", "(ILRangeScan$Flow;Z)Z"⟩
abbrev cX2_become : ByteArray := prog_4_method_8_code
def yX2_become : MethodName := ⟨RX2, "become", "(ILRangeScan$Flow;)V"⟩
abbrev cX2_stretch : ByteArray := prog_4_method_9_code
def yX2_stretch : MethodName := ⟨RX2, "stretch", "(IILRangeScan$Flow;Z)Z"⟩
def RX3 : String := "RangeScan"
def TX3 : u_T := fun k => match k with
  | 0 => ("RangeScan", "codes", "[I", true)
  | 1 => ("RangeScan", "count", "I", false)
  | 2 => ("RangeScan", "scanned", "Z", false)
  | 3 => ("RangeScan", "roundsTaken", "I", false)
  | 4 => ("RangeScan", "found", "LRangeScan$States;", true)
  | 5 => ("RangeScan", "settled", "LRangeScan$States;", true)
  | 6 => ("RangeScan", "flow", "LRangeScan$Flow;", true)
  | _ => ("RangeScan", "results", "LRangeScan$Results;", true)
def tyX3 : Nat → FieldType := fun k => match k with
  | 0 => .array .int
  | 1 => .int
  | 2 => .boolean
  | 3 => .int
  | 4 => .object "RangeScan$States"
  | 5 => .object "RangeScan$States"
  | 6 => .object "RangeScan$Flow"
  | _ => .object "RangeScan$Results"
abbrev wsX30 : List Cond := u_ws RX3 TX3 8
theorem nmX3 : ∀ a, a < 8 → ∀ b, b < 8 → a ≠ b → (TX3 a).2.1 ≠ (TX3 b).2.1 := by decide +kernel
theorem tyX3_ok : ∀ k, k < 8 → parseFieldDescriptor (TX3 k).2.2.1 = some (tyX3 k) := by decide +kernel
abbrev cX3_init : ByteArray := prog_1_method_1_code
def yX3_init : MethodName := ⟨RX3, "<init>", "()V"⟩
abbrev cX3_add : ByteArray := prog_1_method_2_code
def yX3_add : MethodName := ⟨RX3, "add", "(IIII)I"⟩
abbrev cX3_clear : ByteArray := prog_1_method_3_code
def yX3_clear : MethodName := ⟨RX3, "clear", "()V"⟩
abbrev cX3_size : ByteArray := prog_1_method_4_code
def yX3_size : MethodName := ⟨RX3, "size", "()I"⟩
abbrev cX3_code : ByteArray := prog_1_method_5_code
def yX3_code : MethodName := ⟨RX3, "code", "(II)I"⟩
abbrev cX3_scan : ByteArray := prog_1_method_6_code
def yX3_scan : MethodName := ⟨RX3, "scan", "()I"⟩
abbrev cX3_rounds : ByteArray := prog_1_method_7_code
def yX3_rounds : MethodName := ⟨RX3, "rounds", "()I"⟩
abbrev cX3_reached : ByteArray := prog_1_method_8_code
def yX3_reached : MethodName := ⟨RX3, "reached", "(I)I"⟩
abbrev cX3_low : ByteArray := prog_1_method_9_code
def yX3_low : MethodName := ⟨RX3, "low", "(II)J"⟩
abbrev cX3_high : ByteArray := prog_1_method_10_code
def yX3_high : MethodName := ⟨RX3, "high", "(II)J"⟩
abbrev cX3_alarm : ByteArray := prog_1_method_11_code
def yX3_alarm : MethodName := ⟨RX3, "alarm", "(I)I"⟩
abbrev cX3_isVariable : ByteArray := prog_1_method_12_code
def yX3_isVariable : MethodName := ⟨RX3, "isVariable", "(I)Z"⟩
abbrev cX3_isInstruction : ByteArray := prog_1_method_13_code
def yX3_isInstruction : MethodName := ⟨RX3, "isInstruction", "(I)Z"⟩
abbrev cX3_areVariablesRight : ByteArray := prog_1_method_14_code
def yX3_areVariablesRight : MethodName := ⟨RX3, "areVariablesRight", "(IIII)Z"⟩
abbrev cX3_isPlaceRight : ByteArray := prog_1_method_15_code
def yX3_isPlaceRight : MethodName := ⟨RX3, "isPlaceRight", "(II)Z"⟩
abbrev cX3_goesOnAtC : ByteArray := prog_1_method_16_code
def yX3_goesOnAtC : MethodName := ⟨RX3, "goesOnAtC", "(I)Z"⟩
abbrev cX3_forgetScan : ByteArray := prog_1_method_17_code
def yX3_forgetScan : MethodName := ⟨RX3, "forgetScan", "()V"⟩
abbrev cX3_isWhole : ByteArray := prog_1_method_18_code
def yX3_isWhole : MethodName := ⟨RX3, "isWhole", "()Z"⟩
abbrev cX3_areAllPlacesInside : ByteArray := prog_1_method_19_code
def yX3_areAllPlacesInside : MethodName := ⟨RX3, "areAllPlacesInside", "()Z"⟩
abbrev cX3_runRound : ByteArray := prog_1_method_20_code
def yX3_runRound : MethodName := ⟨RX3, "runRound", "()Z"⟩
abbrev cX3_settle : ByteArray := prog_1_method_21_code
def yX3_settle : MethodName := ⟨RX3, "settle", "()V"⟩
abbrev cX3_sendFlows : ByteArray := prog_1_method_22_code
def yX3_sendFlows : MethodName := ⟨RX3, "sendFlows", "(ILRangeScan$States;Z)Z"⟩
abbrev cX3_makeFlowToNext : ByteArray := prog_1_method_23_code
def yX3_makeFlowToNext : MethodName := ⟨RX3, "makeFlowToNext", "(I)V"⟩
abbrev cX3_makeFlowToPlace : ByteArray := prog_1_method_24_code
def yX3_makeFlowToPlace : MethodName := ⟨RX3, "makeFlowToPlace", "(I)V"⟩
abbrev cX3_calculate : ByteArray := prog_1_method_25_code
def yX3_calculate : MethodName := ⟨RX3, "calculate", "(III)V"⟩
abbrev cX3_takeEnds : ByteArray := prog_1_method_26_code
def yX3_takeEnds : MethodName := ⟨RX3, "takeEnds", "(IIJJ)V"⟩
abbrev cX3_exactResult : ByteArray := prog_1_method_27_code
def yX3_exactResult : MethodName := ⟨RX3, "exactResult", "(IJJ)J"⟩
abbrev cX3_putResults : ByteArray := prog_1_method_28_code
def yX3_putResults : MethodName := ⟨RX3, "putResults", "(I)V"⟩
abbrev cX3_stopOutsideArray : ByteArray := prog_1_method_29_code
def yX3_stopOutsideArray : MethodName := ⟨RX3, "stopOutsideArray", "(I)V"⟩
abbrev cX3_keepNotLess : ByteArray := prog_1_method_30_code
def yX3_keepNotLess : MethodName := ⟨RX3, "keepNotLess", "(II)V"⟩
abbrev cX3_keepLess : ByteArray := prog_1_method_31_code
def yX3_keepLess : MethodName := ⟨RX3, "keepLess", "(II)V"⟩
abbrev cX3_countAlarms : ByteArray := prog_1_method_32_code
def yX3_countAlarms : MethodName := ⟨RX3, "countAlarms", "()I"⟩
abbrev cX3_mayDivideByZero : ByteArray := prog_1_method_33_code
def yX3_mayDivideByZero : MethodName := ⟨RX3, "mayDivideByZero", "(I)Z"⟩
abbrev cX3_mayLeaveArray : ByteArray := prog_1_method_34_code
def yX3_mayLeaveArray : MethodName := ⟨RX3, "mayLeaveArray", "(I)Z"⟩
def RX4 : String := "RangeScanModel"
def TX4 : u_T := fun k => match k with
  | 0 => ("RangeScanModel", "code", "[I", true)
  | 1 => ("RangeScanModel", "n", "I", false)
  | 2 => ("RangeScanModel", "rounds", "I", false)
  | 3 => ("RangeScanModel", "scanned", "Z", false)
  | 4 => ("RangeScanModel", "on", "[Z", true)
  | 5 => ("RangeScanModel", "lo", "[J", true)
  | 6 => ("RangeScanModel", "hi", "[J", true)
  | 7 => ("RangeScanModel", "newOn", "[Z", true)
  | 8 => ("RangeScanModel", "newLo", "[J", true)
  | 9 => ("RangeScanModel", "newHi", "[J", true)
  | 10 => ("RangeScanModel", "flows", "[Z", true)
  | 11 => ("RangeScanModel", "tlo", "[J", true)
  | 12 => ("RangeScanModel", "thi", "[J", true)
  | 13 => ("RangeScanModel", "least", "J", false)
  | _ => ("RangeScanModel", "greatest", "J", false)
def tyX4 : Nat → FieldType := fun k => match k with
  | 0 => .array .int
  | 1 => .int
  | 2 => .int
  | 3 => .boolean
  | 4 => .array .boolean
  | 5 => .array .long
  | 6 => .array .long
  | 7 => .array .boolean
  | 8 => .array .long
  | 9 => .array .long
  | 10 => .array .boolean
  | 11 => .array .long
  | 12 => .array .long
  | 13 => .long
  | _ => .long
abbrev wsX40 : List Cond := u_ws RX4 TX4 15
theorem nmX4 : ∀ a, a < 15 → ∀ b, b < 15 → a ≠ b → (TX4 a).2.1 ≠ (TX4 b).2.1 := by decide +kernel
theorem tyX4_ok : ∀ k, k < 15 → parseFieldDescriptor (TX4 k).2.2.1 = some (tyX4 k) := by decide +kernel
abbrev cX4_init : ByteArray := prog_6_method_1_code
def yX4_init : MethodName := ⟨RX4, "<init>", "()V"⟩
abbrev cX4_within : ByteArray := prog_6_method_2_code
def yX4_within : MethodName := ⟨RX4, "within", "(II)Z"⟩
abbrev cX4_fits : ByteArray := prog_6_method_3_code
def yX4_fits : MethodName := ⟨RX4, "fits", "(IIII)Z"⟩
abbrev cX4_add : ByteArray := prog_6_method_4_code
def yX4_add : MethodName := ⟨RX4, "add", "(IIII)I"⟩
abbrev cX4_forget : ByteArray := prog_6_method_5_code
def yX4_forget : MethodName := ⟨RX4, "forget", "()V"⟩
abbrev cX4_clear : ByteArray := prog_6_method_6_code
def yX4_clear : MethodName := ⟨RX4, "clear", "()V"⟩
abbrev cX4_size : ByteArray := prog_6_method_7_code
def yX4_size : MethodName := ⟨RX4, "size", "()I"⟩
abbrev cX4_code : ByteArray := prog_6_method_8_code
def yX4_code : MethodName := ⟨RX4, "code", "(II)I"⟩
abbrev cX4_whole : ByteArray := prog_6_method_9_code
def yX4_whole : MethodName := ⟨RX4, "whole", "()Z"⟩
abbrev cX4_set : ByteArray := prog_6_method_10_code
def yX4_set : MethodName := ⟨RX4, "set", "(IJJ)V"⟩
abbrev cX4_meet : ByteArray := prog_6_method_11_code
def yX4_meet : MethodName := ⟨RX4, "meet", "(IJJ)V"⟩
abbrev cX4_corners : ByteArray := prog_6_method_12_code
def yX4_corners : MethodName := ⟨RX4, "corners", "(IJJJJ)V"⟩
abbrev cX4_calculate : ByteArray := prog_6_method_13_code
def yX4_calculate : MethodName := ⟨RX4, "calculate", "(IIIII)V"⟩
abbrev cX4_compare : ByteArray := prog_6_method_14_code
def yX4_compare : MethodName := ⟨RX4, "compare", "(III)V"⟩
abbrev cX4_flow : ByteArray := prog_6_method_15_code
def yX4_flow : MethodName := ⟨RX4, "flow", "(I)V"⟩
abbrev cX4_arrive : ByteArray := prog_6_method_16_code
def yX4_arrive : MethodName := ⟨RX4, "arrive", "(III)Z"⟩
abbrev cX4_target : ByteArray := prog_6_method_17_code
def yX4_target : MethodName := ⟨RX4, "target", "(II)I"⟩
abbrev cX4_narrow : ByteArray := prog_6_method_18_code
def yX4_narrow : MethodName := ⟨RX4, "narrow", "()V"⟩
abbrev cX4_scan : ByteArray := prog_6_method_19_code
def yX4_scan : MethodName := ⟨RX4, "scan", "()I"⟩
abbrev cX4_rounds : ByteArray := prog_6_method_20_code
def yX4_rounds : MethodName := ⟨RX4, "rounds", "()I"⟩
abbrev cX4_reached : ByteArray := prog_6_method_21_code
def yX4_reached : MethodName := ⟨RX4, "reached", "(I)I"⟩
abbrev cX4_low : ByteArray := prog_6_method_22_code
def yX4_low : MethodName := ⟨RX4, "low", "(II)J"⟩
abbrev cX4_high : ByteArray := prog_6_method_23_code
def yX4_high : MethodName := ⟨RX4, "high", "(II)J"⟩
abbrev cX4_alarm : ByteArray := prog_6_method_24_code
def yX4_alarm : MethodName := ⟨RX4, "alarm", "(I)I"⟩
def RJ9 : String := "java/lang/Math"
def TJ9 : u_T := fun k => match k with
  | _ => ("", "", "", false)
def tyJ9 : Nat → FieldType := fun k => match k with
  | _ => .int
abbrev wsJ90 : List Cond := u_ws RJ9 TJ9 0
theorem nmJ9 : ∀ a, a < 0 → ∀ b, b < 0 → a ≠ b → (TJ9 a).2.1 ≠ (TJ9 b).2.1 := by decide +kernel
theorem tyJ9_ok : ∀ k, k < 0 → parseFieldDescriptor (TJ9 k).2.2.1 = some (tyJ9 k) := by decide +kernel
abbrev cJ9_max_f86c9 : ByteArray := prog_7_method_66_code
def yJ9_max_f86c9 : MethodName := ⟨RJ9, "max", "(JJ)J"⟩
abbrev cJ9_min_f86c9 : ByteArray := prog_7_method_70_code
def yJ9_min_f86c9 : MethodName := ⟨RJ9, "min", "(JJ)J"⟩
def RL : String := "RangeScanLaw"
abbrev cL_law : ByteArray := code
def yL_law : MethodName := ⟨RL, "law", "([I)Z"⟩
def wsX0_init : List Cond := .code yX0_init cX0_init 1 none :: ([.methodLink RX0 3 objectInit, .instanceMethod objectInit, .code objectInit ⟨#[0xb1]⟩ 1 none, .fieldLink RX0 9 "RangeScan$Flow" "something" "Z", .arrayClass .long, .fieldLink RX0 15 "RangeScan$Flow" "lows" "[J", .fieldLink RX0 19 "RangeScan$Flow" "highs" "[J"] ++ wsX00)
def wsX0_start : List Cond := .code yX0_start cX0_start 1 none :: ([.fieldLink RX0 9 "RangeScan$Flow" "something" "Z"] ++ wsX00)
def wsX0_stop : List Cond := .code yX0_stop cX0_stop 1 none :: ([.fieldLink RX0 9 "RangeScan$Flow" "something" "Z"] ++ wsX00)
def wsX0_isSomething : List Cond := .code yX0_isSomething cX0_isSomething 1 (some .boolean) :: ([.fieldLink RX0 9 "RangeScan$Flow" "something" "Z"] ++ wsX00)
def wsX0_lowOf : List Cond := .code yX0_lowOf cX0_lowOf 2 (some .long) :: ([.fieldLink RX0 15 "RangeScan$Flow" "lows" "[J"] ++ wsX00)
def wsX0_highOf : List Cond := .code yX0_highOf cX0_highOf 2 (some .long) :: ([.fieldLink RX0 19 "RangeScan$Flow" "highs" "[J"] ++ wsX00)
def wsX0_put : List Cond := .code yX0_put cX0_put 6 none :: ([.fieldLink RX0 15 "RangeScan$Flow" "lows" "[J", .fieldLink RX0 19 "RangeScan$Flow" "highs" "[J"] ++ wsX00)
def wsX0_stopIfCrossed : List Cond := .code yX0_stopIfCrossed cX0_stopIfCrossed 2 none :: ([.fieldLink RX0 15 "RangeScan$Flow" "lows" "[J", .fieldLink RX0 19 "RangeScan$Flow" "highs" "[J", .fieldLink RX0 9 "RangeScan$Flow" "something" "Z"] ++ wsX00)
def wsX0_raiseLow : List Cond := .code yX0_raiseLow cX0_raiseLow 4 none :: ([.fieldLink RX0 15 "RangeScan$Flow" "lows" "[J", .methodLink RX0 22 Lib.MathLoose.max_long.x, .static Lib.MathLoose.max_long.x, .initialized "java/lang/Math", .code Lib.MathLoose.max_long.x Lib.MathLoose.max_long.code 4 (some .long), .methodLink RX0 28 yX0_stopIfCrossed, .instanceMethod yX0_stopIfCrossed, .selects RX0 yX0_stopIfCrossed yX0_stopIfCrossed, .initialized RX0, .code yX0_stopIfCrossed cX0_stopIfCrossed 2 none, .fieldLink RX0 19 "RangeScan$Flow" "highs" "[J", .fieldLink RX0 9 "RangeScan$Flow" "something" "Z"] ++ wsX00)
def wsX0_lowerHigh : List Cond := .code yX0_lowerHigh cX0_lowerHigh 4 none :: ([.fieldLink RX0 19 "RangeScan$Flow" "highs" "[J", .methodLink RX0 32 Lib.MathLoose.min_long.x, .static Lib.MathLoose.min_long.x, .initialized "java/lang/Math", .code Lib.MathLoose.min_long.x Lib.MathLoose.min_long.code 4 (some .long), .methodLink RX0 28 yX0_stopIfCrossed, .instanceMethod yX0_stopIfCrossed, .selects RX0 yX0_stopIfCrossed yX0_stopIfCrossed, .initialized RX0, .code yX0_stopIfCrossed cX0_stopIfCrossed 2 none, .fieldLink RX0 15 "RangeScan$Flow" "lows" "[J", .fieldLink RX0 9 "RangeScan$Flow" "something" "Z"] ++ wsX00)
def wsX1_init : List Cond := .code yX1_init cX1_init 1 none :: ([.methodLink RX1 1 objectInit, .instanceMethod objectInit, .code objectInit ⟨#[0xb1]⟩ 1 none, .fieldLink RX1 7 "RangeScan$Results" "empty" "Z", .fieldLink RX1 13 "RangeScan$Results" "least" "J", .fieldLink RX1 17 "RangeScan$Results" "greatest" "J"] ++ wsX10)
def wsX1_forget : List Cond := .code yX1_forget cX1_forget 1 none :: ([.fieldLink RX1 7 "RangeScan$Results" "empty" "Z"] ++ wsX10)
def wsX1_isEmpty : List Cond := .code yX1_isEmpty cX1_isEmpty 1 (some .boolean) :: ([.fieldLink RX1 7 "RangeScan$Results" "empty" "Z"] ++ wsX10)
def wsX1_take : List Cond := .code yX1_take cX1_take 3 none :: ([.fieldLink RX1 7 "RangeScan$Results" "empty" "Z", .fieldLink RX1 13 "RangeScan$Results" "least" "J", .fieldLink RX1 17 "RangeScan$Results" "greatest" "J"] ++ wsX10)
def wsX1_wrappedLeast : List Cond := .code yX1_wrappedLeast cX1_wrappedLeast 1 (some .long) :: ([.fieldLink RX1 13 "RangeScan$Results" "least" "J"] ++ wsX10)
def wsX1_wrappedGreatest : List Cond := .code yX1_wrappedGreatest cX1_wrappedGreatest 1 (some .long) :: ([.fieldLink RX1 17 "RangeScan$Results" "greatest" "J"] ++ wsX10)
def wsX1_wrapTogether : List Cond := .code yX1_wrapTogether cX1_wrapTogether 1 (some .boolean) :: ([.fieldLink RX1 13 "RangeScan$Results" "least" "J", .fieldLink RX1 17 "RangeScan$Results" "greatest" "J", .methodLink RX1 20 yX1_wrappedLeast, .instanceMethod yX1_wrappedLeast, .selects RX1 yX1_wrappedLeast yX1_wrappedLeast, .initialized RX1, .code yX1_wrappedLeast cX1_wrappedLeast 1 (some .long), .methodLink RX1 24 yX1_wrappedGreatest, .instanceMethod yX1_wrappedGreatest, .selects RX1 yX1_wrappedGreatest yX1_wrappedGreatest, .code yX1_wrappedGreatest cX1_wrappedGreatest 1 (some .long)] ++ wsX10)
def wsX2_init : List Cond := .code yX2_init cX2_init 1 none :: ([.methodLink RX2 3 objectInit, .instanceMethod objectInit, .code objectInit ⟨#[0xb1]⟩ 1 none, .arrayClass .boolean, .fieldLink RX2 9 "RangeScan$States" "somewhere" "[Z", .arrayClass .long, .fieldLink RX2 15 "RangeScan$States" "lows" "[J", .fieldLink RX2 19 "RangeScan$States" "highs" "[J"] ++ wsX20)
def wsX2_begin : List Cond := .code yX2_begin cX2_begin 2 none :: ([.fieldLink RX2 9 "RangeScan$States" "somewhere" "[Z", .fieldLink RX2 15 "RangeScan$States" "lows" "[J", .fieldLink RX2 19 "RangeScan$States" "highs" "[J"] ++ wsX20)
def wsX2_isSomewhere : List Cond := .code yX2_isSomewhere cX2_isSomewhere 2 (some .boolean) :: ([.fieldLink RX2 9 "RangeScan$States" "somewhere" "[Z"] ++ wsX20)
def wsX2_lowOf : List Cond := .code yX2_lowOf cX2_lowOf 3 (some .long) :: ([.fieldLink RX2 15 "RangeScan$States" "lows" "[J"] ++ wsX20)
def wsX2_highOf : List Cond := .code yX2_highOf cX2_highOf 3 (some .long) :: ([.fieldLink RX2 19 "RangeScan$States" "highs" "[J"] ++ wsX20)
def wsX2_copyTo : List Cond := .code yX2_copyTo cX2_copyTo 4 none :: ([.methodLink RX2 22 yX0_start, .instanceMethod yX0_start, .selects RX0 yX0_start yX0_start, .initialized RX0, .code yX0_start cX0_start 1 none, .fieldLink RX0 9 "RangeScan$Flow" "something" "Z", .methodLink RX2 27 yX2_lowOf, .instanceMethod yX2_lowOf, .selects RX2 yX2_lowOf yX2_lowOf, .initialized RX2, .code yX2_lowOf cX2_lowOf 3 (some .long), .fieldLink RX2 15 "RangeScan$States" "lows" "[J", .methodLink RX2 31 yX2_highOf, .instanceMethod yX2_highOf, .selects RX2 yX2_highOf yX2_highOf, .code yX2_highOf cX2_highOf 3 (some .long), .fieldLink RX2 19 "RangeScan$States" "highs" "[J", .methodLink RX2 34 yX0_put, .instanceMethod yX0_put, .selects RX0 yX0_put yX0_put, .code yX0_put cX0_put 6 none, .fieldLink RX0 15 "RangeScan$Flow" "lows" "[J", .fieldLink RX0 19 "RangeScan$Flow" "highs" "[J"] ++ wsX00 ++ wsX20)
def wsX2_become : List Cond := .code yX2_become cX2_become 4 none :: ([.fieldLink RX2 9 "RangeScan$States" "somewhere" "[Z", .fieldLink RX2 15 "RangeScan$States" "lows" "[J", .fieldLink RX2 19 "RangeScan$States" "highs" "[J", .methodLink RX2 50 yX0_lowOf, .instanceMethod yX0_lowOf, .selects RX0 yX0_lowOf yX0_lowOf, .initialized RX0, .code yX0_lowOf cX0_lowOf 2 (some .long), .fieldLink RX0 15 "RangeScan$Flow" "lows" "[J", .methodLink RX2 53 yX0_highOf, .instanceMethod yX0_highOf, .selects RX0 yX0_highOf yX0_highOf, .code yX0_highOf cX0_highOf 2 (some .long), .fieldLink RX0 19 "RangeScan$Flow" "highs" "[J"] ++ wsX20 ++ wsX00)
def wsX2_stretch : List Cond := .code yX2_stretch cX2_stretch 7 (some .boolean) :: ([.fieldLink RX2 15 "RangeScan$States" "lows" "[J", .constantLong RX2 55 (-2147483648), .fieldLink RX2 19 "RangeScan$States" "highs" "[J", .constantLong RX2 57 (2147483647), .methodLink RX2 50 yX0_lowOf, .instanceMethod yX0_lowOf, .selects RX0 yX0_lowOf yX0_lowOf, .initialized RX0, .code yX0_lowOf cX0_lowOf 2 (some .long), .fieldLink RX0 15 "RangeScan$Flow" "lows" "[J", .methodLink RX2 53 yX0_highOf, .instanceMethod yX0_highOf, .selects RX0 yX0_highOf yX0_highOf, .code yX0_highOf cX0_highOf 2 (some .long), .fieldLink RX0 19 "RangeScan$Flow" "highs" "[J"] ++ wsX20 ++ wsX00)
def wsX2_take_r1 : List Cond := [Cond.fieldLink RX2 9 "RangeScan$States" "somewhere" "[Z", Cond.methodLink RX2 38 yX0_isSomething, Cond.instanceMethod yX0_isSomething, Cond.selects RX0 yX0_isSomething yX0_isSomething, Cond.initialized RX0, Cond.code yX0_isSomething cX0_isSomething 1 (some .boolean), Cond.fieldLink RX0 9 "RangeScan$Flow" "something" "Z", Cond.methodLink RX2 42 yX2_become, Cond.instanceMethod yX2_become, Cond.selects RX2 yX2_become yX2_become, Cond.initialized RX2, Cond.code yX2_become cX2_become 4 none, Cond.fieldLink RX2 15 "RangeScan$States" "lows" "[J", Cond.fieldLink RX2 19 "RangeScan$States" "highs" "[J", Cond.methodLink RX2 50 yX0_lowOf, Cond.instanceMethod yX0_lowOf, Cond.selects RX0 yX0_lowOf yX0_lowOf, Cond.code yX0_lowOf cX0_lowOf 2 (some .long), Cond.fieldLink RX0 15 "RangeScan$Flow" "lows" "[J", Cond.methodLink RX2 53 yX0_highOf, Cond.instanceMethod yX0_highOf, Cond.selects RX0 yX0_highOf yX0_highOf, Cond.code yX0_highOf cX0_highOf 2 (some .long), Cond.fieldLink RX0 19 "RangeScan$Flow" "highs" "[J"]
def wsX2_take_r2 : List Cond := [Cond.methodLink RX2 46 yX2_stretch, Cond.instanceMethod yX2_stretch, Cond.selects RX2 yX2_stretch yX2_stretch, Cond.code yX2_stretch cX2_stretch 7 (some .boolean), Cond.constantLong RX2 55 (-2147483648), Cond.constantLong RX2 57 (2147483647)]
def wsX2_take : List Cond := .code yX2_take cX2_take 6 (some .boolean) :: ((wsX2_take_r1 ++ wsX2_take_r2) ++ wsX20 ++ wsX00)
def wsX3_init_r1 : List Cond := [Cond.methodLink RX3 1 objectInit, Cond.instanceMethod objectInit, Cond.code objectInit ⟨#[0xb1]⟩ 1 none, Cond.arrayClass .int, Cond.fieldLink RX3 9 "RangeScan" "codes" "[I", Cond.fieldLink RX3 13 "RangeScan" "count" "I", Cond.fieldLink RX3 17 "RangeScan" "scanned" "Z", Cond.fieldLink RX3 21 "RangeScan" "roundsTaken" "I", Cond.classLink RX3 24 RX2, Cond.instantiable RX2 3, Cond.initialized RX2, Cond.fieldLink RX3 27 "RangeScan" "found" "LRangeScan$States;", Cond.fieldLink RX3 31 "RangeScan" "settled" "LRangeScan$States;", Cond.classLink RX3 34 RX0, Cond.instantiable RX0 3, Cond.initialized RX0, Cond.fieldLink RX3 37 "RangeScan" "flow" "LRangeScan$Flow;", Cond.classLink RX3 41 RX1, Cond.instantiable RX1 3, Cond.initialized RX1, Cond.fieldLink RX3 44 "RangeScan" "results" "LRangeScan$Results;", Cond.instanceMethod yX2_init, Cond.code yX2_init cX2_init 1 none, Cond.methodLink RX2 3 objectInit]
def wsX3_init_r2 : List Cond := [Cond.arrayClass .boolean, Cond.fieldLink RX2 9 "RangeScan$States" "somewhere" "[Z", Cond.arrayClass .long, Cond.fieldLink RX2 15 "RangeScan$States" "lows" "[J", Cond.fieldLink RX2 19 "RangeScan$States" "highs" "[J", Cond.instanceMethod yX0_init, Cond.code yX0_init cX0_init 1 none, Cond.methodLink RX0 3 objectInit, Cond.fieldLink RX0 9 "RangeScan$Flow" "something" "Z", Cond.fieldLink RX0 15 "RangeScan$Flow" "lows" "[J", Cond.fieldLink RX0 19 "RangeScan$Flow" "highs" "[J", Cond.instanceMethod yX1_init, Cond.code yX1_init cX1_init 1 none, Cond.methodLink RX1 1 objectInit, Cond.fieldLink RX1 7 "RangeScan$Results" "empty" "Z", Cond.fieldLink RX1 13 "RangeScan$Results" "least" "J", Cond.fieldLink RX1 17 "RangeScan$Results" "greatest" "J"]
def wsX3_init : List Cond := .code yX3_init cX3_init 1 none :: ((wsX3_init_r1 ++ wsX3_init_r2) ++ wsX30 ++ wsX20 ++ wsX00 ++ wsX10)
def wsX3_isVariable : List Cond := .code yX3_isVariable cX3_isVariable 1 (some .boolean) :: ([])
def wsX3_areVariablesRight : List Cond := .code yX3_areVariablesRight cX3_areVariablesRight 7 (some .boolean) :: ([.methodLink RX3 87 yX3_isVariable, .static yX3_isVariable, .initialized RX3, .code yX3_isVariable cX3_isVariable 1 (some .boolean)])
def wsX3_goesOnAtC : List Cond := .code yX3_goesOnAtC cX3_goesOnAtC 1 (some .boolean) :: ([])
def wsX3_isPlaceRight : List Cond := .code yX3_isPlaceRight cX3_isPlaceRight 2 (some .boolean) :: ([.methodLink RX3 105 yX3_goesOnAtC, .static yX3_goesOnAtC, .initialized RX3, .code yX3_goesOnAtC cX3_goesOnAtC 1 (some .boolean)])
def wsX3_forgetScan : List Cond := .code yX3_forgetScan cX3_forgetScan 1 none :: ([.fieldLink RX3 17 "RangeScan" "scanned" "Z", .fieldLink RX3 21 "RangeScan" "roundsTaken" "I"] ++ wsX30)
def wsX3_add : List Cond := .code yX3_add cX3_add 6 (some .int) :: ([.fieldLink RX3 13 "RangeScan" "count" "I", .fieldLink RX3 9 "RangeScan" "codes" "[I", .methodLink RX3 48 yX3_areVariablesRight, .static yX3_areVariablesRight, .initialized RX3, .code yX3_areVariablesRight cX3_areVariablesRight 7 (some .boolean), .methodLink RX3 87 yX3_isVariable, .static yX3_isVariable, .code yX3_isVariable cX3_isVariable 1 (some .boolean), .methodLink RX3 52 yX3_isPlaceRight, .static yX3_isPlaceRight, .code yX3_isPlaceRight cX3_isPlaceRight 2 (some .boolean), .methodLink RX3 105 yX3_goesOnAtC, .static yX3_goesOnAtC, .code yX3_goesOnAtC cX3_goesOnAtC 1 (some .boolean), .methodLink RX3 56 yX3_forgetScan, .instanceMethod yX3_forgetScan, .selects RX3 yX3_forgetScan yX3_forgetScan, .code yX3_forgetScan cX3_forgetScan 1 none, .fieldLink RX3 17 "RangeScan" "scanned" "Z", .fieldLink RX3 21 "RangeScan" "roundsTaken" "I"] ++ wsX30)
def wsX3_clear : List Cond := .code yX3_clear cX3_clear 1 none :: ([.fieldLink RX3 13 "RangeScan" "count" "I", .methodLink RX3 56 yX3_forgetScan, .instanceMethod yX3_forgetScan, .selects RX3 yX3_forgetScan yX3_forgetScan, .initialized RX3, .code yX3_forgetScan cX3_forgetScan 1 none, .fieldLink RX3 17 "RangeScan" "scanned" "Z", .fieldLink RX3 21 "RangeScan" "roundsTaken" "I"] ++ wsX30)
def wsX3_size : List Cond := .code yX3_size cX3_size 1 (some .int) :: ([.fieldLink RX3 13 "RangeScan" "count" "I"] ++ wsX30)
def wsX3_isInstruction : List Cond := .code yX3_isInstruction cX3_isInstruction 2 (some .boolean) :: ([.fieldLink RX3 13 "RangeScan" "count" "I"] ++ wsX30)
def wsX3_code : List Cond := .code yX3_code cX3_code 3 (some .int) :: ([.fieldLink RX3 9 "RangeScan" "codes" "[I", .methodLink RX3 59 yX3_isInstruction, .instanceMethod yX3_isInstruction, .selects RX3 yX3_isInstruction yX3_isInstruction, .initialized RX3, .code yX3_isInstruction cX3_isInstruction 2 (some .boolean), .fieldLink RX3 13 "RangeScan" "count" "I"] ++ wsX30)
def wsX3_areAllPlacesInside : List Cond := .code yX3_areAllPlacesInside cX3_areAllPlacesInside 3 (some .boolean) :: ([.fieldLink RX3 13 "RangeScan" "count" "I", .fieldLink RX3 9 "RangeScan" "codes" "[I", .methodLink RX3 105 yX3_goesOnAtC, .static yX3_goesOnAtC, .initialized RX3, .code yX3_goesOnAtC cX3_goesOnAtC 1 (some .boolean), .methodLink RX3 59 yX3_isInstruction, .instanceMethod yX3_isInstruction, .selects RX3 yX3_isInstruction yX3_isInstruction, .code yX3_isInstruction cX3_isInstruction 2 (some .boolean)] ++ wsX30)
def wsX3_isWhole : List Cond := .code yX3_isWhole cX3_isWhole 2 (some .boolean) :: ([.fieldLink RX3 13 "RangeScan" "count" "I", .fieldLink RX3 9 "RangeScan" "codes" "[I", .methodLink RX3 108 yX3_areAllPlacesInside, .instanceMethod yX3_areAllPlacesInside, .selects RX3 yX3_areAllPlacesInside yX3_areAllPlacesInside, .initialized RX3, .code yX3_areAllPlacesInside cX3_areAllPlacesInside 3 (some .boolean), .methodLink RX3 105 yX3_goesOnAtC, .static yX3_goesOnAtC, .code yX3_goesOnAtC cX3_goesOnAtC 1 (some .boolean), .methodLink RX3 59 yX3_isInstruction, .instanceMethod yX3_isInstruction, .selects RX3 yX3_isInstruction yX3_isInstruction, .code yX3_isInstruction cX3_isInstruction 2 (some .boolean)] ++ wsX30)
def wsX3_exactResult : List Cond := .code yX3_exactResult cX3_exactResult 5 (some .long) :: ([])
def wsX3_takeEnds_r1 : List Cond := [Cond.fieldLink RX3 37 "RangeScan" "flow" "LRangeScan$Flow;", Cond.fieldLink RX3 44 "RangeScan" "results" "LRangeScan$Results;", Cond.methodLink RX3 134 yX0_lowOf, Cond.instanceMethod yX0_lowOf, Cond.selects RX0 yX0_lowOf yX0_lowOf, Cond.initialized RX0, Cond.code yX0_lowOf cX0_lowOf 2 (some .long), Cond.fieldLink RX0 15 "RangeScan$Flow" "lows" "[J", Cond.methodLink RX3 137 yX0_highOf, Cond.instanceMethod yX0_highOf, Cond.selects RX0 yX0_highOf yX0_highOf, Cond.code yX0_highOf cX0_highOf 2 (some .long), Cond.fieldLink RX0 19 "RangeScan$Flow" "highs" "[J", Cond.methodLink RX3 181 yX3_exactResult, Cond.static yX3_exactResult, Cond.initialized RX3, Cond.code yX3_exactResult cX3_exactResult 5 (some .long), Cond.methodLink RX3 185 yX1_take, Cond.instanceMethod yX1_take, Cond.selects RX1 yX1_take yX1_take, Cond.initialized RX1, Cond.code yX1_take cX1_take 3 none, Cond.fieldLink RX1 7 "RangeScan$Results" "empty" "Z", Cond.fieldLink RX1 13 "RangeScan$Results" "least" "J"]
def wsX3_takeEnds_r2 : List Cond := [Cond.fieldLink RX1 17 "RangeScan$Results" "greatest" "J"]
def wsX3_takeEnds : List Cond := .code yX3_takeEnds cX3_takeEnds 11 none :: ((wsX3_takeEnds_r1 ++ wsX3_takeEnds_r2) ++ wsX30 ++ wsX00 ++ wsX10)
def wsX3_calculate_r1 : List Cond := [Cond.fieldLink RX3 37 "RangeScan" "flow" "LRangeScan$Flow;", Cond.fieldLink RX3 44 "RangeScan" "results" "LRangeScan$Results;", Cond.constantLong RX3 166 (-1), Cond.methodLink RX3 168 Lib.MathLoose.min_long.x, Cond.static Lib.MathLoose.min_long.x, Cond.initialized "java/lang/Math", Cond.code Lib.MathLoose.min_long.x Lib.MathLoose.min_long.code 4 (some .long), Cond.methodLink RX3 178 Lib.MathLoose.max_long.x, Cond.static Lib.MathLoose.max_long.x, Cond.code Lib.MathLoose.max_long.x Lib.MathLoose.max_long.code 4 (some .long), Cond.methodLink RX3 134 yX0_lowOf, Cond.instanceMethod yX0_lowOf, Cond.selects RX0 yX0_lowOf yX0_lowOf, Cond.initialized RX0, Cond.code yX0_lowOf cX0_lowOf 2 (some .long), Cond.fieldLink RX0 15 "RangeScan$Flow" "lows" "[J", Cond.methodLink RX3 137 yX0_highOf, Cond.instanceMethod yX0_highOf, Cond.selects RX0 yX0_highOf yX0_highOf, Cond.code yX0_highOf cX0_highOf 2 (some .long), Cond.fieldLink RX0 19 "RangeScan$Flow" "highs" "[J", Cond.methodLink RX3 163 yX1_forget, Cond.instanceMethod yX1_forget, Cond.selects RX1 yX1_forget yX1_forget]
def wsX3_calculate_r2 : List Cond := [Cond.initialized RX1, Cond.code yX1_forget cX1_forget 1 none, Cond.fieldLink RX1 7 "RangeScan$Results" "empty" "Z", Cond.methodLink RX3 174 yX3_takeEnds, Cond.instanceMethod yX3_takeEnds, Cond.selects RX3 yX3_takeEnds yX3_takeEnds, Cond.initialized RX3, Cond.code yX3_takeEnds cX3_takeEnds 11 none, Cond.methodLink RX3 181 yX3_exactResult, Cond.static yX3_exactResult, Cond.code yX3_exactResult cX3_exactResult 5 (some .long), Cond.methodLink RX3 185 yX1_take, Cond.instanceMethod yX1_take, Cond.selects RX1 yX1_take yX1_take, Cond.code yX1_take cX1_take 3 none, Cond.fieldLink RX1 13 "RangeScan$Results" "least" "J", Cond.fieldLink RX1 17 "RangeScan$Results" "greatest" "J"]
def wsX3_calculate : List Cond := .code yX3_calculate cX3_calculate 8 none :: ((wsX3_calculate_r1 ++ wsX3_calculate_r2) ++ wsX30 ++ wsX00 ++ wsX10)
def wsX3_putResults_r1 : List Cond := [Cond.fieldLink RX3 44 "RangeScan" "results" "LRangeScan$Results;", Cond.fieldLink RX3 37 "RangeScan" "flow" "LRangeScan$Flow;", Cond.constantLong RX3 149 (-2147483648), Cond.constantLong RX3 151 (2147483647), Cond.methodLink RX3 188 yX1_isEmpty, Cond.instanceMethod yX1_isEmpty, Cond.selects RX1 yX1_isEmpty yX1_isEmpty, Cond.initialized RX1, Cond.code yX1_isEmpty cX1_isEmpty 1 (some .boolean), Cond.fieldLink RX1 7 "RangeScan$Results" "empty" "Z", Cond.methodLink RX3 157 yX0_stop, Cond.instanceMethod yX0_stop, Cond.selects RX0 yX0_stop yX0_stop, Cond.initialized RX0, Cond.code yX0_stop cX0_stop 1 none, Cond.fieldLink RX0 9 "RangeScan$Flow" "something" "Z", Cond.methodLink RX3 191 yX1_wrapTogether, Cond.instanceMethod yX1_wrapTogether, Cond.selects RX1 yX1_wrapTogether yX1_wrapTogether, Cond.code yX1_wrapTogether cX1_wrapTogether 1 (some .boolean), Cond.fieldLink RX1 13 "RangeScan$Results" "least" "J", Cond.fieldLink RX1 17 "RangeScan$Results" "greatest" "J", Cond.methodLink RX1 20 yX1_wrappedLeast, Cond.instanceMethod yX1_wrappedLeast]
def wsX3_putResults_r2 : List Cond := [Cond.selects RX1 yX1_wrappedLeast yX1_wrappedLeast, Cond.code yX1_wrappedLeast cX1_wrappedLeast 1 (some .long), Cond.methodLink RX1 24 yX1_wrappedGreatest, Cond.instanceMethod yX1_wrappedGreatest, Cond.selects RX1 yX1_wrappedGreatest yX1_wrappedGreatest, Cond.code yX1_wrappedGreatest cX1_wrappedGreatest 1 (some .long), Cond.methodLink RX3 194 yX1_wrappedLeast, Cond.methodLink RX3 198 yX1_wrappedGreatest, Cond.methodLink RX3 130 yX0_put, Cond.instanceMethod yX0_put, Cond.selects RX0 yX0_put yX0_put, Cond.code yX0_put cX0_put 6 none, Cond.fieldLink RX0 15 "RangeScan$Flow" "lows" "[J", Cond.fieldLink RX0 19 "RangeScan$Flow" "highs" "[J"]
def wsX3_putResults : List Cond := .code yX3_putResults cX3_putResults 2 none :: ((wsX3_putResults_r1 ++ wsX3_putResults_r2) ++ wsX30 ++ wsX10 ++ wsX00)
def wsX3_stopOutsideArray : List Cond := .code yX3_stopOutsideArray cX3_stopOutsideArray 2 none :: ([.fieldLink RX3 37 "RangeScan" "flow" "LRangeScan$Flow;", .constantLong RX3 201 (7), .methodLink RX3 137 yX0_highOf, .instanceMethod yX0_highOf, .selects RX0 yX0_highOf yX0_highOf, .initialized RX0, .code yX0_highOf cX0_highOf 2 (some .long), .fieldLink RX0 19 "RangeScan$Flow" "highs" "[J", .methodLink RX3 134 yX0_lowOf, .instanceMethod yX0_lowOf, .selects RX0 yX0_lowOf yX0_lowOf, .code yX0_lowOf cX0_lowOf 2 (some .long), .fieldLink RX0 15 "RangeScan$Flow" "lows" "[J", .methodLink RX3 157 yX0_stop, .instanceMethod yX0_stop, .selects RX0 yX0_stop yX0_stop, .code yX0_stop cX0_stop 1 none, .fieldLink RX0 9 "RangeScan$Flow" "something" "Z"] ++ wsX30 ++ wsX00)
def wsX3_keepNotLess_r1 : List Cond := [Cond.fieldLink RX3 37 "RangeScan" "flow" "LRangeScan$Flow;", Cond.methodLink RX3 134 yX0_lowOf, Cond.instanceMethod yX0_lowOf, Cond.selects RX0 yX0_lowOf yX0_lowOf, Cond.initialized RX0, Cond.code yX0_lowOf cX0_lowOf 2 (some .long), Cond.fieldLink RX0 15 "RangeScan$Flow" "lows" "[J", Cond.methodLink RX3 203 yX0_raiseLow, Cond.instanceMethod yX0_raiseLow, Cond.selects RX0 yX0_raiseLow yX0_raiseLow, Cond.code yX0_raiseLow cX0_raiseLow 4 none, Cond.methodLink RX0 22 Lib.MathLoose.max_long.x, Cond.static Lib.MathLoose.max_long.x, Cond.initialized "java/lang/Math", Cond.code Lib.MathLoose.max_long.x Lib.MathLoose.max_long.code 4 (some .long), Cond.methodLink RX0 28 yX0_stopIfCrossed, Cond.instanceMethod yX0_stopIfCrossed, Cond.selects RX0 yX0_stopIfCrossed yX0_stopIfCrossed, Cond.code yX0_stopIfCrossed cX0_stopIfCrossed 2 none, Cond.fieldLink RX0 19 "RangeScan$Flow" "highs" "[J", Cond.fieldLink RX0 9 "RangeScan$Flow" "something" "Z", Cond.methodLink RX3 137 yX0_highOf, Cond.instanceMethod yX0_highOf, Cond.selects RX0 yX0_highOf yX0_highOf]
def wsX3_keepNotLess_r2 : List Cond := [Cond.code yX0_highOf cX0_highOf 2 (some .long), Cond.methodLink RX3 207 yX0_lowerHigh, Cond.instanceMethod yX0_lowerHigh, Cond.selects RX0 yX0_lowerHigh yX0_lowerHigh, Cond.code yX0_lowerHigh cX0_lowerHigh 4 none, Cond.methodLink RX0 32 Lib.MathLoose.min_long.x, Cond.static Lib.MathLoose.min_long.x, Cond.code Lib.MathLoose.min_long.x Lib.MathLoose.min_long.code 4 (some .long)]
def wsX3_keepNotLess : List Cond := .code yX3_keepNotLess cX3_keepNotLess 3 none :: ((wsX3_keepNotLess_r1 ++ wsX3_keepNotLess_r2) ++ wsX30 ++ wsX00)
def wsX3_makeFlowToNext_r1 : List Cond := [Cond.fieldLink RX3 9 "RangeScan" "codes" "[I", Cond.fieldLink RX3 27 "RangeScan" "found" "LRangeScan$States;", Cond.fieldLink RX3 37 "RangeScan" "flow" "LRangeScan$Flow;", Cond.constantLong RX3 149 (-2147483648), Cond.constantLong RX3 151 (2147483647), Cond.methodLink RX3 126 yX2_copyTo, Cond.instanceMethod yX2_copyTo, Cond.selects RX2 yX2_copyTo yX2_copyTo, Cond.initialized RX2, Cond.code yX2_copyTo cX2_copyTo 4 none, Cond.methodLink RX2 22 yX0_start, Cond.instanceMethod yX0_start, Cond.selects RX0 yX0_start yX0_start, Cond.initialized RX0, Cond.code yX0_start cX0_start 1 none, Cond.fieldLink RX0 9 "RangeScan$Flow" "something" "Z", Cond.methodLink RX2 27 yX2_lowOf, Cond.instanceMethod yX2_lowOf, Cond.selects RX2 yX2_lowOf yX2_lowOf, Cond.code yX2_lowOf cX2_lowOf 3 (some .long), Cond.fieldLink RX2 15 "RangeScan$States" "lows" "[J", Cond.methodLink RX2 31 yX2_highOf, Cond.instanceMethod yX2_highOf, Cond.selects RX2 yX2_highOf yX2_highOf]
def wsX3_makeFlowToNext_r2 : List Cond := [Cond.code yX2_highOf cX2_highOf 3 (some .long), Cond.fieldLink RX2 19 "RangeScan$States" "highs" "[J", Cond.methodLink RX2 34 yX0_put, Cond.instanceMethod yX0_put, Cond.selects RX0 yX0_put yX0_put, Cond.code yX0_put cX0_put 6 none, Cond.fieldLink RX0 15 "RangeScan$Flow" "lows" "[J", Cond.fieldLink RX0 19 "RangeScan$Flow" "highs" "[J", Cond.methodLink RX3 130 yX0_put, Cond.methodLink RX3 134 yX0_lowOf, Cond.instanceMethod yX0_lowOf, Cond.selects RX0 yX0_lowOf yX0_lowOf, Cond.code yX0_lowOf cX0_lowOf 2 (some .long), Cond.methodLink RX3 137 yX0_highOf, Cond.instanceMethod yX0_highOf, Cond.selects RX0 yX0_highOf yX0_highOf, Cond.code yX0_highOf cX0_highOf 2 (some .long), Cond.methodLink RX3 139 yX3_calculate, Cond.instanceMethod yX3_calculate, Cond.selects RX3 yX3_calculate yX3_calculate, Cond.initialized RX3, Cond.code yX3_calculate cX3_calculate 8 none, Cond.fieldLink RX3 44 "RangeScan" "results" "LRangeScan$Results;", Cond.constantLong RX3 166 (-1)]
def wsX3_makeFlowToNext_r3 : List Cond := [Cond.methodLink RX3 168 Lib.MathLoose.min_long.x, Cond.static Lib.MathLoose.min_long.x, Cond.initialized "java/lang/Math", Cond.code Lib.MathLoose.min_long.x Lib.MathLoose.min_long.code 4 (some .long), Cond.methodLink RX3 178 Lib.MathLoose.max_long.x, Cond.static Lib.MathLoose.max_long.x, Cond.code Lib.MathLoose.max_long.x Lib.MathLoose.max_long.code 4 (some .long), Cond.methodLink RX3 163 yX1_forget, Cond.instanceMethod yX1_forget, Cond.selects RX1 yX1_forget yX1_forget, Cond.initialized RX1, Cond.code yX1_forget cX1_forget 1 none, Cond.fieldLink RX1 7 "RangeScan$Results" "empty" "Z", Cond.methodLink RX3 174 yX3_takeEnds, Cond.instanceMethod yX3_takeEnds, Cond.selects RX3 yX3_takeEnds yX3_takeEnds, Cond.code yX3_takeEnds cX3_takeEnds 11 none, Cond.methodLink RX3 181 yX3_exactResult, Cond.static yX3_exactResult, Cond.code yX3_exactResult cX3_exactResult 5 (some .long), Cond.methodLink RX3 185 yX1_take, Cond.instanceMethod yX1_take, Cond.selects RX1 yX1_take yX1_take, Cond.code yX1_take cX1_take 3 none]
def wsX3_makeFlowToNext_r4 : List Cond := [Cond.fieldLink RX1 13 "RangeScan$Results" "least" "J", Cond.fieldLink RX1 17 "RangeScan$Results" "greatest" "J", Cond.methodLink RX3 143 yX3_putResults, Cond.instanceMethod yX3_putResults, Cond.selects RX3 yX3_putResults yX3_putResults, Cond.code yX3_putResults cX3_putResults 2 none, Cond.methodLink RX3 188 yX1_isEmpty, Cond.instanceMethod yX1_isEmpty, Cond.selects RX1 yX1_isEmpty yX1_isEmpty, Cond.code yX1_isEmpty cX1_isEmpty 1 (some .boolean), Cond.methodLink RX3 157 yX0_stop, Cond.instanceMethod yX0_stop, Cond.selects RX0 yX0_stop yX0_stop, Cond.code yX0_stop cX0_stop 1 none, Cond.methodLink RX3 191 yX1_wrapTogether, Cond.instanceMethod yX1_wrapTogether, Cond.selects RX1 yX1_wrapTogether yX1_wrapTogether, Cond.code yX1_wrapTogether cX1_wrapTogether 1 (some .boolean), Cond.methodLink RX1 20 yX1_wrappedLeast, Cond.instanceMethod yX1_wrappedLeast, Cond.selects RX1 yX1_wrappedLeast yX1_wrappedLeast, Cond.code yX1_wrappedLeast cX1_wrappedLeast 1 (some .long), Cond.methodLink RX1 24 yX1_wrappedGreatest, Cond.instanceMethod yX1_wrappedGreatest]
def wsX3_makeFlowToNext_r5 : List Cond := [Cond.selects RX1 yX1_wrappedGreatest yX1_wrappedGreatest, Cond.code yX1_wrappedGreatest cX1_wrappedGreatest 1 (some .long), Cond.methodLink RX3 194 yX1_wrappedLeast, Cond.methodLink RX3 198 yX1_wrappedGreatest, Cond.methodLink RX3 146 yX3_stopOutsideArray, Cond.instanceMethod yX3_stopOutsideArray, Cond.selects RX3 yX3_stopOutsideArray yX3_stopOutsideArray, Cond.code yX3_stopOutsideArray cX3_stopOutsideArray 2 none, Cond.constantLong RX3 201 (7), Cond.methodLink RX3 153 yX3_keepNotLess, Cond.instanceMethod yX3_keepNotLess, Cond.selects RX3 yX3_keepNotLess yX3_keepNotLess, Cond.code yX3_keepNotLess cX3_keepNotLess 3 none, Cond.methodLink RX3 203 yX0_raiseLow, Cond.instanceMethod yX0_raiseLow, Cond.selects RX0 yX0_raiseLow yX0_raiseLow, Cond.code yX0_raiseLow cX0_raiseLow 4 none, Cond.methodLink RX0 22 Lib.MathLoose.max_long.x, Cond.methodLink RX0 28 yX0_stopIfCrossed, Cond.instanceMethod yX0_stopIfCrossed, Cond.selects RX0 yX0_stopIfCrossed yX0_stopIfCrossed, Cond.code yX0_stopIfCrossed cX0_stopIfCrossed 2 none, Cond.methodLink RX3 207 yX0_lowerHigh, Cond.instanceMethod yX0_lowerHigh]
def wsX3_makeFlowToNext_r6 : List Cond := [Cond.selects RX0 yX0_lowerHigh yX0_lowerHigh, Cond.code yX0_lowerHigh cX0_lowerHigh 4 none, Cond.methodLink RX0 32 Lib.MathLoose.min_long.x]
def wsX3_makeFlowToNext : List Cond := .code yX3_makeFlowToNext cX3_makeFlowToNext 6 none :: ((wsX3_makeFlowToNext_r1 ++ (wsX3_makeFlowToNext_r2 ++ (wsX3_makeFlowToNext_r3 ++ (wsX3_makeFlowToNext_r4 ++ (wsX3_makeFlowToNext_r5 ++ wsX3_makeFlowToNext_r6))))) ++ wsX30 ++ wsX00 ++ wsX20 ++ wsX10)
def wsX3_keepLess_r1 : List Cond := [Cond.fieldLink RX3 37 "RangeScan" "flow" "LRangeScan$Flow;", Cond.methodLink RX3 157 yX0_stop, Cond.instanceMethod yX0_stop, Cond.selects RX0 yX0_stop yX0_stop, Cond.initialized RX0, Cond.code yX0_stop cX0_stop 1 none, Cond.fieldLink RX0 9 "RangeScan$Flow" "something" "Z", Cond.methodLink RX3 137 yX0_highOf, Cond.instanceMethod yX0_highOf, Cond.selects RX0 yX0_highOf yX0_highOf, Cond.code yX0_highOf cX0_highOf 2 (some .long), Cond.fieldLink RX0 19 "RangeScan$Flow" "highs" "[J", Cond.methodLink RX3 207 yX0_lowerHigh, Cond.instanceMethod yX0_lowerHigh, Cond.selects RX0 yX0_lowerHigh yX0_lowerHigh, Cond.code yX0_lowerHigh cX0_lowerHigh 4 none, Cond.methodLink RX0 32 Lib.MathLoose.min_long.x, Cond.static Lib.MathLoose.min_long.x, Cond.initialized "java/lang/Math", Cond.code Lib.MathLoose.min_long.x Lib.MathLoose.min_long.code 4 (some .long), Cond.methodLink RX0 28 yX0_stopIfCrossed, Cond.instanceMethod yX0_stopIfCrossed, Cond.selects RX0 yX0_stopIfCrossed yX0_stopIfCrossed, Cond.code yX0_stopIfCrossed cX0_stopIfCrossed 2 none]
def wsX3_keepLess_r2 : List Cond := [Cond.fieldLink RX0 15 "RangeScan$Flow" "lows" "[J", Cond.methodLink RX3 134 yX0_lowOf, Cond.instanceMethod yX0_lowOf, Cond.selects RX0 yX0_lowOf yX0_lowOf, Cond.code yX0_lowOf cX0_lowOf 2 (some .long), Cond.methodLink RX3 203 yX0_raiseLow, Cond.instanceMethod yX0_raiseLow, Cond.selects RX0 yX0_raiseLow yX0_raiseLow, Cond.code yX0_raiseLow cX0_raiseLow 4 none, Cond.methodLink RX0 22 Lib.MathLoose.max_long.x, Cond.static Lib.MathLoose.max_long.x, Cond.code Lib.MathLoose.max_long.x Lib.MathLoose.max_long.code 4 (some .long)]
def wsX3_keepLess : List Cond := .code yX3_keepLess cX3_keepLess 3 none :: ((wsX3_keepLess_r1 ++ wsX3_keepLess_r2) ++ wsX30 ++ wsX00)
def wsX3_makeFlowToPlace_r1 : List Cond := [Cond.fieldLink RX3 27 "RangeScan" "found" "LRangeScan$States;", Cond.fieldLink RX3 37 "RangeScan" "flow" "LRangeScan$Flow;", Cond.fieldLink RX3 9 "RangeScan" "codes" "[I", Cond.methodLink RX3 126 yX2_copyTo, Cond.instanceMethod yX2_copyTo, Cond.selects RX2 yX2_copyTo yX2_copyTo, Cond.initialized RX2, Cond.code yX2_copyTo cX2_copyTo 4 none, Cond.methodLink RX2 22 yX0_start, Cond.instanceMethod yX0_start, Cond.selects RX0 yX0_start yX0_start, Cond.initialized RX0, Cond.code yX0_start cX0_start 1 none, Cond.fieldLink RX0 9 "RangeScan$Flow" "something" "Z", Cond.methodLink RX2 27 yX2_lowOf, Cond.instanceMethod yX2_lowOf, Cond.selects RX2 yX2_lowOf yX2_lowOf, Cond.code yX2_lowOf cX2_lowOf 3 (some .long), Cond.fieldLink RX2 15 "RangeScan$States" "lows" "[J", Cond.methodLink RX2 31 yX2_highOf, Cond.instanceMethod yX2_highOf, Cond.selects RX2 yX2_highOf yX2_highOf, Cond.code yX2_highOf cX2_highOf 3 (some .long), Cond.fieldLink RX2 19 "RangeScan$States" "highs" "[J"]
def wsX3_makeFlowToPlace_r2 : List Cond := [Cond.methodLink RX2 34 yX0_put, Cond.instanceMethod yX0_put, Cond.selects RX0 yX0_put yX0_put, Cond.code yX0_put cX0_put 6 none, Cond.fieldLink RX0 15 "RangeScan$Flow" "lows" "[J", Cond.fieldLink RX0 19 "RangeScan$Flow" "highs" "[J", Cond.methodLink RX3 160 yX3_keepLess, Cond.instanceMethod yX3_keepLess, Cond.selects RX3 yX3_keepLess yX3_keepLess, Cond.initialized RX3, Cond.code yX3_keepLess cX3_keepLess 3 none, Cond.methodLink RX3 157 yX0_stop, Cond.instanceMethod yX0_stop, Cond.selects RX0 yX0_stop yX0_stop, Cond.code yX0_stop cX0_stop 1 none, Cond.methodLink RX3 137 yX0_highOf, Cond.instanceMethod yX0_highOf, Cond.selects RX0 yX0_highOf yX0_highOf, Cond.code yX0_highOf cX0_highOf 2 (some .long), Cond.methodLink RX3 207 yX0_lowerHigh, Cond.instanceMethod yX0_lowerHigh, Cond.selects RX0 yX0_lowerHigh yX0_lowerHigh, Cond.code yX0_lowerHigh cX0_lowerHigh 4 none, Cond.methodLink RX0 32 Lib.MathLoose.min_long.x]
def wsX3_makeFlowToPlace_r3 : List Cond := [Cond.static Lib.MathLoose.min_long.x, Cond.initialized "java/lang/Math", Cond.code Lib.MathLoose.min_long.x Lib.MathLoose.min_long.code 4 (some .long), Cond.methodLink RX0 28 yX0_stopIfCrossed, Cond.instanceMethod yX0_stopIfCrossed, Cond.selects RX0 yX0_stopIfCrossed yX0_stopIfCrossed, Cond.code yX0_stopIfCrossed cX0_stopIfCrossed 2 none, Cond.methodLink RX3 134 yX0_lowOf, Cond.instanceMethod yX0_lowOf, Cond.selects RX0 yX0_lowOf yX0_lowOf, Cond.code yX0_lowOf cX0_lowOf 2 (some .long), Cond.methodLink RX3 203 yX0_raiseLow, Cond.instanceMethod yX0_raiseLow, Cond.selects RX0 yX0_raiseLow yX0_raiseLow, Cond.code yX0_raiseLow cX0_raiseLow 4 none, Cond.methodLink RX0 22 Lib.MathLoose.max_long.x, Cond.static Lib.MathLoose.max_long.x, Cond.code Lib.MathLoose.max_long.x Lib.MathLoose.max_long.code 4 (some .long)]
def wsX3_makeFlowToPlace : List Cond := .code yX3_makeFlowToPlace cX3_makeFlowToPlace 3 none :: ((wsX3_makeFlowToPlace_r1 ++ (wsX3_makeFlowToPlace_r2 ++ wsX3_makeFlowToPlace_r3)) ++ wsX30 ++ wsX00 ++ wsX20)
def wsX3_sendFlows_r1 : List Cond := [Cond.fieldLink RX3 37 "RangeScan" "flow" "LRangeScan$Flow;", Cond.fieldLink RX3 9 "RangeScan" "codes" "[I", Cond.methodLink RX3 115 yX3_makeFlowToNext, Cond.instanceMethod yX3_makeFlowToNext, Cond.selects RX3 yX3_makeFlowToNext yX3_makeFlowToNext, Cond.initialized RX3, Cond.code yX3_makeFlowToNext cX3_makeFlowToNext 6 none, Cond.fieldLink RX3 27 "RangeScan" "found" "LRangeScan$States;", Cond.constantLong RX3 149 (-2147483648), Cond.constantLong RX3 151 (2147483647), Cond.methodLink RX3 126 yX2_copyTo, Cond.instanceMethod yX2_copyTo, Cond.selects RX2 yX2_copyTo yX2_copyTo, Cond.initialized RX2, Cond.code yX2_copyTo cX2_copyTo 4 none, Cond.methodLink RX2 22 yX0_start, Cond.instanceMethod yX0_start, Cond.selects RX0 yX0_start yX0_start, Cond.initialized RX0, Cond.code yX0_start cX0_start 1 none, Cond.fieldLink RX0 9 "RangeScan$Flow" "something" "Z", Cond.methodLink RX2 27 yX2_lowOf, Cond.instanceMethod yX2_lowOf, Cond.selects RX2 yX2_lowOf yX2_lowOf]
def wsX3_sendFlows_r2 : List Cond := [Cond.code yX2_lowOf cX2_lowOf 3 (some .long), Cond.fieldLink RX2 15 "RangeScan$States" "lows" "[J", Cond.methodLink RX2 31 yX2_highOf, Cond.instanceMethod yX2_highOf, Cond.selects RX2 yX2_highOf yX2_highOf, Cond.code yX2_highOf cX2_highOf 3 (some .long), Cond.fieldLink RX2 19 "RangeScan$States" "highs" "[J", Cond.methodLink RX2 34 yX0_put, Cond.instanceMethod yX0_put, Cond.selects RX0 yX0_put yX0_put, Cond.code yX0_put cX0_put 6 none, Cond.fieldLink RX0 15 "RangeScan$Flow" "lows" "[J", Cond.fieldLink RX0 19 "RangeScan$Flow" "highs" "[J", Cond.methodLink RX3 130 yX0_put, Cond.methodLink RX3 134 yX0_lowOf, Cond.instanceMethod yX0_lowOf, Cond.selects RX0 yX0_lowOf yX0_lowOf, Cond.code yX0_lowOf cX0_lowOf 2 (some .long), Cond.methodLink RX3 137 yX0_highOf, Cond.instanceMethod yX0_highOf, Cond.selects RX0 yX0_highOf yX0_highOf, Cond.code yX0_highOf cX0_highOf 2 (some .long), Cond.methodLink RX3 139 yX3_calculate, Cond.instanceMethod yX3_calculate]
def wsX3_sendFlows_r3 : List Cond := [Cond.selects RX3 yX3_calculate yX3_calculate, Cond.code yX3_calculate cX3_calculate 8 none, Cond.fieldLink RX3 44 "RangeScan" "results" "LRangeScan$Results;", Cond.constantLong RX3 166 (-1), Cond.methodLink RX3 168 Lib.MathLoose.min_long.x, Cond.static Lib.MathLoose.min_long.x, Cond.initialized "java/lang/Math", Cond.code Lib.MathLoose.min_long.x Lib.MathLoose.min_long.code 4 (some .long), Cond.methodLink RX3 178 Lib.MathLoose.max_long.x, Cond.static Lib.MathLoose.max_long.x, Cond.code Lib.MathLoose.max_long.x Lib.MathLoose.max_long.code 4 (some .long), Cond.methodLink RX3 163 yX1_forget, Cond.instanceMethod yX1_forget, Cond.selects RX1 yX1_forget yX1_forget, Cond.initialized RX1, Cond.code yX1_forget cX1_forget 1 none, Cond.fieldLink RX1 7 "RangeScan$Results" "empty" "Z", Cond.methodLink RX3 174 yX3_takeEnds, Cond.instanceMethod yX3_takeEnds, Cond.selects RX3 yX3_takeEnds yX3_takeEnds, Cond.code yX3_takeEnds cX3_takeEnds 11 none, Cond.methodLink RX3 181 yX3_exactResult, Cond.static yX3_exactResult, Cond.code yX3_exactResult cX3_exactResult 5 (some .long)]
def wsX3_sendFlows_r4 : List Cond := [Cond.methodLink RX3 185 yX1_take, Cond.instanceMethod yX1_take, Cond.selects RX1 yX1_take yX1_take, Cond.code yX1_take cX1_take 3 none, Cond.fieldLink RX1 13 "RangeScan$Results" "least" "J", Cond.fieldLink RX1 17 "RangeScan$Results" "greatest" "J", Cond.methodLink RX3 143 yX3_putResults, Cond.instanceMethod yX3_putResults, Cond.selects RX3 yX3_putResults yX3_putResults, Cond.code yX3_putResults cX3_putResults 2 none, Cond.methodLink RX3 188 yX1_isEmpty, Cond.instanceMethod yX1_isEmpty, Cond.selects RX1 yX1_isEmpty yX1_isEmpty, Cond.code yX1_isEmpty cX1_isEmpty 1 (some .boolean), Cond.methodLink RX3 157 yX0_stop, Cond.instanceMethod yX0_stop, Cond.selects RX0 yX0_stop yX0_stop, Cond.code yX0_stop cX0_stop 1 none, Cond.methodLink RX3 191 yX1_wrapTogether, Cond.instanceMethod yX1_wrapTogether, Cond.selects RX1 yX1_wrapTogether yX1_wrapTogether, Cond.code yX1_wrapTogether cX1_wrapTogether 1 (some .boolean), Cond.methodLink RX1 20 yX1_wrappedLeast, Cond.instanceMethod yX1_wrappedLeast]
def wsX3_sendFlows_r5 : List Cond := [Cond.selects RX1 yX1_wrappedLeast yX1_wrappedLeast, Cond.code yX1_wrappedLeast cX1_wrappedLeast 1 (some .long), Cond.methodLink RX1 24 yX1_wrappedGreatest, Cond.instanceMethod yX1_wrappedGreatest, Cond.selects RX1 yX1_wrappedGreatest yX1_wrappedGreatest, Cond.code yX1_wrappedGreatest cX1_wrappedGreatest 1 (some .long), Cond.methodLink RX3 194 yX1_wrappedLeast, Cond.methodLink RX3 198 yX1_wrappedGreatest, Cond.methodLink RX3 146 yX3_stopOutsideArray, Cond.instanceMethod yX3_stopOutsideArray, Cond.selects RX3 yX3_stopOutsideArray yX3_stopOutsideArray, Cond.code yX3_stopOutsideArray cX3_stopOutsideArray 2 none, Cond.constantLong RX3 201 (7), Cond.methodLink RX3 153 yX3_keepNotLess, Cond.instanceMethod yX3_keepNotLess, Cond.selects RX3 yX3_keepNotLess yX3_keepNotLess, Cond.code yX3_keepNotLess cX3_keepNotLess 3 none, Cond.methodLink RX3 203 yX0_raiseLow, Cond.instanceMethod yX0_raiseLow, Cond.selects RX0 yX0_raiseLow yX0_raiseLow, Cond.code yX0_raiseLow cX0_raiseLow 4 none, Cond.methodLink RX0 22 Lib.MathLoose.max_long.x, Cond.methodLink RX0 28 yX0_stopIfCrossed, Cond.instanceMethod yX0_stopIfCrossed]
def wsX3_sendFlows_r6 : List Cond := [Cond.selects RX0 yX0_stopIfCrossed yX0_stopIfCrossed, Cond.code yX0_stopIfCrossed cX0_stopIfCrossed 2 none, Cond.methodLink RX3 207 yX0_lowerHigh, Cond.instanceMethod yX0_lowerHigh, Cond.selects RX0 yX0_lowerHigh yX0_lowerHigh, Cond.code yX0_lowerHigh cX0_lowerHigh 4 none, Cond.methodLink RX0 32 Lib.MathLoose.min_long.x, Cond.methodLink RX3 119 yX2_take, Cond.instanceMethod yX2_take, Cond.selects RX2 yX2_take yX2_take, Cond.code yX2_take cX2_take 6 (some .boolean), Cond.fieldLink RX2 9 "RangeScan$States" "somewhere" "[Z", Cond.methodLink RX2 38 yX0_isSomething, Cond.instanceMethod yX0_isSomething, Cond.selects RX0 yX0_isSomething yX0_isSomething, Cond.code yX0_isSomething cX0_isSomething 1 (some .boolean), Cond.methodLink RX2 42 yX2_become, Cond.instanceMethod yX2_become, Cond.selects RX2 yX2_become yX2_become, Cond.code yX2_become cX2_become 4 none, Cond.methodLink RX2 50 yX0_lowOf, Cond.methodLink RX2 53 yX0_highOf, Cond.methodLink RX2 46 yX2_stretch, Cond.instanceMethod yX2_stretch]
def wsX3_sendFlows_r7 : List Cond := [Cond.selects RX2 yX2_stretch yX2_stretch, Cond.code yX2_stretch cX2_stretch 7 (some .boolean), Cond.constantLong RX2 55 (-2147483648), Cond.constantLong RX2 57 (2147483647), Cond.methodLink RX3 123 yX3_makeFlowToPlace, Cond.instanceMethod yX3_makeFlowToPlace, Cond.selects RX3 yX3_makeFlowToPlace yX3_makeFlowToPlace, Cond.code yX3_makeFlowToPlace cX3_makeFlowToPlace 3 none, Cond.methodLink RX3 160 yX3_keepLess, Cond.instanceMethod yX3_keepLess, Cond.selects RX3 yX3_keepLess yX3_keepLess, Cond.code yX3_keepLess cX3_keepLess 3 none]
def wsX3_sendFlows : List Cond := .code yX3_sendFlows cX3_sendFlows 7 (some .boolean) :: ((wsX3_sendFlows_r1 ++ (wsX3_sendFlows_r2 ++ (wsX3_sendFlows_r3 ++ (wsX3_sendFlows_r4 ++ (wsX3_sendFlows_r5 ++ (wsX3_sendFlows_r6 ++ wsX3_sendFlows_r7)))))) ++ wsX30 ++ wsX00 ++ wsX20 ++ wsX10)
def wsX3_runRound_r1 : List Cond := [Cond.fieldLink RX3 13 "RangeScan" "count" "I", Cond.fieldLink RX3 27 "RangeScan" "found" "LRangeScan$States;", Cond.methodLink RX3 80 yX2_isSomewhere, Cond.instanceMethod yX2_isSomewhere, Cond.selects RX2 yX2_isSomewhere yX2_isSomewhere, Cond.initialized RX2, Cond.code yX2_isSomewhere cX2_isSomewhere 2 (some .boolean), Cond.fieldLink RX2 9 "RangeScan$States" "somewhere" "[Z", Cond.methodLink RX3 111 yX3_sendFlows, Cond.instanceMethod yX3_sendFlows, Cond.selects RX3 yX3_sendFlows yX3_sendFlows, Cond.initialized RX3, Cond.code yX3_sendFlows cX3_sendFlows 7 (some .boolean), Cond.fieldLink RX3 37 "RangeScan" "flow" "LRangeScan$Flow;", Cond.fieldLink RX3 9 "RangeScan" "codes" "[I", Cond.methodLink RX3 115 yX3_makeFlowToNext, Cond.instanceMethod yX3_makeFlowToNext, Cond.selects RX3 yX3_makeFlowToNext yX3_makeFlowToNext, Cond.code yX3_makeFlowToNext cX3_makeFlowToNext 6 none, Cond.constantLong RX3 149 (-2147483648), Cond.constantLong RX3 151 (2147483647), Cond.methodLink RX3 126 yX2_copyTo, Cond.instanceMethod yX2_copyTo, Cond.selects RX2 yX2_copyTo yX2_copyTo]
def wsX3_runRound_r2 : List Cond := [Cond.code yX2_copyTo cX2_copyTo 4 none, Cond.methodLink RX2 22 yX0_start, Cond.instanceMethod yX0_start, Cond.selects RX0 yX0_start yX0_start, Cond.initialized RX0, Cond.code yX0_start cX0_start 1 none, Cond.fieldLink RX0 9 "RangeScan$Flow" "something" "Z", Cond.methodLink RX2 27 yX2_lowOf, Cond.instanceMethod yX2_lowOf, Cond.selects RX2 yX2_lowOf yX2_lowOf, Cond.code yX2_lowOf cX2_lowOf 3 (some .long), Cond.fieldLink RX2 15 "RangeScan$States" "lows" "[J", Cond.methodLink RX2 31 yX2_highOf, Cond.instanceMethod yX2_highOf, Cond.selects RX2 yX2_highOf yX2_highOf, Cond.code yX2_highOf cX2_highOf 3 (some .long), Cond.fieldLink RX2 19 "RangeScan$States" "highs" "[J", Cond.methodLink RX2 34 yX0_put, Cond.instanceMethod yX0_put, Cond.selects RX0 yX0_put yX0_put, Cond.code yX0_put cX0_put 6 none, Cond.fieldLink RX0 15 "RangeScan$Flow" "lows" "[J", Cond.fieldLink RX0 19 "RangeScan$Flow" "highs" "[J", Cond.methodLink RX3 130 yX0_put]
def wsX3_runRound_r3 : List Cond := [Cond.methodLink RX3 134 yX0_lowOf, Cond.instanceMethod yX0_lowOf, Cond.selects RX0 yX0_lowOf yX0_lowOf, Cond.code yX0_lowOf cX0_lowOf 2 (some .long), Cond.methodLink RX3 137 yX0_highOf, Cond.instanceMethod yX0_highOf, Cond.selects RX0 yX0_highOf yX0_highOf, Cond.code yX0_highOf cX0_highOf 2 (some .long), Cond.methodLink RX3 139 yX3_calculate, Cond.instanceMethod yX3_calculate, Cond.selects RX3 yX3_calculate yX3_calculate, Cond.code yX3_calculate cX3_calculate 8 none, Cond.fieldLink RX3 44 "RangeScan" "results" "LRangeScan$Results;", Cond.constantLong RX3 166 (-1), Cond.methodLink RX3 168 Lib.MathLoose.min_long.x, Cond.static Lib.MathLoose.min_long.x, Cond.initialized "java/lang/Math", Cond.code Lib.MathLoose.min_long.x Lib.MathLoose.min_long.code 4 (some .long), Cond.methodLink RX3 178 Lib.MathLoose.max_long.x, Cond.static Lib.MathLoose.max_long.x, Cond.code Lib.MathLoose.max_long.x Lib.MathLoose.max_long.code 4 (some .long), Cond.methodLink RX3 163 yX1_forget, Cond.instanceMethod yX1_forget, Cond.selects RX1 yX1_forget yX1_forget]
def wsX3_runRound_r4 : List Cond := [Cond.initialized RX1, Cond.code yX1_forget cX1_forget 1 none, Cond.fieldLink RX1 7 "RangeScan$Results" "empty" "Z", Cond.methodLink RX3 174 yX3_takeEnds, Cond.instanceMethod yX3_takeEnds, Cond.selects RX3 yX3_takeEnds yX3_takeEnds, Cond.code yX3_takeEnds cX3_takeEnds 11 none, Cond.methodLink RX3 181 yX3_exactResult, Cond.static yX3_exactResult, Cond.code yX3_exactResult cX3_exactResult 5 (some .long), Cond.methodLink RX3 185 yX1_take, Cond.instanceMethod yX1_take, Cond.selects RX1 yX1_take yX1_take, Cond.code yX1_take cX1_take 3 none, Cond.fieldLink RX1 13 "RangeScan$Results" "least" "J", Cond.fieldLink RX1 17 "RangeScan$Results" "greatest" "J", Cond.methodLink RX3 143 yX3_putResults, Cond.instanceMethod yX3_putResults, Cond.selects RX3 yX3_putResults yX3_putResults, Cond.code yX3_putResults cX3_putResults 2 none, Cond.methodLink RX3 188 yX1_isEmpty, Cond.instanceMethod yX1_isEmpty, Cond.selects RX1 yX1_isEmpty yX1_isEmpty, Cond.code yX1_isEmpty cX1_isEmpty 1 (some .boolean)]
def wsX3_runRound_r5 : List Cond := [Cond.methodLink RX3 157 yX0_stop, Cond.instanceMethod yX0_stop, Cond.selects RX0 yX0_stop yX0_stop, Cond.code yX0_stop cX0_stop 1 none, Cond.methodLink RX3 191 yX1_wrapTogether, Cond.instanceMethod yX1_wrapTogether, Cond.selects RX1 yX1_wrapTogether yX1_wrapTogether, Cond.code yX1_wrapTogether cX1_wrapTogether 1 (some .boolean), Cond.methodLink RX1 20 yX1_wrappedLeast, Cond.instanceMethod yX1_wrappedLeast, Cond.selects RX1 yX1_wrappedLeast yX1_wrappedLeast, Cond.code yX1_wrappedLeast cX1_wrappedLeast 1 (some .long), Cond.methodLink RX1 24 yX1_wrappedGreatest, Cond.instanceMethod yX1_wrappedGreatest, Cond.selects RX1 yX1_wrappedGreatest yX1_wrappedGreatest, Cond.code yX1_wrappedGreatest cX1_wrappedGreatest 1 (some .long), Cond.methodLink RX3 194 yX1_wrappedLeast, Cond.methodLink RX3 198 yX1_wrappedGreatest, Cond.methodLink RX3 146 yX3_stopOutsideArray, Cond.instanceMethod yX3_stopOutsideArray, Cond.selects RX3 yX3_stopOutsideArray yX3_stopOutsideArray, Cond.code yX3_stopOutsideArray cX3_stopOutsideArray 2 none, Cond.constantLong RX3 201 (7), Cond.methodLink RX3 153 yX3_keepNotLess]
def wsX3_runRound_r6 : List Cond := [Cond.instanceMethod yX3_keepNotLess, Cond.selects RX3 yX3_keepNotLess yX3_keepNotLess, Cond.code yX3_keepNotLess cX3_keepNotLess 3 none, Cond.methodLink RX3 203 yX0_raiseLow, Cond.instanceMethod yX0_raiseLow, Cond.selects RX0 yX0_raiseLow yX0_raiseLow, Cond.code yX0_raiseLow cX0_raiseLow 4 none, Cond.methodLink RX0 22 Lib.MathLoose.max_long.x, Cond.methodLink RX0 28 yX0_stopIfCrossed, Cond.instanceMethod yX0_stopIfCrossed, Cond.selects RX0 yX0_stopIfCrossed yX0_stopIfCrossed, Cond.code yX0_stopIfCrossed cX0_stopIfCrossed 2 none, Cond.methodLink RX3 207 yX0_lowerHigh, Cond.instanceMethod yX0_lowerHigh, Cond.selects RX0 yX0_lowerHigh yX0_lowerHigh, Cond.code yX0_lowerHigh cX0_lowerHigh 4 none, Cond.methodLink RX0 32 Lib.MathLoose.min_long.x, Cond.methodLink RX3 119 yX2_take, Cond.instanceMethod yX2_take, Cond.selects RX2 yX2_take yX2_take, Cond.code yX2_take cX2_take 6 (some .boolean), Cond.methodLink RX2 38 yX0_isSomething, Cond.instanceMethod yX0_isSomething, Cond.selects RX0 yX0_isSomething yX0_isSomething]
def wsX3_runRound_r7 : List Cond := [Cond.code yX0_isSomething cX0_isSomething 1 (some .boolean), Cond.methodLink RX2 42 yX2_become, Cond.instanceMethod yX2_become, Cond.selects RX2 yX2_become yX2_become, Cond.code yX2_become cX2_become 4 none, Cond.methodLink RX2 50 yX0_lowOf, Cond.methodLink RX2 53 yX0_highOf, Cond.methodLink RX2 46 yX2_stretch, Cond.instanceMethod yX2_stretch, Cond.selects RX2 yX2_stretch yX2_stretch, Cond.code yX2_stretch cX2_stretch 7 (some .boolean), Cond.constantLong RX2 55 (-2147483648), Cond.constantLong RX2 57 (2147483647), Cond.methodLink RX3 123 yX3_makeFlowToPlace, Cond.instanceMethod yX3_makeFlowToPlace, Cond.selects RX3 yX3_makeFlowToPlace yX3_makeFlowToPlace, Cond.code yX3_makeFlowToPlace cX3_makeFlowToPlace 3 none, Cond.methodLink RX3 160 yX3_keepLess, Cond.instanceMethod yX3_keepLess, Cond.selects RX3 yX3_keepLess yX3_keepLess, Cond.code yX3_keepLess cX3_keepLess 3 none]
def wsX3_runRound : List Cond := .code yX3_runRound cX3_runRound 3 (some .boolean) :: ((wsX3_runRound_r1 ++ (wsX3_runRound_r2 ++ (wsX3_runRound_r3 ++ (wsX3_runRound_r4 ++ (wsX3_runRound_r5 ++ (wsX3_runRound_r6 ++ wsX3_runRound_r7)))))) ++ wsX30 ++ wsX20 ++ wsX00 ++ wsX10)
def wsX3_settle_r1 : List Cond := [Cond.fieldLink RX3 31 "RangeScan" "settled" "LRangeScan$States;", Cond.fieldLink RX3 13 "RangeScan" "count" "I", Cond.fieldLink RX3 27 "RangeScan" "found" "LRangeScan$States;", Cond.methodLink RX3 67 yX2_begin, Cond.instanceMethod yX2_begin, Cond.selects RX2 yX2_begin yX2_begin, Cond.initialized RX2, Cond.code yX2_begin cX2_begin 2 none, Cond.fieldLink RX2 9 "RangeScan$States" "somewhere" "[Z", Cond.fieldLink RX2 15 "RangeScan$States" "lows" "[J", Cond.fieldLink RX2 19 "RangeScan$States" "highs" "[J", Cond.methodLink RX3 80 yX2_isSomewhere, Cond.instanceMethod yX2_isSomewhere, Cond.selects RX2 yX2_isSomewhere yX2_isSomewhere, Cond.code yX2_isSomewhere cX2_isSomewhere 2 (some .boolean), Cond.methodLink RX3 111 yX3_sendFlows, Cond.instanceMethod yX3_sendFlows, Cond.selects RX3 yX3_sendFlows yX3_sendFlows, Cond.initialized RX3, Cond.code yX3_sendFlows cX3_sendFlows 7 (some .boolean), Cond.fieldLink RX3 37 "RangeScan" "flow" "LRangeScan$Flow;", Cond.fieldLink RX3 9 "RangeScan" "codes" "[I", Cond.methodLink RX3 115 yX3_makeFlowToNext, Cond.instanceMethod yX3_makeFlowToNext]
def wsX3_settle_r2 : List Cond := [Cond.selects RX3 yX3_makeFlowToNext yX3_makeFlowToNext, Cond.code yX3_makeFlowToNext cX3_makeFlowToNext 6 none, Cond.constantLong RX3 149 (-2147483648), Cond.constantLong RX3 151 (2147483647), Cond.methodLink RX3 126 yX2_copyTo, Cond.instanceMethod yX2_copyTo, Cond.selects RX2 yX2_copyTo yX2_copyTo, Cond.code yX2_copyTo cX2_copyTo 4 none, Cond.methodLink RX2 22 yX0_start, Cond.instanceMethod yX0_start, Cond.selects RX0 yX0_start yX0_start, Cond.initialized RX0, Cond.code yX0_start cX0_start 1 none, Cond.fieldLink RX0 9 "RangeScan$Flow" "something" "Z", Cond.methodLink RX2 27 yX2_lowOf, Cond.instanceMethod yX2_lowOf, Cond.selects RX2 yX2_lowOf yX2_lowOf, Cond.code yX2_lowOf cX2_lowOf 3 (some .long), Cond.methodLink RX2 31 yX2_highOf, Cond.instanceMethod yX2_highOf, Cond.selects RX2 yX2_highOf yX2_highOf, Cond.code yX2_highOf cX2_highOf 3 (some .long), Cond.methodLink RX2 34 yX0_put, Cond.instanceMethod yX0_put]
def wsX3_settle_r3 : List Cond := [Cond.selects RX0 yX0_put yX0_put, Cond.code yX0_put cX0_put 6 none, Cond.fieldLink RX0 15 "RangeScan$Flow" "lows" "[J", Cond.fieldLink RX0 19 "RangeScan$Flow" "highs" "[J", Cond.methodLink RX3 130 yX0_put, Cond.methodLink RX3 134 yX0_lowOf, Cond.instanceMethod yX0_lowOf, Cond.selects RX0 yX0_lowOf yX0_lowOf, Cond.code yX0_lowOf cX0_lowOf 2 (some .long), Cond.methodLink RX3 137 yX0_highOf, Cond.instanceMethod yX0_highOf, Cond.selects RX0 yX0_highOf yX0_highOf, Cond.code yX0_highOf cX0_highOf 2 (some .long), Cond.methodLink RX3 139 yX3_calculate, Cond.instanceMethod yX3_calculate, Cond.selects RX3 yX3_calculate yX3_calculate, Cond.code yX3_calculate cX3_calculate 8 none, Cond.fieldLink RX3 44 "RangeScan" "results" "LRangeScan$Results;", Cond.constantLong RX3 166 (-1), Cond.methodLink RX3 168 Lib.MathLoose.min_long.x, Cond.static Lib.MathLoose.min_long.x, Cond.initialized "java/lang/Math", Cond.code Lib.MathLoose.min_long.x Lib.MathLoose.min_long.code 4 (some .long), Cond.methodLink RX3 178 Lib.MathLoose.max_long.x]
def wsX3_settle_r4 : List Cond := [Cond.static Lib.MathLoose.max_long.x, Cond.code Lib.MathLoose.max_long.x Lib.MathLoose.max_long.code 4 (some .long), Cond.methodLink RX3 163 yX1_forget, Cond.instanceMethod yX1_forget, Cond.selects RX1 yX1_forget yX1_forget, Cond.initialized RX1, Cond.code yX1_forget cX1_forget 1 none, Cond.fieldLink RX1 7 "RangeScan$Results" "empty" "Z", Cond.methodLink RX3 174 yX3_takeEnds, Cond.instanceMethod yX3_takeEnds, Cond.selects RX3 yX3_takeEnds yX3_takeEnds, Cond.code yX3_takeEnds cX3_takeEnds 11 none, Cond.methodLink RX3 181 yX3_exactResult, Cond.static yX3_exactResult, Cond.code yX3_exactResult cX3_exactResult 5 (some .long), Cond.methodLink RX3 185 yX1_take, Cond.instanceMethod yX1_take, Cond.selects RX1 yX1_take yX1_take, Cond.code yX1_take cX1_take 3 none, Cond.fieldLink RX1 13 "RangeScan$Results" "least" "J", Cond.fieldLink RX1 17 "RangeScan$Results" "greatest" "J", Cond.methodLink RX3 143 yX3_putResults, Cond.instanceMethod yX3_putResults, Cond.selects RX3 yX3_putResults yX3_putResults]
def wsX3_settle_r5 : List Cond := [Cond.code yX3_putResults cX3_putResults 2 none, Cond.methodLink RX3 188 yX1_isEmpty, Cond.instanceMethod yX1_isEmpty, Cond.selects RX1 yX1_isEmpty yX1_isEmpty, Cond.code yX1_isEmpty cX1_isEmpty 1 (some .boolean), Cond.methodLink RX3 157 yX0_stop, Cond.instanceMethod yX0_stop, Cond.selects RX0 yX0_stop yX0_stop, Cond.code yX0_stop cX0_stop 1 none, Cond.methodLink RX3 191 yX1_wrapTogether, Cond.instanceMethod yX1_wrapTogether, Cond.selects RX1 yX1_wrapTogether yX1_wrapTogether, Cond.code yX1_wrapTogether cX1_wrapTogether 1 (some .boolean), Cond.methodLink RX1 20 yX1_wrappedLeast, Cond.instanceMethod yX1_wrappedLeast, Cond.selects RX1 yX1_wrappedLeast yX1_wrappedLeast, Cond.code yX1_wrappedLeast cX1_wrappedLeast 1 (some .long), Cond.methodLink RX1 24 yX1_wrappedGreatest, Cond.instanceMethod yX1_wrappedGreatest, Cond.selects RX1 yX1_wrappedGreatest yX1_wrappedGreatest, Cond.code yX1_wrappedGreatest cX1_wrappedGreatest 1 (some .long), Cond.methodLink RX3 194 yX1_wrappedLeast, Cond.methodLink RX3 198 yX1_wrappedGreatest, Cond.methodLink RX3 146 yX3_stopOutsideArray]
def wsX3_settle_r6 : List Cond := [Cond.instanceMethod yX3_stopOutsideArray, Cond.selects RX3 yX3_stopOutsideArray yX3_stopOutsideArray, Cond.code yX3_stopOutsideArray cX3_stopOutsideArray 2 none, Cond.constantLong RX3 201 (7), Cond.methodLink RX3 153 yX3_keepNotLess, Cond.instanceMethod yX3_keepNotLess, Cond.selects RX3 yX3_keepNotLess yX3_keepNotLess, Cond.code yX3_keepNotLess cX3_keepNotLess 3 none, Cond.methodLink RX3 203 yX0_raiseLow, Cond.instanceMethod yX0_raiseLow, Cond.selects RX0 yX0_raiseLow yX0_raiseLow, Cond.code yX0_raiseLow cX0_raiseLow 4 none, Cond.methodLink RX0 22 Lib.MathLoose.max_long.x, Cond.methodLink RX0 28 yX0_stopIfCrossed, Cond.instanceMethod yX0_stopIfCrossed, Cond.selects RX0 yX0_stopIfCrossed yX0_stopIfCrossed, Cond.code yX0_stopIfCrossed cX0_stopIfCrossed 2 none, Cond.methodLink RX3 207 yX0_lowerHigh, Cond.instanceMethod yX0_lowerHigh, Cond.selects RX0 yX0_lowerHigh yX0_lowerHigh, Cond.code yX0_lowerHigh cX0_lowerHigh 4 none, Cond.methodLink RX0 32 Lib.MathLoose.min_long.x, Cond.methodLink RX3 119 yX2_take, Cond.instanceMethod yX2_take]
def wsX3_settle_r7 : List Cond := [Cond.selects RX2 yX2_take yX2_take, Cond.code yX2_take cX2_take 6 (some .boolean), Cond.methodLink RX2 38 yX0_isSomething, Cond.instanceMethod yX0_isSomething, Cond.selects RX0 yX0_isSomething yX0_isSomething, Cond.code yX0_isSomething cX0_isSomething 1 (some .boolean), Cond.methodLink RX2 42 yX2_become, Cond.instanceMethod yX2_become, Cond.selects RX2 yX2_become yX2_become, Cond.code yX2_become cX2_become 4 none, Cond.methodLink RX2 50 yX0_lowOf, Cond.methodLink RX2 53 yX0_highOf, Cond.methodLink RX2 46 yX2_stretch, Cond.instanceMethod yX2_stretch, Cond.selects RX2 yX2_stretch yX2_stretch, Cond.code yX2_stretch cX2_stretch 7 (some .boolean), Cond.constantLong RX2 55 (-2147483648), Cond.constantLong RX2 57 (2147483647), Cond.methodLink RX3 123 yX3_makeFlowToPlace, Cond.instanceMethod yX3_makeFlowToPlace, Cond.selects RX3 yX3_makeFlowToPlace yX3_makeFlowToPlace, Cond.code yX3_makeFlowToPlace cX3_makeFlowToPlace 3 none, Cond.methodLink RX3 160 yX3_keepLess, Cond.instanceMethod yX3_keepLess]
def wsX3_settle_r8 : List Cond := [Cond.selects RX3 yX3_keepLess yX3_keepLess, Cond.code yX3_keepLess cX3_keepLess 3 none]
def wsX3_settle : List Cond := .code yX3_settle cX3_settle 2 none :: ((wsX3_settle_r1 ++ (wsX3_settle_r2 ++ (wsX3_settle_r3 ++ (wsX3_settle_r4 ++ (wsX3_settle_r5 ++ (wsX3_settle_r6 ++ (wsX3_settle_r7 ++ wsX3_settle_r8))))))) ++ wsX30 ++ wsX20 ++ wsX00 ++ wsX10)
def wsX3_reached : List Cond := .code yX3_reached cX3_reached 2 (some .int) :: ([.fieldLink RX3 17 "RangeScan" "scanned" "Z", .fieldLink RX3 31 "RangeScan" "settled" "LRangeScan$States;", .methodLink RX3 59 yX3_isInstruction, .instanceMethod yX3_isInstruction, .selects RX3 yX3_isInstruction yX3_isInstruction, .initialized RX3, .code yX3_isInstruction cX3_isInstruction 2 (some .boolean), .fieldLink RX3 13 "RangeScan" "count" "I", .methodLink RX3 80 yX2_isSomewhere, .instanceMethod yX2_isSomewhere, .selects RX2 yX2_isSomewhere yX2_isSomewhere, .initialized RX2, .code yX2_isSomewhere cX2_isSomewhere 2 (some .boolean), .fieldLink RX2 9 "RangeScan$States" "somewhere" "[Z"] ++ wsX30 ++ wsX20)
def wsX3_mayDivideByZero : List Cond := .code yX3_mayDivideByZero cX3_mayDivideByZero 3 (some .boolean) :: ([.fieldLink RX3 9 "RangeScan" "codes" "[I", .fieldLink RX3 31 "RangeScan" "settled" "LRangeScan$States;", .methodLink RX3 92 yX2_lowOf, .instanceMethod yX2_lowOf, .selects RX2 yX2_lowOf yX2_lowOf, .initialized RX2, .code yX2_lowOf cX2_lowOf 3 (some .long), .fieldLink RX2 15 "RangeScan$States" "lows" "[J", .methodLink RX3 96 yX2_highOf, .instanceMethod yX2_highOf, .selects RX2 yX2_highOf yX2_highOf, .code yX2_highOf cX2_highOf 3 (some .long), .fieldLink RX2 19 "RangeScan$States" "highs" "[J"] ++ wsX30 ++ wsX20)
def wsX3_mayLeaveArray : List Cond := .code yX3_mayLeaveArray cX3_mayLeaveArray 3 (some .boolean) :: ([.fieldLink RX3 9 "RangeScan" "codes" "[I", .fieldLink RX3 31 "RangeScan" "settled" "LRangeScan$States;", .constantLong RX3 201 (7), .methodLink RX3 92 yX2_lowOf, .instanceMethod yX2_lowOf, .selects RX2 yX2_lowOf yX2_lowOf, .initialized RX2, .code yX2_lowOf cX2_lowOf 3 (some .long), .fieldLink RX2 15 "RangeScan$States" "lows" "[J", .methodLink RX3 96 yX2_highOf, .instanceMethod yX2_highOf, .selects RX2 yX2_highOf yX2_highOf, .code yX2_highOf cX2_highOf 3 (some .long), .fieldLink RX2 19 "RangeScan$States" "highs" "[J"] ++ wsX30 ++ wsX20)
def wsX3_alarm_r1 : List Cond := [Cond.fieldLink RX3 9 "RangeScan" "codes" "[I", Cond.methodLink RX3 83 yX3_reached, Cond.instanceMethod yX3_reached, Cond.selects RX3 yX3_reached yX3_reached, Cond.initialized RX3, Cond.code yX3_reached cX3_reached 2 (some .int), Cond.fieldLink RX3 17 "RangeScan" "scanned" "Z", Cond.fieldLink RX3 31 "RangeScan" "settled" "LRangeScan$States;", Cond.methodLink RX3 59 yX3_isInstruction, Cond.instanceMethod yX3_isInstruction, Cond.selects RX3 yX3_isInstruction yX3_isInstruction, Cond.code yX3_isInstruction cX3_isInstruction 2 (some .boolean), Cond.fieldLink RX3 13 "RangeScan" "count" "I", Cond.methodLink RX3 80 yX2_isSomewhere, Cond.instanceMethod yX2_isSomewhere, Cond.selects RX2 yX2_isSomewhere yX2_isSomewhere, Cond.initialized RX2, Cond.code yX2_isSomewhere cX2_isSomewhere 2 (some .boolean), Cond.fieldLink RX2 9 "RangeScan$States" "somewhere" "[Z", Cond.methodLink RX3 99 yX3_mayDivideByZero, Cond.instanceMethod yX3_mayDivideByZero, Cond.selects RX3 yX3_mayDivideByZero yX3_mayDivideByZero, Cond.code yX3_mayDivideByZero cX3_mayDivideByZero 3 (some .boolean), Cond.methodLink RX3 92 yX2_lowOf]
def wsX3_alarm_r2 : List Cond := [Cond.instanceMethod yX2_lowOf, Cond.selects RX2 yX2_lowOf yX2_lowOf, Cond.code yX2_lowOf cX2_lowOf 3 (some .long), Cond.fieldLink RX2 15 "RangeScan$States" "lows" "[J", Cond.methodLink RX3 96 yX2_highOf, Cond.instanceMethod yX2_highOf, Cond.selects RX2 yX2_highOf yX2_highOf, Cond.code yX2_highOf cX2_highOf 3 (some .long), Cond.fieldLink RX2 19 "RangeScan$States" "highs" "[J", Cond.methodLink RX3 102 yX3_mayLeaveArray, Cond.instanceMethod yX3_mayLeaveArray, Cond.selects RX3 yX3_mayLeaveArray yX3_mayLeaveArray, Cond.code yX3_mayLeaveArray cX3_mayLeaveArray 3 (some .boolean), Cond.constantLong RX3 201 (7)]
def wsX3_alarm : List Cond := .code yX3_alarm cX3_alarm 2 (some .int) :: ((wsX3_alarm_r1 ++ wsX3_alarm_r2) ++ wsX30 ++ wsX20)
def wsX3_countAlarms_r1 : List Cond := [Cond.fieldLink RX3 13 "RangeScan" "count" "I", Cond.methodLink RX3 210 yX3_alarm, Cond.instanceMethod yX3_alarm, Cond.selects RX3 yX3_alarm yX3_alarm, Cond.initialized RX3, Cond.code yX3_alarm cX3_alarm 2 (some .int), Cond.fieldLink RX3 9 "RangeScan" "codes" "[I", Cond.methodLink RX3 83 yX3_reached, Cond.instanceMethod yX3_reached, Cond.selects RX3 yX3_reached yX3_reached, Cond.code yX3_reached cX3_reached 2 (some .int), Cond.fieldLink RX3 17 "RangeScan" "scanned" "Z", Cond.fieldLink RX3 31 "RangeScan" "settled" "LRangeScan$States;", Cond.methodLink RX3 59 yX3_isInstruction, Cond.instanceMethod yX3_isInstruction, Cond.selects RX3 yX3_isInstruction yX3_isInstruction, Cond.code yX3_isInstruction cX3_isInstruction 2 (some .boolean), Cond.methodLink RX3 80 yX2_isSomewhere, Cond.instanceMethod yX2_isSomewhere, Cond.selects RX2 yX2_isSomewhere yX2_isSomewhere, Cond.initialized RX2, Cond.code yX2_isSomewhere cX2_isSomewhere 2 (some .boolean), Cond.fieldLink RX2 9 "RangeScan$States" "somewhere" "[Z", Cond.methodLink RX3 99 yX3_mayDivideByZero]
def wsX3_countAlarms_r2 : List Cond := [Cond.instanceMethod yX3_mayDivideByZero, Cond.selects RX3 yX3_mayDivideByZero yX3_mayDivideByZero, Cond.code yX3_mayDivideByZero cX3_mayDivideByZero 3 (some .boolean), Cond.methodLink RX3 92 yX2_lowOf, Cond.instanceMethod yX2_lowOf, Cond.selects RX2 yX2_lowOf yX2_lowOf, Cond.code yX2_lowOf cX2_lowOf 3 (some .long), Cond.fieldLink RX2 15 "RangeScan$States" "lows" "[J", Cond.methodLink RX3 96 yX2_highOf, Cond.instanceMethod yX2_highOf, Cond.selects RX2 yX2_highOf yX2_highOf, Cond.code yX2_highOf cX2_highOf 3 (some .long), Cond.fieldLink RX2 19 "RangeScan$States" "highs" "[J", Cond.methodLink RX3 102 yX3_mayLeaveArray, Cond.instanceMethod yX3_mayLeaveArray, Cond.selects RX3 yX3_mayLeaveArray yX3_mayLeaveArray, Cond.code yX3_mayLeaveArray cX3_mayLeaveArray 3 (some .boolean), Cond.constantLong RX3 201 (7)]
def wsX3_countAlarms : List Cond := .code yX3_countAlarms cX3_countAlarms 3 (some .int) :: ((wsX3_countAlarms_r1 ++ wsX3_countAlarms_r2) ++ wsX30 ++ wsX20)
def wsX3_scan_r1 : List Cond := [Cond.fieldLink RX3 27 "RangeScan" "found" "LRangeScan$States;", Cond.fieldLink RX3 21 "RangeScan" "roundsTaken" "I", Cond.fieldLink RX3 17 "RangeScan" "scanned" "Z", Cond.methodLink RX3 56 yX3_forgetScan, Cond.instanceMethod yX3_forgetScan, Cond.selects RX3 yX3_forgetScan yX3_forgetScan, Cond.initialized RX3, Cond.code yX3_forgetScan cX3_forgetScan 1 none, Cond.methodLink RX3 63 yX3_isWhole, Cond.instanceMethod yX3_isWhole, Cond.selects RX3 yX3_isWhole yX3_isWhole, Cond.code yX3_isWhole cX3_isWhole 2 (some .boolean), Cond.fieldLink RX3 13 "RangeScan" "count" "I", Cond.fieldLink RX3 9 "RangeScan" "codes" "[I", Cond.methodLink RX3 108 yX3_areAllPlacesInside, Cond.instanceMethod yX3_areAllPlacesInside, Cond.selects RX3 yX3_areAllPlacesInside yX3_areAllPlacesInside, Cond.code yX3_areAllPlacesInside cX3_areAllPlacesInside 3 (some .boolean), Cond.methodLink RX3 105 yX3_goesOnAtC, Cond.static yX3_goesOnAtC, Cond.code yX3_goesOnAtC cX3_goesOnAtC 1 (some .boolean), Cond.methodLink RX3 59 yX3_isInstruction, Cond.instanceMethod yX3_isInstruction, Cond.selects RX3 yX3_isInstruction yX3_isInstruction]
def wsX3_scan_r2 : List Cond := [Cond.code yX3_isInstruction cX3_isInstruction 2 (some .boolean), Cond.methodLink RX3 67 yX2_begin, Cond.instanceMethod yX2_begin, Cond.selects RX2 yX2_begin yX2_begin, Cond.initialized RX2, Cond.code yX2_begin cX2_begin 2 none, Cond.fieldLink RX2 9 "RangeScan$States" "somewhere" "[Z", Cond.fieldLink RX2 15 "RangeScan$States" "lows" "[J", Cond.fieldLink RX2 19 "RangeScan$States" "highs" "[J", Cond.methodLink RX3 70 yX3_runRound, Cond.instanceMethod yX3_runRound, Cond.selects RX3 yX3_runRound yX3_runRound, Cond.code yX3_runRound cX3_runRound 3 (some .boolean), Cond.methodLink RX3 80 yX2_isSomewhere, Cond.instanceMethod yX2_isSomewhere, Cond.selects RX2 yX2_isSomewhere yX2_isSomewhere, Cond.code yX2_isSomewhere cX2_isSomewhere 2 (some .boolean), Cond.methodLink RX3 111 yX3_sendFlows, Cond.instanceMethod yX3_sendFlows, Cond.selects RX3 yX3_sendFlows yX3_sendFlows, Cond.code yX3_sendFlows cX3_sendFlows 7 (some .boolean), Cond.fieldLink RX3 37 "RangeScan" "flow" "LRangeScan$Flow;", Cond.methodLink RX3 115 yX3_makeFlowToNext, Cond.instanceMethod yX3_makeFlowToNext]
def wsX3_scan_r3 : List Cond := [Cond.selects RX3 yX3_makeFlowToNext yX3_makeFlowToNext, Cond.code yX3_makeFlowToNext cX3_makeFlowToNext 6 none, Cond.constantLong RX3 149 (-2147483648), Cond.constantLong RX3 151 (2147483647), Cond.methodLink RX3 126 yX2_copyTo, Cond.instanceMethod yX2_copyTo, Cond.selects RX2 yX2_copyTo yX2_copyTo, Cond.code yX2_copyTo cX2_copyTo 4 none, Cond.methodLink RX2 22 yX0_start, Cond.instanceMethod yX0_start, Cond.selects RX0 yX0_start yX0_start, Cond.initialized RX0, Cond.code yX0_start cX0_start 1 none, Cond.fieldLink RX0 9 "RangeScan$Flow" "something" "Z", Cond.methodLink RX2 27 yX2_lowOf, Cond.instanceMethod yX2_lowOf, Cond.selects RX2 yX2_lowOf yX2_lowOf, Cond.code yX2_lowOf cX2_lowOf 3 (some .long), Cond.methodLink RX2 31 yX2_highOf, Cond.instanceMethod yX2_highOf, Cond.selects RX2 yX2_highOf yX2_highOf, Cond.code yX2_highOf cX2_highOf 3 (some .long), Cond.methodLink RX2 34 yX0_put, Cond.instanceMethod yX0_put]
def wsX3_scan_r4 : List Cond := [Cond.selects RX0 yX0_put yX0_put, Cond.code yX0_put cX0_put 6 none, Cond.fieldLink RX0 15 "RangeScan$Flow" "lows" "[J", Cond.fieldLink RX0 19 "RangeScan$Flow" "highs" "[J", Cond.methodLink RX3 130 yX0_put, Cond.methodLink RX3 134 yX0_lowOf, Cond.instanceMethod yX0_lowOf, Cond.selects RX0 yX0_lowOf yX0_lowOf, Cond.code yX0_lowOf cX0_lowOf 2 (some .long), Cond.methodLink RX3 137 yX0_highOf, Cond.instanceMethod yX0_highOf, Cond.selects RX0 yX0_highOf yX0_highOf, Cond.code yX0_highOf cX0_highOf 2 (some .long), Cond.methodLink RX3 139 yX3_calculate, Cond.instanceMethod yX3_calculate, Cond.selects RX3 yX3_calculate yX3_calculate, Cond.code yX3_calculate cX3_calculate 8 none, Cond.fieldLink RX3 44 "RangeScan" "results" "LRangeScan$Results;", Cond.constantLong RX3 166 (-1), Cond.methodLink RX3 168 Lib.MathLoose.min_long.x, Cond.static Lib.MathLoose.min_long.x, Cond.initialized "java/lang/Math", Cond.code Lib.MathLoose.min_long.x Lib.MathLoose.min_long.code 4 (some .long), Cond.methodLink RX3 178 Lib.MathLoose.max_long.x]
def wsX3_scan_r5 : List Cond := [Cond.static Lib.MathLoose.max_long.x, Cond.code Lib.MathLoose.max_long.x Lib.MathLoose.max_long.code 4 (some .long), Cond.methodLink RX3 163 yX1_forget, Cond.instanceMethod yX1_forget, Cond.selects RX1 yX1_forget yX1_forget, Cond.initialized RX1, Cond.code yX1_forget cX1_forget 1 none, Cond.fieldLink RX1 7 "RangeScan$Results" "empty" "Z", Cond.methodLink RX3 174 yX3_takeEnds, Cond.instanceMethod yX3_takeEnds, Cond.selects RX3 yX3_takeEnds yX3_takeEnds, Cond.code yX3_takeEnds cX3_takeEnds 11 none, Cond.methodLink RX3 181 yX3_exactResult, Cond.static yX3_exactResult, Cond.code yX3_exactResult cX3_exactResult 5 (some .long), Cond.methodLink RX3 185 yX1_take, Cond.instanceMethod yX1_take, Cond.selects RX1 yX1_take yX1_take, Cond.code yX1_take cX1_take 3 none, Cond.fieldLink RX1 13 "RangeScan$Results" "least" "J", Cond.fieldLink RX1 17 "RangeScan$Results" "greatest" "J", Cond.methodLink RX3 143 yX3_putResults, Cond.instanceMethod yX3_putResults, Cond.selects RX3 yX3_putResults yX3_putResults]
def wsX3_scan_r6 : List Cond := [Cond.code yX3_putResults cX3_putResults 2 none, Cond.methodLink RX3 188 yX1_isEmpty, Cond.instanceMethod yX1_isEmpty, Cond.selects RX1 yX1_isEmpty yX1_isEmpty, Cond.code yX1_isEmpty cX1_isEmpty 1 (some .boolean), Cond.methodLink RX3 157 yX0_stop, Cond.instanceMethod yX0_stop, Cond.selects RX0 yX0_stop yX0_stop, Cond.code yX0_stop cX0_stop 1 none, Cond.methodLink RX3 191 yX1_wrapTogether, Cond.instanceMethod yX1_wrapTogether, Cond.selects RX1 yX1_wrapTogether yX1_wrapTogether, Cond.code yX1_wrapTogether cX1_wrapTogether 1 (some .boolean), Cond.methodLink RX1 20 yX1_wrappedLeast, Cond.instanceMethod yX1_wrappedLeast, Cond.selects RX1 yX1_wrappedLeast yX1_wrappedLeast, Cond.code yX1_wrappedLeast cX1_wrappedLeast 1 (some .long), Cond.methodLink RX1 24 yX1_wrappedGreatest, Cond.instanceMethod yX1_wrappedGreatest, Cond.selects RX1 yX1_wrappedGreatest yX1_wrappedGreatest, Cond.code yX1_wrappedGreatest cX1_wrappedGreatest 1 (some .long), Cond.methodLink RX3 194 yX1_wrappedLeast, Cond.methodLink RX3 198 yX1_wrappedGreatest, Cond.methodLink RX3 146 yX3_stopOutsideArray]
def wsX3_scan_r7 : List Cond := [Cond.instanceMethod yX3_stopOutsideArray, Cond.selects RX3 yX3_stopOutsideArray yX3_stopOutsideArray, Cond.code yX3_stopOutsideArray cX3_stopOutsideArray 2 none, Cond.constantLong RX3 201 (7), Cond.methodLink RX3 153 yX3_keepNotLess, Cond.instanceMethod yX3_keepNotLess, Cond.selects RX3 yX3_keepNotLess yX3_keepNotLess, Cond.code yX3_keepNotLess cX3_keepNotLess 3 none, Cond.methodLink RX3 203 yX0_raiseLow, Cond.instanceMethod yX0_raiseLow, Cond.selects RX0 yX0_raiseLow yX0_raiseLow, Cond.code yX0_raiseLow cX0_raiseLow 4 none, Cond.methodLink RX0 22 Lib.MathLoose.max_long.x, Cond.methodLink RX0 28 yX0_stopIfCrossed, Cond.instanceMethod yX0_stopIfCrossed, Cond.selects RX0 yX0_stopIfCrossed yX0_stopIfCrossed, Cond.code yX0_stopIfCrossed cX0_stopIfCrossed 2 none, Cond.methodLink RX3 207 yX0_lowerHigh, Cond.instanceMethod yX0_lowerHigh, Cond.selects RX0 yX0_lowerHigh yX0_lowerHigh, Cond.code yX0_lowerHigh cX0_lowerHigh 4 none, Cond.methodLink RX0 32 Lib.MathLoose.min_long.x, Cond.methodLink RX3 119 yX2_take, Cond.instanceMethod yX2_take]
def wsX3_scan_r8 : List Cond := [Cond.selects RX2 yX2_take yX2_take, Cond.code yX2_take cX2_take 6 (some .boolean), Cond.methodLink RX2 38 yX0_isSomething, Cond.instanceMethod yX0_isSomething, Cond.selects RX0 yX0_isSomething yX0_isSomething, Cond.code yX0_isSomething cX0_isSomething 1 (some .boolean), Cond.methodLink RX2 42 yX2_become, Cond.instanceMethod yX2_become, Cond.selects RX2 yX2_become yX2_become, Cond.code yX2_become cX2_become 4 none, Cond.methodLink RX2 50 yX0_lowOf, Cond.methodLink RX2 53 yX0_highOf, Cond.methodLink RX2 46 yX2_stretch, Cond.instanceMethod yX2_stretch, Cond.selects RX2 yX2_stretch yX2_stretch, Cond.code yX2_stretch cX2_stretch 7 (some .boolean), Cond.constantLong RX2 55 (-2147483648), Cond.constantLong RX2 57 (2147483647), Cond.methodLink RX3 123 yX3_makeFlowToPlace, Cond.instanceMethod yX3_makeFlowToPlace, Cond.selects RX3 yX3_makeFlowToPlace yX3_makeFlowToPlace, Cond.code yX3_makeFlowToPlace cX3_makeFlowToPlace 3 none, Cond.methodLink RX3 160 yX3_keepLess, Cond.instanceMethod yX3_keepLess]
def wsX3_scan_r9 : List Cond := [Cond.selects RX3 yX3_keepLess yX3_keepLess, Cond.code yX3_keepLess cX3_keepLess 3 none, Cond.methodLink RX3 73 yX3_settle, Cond.instanceMethod yX3_settle, Cond.selects RX3 yX3_settle yX3_settle, Cond.code yX3_settle cX3_settle 2 none, Cond.fieldLink RX3 31 "RangeScan" "settled" "LRangeScan$States;", Cond.methodLink RX3 76 yX3_countAlarms, Cond.instanceMethod yX3_countAlarms, Cond.selects RX3 yX3_countAlarms yX3_countAlarms, Cond.code yX3_countAlarms cX3_countAlarms 3 (some .int), Cond.methodLink RX3 210 yX3_alarm, Cond.instanceMethod yX3_alarm, Cond.selects RX3 yX3_alarm yX3_alarm, Cond.code yX3_alarm cX3_alarm 2 (some .int), Cond.methodLink RX3 83 yX3_reached, Cond.instanceMethod yX3_reached, Cond.selects RX3 yX3_reached yX3_reached, Cond.code yX3_reached cX3_reached 2 (some .int), Cond.methodLink RX3 99 yX3_mayDivideByZero, Cond.instanceMethod yX3_mayDivideByZero, Cond.selects RX3 yX3_mayDivideByZero yX3_mayDivideByZero, Cond.code yX3_mayDivideByZero cX3_mayDivideByZero 3 (some .boolean), Cond.methodLink RX3 92 yX2_lowOf]
def wsX3_scan_r10 : List Cond := [Cond.methodLink RX3 96 yX2_highOf, Cond.methodLink RX3 102 yX3_mayLeaveArray, Cond.instanceMethod yX3_mayLeaveArray, Cond.selects RX3 yX3_mayLeaveArray yX3_mayLeaveArray, Cond.code yX3_mayLeaveArray cX3_mayLeaveArray 3 (some .boolean)]
def wsX3_scan : List Cond := .code yX3_scan cX3_scan 3 (some .int) :: ((wsX3_scan_r1 ++ (wsX3_scan_r2 ++ (wsX3_scan_r3 ++ (wsX3_scan_r4 ++ (wsX3_scan_r5 ++ (wsX3_scan_r6 ++ (wsX3_scan_r7 ++ (wsX3_scan_r8 ++ (wsX3_scan_r9 ++ wsX3_scan_r10))))))))) ++ wsX30 ++ wsX20 ++ wsX00 ++ wsX10)
def wsX3_rounds : List Cond := .code yX3_rounds cX3_rounds 1 (some .int) :: ([.fieldLink RX3 21 "RangeScan" "roundsTaken" "I"] ++ wsX30)
def wsX3_low_r1 : List Cond := [Cond.constantLong RX3 90 (4294967296), Cond.fieldLink RX3 31 "RangeScan" "settled" "LRangeScan$States;", Cond.methodLink RX3 83 yX3_reached, Cond.instanceMethod yX3_reached, Cond.selects RX3 yX3_reached yX3_reached, Cond.initialized RX3, Cond.code yX3_reached cX3_reached 2 (some .int), Cond.fieldLink RX3 17 "RangeScan" "scanned" "Z", Cond.methodLink RX3 59 yX3_isInstruction, Cond.instanceMethod yX3_isInstruction, Cond.selects RX3 yX3_isInstruction yX3_isInstruction, Cond.code yX3_isInstruction cX3_isInstruction 2 (some .boolean), Cond.fieldLink RX3 13 "RangeScan" "count" "I", Cond.methodLink RX3 80 yX2_isSomewhere, Cond.instanceMethod yX2_isSomewhere, Cond.selects RX2 yX2_isSomewhere yX2_isSomewhere, Cond.initialized RX2, Cond.code yX2_isSomewhere cX2_isSomewhere 2 (some .boolean), Cond.fieldLink RX2 9 "RangeScan$States" "somewhere" "[Z", Cond.methodLink RX3 87 yX3_isVariable, Cond.static yX3_isVariable, Cond.code yX3_isVariable cX3_isVariable 1 (some .boolean), Cond.methodLink RX3 92 yX2_lowOf, Cond.instanceMethod yX2_lowOf]
def wsX3_low_r2 : List Cond := [Cond.selects RX2 yX2_lowOf yX2_lowOf, Cond.code yX2_lowOf cX2_lowOf 3 (some .long), Cond.fieldLink RX2 15 "RangeScan$States" "lows" "[J"]
def wsX3_low : List Cond := .code yX3_low cX3_low 3 (some .long) :: ((wsX3_low_r1 ++ wsX3_low_r2) ++ wsX30 ++ wsX20)
def wsX3_high_r1 : List Cond := [Cond.constantLong RX3 90 (4294967296), Cond.fieldLink RX3 31 "RangeScan" "settled" "LRangeScan$States;", Cond.methodLink RX3 83 yX3_reached, Cond.instanceMethod yX3_reached, Cond.selects RX3 yX3_reached yX3_reached, Cond.initialized RX3, Cond.code yX3_reached cX3_reached 2 (some .int), Cond.fieldLink RX3 17 "RangeScan" "scanned" "Z", Cond.methodLink RX3 59 yX3_isInstruction, Cond.instanceMethod yX3_isInstruction, Cond.selects RX3 yX3_isInstruction yX3_isInstruction, Cond.code yX3_isInstruction cX3_isInstruction 2 (some .boolean), Cond.fieldLink RX3 13 "RangeScan" "count" "I", Cond.methodLink RX3 80 yX2_isSomewhere, Cond.instanceMethod yX2_isSomewhere, Cond.selects RX2 yX2_isSomewhere yX2_isSomewhere, Cond.initialized RX2, Cond.code yX2_isSomewhere cX2_isSomewhere 2 (some .boolean), Cond.fieldLink RX2 9 "RangeScan$States" "somewhere" "[Z", Cond.methodLink RX3 87 yX3_isVariable, Cond.static yX3_isVariable, Cond.code yX3_isVariable cX3_isVariable 1 (some .boolean), Cond.methodLink RX3 96 yX2_highOf, Cond.instanceMethod yX2_highOf]
def wsX3_high_r2 : List Cond := [Cond.selects RX2 yX2_highOf yX2_highOf, Cond.code yX2_highOf cX2_highOf 3 (some .long), Cond.fieldLink RX2 19 "RangeScan$States" "highs" "[J"]
def wsX3_high : List Cond := .code yX3_high cX3_high 3 (some .long) :: ((wsX3_high_r1 ++ wsX3_high_r2) ++ wsX30 ++ wsX20)
def wsX4_init : List Cond := .code yX4_init cX4_init 1 none :: ([.methodLink RX4 1 objectInit, .instanceMethod objectInit, .code objectInit ⟨#[0xb1]⟩ 1 none, .arrayClass .int, .fieldLink RX4 7 "RangeScanModel" "code" "[I", .arrayClass .boolean, .fieldLink RX4 13 "RangeScanModel" "on" "[Z", .arrayClass .long, .fieldLink RX4 17 "RangeScanModel" "lo" "[J", .fieldLink RX4 21 "RangeScanModel" "hi" "[J", .fieldLink RX4 24 "RangeScanModel" "newOn" "[Z", .fieldLink RX4 27 "RangeScanModel" "newLo" "[J", .fieldLink RX4 30 "RangeScanModel" "newHi" "[J", .fieldLink RX4 33 "RangeScanModel" "flows" "[Z", .fieldLink RX4 36 "RangeScanModel" "tlo" "[J", .fieldLink RX4 39 "RangeScanModel" "thi" "[J", .fieldLink RX4 42 "RangeScanModel" "n" "I"] ++ wsX40)
def wsX4_within : List Cond := .code yX4_within cX4_within 2 (some .boolean) :: ([])
def wsX4_fits : List Cond := .code yX4_fits cX4_fits 4 (some .boolean) :: ([.methodLink RX4 46 yX4_within, .static yX4_within, .initialized RX4, .code yX4_within cX4_within 2 (some .boolean)])
def wsX4_forget : List Cond := .code yX4_forget cX4_forget 1 none :: ([.fieldLink RX4 57 "RangeScanModel" "scanned" "Z", .fieldLink RX4 61 "RangeScanModel" "rounds" "I"] ++ wsX40)
def wsX4_add : List Cond := .code yX4_add cX4_add 5 (some .int) :: ([.fieldLink RX4 42 "RangeScanModel" "n" "I", .fieldLink RX4 7 "RangeScanModel" "code" "[I", .methodLink RX4 50 yX4_fits, .static yX4_fits, .initialized RX4, .code yX4_fits cX4_fits 4 (some .boolean), .methodLink RX4 46 yX4_within, .static yX4_within, .code yX4_within cX4_within 2 (some .boolean), .methodLink RX4 54 yX4_forget, .instanceMethod yX4_forget, .selects RX4 yX4_forget yX4_forget, .code yX4_forget cX4_forget 1 none, .fieldLink RX4 57 "RangeScanModel" "scanned" "Z", .fieldLink RX4 61 "RangeScanModel" "rounds" "I"] ++ wsX40)
def wsX4_clear : List Cond := .code yX4_clear cX4_clear 1 none :: ([.fieldLink RX4 42 "RangeScanModel" "n" "I", .methodLink RX4 54 yX4_forget, .instanceMethod yX4_forget, .selects RX4 yX4_forget yX4_forget, .initialized RX4, .code yX4_forget cX4_forget 1 none, .fieldLink RX4 57 "RangeScanModel" "scanned" "Z", .fieldLink RX4 61 "RangeScanModel" "rounds" "I"] ++ wsX40)
def wsX4_size : List Cond := .code yX4_size cX4_size 1 (some .int) :: ([.fieldLink RX4 42 "RangeScanModel" "n" "I"] ++ wsX40)
def wsX4_code : List Cond := .code yX4_code cX4_code 3 (some .int) :: ([.fieldLink RX4 42 "RangeScanModel" "n" "I", .fieldLink RX4 7 "RangeScanModel" "code" "[I", .methodLink RX4 46 yX4_within, .static yX4_within, .initialized RX4, .code yX4_within cX4_within 2 (some .boolean)] ++ wsX40)
def wsX4_whole : List Cond := .code yX4_whole cX4_whole 3 (some .boolean) :: ([.fieldLink RX4 42 "RangeScanModel" "n" "I", .fieldLink RX4 7 "RangeScanModel" "code" "[I"] ++ wsX40)
def wsX4_set : List Cond := .code yX4_set cX4_set 7 none :: ([.constantLong RX4 64 (2147483648), .fieldLink RX4 36 "RangeScanModel" "tlo" "[J", .constantLong RX4 66 (-2147483648), .fieldLink RX4 39 "RangeScanModel" "thi" "[J", .constantLong RX4 68 (2147483647)] ++ wsX40)
def wsX4_meet : List Cond := .code yX4_meet cX4_meet 8 none :: ([.fieldLink RX4 70 "RangeScanModel" "least" "J", .fieldLink RX4 74 "RangeScanModel" "greatest" "J"] ++ wsX40)
def wsX4_corners : List Cond := .code yX4_corners cX4_corners 10 none :: ([.methodLink RX4 77 yX4_meet, .instanceMethod yX4_meet, .selects RX4 yX4_meet yX4_meet, .initialized RX4, .code yX4_meet cX4_meet 8 none, .fieldLink RX4 70 "RangeScanModel" "least" "J", .fieldLink RX4 74 "RangeScanModel" "greatest" "J"] ++ wsX40)
def wsX4_calculate_r1 : List Cond := [Cond.fieldLink RX4 17 "RangeScanModel" "lo" "[J", Cond.fieldLink RX4 21 "RangeScanModel" "hi" "[J", Cond.constantLong RX4 81 (4611686018427387904), Cond.fieldLink RX4 70 "RangeScanModel" "least" "J", Cond.fieldLink RX4 74 "RangeScanModel" "greatest" "J", Cond.constantLong RX4 87 (-1), Cond.fieldLink RX4 33 "RangeScanModel" "flows" "[Z", Cond.methodLink RX4 83 yX4_corners, Cond.instanceMethod yX4_corners, Cond.selects RX4 yX4_corners yX4_corners, Cond.initialized RX4, Cond.code yX4_corners cX4_corners 10 none, Cond.methodLink RX4 77 yX4_meet, Cond.instanceMethod yX4_meet, Cond.selects RX4 yX4_meet yX4_meet, Cond.code yX4_meet cX4_meet 8 none, Cond.methodLink RX4 89 yX4_set, Cond.instanceMethod yX4_set, Cond.selects RX4 yX4_set yX4_set, Cond.code yX4_set cX4_set 7 none, Cond.constantLong RX4 64 (2147483648), Cond.fieldLink RX4 36 "RangeScanModel" "tlo" "[J", Cond.constantLong RX4 66 (-2147483648), Cond.fieldLink RX4 39 "RangeScanModel" "thi" "[J"]
def wsX4_calculate_r2 : List Cond := [Cond.constantLong RX4 68 (2147483647)]
def wsX4_calculate : List Cond := .code yX4_calculate cX4_calculate 14 none :: ((wsX4_calculate_r1 ++ wsX4_calculate_r2) ++ wsX40)
def wsX4_compare : List Cond := .code yX4_compare cX4_compare 12 none :: ([.fieldLink RX4 33 "RangeScanModel" "flows" "[Z", .fieldLink RX4 17 "RangeScanModel" "lo" "[J", .fieldLink RX4 21 "RangeScanModel" "hi" "[J", .fieldLink RX4 36 "RangeScanModel" "tlo" "[J", .fieldLink RX4 39 "RangeScanModel" "thi" "[J"] ++ wsX40)
def wsX4_flow_r1 : List Cond := [Cond.fieldLink RX4 7 "RangeScanModel" "code" "[I", Cond.fieldLink RX4 33 "RangeScanModel" "flows" "[Z", Cond.fieldLink RX4 36 "RangeScanModel" "tlo" "[J", Cond.fieldLink RX4 17 "RangeScanModel" "lo" "[J", Cond.fieldLink RX4 39 "RangeScanModel" "thi" "[J", Cond.fieldLink RX4 21 "RangeScanModel" "hi" "[J", Cond.constantLong RX4 96 (7), Cond.constantLong RX4 66 (-2147483648), Cond.constantLong RX4 68 (2147483647), Cond.methodLink RX4 89 yX4_set, Cond.instanceMethod yX4_set, Cond.selects RX4 yX4_set yX4_set, Cond.initialized RX4, Cond.code yX4_set cX4_set 7 none, Cond.constantLong RX4 64 (2147483648), Cond.methodLink RX4 92 yX4_calculate, Cond.instanceMethod yX4_calculate, Cond.selects RX4 yX4_calculate yX4_calculate, Cond.code yX4_calculate cX4_calculate 14 none, Cond.constantLong RX4 81 (4611686018427387904), Cond.fieldLink RX4 70 "RangeScanModel" "least" "J", Cond.fieldLink RX4 74 "RangeScanModel" "greatest" "J", Cond.constantLong RX4 87 (-1), Cond.methodLink RX4 83 yX4_corners]
def wsX4_flow_r2 : List Cond := [Cond.instanceMethod yX4_corners, Cond.selects RX4 yX4_corners yX4_corners, Cond.code yX4_corners cX4_corners 10 none, Cond.methodLink RX4 77 yX4_meet, Cond.instanceMethod yX4_meet, Cond.selects RX4 yX4_meet yX4_meet, Cond.code yX4_meet cX4_meet 8 none, Cond.methodLink RX4 98 yX4_compare, Cond.instanceMethod yX4_compare, Cond.selects RX4 yX4_compare yX4_compare, Cond.code yX4_compare cX4_compare 12 none]
def wsX4_flow : List Cond := .code yX4_flow cX4_flow 6 none :: ((wsX4_flow_r1 ++ wsX4_flow_r2) ++ wsX40)
def wsX4_arrive : List Cond := .code yX4_arrive cX4_arrive 6 (some .boolean) :: ([.fieldLink RX4 13 "RangeScanModel" "on" "[Z", .fieldLink RX4 17 "RangeScanModel" "lo" "[J", .fieldLink RX4 36 "RangeScanModel" "tlo" "[J", .fieldLink RX4 21 "RangeScanModel" "hi" "[J", .fieldLink RX4 39 "RangeScanModel" "thi" "[J", .constantLong RX4 66 (-2147483648), .constantLong RX4 68 (2147483647)] ++ wsX40)
def wsX4_target : List Cond := .code yX4_target cX4_target 3 (some .int) :: ([.fieldLink RX4 7 "RangeScanModel" "code" "[I"] ++ wsX40)
def wsX4_narrow_r1 : List Cond := [Cond.fieldLink RX4 24 "RangeScanModel" "newOn" "[Z", Cond.fieldLink RX4 27 "RangeScanModel" "newLo" "[J", Cond.fieldLink RX4 30 "RangeScanModel" "newHi" "[J", Cond.fieldLink RX4 42 "RangeScanModel" "n" "I", Cond.fieldLink RX4 13 "RangeScanModel" "on" "[Z", Cond.fieldLink RX4 33 "RangeScanModel" "flows" "[Z", Cond.fieldLink RX4 36 "RangeScanModel" "tlo" "[J", Cond.fieldLink RX4 39 "RangeScanModel" "thi" "[J", Cond.fieldLink RX4 17 "RangeScanModel" "lo" "[J", Cond.fieldLink RX4 21 "RangeScanModel" "hi" "[J", Cond.methodLink RX4 102 yX4_flow, Cond.instanceMethod yX4_flow, Cond.selects RX4 yX4_flow yX4_flow, Cond.initialized RX4, Cond.code yX4_flow cX4_flow 6 none, Cond.fieldLink RX4 7 "RangeScanModel" "code" "[I", Cond.constantLong RX4 96 (7), Cond.constantLong RX4 66 (-2147483648), Cond.constantLong RX4 68 (2147483647), Cond.methodLink RX4 89 yX4_set, Cond.instanceMethod yX4_set, Cond.selects RX4 yX4_set yX4_set, Cond.code yX4_set cX4_set 7 none, Cond.constantLong RX4 64 (2147483648)]
def wsX4_narrow_r2 : List Cond := [Cond.methodLink RX4 92 yX4_calculate, Cond.instanceMethod yX4_calculate, Cond.selects RX4 yX4_calculate yX4_calculate, Cond.code yX4_calculate cX4_calculate 14 none, Cond.constantLong RX4 81 (4611686018427387904), Cond.fieldLink RX4 70 "RangeScanModel" "least" "J", Cond.fieldLink RX4 74 "RangeScanModel" "greatest" "J", Cond.constantLong RX4 87 (-1), Cond.methodLink RX4 83 yX4_corners, Cond.instanceMethod yX4_corners, Cond.selects RX4 yX4_corners yX4_corners, Cond.code yX4_corners cX4_corners 10 none, Cond.methodLink RX4 77 yX4_meet, Cond.instanceMethod yX4_meet, Cond.selects RX4 yX4_meet yX4_meet, Cond.code yX4_meet cX4_meet 8 none, Cond.methodLink RX4 98 yX4_compare, Cond.instanceMethod yX4_compare, Cond.selects RX4 yX4_compare yX4_compare, Cond.code yX4_compare cX4_compare 12 none, Cond.methodLink RX4 106 yX4_target, Cond.instanceMethod yX4_target, Cond.selects RX4 yX4_target yX4_target, Cond.code yX4_target cX4_target 3 (some .int)]
def wsX4_narrow : List Cond := .code yX4_narrow cX4_narrow 5 none :: ((wsX4_narrow_r1 ++ wsX4_narrow_r2) ++ wsX40)
def wsX4_reached : List Cond := .code yX4_reached cX4_reached 2 (some .int) :: ([.fieldLink RX4 57 "RangeScanModel" "scanned" "Z", .fieldLink RX4 42 "RangeScanModel" "n" "I", .fieldLink RX4 13 "RangeScanModel" "on" "[Z", .methodLink RX4 46 yX4_within, .static yX4_within, .initialized RX4, .code yX4_within cX4_within 2 (some .boolean)] ++ wsX40)
def wsX4_alarm : List Cond := .code yX4_alarm cX4_alarm 5 (some .int) :: ([.fieldLink RX4 7 "RangeScanModel" "code" "[I", .fieldLink RX4 17 "RangeScanModel" "lo" "[J", .fieldLink RX4 21 "RangeScanModel" "hi" "[J", .constantLong RX4 96 (7), .methodLink RX4 126 yX4_reached, .instanceMethod yX4_reached, .selects RX4 yX4_reached yX4_reached, .initialized RX4, .code yX4_reached cX4_reached 2 (some .int), .fieldLink RX4 57 "RangeScanModel" "scanned" "Z", .fieldLink RX4 42 "RangeScanModel" "n" "I", .fieldLink RX4 13 "RangeScanModel" "on" "[Z", .methodLink RX4 46 yX4_within, .static yX4_within, .code yX4_within cX4_within 2 (some .boolean)] ++ wsX40)
def wsX4_scan_r1 : List Cond := [Cond.fieldLink RX4 57 "RangeScanModel" "scanned" "Z", Cond.fieldLink RX4 13 "RangeScanModel" "on" "[Z", Cond.fieldLink RX4 17 "RangeScanModel" "lo" "[J", Cond.fieldLink RX4 21 "RangeScanModel" "hi" "[J", Cond.constant RX4 114 (1000000), Cond.fieldLink RX4 61 "RangeScanModel" "rounds" "I", Cond.fieldLink RX4 42 "RangeScanModel" "n" "I", Cond.fieldLink RX4 33 "RangeScanModel" "flows" "[Z", Cond.methodLink RX4 54 yX4_forget, Cond.instanceMethod yX4_forget, Cond.selects RX4 yX4_forget yX4_forget, Cond.initialized RX4, Cond.code yX4_forget cX4_forget 1 none, Cond.methodLink RX4 110 yX4_whole, Cond.instanceMethod yX4_whole, Cond.selects RX4 yX4_whole yX4_whole, Cond.code yX4_whole cX4_whole 3 (some .boolean), Cond.fieldLink RX4 7 "RangeScanModel" "code" "[I", Cond.methodLink RX4 102 yX4_flow, Cond.instanceMethod yX4_flow, Cond.selects RX4 yX4_flow yX4_flow, Cond.code yX4_flow cX4_flow 6 none, Cond.fieldLink RX4 36 "RangeScanModel" "tlo" "[J", Cond.fieldLink RX4 39 "RangeScanModel" "thi" "[J"]
def wsX4_scan_r2 : List Cond := [Cond.constantLong RX4 96 (7), Cond.constantLong RX4 66 (-2147483648), Cond.constantLong RX4 68 (2147483647), Cond.methodLink RX4 89 yX4_set, Cond.instanceMethod yX4_set, Cond.selects RX4 yX4_set yX4_set, Cond.code yX4_set cX4_set 7 none, Cond.constantLong RX4 64 (2147483648), Cond.methodLink RX4 92 yX4_calculate, Cond.instanceMethod yX4_calculate, Cond.selects RX4 yX4_calculate yX4_calculate, Cond.code yX4_calculate cX4_calculate 14 none, Cond.constantLong RX4 81 (4611686018427387904), Cond.fieldLink RX4 70 "RangeScanModel" "least" "J", Cond.fieldLink RX4 74 "RangeScanModel" "greatest" "J", Cond.constantLong RX4 87 (-1), Cond.methodLink RX4 83 yX4_corners, Cond.instanceMethod yX4_corners, Cond.selects RX4 yX4_corners yX4_corners, Cond.code yX4_corners cX4_corners 10 none, Cond.methodLink RX4 77 yX4_meet, Cond.instanceMethod yX4_meet, Cond.selects RX4 yX4_meet yX4_meet, Cond.code yX4_meet cX4_meet 8 none]
def wsX4_scan_r3 : List Cond := [Cond.methodLink RX4 98 yX4_compare, Cond.instanceMethod yX4_compare, Cond.selects RX4 yX4_compare yX4_compare, Cond.code yX4_compare cX4_compare 12 none, Cond.methodLink RX4 106 yX4_target, Cond.instanceMethod yX4_target, Cond.selects RX4 yX4_target yX4_target, Cond.code yX4_target cX4_target 3 (some .int), Cond.methodLink RX4 115 yX4_arrive, Cond.instanceMethod yX4_arrive, Cond.selects RX4 yX4_arrive yX4_arrive, Cond.code yX4_arrive cX4_arrive 6 (some .boolean), Cond.methodLink RX4 119 yX4_narrow, Cond.instanceMethod yX4_narrow, Cond.selects RX4 yX4_narrow yX4_narrow, Cond.code yX4_narrow cX4_narrow 5 none, Cond.fieldLink RX4 24 "RangeScanModel" "newOn" "[Z", Cond.fieldLink RX4 27 "RangeScanModel" "newLo" "[J", Cond.fieldLink RX4 30 "RangeScanModel" "newHi" "[J", Cond.methodLink RX4 122 yX4_alarm, Cond.instanceMethod yX4_alarm, Cond.selects RX4 yX4_alarm yX4_alarm, Cond.code yX4_alarm cX4_alarm 5 (some .int), Cond.methodLink RX4 126 yX4_reached]
def wsX4_scan_r4 : List Cond := [Cond.instanceMethod yX4_reached, Cond.selects RX4 yX4_reached yX4_reached, Cond.code yX4_reached cX4_reached 2 (some .int), Cond.methodLink RX4 46 yX4_within, Cond.static yX4_within, Cond.code yX4_within cX4_within 2 (some .boolean)]
def wsX4_scan : List Cond := .code yX4_scan cX4_scan 5 (some .int) :: ((wsX4_scan_r1 ++ (wsX4_scan_r2 ++ (wsX4_scan_r3 ++ wsX4_scan_r4))) ++ wsX40)
def wsX4_rounds : List Cond := .code yX4_rounds cX4_rounds 1 (some .int) :: ([.fieldLink RX4 61 "RangeScanModel" "rounds" "I"] ++ wsX40)
def wsX4_low : List Cond := .code yX4_low cX4_low 3 (some .long) :: ([.fieldLink RX4 17 "RangeScanModel" "lo" "[J", .constantLong RX4 129 (4294967296), .methodLink RX4 126 yX4_reached, .instanceMethod yX4_reached, .selects RX4 yX4_reached yX4_reached, .initialized RX4, .code yX4_reached cX4_reached 2 (some .int), .fieldLink RX4 57 "RangeScanModel" "scanned" "Z", .fieldLink RX4 42 "RangeScanModel" "n" "I", .fieldLink RX4 13 "RangeScanModel" "on" "[Z", .methodLink RX4 46 yX4_within, .static yX4_within, .code yX4_within cX4_within 2 (some .boolean)] ++ wsX40)
def wsX4_high : List Cond := .code yX4_high cX4_high 3 (some .long) :: ([.fieldLink RX4 21 "RangeScanModel" "hi" "[J", .constantLong RX4 129 (4294967296), .methodLink RX4 126 yX4_reached, .instanceMethod yX4_reached, .selects RX4 yX4_reached yX4_reached, .initialized RX4, .code yX4_reached cX4_reached 2 (some .int), .fieldLink RX4 57 "RangeScanModel" "scanned" "Z", .fieldLink RX4 42 "RangeScanModel" "n" "I", .fieldLink RX4 13 "RangeScanModel" "on" "[Z", .methodLink RX4 46 yX4_within, .static yX4_within, .code yX4_within cX4_within 2 (some .boolean)] ++ wsX40)
def wsJ9_max_f86c9 : List Cond := .code yJ9_max_f86c9 cJ9_max_f86c9 4 (some .long) :: ([])
def wsJ9_min_f86c9 : List Cond := .code yJ9_min_f86c9 cJ9_min_f86c9 4 (some .long) :: ([])
abbrev vwCl : List vw_C := [(RX0, TX0, 3), (RX1, TX1, 3), (RX2, TX2, 3), (RX3, TX3, 8), (RX4, TX4, 15)]
end
section
theorem dX0_init_0 : decode cX0_init 0 = .ok (.aload_n 0, 1) := by decide +kernel
theorem dX0_init_1 : decode cX0_init 1 = .ok (.invokespecial 3, 3) := by decide +kernel
theorem dX0_init_4 : decode cX0_init 4 = .ok (.aload_n 0, 1) := by decide +kernel
theorem dX0_init_5 : decode cX0_init 5 = .ok (.iconst 0, 1) := by decide +kernel
theorem dX0_init_6 : decode cX0_init 6 = .ok (.putfield 9, 3) := by decide +kernel
theorem dX0_init_9 : decode cX0_init 9 = .ok (.aload_n 0, 1) := by decide +kernel
theorem dX0_init_10 : decode cX0_init 10 = .ok (.iconst 4, 1) := by decide +kernel
theorem dX0_init_11 : decode cX0_init 11 = .ok (.newarray .long, 2) := by decide +kernel
theorem dX0_init_13 : decode cX0_init 13 = .ok (.putfield 15, 3) := by decide +kernel
theorem dX0_init_16 : decode cX0_init 16 = .ok (.aload_n 0, 1) := by decide +kernel
theorem dX0_init_17 : decode cX0_init 17 = .ok (.iconst 4, 1) := by decide +kernel
theorem dX0_init_18 : decode cX0_init 18 = .ok (.newarray .long, 2) := by decide +kernel
theorem dX0_init_20 : decode cX0_init 20 = .ok (.putfield 19, 3) := by decide +kernel
theorem dX0_init_23 : decode cX0_init 23 = .ok (.return_, 1) := by decide +kernel
theorem dX0_start_0 : decode cX0_start 0 = .ok (.aload_n 0, 1) := by decide +kernel
theorem dX0_start_1 : decode cX0_start 1 = .ok (.iconst 1, 1) := by decide +kernel
theorem dX0_start_2 : decode cX0_start 2 = .ok (.putfield 9, 3) := by decide +kernel
theorem dX0_start_5 : decode cX0_start 5 = .ok (.return_, 1) := by decide +kernel
theorem dX0_stop_0 : decode cX0_stop 0 = .ok (.aload_n 0, 1) := by decide +kernel
theorem dX0_stop_1 : decode cX0_stop 1 = .ok (.iconst 0, 1) := by decide +kernel
theorem dX0_stop_2 : decode cX0_stop 2 = .ok (.putfield 9, 3) := by decide +kernel
theorem dX0_stop_5 : decode cX0_stop 5 = .ok (.return_, 1) := by decide +kernel
theorem dX0_isSomething_0 : decode cX0_isSomething 0 = .ok (.aload_n 0, 1) := by decide +kernel
theorem dX0_isSomething_1 : decode cX0_isSomething 1 = .ok (.getfield 9, 3) := by decide +kernel
theorem dX0_isSomething_4 : decode cX0_isSomething 4 = .ok (.ireturn, 1) := by decide +kernel
theorem dX0_lowOf_0 : decode cX0_lowOf 0 = .ok (.aload_n 0, 1) := by decide +kernel
theorem dX0_lowOf_1 : decode cX0_lowOf 1 = .ok (.getfield 15, 3) := by decide +kernel
theorem dX0_lowOf_4 : decode cX0_lowOf 4 = .ok (.iload_n 1, 1) := by decide +kernel
theorem dX0_lowOf_5 : decode cX0_lowOf 5 = .ok (.laload, 1) := by decide +kernel
theorem dX0_lowOf_6 : decode cX0_lowOf 6 = .ok (.lreturn, 1) := by decide +kernel
theorem dX0_highOf_0 : decode cX0_highOf 0 = .ok (.aload_n 0, 1) := by decide +kernel
theorem dX0_highOf_1 : decode cX0_highOf 1 = .ok (.getfield 19, 3) := by decide +kernel
theorem dX0_highOf_4 : decode cX0_highOf 4 = .ok (.iload_n 1, 1) := by decide +kernel
theorem dX0_highOf_5 : decode cX0_highOf 5 = .ok (.laload, 1) := by decide +kernel
theorem dX0_highOf_6 : decode cX0_highOf 6 = .ok (.lreturn, 1) := by decide +kernel
theorem dX0_put_0 : decode cX0_put 0 = .ok (.aload_n 0, 1) := by decide +kernel
theorem dX0_put_1 : decode cX0_put 1 = .ok (.getfield 15, 3) := by decide +kernel
theorem dX0_put_4 : decode cX0_put 4 = .ok (.iload_n 1, 1) := by decide +kernel
theorem dX0_put_5 : decode cX0_put 5 = .ok (.lload_n 2, 1) := by decide +kernel
theorem dX0_put_6 : decode cX0_put 6 = .ok (.lastore, 1) := by decide +kernel
theorem dX0_put_7 : decode cX0_put 7 = .ok (.aload_n 0, 1) := by decide +kernel
theorem dX0_put_8 : decode cX0_put 8 = .ok (.getfield 19, 3) := by decide +kernel
theorem dX0_put_11 : decode cX0_put 11 = .ok (.iload_n 1, 1) := by decide +kernel
theorem dX0_put_12 : decode cX0_put 12 = .ok (.lload 4, 2) := by decide +kernel
theorem dX0_put_14 : decode cX0_put 14 = .ok (.lastore, 1) := by decide +kernel
theorem dX0_put_15 : decode cX0_put 15 = .ok (.return_, 1) := by decide +kernel
set_option maxRecDepth 20000 in
theorem ggX0_raiseLow_X0_stopIfCrossed : GoodIn wsX0_raiseLow wsX0_stopIfCrossed := goodIn_r _ [10, 1, 11, 12, 13, 14, 15] (by decide +kernel) (by decide +kernel)
set_option maxRecDepth 20000 in
theorem gX0_raiseLow_X0_stopIfCrossed : GoodIn wsX0_raiseLow (wsV RX0 28 RX0 yX0_stopIfCrossed wsX0_stopIfCrossed) := goodIn_app (goodIn_of _ (by decide +kernel)) ggX0_raiseLow_X0_stopIfCrossed
theorem dX0_raiseLow_0 : decode cX0_raiseLow 0 = .ok (.aload_n 0, 1) := by decide +kernel
theorem dX0_raiseLow_1 : decode cX0_raiseLow 1 = .ok (.getfield 15, 3) := by decide +kernel
theorem dX0_raiseLow_4 : decode cX0_raiseLow 4 = .ok (.iload_n 1, 1) := by decide +kernel
theorem dX0_raiseLow_5 : decode cX0_raiseLow 5 = .ok (.aload_n 0, 1) := by decide +kernel
theorem dX0_raiseLow_6 : decode cX0_raiseLow 6 = .ok (.getfield 15, 3) := by decide +kernel
theorem dX0_raiseLow_9 : decode cX0_raiseLow 9 = .ok (.iload_n 1, 1) := by decide +kernel
theorem dX0_raiseLow_10 : decode cX0_raiseLow 10 = .ok (.laload, 1) := by decide +kernel
theorem dX0_raiseLow_11 : decode cX0_raiseLow 11 = .ok (.lload_n 2, 1) := by decide +kernel
theorem dX0_raiseLow_12 : decode cX0_raiseLow 12 = .ok (.invokestatic 22, 3) := by decide +kernel
theorem dX0_raiseLow_15 : decode cX0_raiseLow 15 = .ok (.lastore, 1) := by decide +kernel
theorem dX0_raiseLow_16 : decode cX0_raiseLow 16 = .ok (.aload_n 0, 1) := by decide +kernel
theorem dX0_raiseLow_17 : decode cX0_raiseLow 17 = .ok (.iload_n 1, 1) := by decide +kernel
theorem dX0_raiseLow_18 : decode cX0_raiseLow 18 = .ok (.invokevirtual 28, 3) := by decide +kernel
theorem dX0_raiseLow_21 : decode cX0_raiseLow 21 = .ok (.return_, 1) := by decide +kernel
set_option maxRecDepth 20000 in
theorem ggX0_lowerHigh_X0_stopIfCrossed : GoodIn wsX0_lowerHigh wsX0_stopIfCrossed := goodIn_r _ [10, 11, 1, 12, 13, 14, 15] (by decide +kernel) (by decide +kernel)
set_option maxRecDepth 20000 in
theorem gX0_lowerHigh_X0_stopIfCrossed : GoodIn wsX0_lowerHigh (wsV RX0 28 RX0 yX0_stopIfCrossed wsX0_stopIfCrossed) := goodIn_app (goodIn_of _ (by decide +kernel)) ggX0_lowerHigh_X0_stopIfCrossed
theorem dX0_lowerHigh_0 : decode cX0_lowerHigh 0 = .ok (.aload_n 0, 1) := by decide +kernel
theorem dX0_lowerHigh_1 : decode cX0_lowerHigh 1 = .ok (.getfield 19, 3) := by decide +kernel
theorem dX0_lowerHigh_4 : decode cX0_lowerHigh 4 = .ok (.iload_n 1, 1) := by decide +kernel
theorem dX0_lowerHigh_5 : decode cX0_lowerHigh 5 = .ok (.aload_n 0, 1) := by decide +kernel
theorem dX0_lowerHigh_6 : decode cX0_lowerHigh 6 = .ok (.getfield 19, 3) := by decide +kernel
theorem dX0_lowerHigh_9 : decode cX0_lowerHigh 9 = .ok (.iload_n 1, 1) := by decide +kernel
theorem dX0_lowerHigh_10 : decode cX0_lowerHigh 10 = .ok (.laload, 1) := by decide +kernel
theorem dX0_lowerHigh_11 : decode cX0_lowerHigh 11 = .ok (.lload_n 2, 1) := by decide +kernel
theorem dX0_lowerHigh_12 : decode cX0_lowerHigh 12 = .ok (.invokestatic 32, 3) := by decide +kernel
theorem dX0_lowerHigh_15 : decode cX0_lowerHigh 15 = .ok (.lastore, 1) := by decide +kernel
theorem dX0_lowerHigh_16 : decode cX0_lowerHigh 16 = .ok (.aload_n 0, 1) := by decide +kernel
theorem dX0_lowerHigh_17 : decode cX0_lowerHigh 17 = .ok (.iload_n 1, 1) := by decide +kernel
theorem dX0_lowerHigh_18 : decode cX0_lowerHigh 18 = .ok (.invokevirtual 28, 3) := by decide +kernel
theorem dX0_lowerHigh_21 : decode cX0_lowerHigh 21 = .ok (.return_, 1) := by decide +kernel
theorem dX0_stopIfCrossed_0 : decode cX0_stopIfCrossed 0 = .ok (.aload_n 0, 1) := by decide +kernel
theorem dX0_stopIfCrossed_1 : decode cX0_stopIfCrossed 1 = .ok (.getfield 15, 3) := by decide +kernel
theorem dX0_stopIfCrossed_4 : decode cX0_stopIfCrossed 4 = .ok (.iload_n 1, 1) := by decide +kernel
theorem dX0_stopIfCrossed_5 : decode cX0_stopIfCrossed 5 = .ok (.laload, 1) := by decide +kernel
theorem dX0_stopIfCrossed_6 : decode cX0_stopIfCrossed 6 = .ok (.aload_n 0, 1) := by decide +kernel
theorem dX0_stopIfCrossed_7 : decode cX0_stopIfCrossed 7 = .ok (.getfield 19, 3) := by decide +kernel
theorem dX0_stopIfCrossed_10 : decode cX0_stopIfCrossed 10 = .ok (.iload_n 1, 1) := by decide +kernel
theorem dX0_stopIfCrossed_11 : decode cX0_stopIfCrossed 11 = .ok (.laload, 1) := by decide +kernel
theorem dX0_stopIfCrossed_12 : decode cX0_stopIfCrossed 12 = .ok (.lcmp, 1) := by decide +kernel
theorem dX0_stopIfCrossed_13 : decode cX0_stopIfCrossed 13 = .ok (.ifCond .le 8, 3) := by decide +kernel
theorem dX0_stopIfCrossed_16 : decode cX0_stopIfCrossed 16 = .ok (.aload_n 0, 1) := by decide +kernel
theorem dX0_stopIfCrossed_17 : decode cX0_stopIfCrossed 17 = .ok (.iconst 0, 1) := by decide +kernel
theorem dX0_stopIfCrossed_18 : decode cX0_stopIfCrossed 18 = .ok (.putfield 9, 3) := by decide +kernel
theorem dX0_stopIfCrossed_21 : decode cX0_stopIfCrossed 21 = .ok (.return_, 1) := by decide +kernel
theorem dX1_init_0 : decode cX1_init 0 = .ok (.aload_n 0, 1) := by decide +kernel
theorem dX1_init_1 : decode cX1_init 1 = .ok (.invokespecial 1, 3) := by decide +kernel
theorem dX1_init_4 : decode cX1_init 4 = .ok (.aload_n 0, 1) := by decide +kernel
theorem dX1_init_5 : decode cX1_init 5 = .ok (.iconst 1, 1) := by decide +kernel
theorem dX1_init_6 : decode cX1_init 6 = .ok (.putfield 7, 3) := by decide +kernel
theorem dX1_init_9 : decode cX1_init 9 = .ok (.aload_n 0, 1) := by decide +kernel
theorem dX1_init_10 : decode cX1_init 10 = .ok (.lconst 0, 1) := by decide +kernel
theorem dX1_init_11 : decode cX1_init 11 = .ok (.putfield 13, 3) := by decide +kernel
theorem dX1_init_14 : decode cX1_init 14 = .ok (.aload_n 0, 1) := by decide +kernel
theorem dX1_init_15 : decode cX1_init 15 = .ok (.lconst 0, 1) := by decide +kernel
theorem dX1_init_16 : decode cX1_init 16 = .ok (.putfield 17, 3) := by decide +kernel
theorem dX1_init_19 : decode cX1_init 19 = .ok (.return_, 1) := by decide +kernel
theorem dX1_forget_0 : decode cX1_forget 0 = .ok (.aload_n 0, 1) := by decide +kernel
theorem dX1_forget_1 : decode cX1_forget 1 = .ok (.iconst 1, 1) := by decide +kernel
theorem dX1_forget_2 : decode cX1_forget 2 = .ok (.putfield 7, 3) := by decide +kernel
theorem dX1_forget_5 : decode cX1_forget 5 = .ok (.return_, 1) := by decide +kernel
theorem dX1_isEmpty_0 : decode cX1_isEmpty 0 = .ok (.aload_n 0, 1) := by decide +kernel
theorem dX1_isEmpty_1 : decode cX1_isEmpty 1 = .ok (.getfield 7, 3) := by decide +kernel
theorem dX1_isEmpty_4 : decode cX1_isEmpty 4 = .ok (.ireturn, 1) := by decide +kernel
theorem dX1_take_0 : decode cX1_take 0 = .ok (.aload_n 0, 1) := by decide +kernel
theorem dX1_take_1 : decode cX1_take 1 = .ok (.getfield 7, 3) := by decide +kernel
theorem dX1_take_4 : decode cX1_take 4 = .ok (.ifCond .ne 12, 3) := by decide +kernel
theorem dX1_take_7 : decode cX1_take 7 = .ok (.lload_n 1, 1) := by decide +kernel
theorem dX1_take_8 : decode cX1_take 8 = .ok (.aload_n 0, 1) := by decide +kernel
theorem dX1_take_9 : decode cX1_take 9 = .ok (.getfield 13, 3) := by decide +kernel
theorem dX1_take_12 : decode cX1_take 12 = .ok (.lcmp, 1) := by decide +kernel
theorem dX1_take_13 : decode cX1_take 13 = .ok (.ifCond .ge 8, 3) := by decide +kernel
theorem dX1_take_16 : decode cX1_take 16 = .ok (.aload_n 0, 1) := by decide +kernel
theorem dX1_take_17 : decode cX1_take 17 = .ok (.lload_n 1, 1) := by decide +kernel
theorem dX1_take_18 : decode cX1_take 18 = .ok (.putfield 13, 3) := by decide +kernel
theorem dX1_take_21 : decode cX1_take 21 = .ok (.aload_n 0, 1) := by decide +kernel
theorem dX1_take_22 : decode cX1_take 22 = .ok (.getfield 7, 3) := by decide +kernel
theorem dX1_take_25 : decode cX1_take 25 = .ok (.ifCond .ne 12, 3) := by decide +kernel
theorem dX1_take_28 : decode cX1_take 28 = .ok (.lload_n 1, 1) := by decide +kernel
theorem dX1_take_29 : decode cX1_take 29 = .ok (.aload_n 0, 1) := by decide +kernel
theorem dX1_take_30 : decode cX1_take 30 = .ok (.getfield 17, 3) := by decide +kernel
theorem dX1_take_33 : decode cX1_take 33 = .ok (.lcmp, 1) := by decide +kernel
theorem dX1_take_34 : decode cX1_take 34 = .ok (.ifCond .le 8, 3) := by decide +kernel
theorem dX1_take_37 : decode cX1_take 37 = .ok (.aload_n 0, 1) := by decide +kernel
theorem dX1_take_38 : decode cX1_take 38 = .ok (.lload_n 1, 1) := by decide +kernel
theorem dX1_take_39 : decode cX1_take 39 = .ok (.putfield 17, 3) := by decide +kernel
theorem dX1_take_42 : decode cX1_take 42 = .ok (.aload_n 0, 1) := by decide +kernel
theorem dX1_take_43 : decode cX1_take 43 = .ok (.iconst 0, 1) := by decide +kernel
theorem dX1_take_44 : decode cX1_take 44 = .ok (.putfield 7, 3) := by decide +kernel
theorem dX1_take_47 : decode cX1_take 47 = .ok (.return_, 1) := by decide +kernel
set_option maxRecDepth 20000 in
theorem ggX1_wrapTogether_X1_wrappedLeast : GoodIn wsX1_wrapTogether wsX1_wrappedLeast := goodIn_r _ [7, 1, 12, 13, 14] (by decide +kernel) (by decide +kernel)
set_option maxRecDepth 20000 in
theorem gX1_wrapTogether_X1_wrappedLeast : GoodIn wsX1_wrapTogether (wsV RX1 20 RX1 yX1_wrappedLeast wsX1_wrappedLeast) := goodIn_app (goodIn_of _ (by decide +kernel)) ggX1_wrapTogether_X1_wrappedLeast
set_option maxRecDepth 20000 in
theorem ggX1_wrapTogether_X1_wrappedGreatest : GoodIn wsX1_wrapTogether wsX1_wrappedGreatest := goodIn_r _ [11, 2, 12, 13, 14] (by decide +kernel) (by decide +kernel)
set_option maxRecDepth 20000 in
theorem gX1_wrapTogether_X1_wrappedGreatest : GoodIn wsX1_wrapTogether (wsV RX1 24 RX1 yX1_wrappedGreatest wsX1_wrappedGreatest) := goodIn_app (goodIn_of _ (by decide +kernel)) ggX1_wrapTogether_X1_wrappedGreatest
theorem dX1_wrapTogether_0 : decode cX1_wrapTogether 0 = .ok (.aload_n 0, 1) := by decide +kernel
theorem dX1_wrapTogether_1 : decode cX1_wrapTogether 1 = .ok (.getfield 13, 3) := by decide +kernel
theorem dX1_wrapTogether_4 : decode cX1_wrapTogether 4 = .ok (.aload_n 0, 1) := by decide +kernel
theorem dX1_wrapTogether_5 : decode cX1_wrapTogether 5 = .ok (.invokevirtual 20, 3) := by decide +kernel
theorem dX1_wrapTogether_8 : decode cX1_wrapTogether 8 = .ok (.lsub, 1) := by decide +kernel
theorem dX1_wrapTogether_9 : decode cX1_wrapTogether 9 = .ok (.aload_n 0, 1) := by decide +kernel
theorem dX1_wrapTogether_10 : decode cX1_wrapTogether 10 = .ok (.getfield 17, 3) := by decide +kernel
theorem dX1_wrapTogether_13 : decode cX1_wrapTogether 13 = .ok (.aload_n 0, 1) := by decide +kernel
theorem dX1_wrapTogether_14 : decode cX1_wrapTogether 14 = .ok (.invokevirtual 24, 3) := by decide +kernel
theorem dX1_wrapTogether_17 : decode cX1_wrapTogether 17 = .ok (.lsub, 1) := by decide +kernel
theorem dX1_wrapTogether_18 : decode cX1_wrapTogether 18 = .ok (.lcmp, 1) := by decide +kernel
theorem dX1_wrapTogether_19 : decode cX1_wrapTogether 19 = .ok (.ifCond .ne 7, 3) := by decide +kernel
theorem dX1_wrapTogether_22 : decode cX1_wrapTogether 22 = .ok (.iconst 1, 1) := by decide +kernel
theorem dX1_wrapTogether_23 : decode cX1_wrapTogether 23 = .ok (.goto 4, 3) := by decide +kernel
theorem dX1_wrapTogether_26 : decode cX1_wrapTogether 26 = .ok (.iconst 0, 1) := by decide +kernel
theorem dX1_wrapTogether_27 : decode cX1_wrapTogether 27 = .ok (.ireturn, 1) := by decide +kernel
theorem dX1_wrappedLeast_0 : decode cX1_wrappedLeast 0 = .ok (.aload_n 0, 1) := by decide +kernel
theorem dX1_wrappedLeast_1 : decode cX1_wrappedLeast 1 = .ok (.getfield 13, 3) := by decide +kernel
theorem dX1_wrappedLeast_4 : decode cX1_wrappedLeast 4 = .ok (.l2i, 1) := by decide +kernel
theorem dX1_wrappedLeast_5 : decode cX1_wrappedLeast 5 = .ok (.i2l, 1) := by decide +kernel
theorem dX1_wrappedLeast_6 : decode cX1_wrappedLeast 6 = .ok (.lreturn, 1) := by decide +kernel
theorem dX1_wrappedGreatest_0 : decode cX1_wrappedGreatest 0 = .ok (.aload_n 0, 1) := by decide +kernel
theorem dX1_wrappedGreatest_1 : decode cX1_wrappedGreatest 1 = .ok (.getfield 17, 3) := by decide +kernel
theorem dX1_wrappedGreatest_4 : decode cX1_wrappedGreatest 4 = .ok (.l2i, 1) := by decide +kernel
theorem dX1_wrappedGreatest_5 : decode cX1_wrappedGreatest 5 = .ok (.i2l, 1) := by decide +kernel
theorem dX1_wrappedGreatest_6 : decode cX1_wrappedGreatest 6 = .ok (.lreturn, 1) := by decide +kernel
theorem dX2_init_0 : decode cX2_init 0 = .ok (.aload_n 0, 1) := by decide +kernel
theorem dX2_init_1 : decode cX2_init 1 = .ok (.invokespecial 3, 3) := by decide +kernel
theorem dX2_init_4 : decode cX2_init 4 = .ok (.aload_n 0, 1) := by decide +kernel
theorem dX2_init_5 : decode cX2_init 5 = .ok (.bipush 24, 2) := by decide +kernel
theorem dX2_init_7 : decode cX2_init 7 = .ok (.newarray .boolean, 2) := by decide +kernel
theorem dX2_init_9 : decode cX2_init 9 = .ok (.putfield 9, 3) := by decide +kernel
theorem dX2_init_12 : decode cX2_init 12 = .ok (.aload_n 0, 1) := by decide +kernel
theorem dX2_init_13 : decode cX2_init 13 = .ok (.bipush 96, 2) := by decide +kernel
theorem dX2_init_15 : decode cX2_init 15 = .ok (.newarray .long, 2) := by decide +kernel
theorem dX2_init_17 : decode cX2_init 17 = .ok (.putfield 15, 3) := by decide +kernel
theorem dX2_init_20 : decode cX2_init 20 = .ok (.aload_n 0, 1) := by decide +kernel
theorem dX2_init_21 : decode cX2_init 21 = .ok (.bipush 96, 2) := by decide +kernel
theorem dX2_init_23 : decode cX2_init 23 = .ok (.newarray .long, 2) := by decide +kernel
theorem dX2_init_25 : decode cX2_init 25 = .ok (.putfield 19, 3) := by decide +kernel
theorem dX2_init_28 : decode cX2_init 28 = .ok (.return_, 1) := by decide +kernel
theorem dX2_begin_0 : decode cX2_begin 0 = .ok (.iconst 0, 1) := by decide +kernel
theorem dX2_begin_1 : decode cX2_begin 1 = .ok (.istore_n 1, 1) := by decide +kernel
theorem dX2_begin_2 : decode cX2_begin 2 = .ok (.iload_n 1, 1) := by decide +kernel
theorem dX2_begin_3 : decode cX2_begin 3 = .ok (.bipush 24, 2) := by decide +kernel
theorem dX2_begin_5 : decode cX2_begin 5 = .ok (.if_icmp .ge 24, 3) := by decide +kernel
theorem dX2_begin_8 : decode cX2_begin 8 = .ok (.aload_n 0, 1) := by decide +kernel
theorem dX2_begin_9 : decode cX2_begin 9 = .ok (.getfield 9, 3) := by decide +kernel
theorem dX2_begin_12 : decode cX2_begin 12 = .ok (.iload_n 1, 1) := by decide +kernel
theorem dX2_begin_13 : decode cX2_begin 13 = .ok (.iload_n 1, 1) := by decide +kernel
theorem dX2_begin_14 : decode cX2_begin 14 = .ok (.ifCond .ne 7, 3) := by decide +kernel
theorem dX2_begin_17 : decode cX2_begin 17 = .ok (.iconst 1, 1) := by decide +kernel
theorem dX2_begin_18 : decode cX2_begin 18 = .ok (.goto 4, 3) := by decide +kernel
theorem dX2_begin_21 : decode cX2_begin 21 = .ok (.iconst 0, 1) := by decide +kernel
theorem dX2_begin_22 : decode cX2_begin 22 = .ok (.bastore, 1) := by decide +kernel
theorem dX2_begin_23 : decode cX2_begin 23 = .ok (.iinc 1 1, 3) := by decide +kernel
theorem dX2_begin_26 : decode cX2_begin 26 = .ok (.goto (-24), 3) := by decide +kernel
theorem dX2_begin_29 : decode cX2_begin 29 = .ok (.iconst 0, 1) := by decide +kernel
theorem dX2_begin_30 : decode cX2_begin 30 = .ok (.istore_n 1, 1) := by decide +kernel
theorem dX2_begin_31 : decode cX2_begin 31 = .ok (.iload_n 1, 1) := by decide +kernel
theorem dX2_begin_32 : decode cX2_begin 32 = .ok (.iconst 4, 1) := by decide +kernel
theorem dX2_begin_33 : decode cX2_begin 33 = .ok (.if_icmp .ge 23, 3) := by decide +kernel
theorem dX2_begin_36 : decode cX2_begin 36 = .ok (.aload_n 0, 1) := by decide +kernel
theorem dX2_begin_37 : decode cX2_begin 37 = .ok (.getfield 15, 3) := by decide +kernel
theorem dX2_begin_40 : decode cX2_begin 40 = .ok (.iload_n 1, 1) := by decide +kernel
theorem dX2_begin_41 : decode cX2_begin 41 = .ok (.lconst 0, 1) := by decide +kernel
theorem dX2_begin_42 : decode cX2_begin 42 = .ok (.lastore, 1) := by decide +kernel
theorem dX2_begin_43 : decode cX2_begin 43 = .ok (.aload_n 0, 1) := by decide +kernel
theorem dX2_begin_44 : decode cX2_begin 44 = .ok (.getfield 19, 3) := by decide +kernel
theorem dX2_begin_47 : decode cX2_begin 47 = .ok (.iload_n 1, 1) := by decide +kernel
theorem dX2_begin_48 : decode cX2_begin 48 = .ok (.lconst 0, 1) := by decide +kernel
theorem dX2_begin_49 : decode cX2_begin 49 = .ok (.lastore, 1) := by decide +kernel
theorem dX2_begin_50 : decode cX2_begin 50 = .ok (.iinc 1 1, 3) := by decide +kernel
theorem dX2_begin_53 : decode cX2_begin 53 = .ok (.goto (-22), 3) := by decide +kernel
theorem dX2_begin_56 : decode cX2_begin 56 = .ok (.return_, 1) := by decide +kernel
theorem dX2_isSomewhere_0 : decode cX2_isSomewhere 0 = .ok (.aload_n 0, 1) := by decide +kernel
theorem dX2_isSomewhere_1 : decode cX2_isSomewhere 1 = .ok (.getfield 9, 3) := by decide +kernel
theorem dX2_isSomewhere_4 : decode cX2_isSomewhere 4 = .ok (.iload_n 1, 1) := by decide +kernel
theorem dX2_isSomewhere_5 : decode cX2_isSomewhere 5 = .ok (.baload, 1) := by decide +kernel
theorem dX2_isSomewhere_6 : decode cX2_isSomewhere 6 = .ok (.ireturn, 1) := by decide +kernel
theorem dX2_lowOf_0 : decode cX2_lowOf 0 = .ok (.aload_n 0, 1) := by decide +kernel
theorem dX2_lowOf_1 : decode cX2_lowOf 1 = .ok (.getfield 15, 3) := by decide +kernel
theorem dX2_lowOf_4 : decode cX2_lowOf 4 = .ok (.iload_n 1, 1) := by decide +kernel
theorem dX2_lowOf_5 : decode cX2_lowOf 5 = .ok (.iconst 4, 1) := by decide +kernel
theorem dX2_lowOf_6 : decode cX2_lowOf 6 = .ok (.imul, 1) := by decide +kernel
theorem dX2_lowOf_7 : decode cX2_lowOf 7 = .ok (.iload_n 2, 1) := by decide +kernel
theorem dX2_lowOf_8 : decode cX2_lowOf 8 = .ok (.iadd, 1) := by decide +kernel
theorem dX2_lowOf_9 : decode cX2_lowOf 9 = .ok (.laload, 1) := by decide +kernel
theorem dX2_lowOf_10 : decode cX2_lowOf 10 = .ok (.lreturn, 1) := by decide +kernel
theorem dX2_highOf_0 : decode cX2_highOf 0 = .ok (.aload_n 0, 1) := by decide +kernel
theorem dX2_highOf_1 : decode cX2_highOf 1 = .ok (.getfield 19, 3) := by decide +kernel
theorem dX2_highOf_4 : decode cX2_highOf 4 = .ok (.iload_n 1, 1) := by decide +kernel
theorem dX2_highOf_5 : decode cX2_highOf 5 = .ok (.iconst 4, 1) := by decide +kernel
theorem dX2_highOf_6 : decode cX2_highOf 6 = .ok (.imul, 1) := by decide +kernel
theorem dX2_highOf_7 : decode cX2_highOf 7 = .ok (.iload_n 2, 1) := by decide +kernel
theorem dX2_highOf_8 : decode cX2_highOf 8 = .ok (.iadd, 1) := by decide +kernel
theorem dX2_highOf_9 : decode cX2_highOf 9 = .ok (.laload, 1) := by decide +kernel
theorem dX2_highOf_10 : decode cX2_highOf 10 = .ok (.lreturn, 1) := by decide +kernel
set_option maxRecDepth 20000 in
theorem ggX2_copyTo_X0_start : GoodIn wsX2_copyTo wsX0_start := goodIn_r _ [5, 6, 24, 25, 26] (by decide +kernel) (by decide +kernel)
set_option maxRecDepth 20000 in
theorem gX2_copyTo_X0_start : GoodIn wsX2_copyTo (wsV RX2 22 RX0 yX0_start wsX0_start) := goodIn_app (goodIn_of _ (by decide +kernel)) ggX2_copyTo_X0_start
set_option maxRecDepth 20000 in
theorem ggX2_copyTo_X2_lowOf : GoodIn wsX2_copyTo wsX2_lowOf := goodIn_r _ [11, 12, 27, 28, 29] (by decide +kernel) (by decide +kernel)
set_option maxRecDepth 20000 in
theorem gX2_copyTo_X2_lowOf : GoodIn wsX2_copyTo (wsV RX2 27 RX2 yX2_lowOf wsX2_lowOf) := goodIn_app (goodIn_of _ (by decide +kernel)) ggX2_copyTo_X2_lowOf
set_option maxRecDepth 20000 in
theorem ggX2_copyTo_X2_highOf : GoodIn wsX2_copyTo wsX2_highOf := goodIn_r _ [16, 17, 27, 28, 29] (by decide +kernel) (by decide +kernel)
set_option maxRecDepth 20000 in
theorem gX2_copyTo_X2_highOf : GoodIn wsX2_copyTo (wsV RX2 31 RX2 yX2_highOf wsX2_highOf) := goodIn_app (goodIn_of _ (by decide +kernel)) ggX2_copyTo_X2_highOf
set_option maxRecDepth 20000 in
theorem ggX2_copyTo_X0_put : GoodIn wsX2_copyTo wsX0_put := goodIn_r _ [21, 22, 23, 24, 25, 26] (by decide +kernel) (by decide +kernel)
set_option maxRecDepth 20000 in
theorem gX2_copyTo_X0_put : GoodIn wsX2_copyTo (wsV RX2 34 RX0 yX0_put wsX0_put) := goodIn_app (goodIn_of _ (by decide +kernel)) ggX2_copyTo_X0_put
theorem dX2_copyTo_0 : decode cX2_copyTo 0 = .ok (.aload_n 1, 1) := by decide +kernel
theorem dX2_copyTo_1 : decode cX2_copyTo 1 = .ok (.invokevirtual 22, 3) := by decide +kernel
theorem dX2_copyTo_4 : decode cX2_copyTo 4 = .ok (.iconst 0, 1) := by decide +kernel
theorem dX2_copyTo_5 : decode cX2_copyTo 5 = .ok (.istore_n 3, 1) := by decide +kernel
theorem dX2_copyTo_6 : decode cX2_copyTo 6 = .ok (.iload_n 3, 1) := by decide +kernel
theorem dX2_copyTo_7 : decode cX2_copyTo 7 = .ok (.iconst 4, 1) := by decide +kernel
theorem dX2_copyTo_8 : decode cX2_copyTo 8 = .ok (.if_icmp .ge 26, 3) := by decide +kernel
theorem dX2_copyTo_11 : decode cX2_copyTo 11 = .ok (.aload_n 1, 1) := by decide +kernel
theorem dX2_copyTo_12 : decode cX2_copyTo 12 = .ok (.iload_n 3, 1) := by decide +kernel
theorem dX2_copyTo_13 : decode cX2_copyTo 13 = .ok (.aload_n 0, 1) := by decide +kernel
theorem dX2_copyTo_14 : decode cX2_copyTo 14 = .ok (.iload_n 2, 1) := by decide +kernel
theorem dX2_copyTo_15 : decode cX2_copyTo 15 = .ok (.iload_n 3, 1) := by decide +kernel
theorem dX2_copyTo_16 : decode cX2_copyTo 16 = .ok (.invokevirtual 27, 3) := by decide +kernel
theorem dX2_copyTo_19 : decode cX2_copyTo 19 = .ok (.aload_n 0, 1) := by decide +kernel
theorem dX2_copyTo_20 : decode cX2_copyTo 20 = .ok (.iload_n 2, 1) := by decide +kernel
theorem dX2_copyTo_21 : decode cX2_copyTo 21 = .ok (.iload_n 3, 1) := by decide +kernel
theorem dX2_copyTo_22 : decode cX2_copyTo 22 = .ok (.invokevirtual 31, 3) := by decide +kernel
theorem dX2_copyTo_25 : decode cX2_copyTo 25 = .ok (.invokevirtual 34, 3) := by decide +kernel
theorem dX2_copyTo_28 : decode cX2_copyTo 28 = .ok (.iinc 3 1, 3) := by decide +kernel
theorem dX2_copyTo_31 : decode cX2_copyTo 31 = .ok (.goto (-25), 3) := by decide +kernel
theorem dX2_copyTo_34 : decode cX2_copyTo 34 = .ok (.return_, 1) := by decide +kernel
set_option maxRecDepth 20000 in
theorem ggX2_take_X0_isSomething : GoodIn wsX2_take wsX0_isSomething := goodIn_r _ [6, 7, 34, 35, 36] (by decide +kernel) (by decide +kernel)
set_option maxRecDepth 20000 in
theorem gX2_take_X0_isSomething : GoodIn wsX2_take (wsV RX2 38 RX0 yX0_isSomething wsX0_isSomething) := goodIn_app (goodIn_of _ (by decide +kernel)) ggX2_take_X0_isSomething
set_option maxRecDepth 20000 in
theorem ggX2_take_X2_become : GoodIn wsX2_take wsX2_become := goodIn_r _ [12, 1, 13, 14, 15, 16, 17, 5, 18, 19, 20, 21, 22, 23, 24, 31, 32, 33, 34, 35, 36] (by decide +kernel) (by decide +kernel)
set_option maxRecDepth 20000 in
theorem gX2_take_X2_become : GoodIn wsX2_take (wsV RX2 42 RX2 yX2_become wsX2_become) := goodIn_app (goodIn_of _ (by decide +kernel)) ggX2_take_X2_become
set_option maxRecDepth 20000 in
theorem ggX2_take_X2_stretch : GoodIn wsX2_take wsX2_stretch := goodIn_r _ [28, 13, 29, 14, 30, 15, 16, 17, 5, 18, 19, 20, 21, 22, 23, 24, 31, 32, 33, 34, 35, 36] (by decide +kernel) (by decide +kernel)
set_option maxRecDepth 20000 in
theorem gX2_take_X2_stretch : GoodIn wsX2_take (wsV RX2 46 RX2 yX2_stretch wsX2_stretch) := goodIn_app (goodIn_of _ (by decide +kernel)) ggX2_take_X2_stretch
theorem dX2_take_0 : decode cX2_take 0 = .ok (.aload_n 2, 1) := by decide +kernel
theorem dX2_take_1 : decode cX2_take 1 = .ok (.invokevirtual 38, 3) := by decide +kernel
theorem dX2_take_4 : decode cX2_take 4 = .ok (.ifCond .eq 13, 3) := by decide +kernel
theorem dX2_take_7 : decode cX2_take 7 = .ok (.iload_n 1, 1) := by decide +kernel
theorem dX2_take_8 : decode cX2_take 8 = .ok (.ifCond .lt 9, 3) := by decide +kernel
theorem dX2_take_11 : decode cX2_take 11 = .ok (.iload_n 1, 1) := by decide +kernel
theorem dX2_take_12 : decode cX2_take 12 = .ok (.bipush 24, 2) := by decide +kernel
theorem dX2_take_14 : decode cX2_take 14 = .ok (.if_icmp .lt 5, 3) := by decide +kernel
theorem dX2_take_17 : decode cX2_take 17 = .ok (.iconst 0, 1) := by decide +kernel
theorem dX2_take_18 : decode cX2_take 18 = .ok (.ireturn, 1) := by decide +kernel
theorem dX2_take_19 : decode cX2_take 19 = .ok (.aload_n 0, 1) := by decide +kernel
theorem dX2_take_20 : decode cX2_take 20 = .ok (.getfield 9, 3) := by decide +kernel
theorem dX2_take_23 : decode cX2_take 23 = .ok (.iload_n 1, 1) := by decide +kernel
theorem dX2_take_24 : decode cX2_take 24 = .ok (.baload, 1) := by decide +kernel
theorem dX2_take_25 : decode cX2_take 25 = .ok (.ifCond .ne 11, 3) := by decide +kernel
theorem dX2_take_28 : decode cX2_take 28 = .ok (.aload_n 0, 1) := by decide +kernel
theorem dX2_take_29 : decode cX2_take 29 = .ok (.iload_n 1, 1) := by decide +kernel
theorem dX2_take_30 : decode cX2_take 30 = .ok (.aload_n 2, 1) := by decide +kernel
theorem dX2_take_31 : decode cX2_take 31 = .ok (.invokevirtual 42, 3) := by decide +kernel
theorem dX2_take_34 : decode cX2_take 34 = .ok (.iconst 1, 1) := by decide +kernel
theorem dX2_take_35 : decode cX2_take 35 = .ok (.ireturn, 1) := by decide +kernel
theorem dX2_take_36 : decode cX2_take 36 = .ok (.iconst 0, 1) := by decide +kernel
theorem dX2_take_37 : decode cX2_take 37 = .ok (.istore 4, 2) := by decide +kernel
theorem dX2_take_39 : decode cX2_take 39 = .ok (.iconst 0, 1) := by decide +kernel
theorem dX2_take_40 : decode cX2_take 40 = .ok (.istore 5, 2) := by decide +kernel
theorem dX2_take_42 : decode cX2_take 42 = .ok (.iload 5, 2) := by decide +kernel
theorem dX2_take_44 : decode cX2_take 44 = .ok (.iconst 4, 1) := by decide +kernel
theorem dX2_take_45 : decode cX2_take 45 = .ok (.if_icmp .ge 24, 3) := by decide +kernel
theorem dX2_take_48 : decode cX2_take 48 = .ok (.aload_n 0, 1) := by decide +kernel
theorem dX2_take_49 : decode cX2_take 49 = .ok (.iload_n 1, 1) := by decide +kernel
theorem dX2_take_50 : decode cX2_take 50 = .ok (.iload 5, 2) := by decide +kernel
theorem dX2_take_52 : decode cX2_take 52 = .ok (.aload_n 2, 1) := by decide +kernel
theorem dX2_take_53 : decode cX2_take 53 = .ok (.iload_n 3, 1) := by decide +kernel
theorem dX2_take_54 : decode cX2_take 54 = .ok (.invokevirtual 46, 3) := by decide +kernel
theorem dX2_take_57 : decode cX2_take 57 = .ok (.ifCond .eq 6, 3) := by decide +kernel
theorem dX2_take_60 : decode cX2_take 60 = .ok (.iconst 1, 1) := by decide +kernel
theorem dX2_take_61 : decode cX2_take 61 = .ok (.istore 4, 2) := by decide +kernel
theorem dX2_take_63 : decode cX2_take 63 = .ok (.iinc 5 1, 3) := by decide +kernel
theorem dX2_take_66 : decode cX2_take 66 = .ok (.goto (-24), 3) := by decide +kernel
theorem dX2_take_69 : decode cX2_take 69 = .ok (.iload 4, 2) := by decide +kernel
theorem dX2_take_71 : decode cX2_take 71 = .ok (.ireturn, 1) := by decide +kernel
set_option maxRecDepth 20000 in
theorem ggX2_become_X0_lowOf : GoodIn wsX2_become wsX0_lowOf := goodIn_r _ [8, 9, 18, 19, 20] (by decide +kernel) (by decide +kernel)
set_option maxRecDepth 20000 in
theorem gX2_become_X0_lowOf : GoodIn wsX2_become (wsV RX2 50 RX0 yX0_lowOf wsX0_lowOf) := goodIn_app (goodIn_of _ (by decide +kernel)) ggX2_become_X0_lowOf
set_option maxRecDepth 20000 in
theorem ggX2_become_X0_highOf : GoodIn wsX2_become wsX0_highOf := goodIn_r _ [13, 14, 18, 19, 20] (by decide +kernel) (by decide +kernel)
set_option maxRecDepth 20000 in
theorem gX2_become_X0_highOf : GoodIn wsX2_become (wsV RX2 53 RX0 yX0_highOf wsX0_highOf) := goodIn_app (goodIn_of _ (by decide +kernel)) ggX2_become_X0_highOf
theorem dX2_become_0 : decode cX2_become 0 = .ok (.aload_n 0, 1) := by decide +kernel
theorem dX2_become_1 : decode cX2_become 1 = .ok (.getfield 9, 3) := by decide +kernel
theorem dX2_become_4 : decode cX2_become 4 = .ok (.iload_n 1, 1) := by decide +kernel
theorem dX2_become_5 : decode cX2_become 5 = .ok (.iconst 1, 1) := by decide +kernel
theorem dX2_become_6 : decode cX2_become 6 = .ok (.bastore, 1) := by decide +kernel
theorem dX2_become_7 : decode cX2_become 7 = .ok (.iconst 0, 1) := by decide +kernel
theorem dX2_become_8 : decode cX2_become 8 = .ok (.istore_n 3, 1) := by decide +kernel
theorem dX2_become_9 : decode cX2_become 9 = .ok (.iload_n 3, 1) := by decide +kernel
theorem dX2_become_10 : decode cX2_become 10 = .ok (.iconst 4, 1) := by decide +kernel
theorem dX2_become_11 : decode cX2_become 11 = .ok (.if_icmp .ge 39, 3) := by decide +kernel
theorem dX2_become_14 : decode cX2_become 14 = .ok (.aload_n 0, 1) := by decide +kernel
theorem dX2_become_15 : decode cX2_become 15 = .ok (.getfield 15, 3) := by decide +kernel
theorem dX2_become_18 : decode cX2_become 18 = .ok (.iload_n 1, 1) := by decide +kernel
theorem dX2_become_19 : decode cX2_become 19 = .ok (.iconst 4, 1) := by decide +kernel
theorem dX2_become_20 : decode cX2_become 20 = .ok (.imul, 1) := by decide +kernel
theorem dX2_become_21 : decode cX2_become 21 = .ok (.iload_n 3, 1) := by decide +kernel
theorem dX2_become_22 : decode cX2_become 22 = .ok (.iadd, 1) := by decide +kernel
theorem dX2_become_23 : decode cX2_become 23 = .ok (.aload_n 2, 1) := by decide +kernel
theorem dX2_become_24 : decode cX2_become 24 = .ok (.iload_n 3, 1) := by decide +kernel
theorem dX2_become_25 : decode cX2_become 25 = .ok (.invokevirtual 50, 3) := by decide +kernel
theorem dX2_become_28 : decode cX2_become 28 = .ok (.lastore, 1) := by decide +kernel
theorem dX2_become_29 : decode cX2_become 29 = .ok (.aload_n 0, 1) := by decide +kernel
theorem dX2_become_30 : decode cX2_become 30 = .ok (.getfield 19, 3) := by decide +kernel
theorem dX2_become_33 : decode cX2_become 33 = .ok (.iload_n 1, 1) := by decide +kernel
theorem dX2_become_34 : decode cX2_become 34 = .ok (.iconst 4, 1) := by decide +kernel
theorem dX2_become_35 : decode cX2_become 35 = .ok (.imul, 1) := by decide +kernel
theorem dX2_become_36 : decode cX2_become 36 = .ok (.iload_n 3, 1) := by decide +kernel
theorem dX2_become_37 : decode cX2_become 37 = .ok (.iadd, 1) := by decide +kernel
theorem dX2_become_38 : decode cX2_become 38 = .ok (.aload_n 2, 1) := by decide +kernel
theorem dX2_become_39 : decode cX2_become 39 = .ok (.iload_n 3, 1) := by decide +kernel
theorem dX2_become_40 : decode cX2_become 40 = .ok (.invokevirtual 53, 3) := by decide +kernel
theorem dX2_become_43 : decode cX2_become 43 = .ok (.lastore, 1) := by decide +kernel
theorem dX2_become_44 : decode cX2_become 44 = .ok (.iinc 3 1, 3) := by decide +kernel
theorem dX2_become_47 : decode cX2_become 47 = .ok (.goto (-38), 3) := by decide +kernel
theorem dX2_become_50 : decode cX2_become 50 = .ok (.return_, 1) := by decide +kernel
set_option maxRecDepth 20000 in
theorem ggX2_stretch_X0_lowOf : GoodIn wsX2_stretch wsX0_lowOf := goodIn_r _ [9, 10, 19, 20, 21] (by decide +kernel) (by decide +kernel)
set_option maxRecDepth 20000 in
theorem gX2_stretch_X0_lowOf : GoodIn wsX2_stretch (wsV RX2 50 RX0 yX0_lowOf wsX0_lowOf) := goodIn_app (goodIn_of _ (by decide +kernel)) ggX2_stretch_X0_lowOf
set_option maxRecDepth 20000 in
theorem ggX2_stretch_X0_highOf : GoodIn wsX2_stretch wsX0_highOf := goodIn_r _ [14, 15, 19, 20, 21] (by decide +kernel) (by decide +kernel)
set_option maxRecDepth 20000 in
theorem gX2_stretch_X0_highOf : GoodIn wsX2_stretch (wsV RX2 53 RX0 yX0_highOf wsX0_highOf) := goodIn_app (goodIn_of _ (by decide +kernel)) ggX2_stretch_X0_highOf
theorem dX2_stretch_0 : decode cX2_stretch 0 = .ok (.iload_n 1, 1) := by decide +kernel
theorem dX2_stretch_1 : decode cX2_stretch 1 = .ok (.iconst 4, 1) := by decide +kernel
theorem dX2_stretch_2 : decode cX2_stretch 2 = .ok (.imul, 1) := by decide +kernel
theorem dX2_stretch_3 : decode cX2_stretch 3 = .ok (.iload_n 2, 1) := by decide +kernel
theorem dX2_stretch_4 : decode cX2_stretch 4 = .ok (.iadd, 1) := by decide +kernel
theorem dX2_stretch_5 : decode cX2_stretch 5 = .ok (.istore 5, 2) := by decide +kernel
theorem dX2_stretch_7 : decode cX2_stretch 7 = .ok (.iconst 0, 1) := by decide +kernel
theorem dX2_stretch_8 : decode cX2_stretch 8 = .ok (.istore 6, 2) := by decide +kernel
theorem dX2_stretch_10 : decode cX2_stretch 10 = .ok (.aload_n 3, 1) := by decide +kernel
theorem dX2_stretch_11 : decode cX2_stretch 11 = .ok (.iload_n 2, 1) := by decide +kernel
theorem dX2_stretch_12 : decode cX2_stretch 12 = .ok (.invokevirtual 50, 3) := by decide +kernel
theorem dX2_stretch_15 : decode cX2_stretch 15 = .ok (.aload_n 0, 1) := by decide +kernel
theorem dX2_stretch_16 : decode cX2_stretch 16 = .ok (.getfield 15, 3) := by decide +kernel
theorem dX2_stretch_19 : decode cX2_stretch 19 = .ok (.iload 5, 2) := by decide +kernel
theorem dX2_stretch_21 : decode cX2_stretch 21 = .ok (.laload, 1) := by decide +kernel
theorem dX2_stretch_22 : decode cX2_stretch 22 = .ok (.lcmp, 1) := by decide +kernel
theorem dX2_stretch_23 : decode cX2_stretch 23 = .ok (.ifCond .ge 29, 3) := by decide +kernel
theorem dX2_stretch_26 : decode cX2_stretch 26 = .ok (.aload_n 0, 1) := by decide +kernel
theorem dX2_stretch_27 : decode cX2_stretch 27 = .ok (.getfield 15, 3) := by decide +kernel
theorem dX2_stretch_30 : decode cX2_stretch 30 = .ok (.iload 5, 2) := by decide +kernel
theorem dX2_stretch_32 : decode cX2_stretch 32 = .ok (.iload 4, 2) := by decide +kernel
theorem dX2_stretch_34 : decode cX2_stretch 34 = .ok (.ifCond .eq 9, 3) := by decide +kernel
theorem dX2_stretch_37 : decode cX2_stretch 37 = .ok (.ldc2_w 55, 3) := by decide +kernel
theorem dX2_stretch_40 : decode cX2_stretch 40 = .ok (.goto 8, 3) := by decide +kernel
theorem dX2_stretch_43 : decode cX2_stretch 43 = .ok (.aload_n 3, 1) := by decide +kernel
theorem dX2_stretch_44 : decode cX2_stretch 44 = .ok (.iload_n 2, 1) := by decide +kernel
theorem dX2_stretch_45 : decode cX2_stretch 45 = .ok (.invokevirtual 50, 3) := by decide +kernel
theorem dX2_stretch_48 : decode cX2_stretch 48 = .ok (.lastore, 1) := by decide +kernel
theorem dX2_stretch_49 : decode cX2_stretch 49 = .ok (.iconst 1, 1) := by decide +kernel
theorem dX2_stretch_50 : decode cX2_stretch 50 = .ok (.istore 6, 2) := by decide +kernel
theorem dX2_stretch_52 : decode cX2_stretch 52 = .ok (.aload_n 3, 1) := by decide +kernel
theorem dX2_stretch_53 : decode cX2_stretch 53 = .ok (.iload_n 2, 1) := by decide +kernel
theorem dX2_stretch_54 : decode cX2_stretch 54 = .ok (.invokevirtual 53, 3) := by decide +kernel
theorem dX2_stretch_57 : decode cX2_stretch 57 = .ok (.aload_n 0, 1) := by decide +kernel
theorem dX2_stretch_58 : decode cX2_stretch 58 = .ok (.getfield 19, 3) := by decide +kernel
theorem dX2_stretch_61 : decode cX2_stretch 61 = .ok (.iload 5, 2) := by decide +kernel
theorem dX2_stretch_63 : decode cX2_stretch 63 = .ok (.laload, 1) := by decide +kernel
theorem dX2_stretch_64 : decode cX2_stretch 64 = .ok (.lcmp, 1) := by decide +kernel
theorem dX2_stretch_65 : decode cX2_stretch 65 = .ok (.ifCond .le 29, 3) := by decide +kernel
theorem dX2_stretch_68 : decode cX2_stretch 68 = .ok (.aload_n 0, 1) := by decide +kernel
theorem dX2_stretch_69 : decode cX2_stretch 69 = .ok (.getfield 19, 3) := by decide +kernel
theorem dX2_stretch_72 : decode cX2_stretch 72 = .ok (.iload 5, 2) := by decide +kernel
theorem dX2_stretch_74 : decode cX2_stretch 74 = .ok (.iload 4, 2) := by decide +kernel
theorem dX2_stretch_76 : decode cX2_stretch 76 = .ok (.ifCond .eq 9, 3) := by decide +kernel
theorem dX2_stretch_79 : decode cX2_stretch 79 = .ok (.ldc2_w 57, 3) := by decide +kernel
theorem dX2_stretch_82 : decode cX2_stretch 82 = .ok (.goto 8, 3) := by decide +kernel
theorem dX2_stretch_85 : decode cX2_stretch 85 = .ok (.aload_n 3, 1) := by decide +kernel
theorem dX2_stretch_86 : decode cX2_stretch 86 = .ok (.iload_n 2, 1) := by decide +kernel
theorem dX2_stretch_87 : decode cX2_stretch 87 = .ok (.invokevirtual 53, 3) := by decide +kernel
theorem dX2_stretch_90 : decode cX2_stretch 90 = .ok (.lastore, 1) := by decide +kernel
theorem dX2_stretch_91 : decode cX2_stretch 91 = .ok (.iconst 1, 1) := by decide +kernel
theorem dX2_stretch_92 : decode cX2_stretch 92 = .ok (.istore 6, 2) := by decide +kernel
theorem dX2_stretch_94 : decode cX2_stretch 94 = .ok (.iload 6, 2) := by decide +kernel
theorem dX2_stretch_96 : decode cX2_stretch 96 = .ok (.ireturn, 1) := by decide +kernel
theorem dJ9_max_f86c9_0 : decode cJ9_max_f86c9 0 = .ok (.lload_n 0, 1) := by decide +kernel
theorem dJ9_max_f86c9_1 : decode cJ9_max_f86c9 1 = .ok (.lload_n 2, 1) := by decide +kernel
theorem dJ9_max_f86c9_2 : decode cJ9_max_f86c9 2 = .ok (.lcmp, 1) := by decide +kernel
theorem dJ9_max_f86c9_3 : decode cJ9_max_f86c9 3 = .ok (.ifCond .lt 7, 3) := by decide +kernel
theorem dJ9_max_f86c9_6 : decode cJ9_max_f86c9 6 = .ok (.lload_n 0, 1) := by decide +kernel
theorem dJ9_max_f86c9_7 : decode cJ9_max_f86c9 7 = .ok (.goto 4, 3) := by decide +kernel
theorem dJ9_max_f86c9_10 : decode cJ9_max_f86c9 10 = .ok (.lload_n 2, 1) := by decide +kernel
theorem dJ9_max_f86c9_11 : decode cJ9_max_f86c9 11 = .ok (.lreturn, 1) := by decide +kernel
theorem dJ9_min_f86c9_0 : decode cJ9_min_f86c9 0 = .ok (.lload_n 0, 1) := by decide +kernel
theorem dJ9_min_f86c9_1 : decode cJ9_min_f86c9 1 = .ok (.lload_n 2, 1) := by decide +kernel
theorem dJ9_min_f86c9_2 : decode cJ9_min_f86c9 2 = .ok (.lcmp, 1) := by decide +kernel
theorem dJ9_min_f86c9_3 : decode cJ9_min_f86c9 3 = .ok (.ifCond .gt 7, 3) := by decide +kernel
theorem dJ9_min_f86c9_6 : decode cJ9_min_f86c9 6 = .ok (.lload_n 0, 1) := by decide +kernel
theorem dJ9_min_f86c9_7 : decode cJ9_min_f86c9 7 = .ok (.goto 4, 3) := by decide +kernel
theorem dJ9_min_f86c9_10 : decode cJ9_min_f86c9 10 = .ok (.lload_n 2, 1) := by decide +kernel
theorem dJ9_min_f86c9_11 : decode cJ9_min_f86c9 11 = .ok (.lreturn, 1) := by decide +kernel
end
section
set_option maxRecDepth 20000 in
theorem ggX3_init_X2_init : GoodIn wsX3_init wsX2_init := goodIn_r _ [23, 24, 2, 3, 25, 26, 27, 28, 29, 50, 51, 52] (by decide +kernel) (by decide +kernel)
set_option maxRecDepth 20000 in
theorem gX3_init_X2_init_n26 : GoodIn wsX3_init (wsX2_init) := ggX3_init_X2_init
set_option maxRecDepth 20000 in
theorem ggX3_init_X0_init : GoodIn wsX3_init wsX0_init := goodIn_r _ [31, 32, 2, 3, 33, 27, 34, 35, 53, 54, 55] (by decide +kernel) (by decide +kernel)
set_option maxRecDepth 20000 in
theorem gX3_init_X0_init_n36 : GoodIn wsX3_init (wsX0_init) := ggX3_init_X0_init
set_option maxRecDepth 20000 in
theorem ggX3_init_X1_init : GoodIn wsX3_init wsX1_init := goodIn_r _ [37, 38, 2, 3, 39, 40, 41, 56, 57, 58] (by decide +kernel) (by decide +kernel)
set_option maxRecDepth 20000 in
theorem gX3_init_X1_init_n43 : GoodIn wsX3_init (wsX1_init) := ggX3_init_X1_init
theorem dX3_init_0 : decode cX3_init 0 = .ok (.aload_n 0, 1) := by decide +kernel
theorem dX3_init_1 : decode cX3_init 1 = .ok (.invokespecial 1, 3) := by decide +kernel
theorem dX3_init_4 : decode cX3_init 4 = .ok (.aload_n 0, 1) := by decide +kernel
theorem dX3_init_5 : decode cX3_init 5 = .ok (.bipush 96, 2) := by decide +kernel
theorem dX3_init_7 : decode cX3_init 7 = .ok (.newarray .int, 2) := by decide +kernel
theorem dX3_init_9 : decode cX3_init 9 = .ok (.putfield 9, 3) := by decide +kernel
theorem dX3_init_12 : decode cX3_init 12 = .ok (.aload_n 0, 1) := by decide +kernel
theorem dX3_init_13 : decode cX3_init 13 = .ok (.iconst 0, 1) := by decide +kernel
theorem dX3_init_14 : decode cX3_init 14 = .ok (.putfield 13, 3) := by decide +kernel
theorem dX3_init_17 : decode cX3_init 17 = .ok (.aload_n 0, 1) := by decide +kernel
theorem dX3_init_18 : decode cX3_init 18 = .ok (.iconst 0, 1) := by decide +kernel
theorem dX3_init_19 : decode cX3_init 19 = .ok (.putfield 17, 3) := by decide +kernel
theorem dX3_init_22 : decode cX3_init 22 = .ok (.aload_n 0, 1) := by decide +kernel
theorem dX3_init_23 : decode cX3_init 23 = .ok (.iconst 0, 1) := by decide +kernel
theorem dX3_init_24 : decode cX3_init 24 = .ok (.putfield 21, 3) := by decide +kernel
theorem dX3_init_27 : decode cX3_init 27 = .ok (.aload_n 0, 1) := by decide +kernel
theorem dX3_init_28 : decode cX3_init 28 = .ok (.new 24, 3) := by decide +kernel
theorem dX3_init_31 : decode cX3_init 31 = .ok (.dup, 1) := by decide +kernel
theorem dX3_init_32 : decode cX3_init 32 = .ok (.invokespecial 26, 3) := by decide +kernel
theorem dX3_init_35 : decode cX3_init 35 = .ok (.putfield 27, 3) := by decide +kernel
theorem dX3_init_38 : decode cX3_init 38 = .ok (.aload_n 0, 1) := by decide +kernel
theorem dX3_init_39 : decode cX3_init 39 = .ok (.new 24, 3) := by decide +kernel
theorem dX3_init_42 : decode cX3_init 42 = .ok (.dup, 1) := by decide +kernel
theorem dX3_init_43 : decode cX3_init 43 = .ok (.invokespecial 26, 3) := by decide +kernel
theorem dX3_init_46 : decode cX3_init 46 = .ok (.putfield 31, 3) := by decide +kernel
theorem dX3_init_49 : decode cX3_init 49 = .ok (.aload_n 0, 1) := by decide +kernel
theorem dX3_init_50 : decode cX3_init 50 = .ok (.new 34, 3) := by decide +kernel
theorem dX3_init_53 : decode cX3_init 53 = .ok (.dup, 1) := by decide +kernel
theorem dX3_init_54 : decode cX3_init 54 = .ok (.invokespecial 36, 3) := by decide +kernel
theorem dX3_init_57 : decode cX3_init 57 = .ok (.putfield 37, 3) := by decide +kernel
theorem dX3_init_60 : decode cX3_init 60 = .ok (.aload_n 0, 1) := by decide +kernel
theorem dX3_init_61 : decode cX3_init 61 = .ok (.new 41, 3) := by decide +kernel
theorem dX3_init_64 : decode cX3_init 64 = .ok (.dup, 1) := by decide +kernel
theorem dX3_init_65 : decode cX3_init 65 = .ok (.invokespecial 43, 3) := by decide +kernel
theorem dX3_init_68 : decode cX3_init 68 = .ok (.putfield 44, 3) := by decide +kernel
theorem dX3_init_71 : decode cX3_init 71 = .ok (.return_, 1) := by decide +kernel
set_option maxRecDepth 20000 in
theorem ggX3_add_X3_areVariablesRight : GoodIn wsX3_add wsX3_areVariablesRight := goodIn_r _ [6, 7, 8, 5, 9] (by decide +kernel) (by decide +kernel)
set_option maxRecDepth 20000 in
theorem gX3_add_X3_areVariablesRight : GoodIn wsX3_add (va_wsS RX3 48 yX3_areVariablesRight wsX3_areVariablesRight) := goodIn_app (goodIn_of _ (by decide +kernel)) ggX3_add_X3_areVariablesRight
set_option maxRecDepth 20000 in
theorem ggX3_add_X3_isPlaceRight : GoodIn wsX3_add wsX3_isPlaceRight := goodIn_r _ [12, 13, 14, 5, 15] (by decide +kernel) (by decide +kernel)
set_option maxRecDepth 20000 in
theorem gX3_add_X3_isPlaceRight : GoodIn wsX3_add (va_wsS RX3 52 yX3_isPlaceRight wsX3_isPlaceRight) := goodIn_app (goodIn_of _ (by decide +kernel)) ggX3_add_X3_isPlaceRight
set_option maxRecDepth 20000 in
theorem ggX3_add_X3_forgetScan : GoodIn wsX3_add wsX3_forgetScan := goodIn_r _ [19, 20, 21, 22, 23, 24, 25, 26, 27, 28, 29] (by decide +kernel) (by decide +kernel)
set_option maxRecDepth 20000 in
theorem gX3_add_X3_forgetScan : GoodIn wsX3_add (wsV RX3 56 RX3 yX3_forgetScan wsX3_forgetScan) := goodIn_app (goodIn_of _ (by decide +kernel)) ggX3_add_X3_forgetScan
theorem dX3_add_0 : decode cX3_add 0 = .ok (.iload_n 1, 1) := by decide +kernel
theorem dX3_add_1 : decode cX3_add 1 = .ok (.ifCond .lt 29, 3) := by decide +kernel
theorem dX3_add_4 : decode cX3_add 4 = .ok (.iload_n 1, 1) := by decide +kernel
theorem dX3_add_5 : decode cX3_add 5 = .ok (.bipush 11, 2) := by decide +kernel
theorem dX3_add_7 : decode cX3_add 7 = .ok (.if_icmp .gt 23, 3) := by decide +kernel
theorem dX3_add_10 : decode cX3_add 10 = .ok (.iload_n 1, 1) := by decide +kernel
theorem dX3_add_11 : decode cX3_add 11 = .ok (.iload_n 2, 1) := by decide +kernel
theorem dX3_add_12 : decode cX3_add 12 = .ok (.iload_n 3, 1) := by decide +kernel
theorem dX3_add_13 : decode cX3_add 13 = .ok (.iload 4, 2) := by decide +kernel
theorem dX3_add_15 : decode cX3_add 15 = .ok (.invokestatic 48, 3) := by decide +kernel
theorem dX3_add_18 : decode cX3_add 18 = .ok (.ifCond .eq 12, 3) := by decide +kernel
theorem dX3_add_21 : decode cX3_add 21 = .ok (.iload_n 1, 1) := by decide +kernel
theorem dX3_add_22 : decode cX3_add 22 = .ok (.iload 4, 2) := by decide +kernel
theorem dX3_add_24 : decode cX3_add 24 = .ok (.invokestatic 52, 3) := by decide +kernel
theorem dX3_add_27 : decode cX3_add 27 = .ok (.ifCond .ne 5, 3) := by decide +kernel
theorem dX3_add_30 : decode cX3_add 30 = .ok (.iconst (-1), 1) := by decide +kernel
theorem dX3_add_31 : decode cX3_add 31 = .ok (.ireturn, 1) := by decide +kernel
theorem dX3_add_32 : decode cX3_add 32 = .ok (.aload_n 0, 1) := by decide +kernel
theorem dX3_add_33 : decode cX3_add 33 = .ok (.getfield 13, 3) := by decide +kernel
theorem dX3_add_36 : decode cX3_add 36 = .ok (.bipush 24, 2) := by decide +kernel
theorem dX3_add_38 : decode cX3_add 38 = .ok (.if_icmp .lt 6, 3) := by decide +kernel
theorem dX3_add_41 : decode cX3_add 41 = .ok (.bipush (-2), 2) := by decide +kernel
theorem dX3_add_43 : decode cX3_add 43 = .ok (.ireturn, 1) := by decide +kernel
theorem dX3_add_44 : decode cX3_add 44 = .ok (.aload_n 0, 1) := by decide +kernel
theorem dX3_add_45 : decode cX3_add 45 = .ok (.getfield 13, 3) := by decide +kernel
theorem dX3_add_48 : decode cX3_add 48 = .ok (.iconst 4, 1) := by decide +kernel
theorem dX3_add_49 : decode cX3_add 49 = .ok (.imul, 1) := by decide +kernel
theorem dX3_add_50 : decode cX3_add 50 = .ok (.istore 5, 2) := by decide +kernel
theorem dX3_add_52 : decode cX3_add 52 = .ok (.aload_n 0, 1) := by decide +kernel
theorem dX3_add_53 : decode cX3_add 53 = .ok (.getfield 9, 3) := by decide +kernel
theorem dX3_add_56 : decode cX3_add 56 = .ok (.iload 5, 2) := by decide +kernel
theorem dX3_add_58 : decode cX3_add 58 = .ok (.iconst 0, 1) := by decide +kernel
theorem dX3_add_59 : decode cX3_add 59 = .ok (.iadd, 1) := by decide +kernel
theorem dX3_add_60 : decode cX3_add 60 = .ok (.iload_n 1, 1) := by decide +kernel
theorem dX3_add_61 : decode cX3_add 61 = .ok (.iastore, 1) := by decide +kernel
theorem dX3_add_62 : decode cX3_add 62 = .ok (.aload_n 0, 1) := by decide +kernel
theorem dX3_add_63 : decode cX3_add 63 = .ok (.getfield 9, 3) := by decide +kernel
theorem dX3_add_66 : decode cX3_add 66 = .ok (.iload 5, 2) := by decide +kernel
theorem dX3_add_68 : decode cX3_add 68 = .ok (.iconst 1, 1) := by decide +kernel
theorem dX3_add_69 : decode cX3_add 69 = .ok (.iadd, 1) := by decide +kernel
theorem dX3_add_70 : decode cX3_add 70 = .ok (.iload_n 2, 1) := by decide +kernel
theorem dX3_add_71 : decode cX3_add 71 = .ok (.iastore, 1) := by decide +kernel
theorem dX3_add_72 : decode cX3_add 72 = .ok (.aload_n 0, 1) := by decide +kernel
theorem dX3_add_73 : decode cX3_add 73 = .ok (.getfield 9, 3) := by decide +kernel
theorem dX3_add_76 : decode cX3_add 76 = .ok (.iload 5, 2) := by decide +kernel
theorem dX3_add_78 : decode cX3_add 78 = .ok (.iconst 2, 1) := by decide +kernel
theorem dX3_add_79 : decode cX3_add 79 = .ok (.iadd, 1) := by decide +kernel
theorem dX3_add_80 : decode cX3_add 80 = .ok (.iload_n 3, 1) := by decide +kernel
theorem dX3_add_81 : decode cX3_add 81 = .ok (.iastore, 1) := by decide +kernel
theorem dX3_add_82 : decode cX3_add 82 = .ok (.aload_n 0, 1) := by decide +kernel
theorem dX3_add_83 : decode cX3_add 83 = .ok (.getfield 9, 3) := by decide +kernel
theorem dX3_add_86 : decode cX3_add 86 = .ok (.iload 5, 2) := by decide +kernel
theorem dX3_add_88 : decode cX3_add 88 = .ok (.iconst 3, 1) := by decide +kernel
theorem dX3_add_89 : decode cX3_add 89 = .ok (.iadd, 1) := by decide +kernel
theorem dX3_add_90 : decode cX3_add 90 = .ok (.iload 4, 2) := by decide +kernel
theorem dX3_add_92 : decode cX3_add 92 = .ok (.iastore, 1) := by decide +kernel
theorem dX3_add_93 : decode cX3_add 93 = .ok (.aload_n 0, 1) := by decide +kernel
theorem dX3_add_94 : decode cX3_add 94 = .ok (.dup, 1) := by decide +kernel
theorem dX3_add_95 : decode cX3_add 95 = .ok (.getfield 13, 3) := by decide +kernel
theorem dX3_add_98 : decode cX3_add 98 = .ok (.iconst 1, 1) := by decide +kernel
theorem dX3_add_99 : decode cX3_add 99 = .ok (.iadd, 1) := by decide +kernel
theorem dX3_add_100 : decode cX3_add 100 = .ok (.putfield 13, 3) := by decide +kernel
theorem dX3_add_103 : decode cX3_add 103 = .ok (.aload_n 0, 1) := by decide +kernel
theorem dX3_add_104 : decode cX3_add 104 = .ok (.invokevirtual 56, 3) := by decide +kernel
theorem dX3_add_107 : decode cX3_add 107 = .ok (.aload_n 0, 1) := by decide +kernel
theorem dX3_add_108 : decode cX3_add 108 = .ok (.getfield 13, 3) := by decide +kernel
theorem dX3_add_111 : decode cX3_add 111 = .ok (.iconst 1, 1) := by decide +kernel
theorem dX3_add_112 : decode cX3_add 112 = .ok (.isub, 1) := by decide +kernel
theorem dX3_add_113 : decode cX3_add 113 = .ok (.ireturn, 1) := by decide +kernel
set_option maxRecDepth 20000 in
theorem ggX3_clear_X3_forgetScan : GoodIn wsX3_clear wsX3_forgetScan := goodIn_r _ [6, 7, 8, 9, 10, 11, 12, 13, 14, 15, 16] (by decide +kernel) (by decide +kernel)
set_option maxRecDepth 20000 in
theorem gX3_clear_X3_forgetScan : GoodIn wsX3_clear (wsV RX3 56 RX3 yX3_forgetScan wsX3_forgetScan) := goodIn_app (goodIn_of _ (by decide +kernel)) ggX3_clear_X3_forgetScan
theorem dX3_clear_0 : decode cX3_clear 0 = .ok (.aload_n 0, 1) := by decide +kernel
theorem dX3_clear_1 : decode cX3_clear 1 = .ok (.iconst 0, 1) := by decide +kernel
theorem dX3_clear_2 : decode cX3_clear 2 = .ok (.putfield 13, 3) := by decide +kernel
theorem dX3_clear_5 : decode cX3_clear 5 = .ok (.aload_n 0, 1) := by decide +kernel
theorem dX3_clear_6 : decode cX3_clear 6 = .ok (.invokevirtual 56, 3) := by decide +kernel
theorem dX3_clear_9 : decode cX3_clear 9 = .ok (.return_, 1) := by decide +kernel
theorem dX3_size_0 : decode cX3_size 0 = .ok (.aload_n 0, 1) := by decide +kernel
theorem dX3_size_1 : decode cX3_size 1 = .ok (.getfield 13, 3) := by decide +kernel
theorem dX3_size_4 : decode cX3_size 4 = .ok (.ireturn, 1) := by decide +kernel
set_option maxRecDepth 20000 in
theorem ggX3_code_X3_isInstruction : GoodIn wsX3_code wsX3_isInstruction := goodIn_r _ [6, 7, 8, 9, 10, 11, 12, 13, 14, 15] (by decide +kernel) (by decide +kernel)
set_option maxRecDepth 20000 in
theorem gX3_code_X3_isInstruction : GoodIn wsX3_code (wsV RX3 59 RX3 yX3_isInstruction wsX3_isInstruction) := goodIn_app (goodIn_of _ (by decide +kernel)) ggX3_code_X3_isInstruction
theorem dX3_code_0 : decode cX3_code 0 = .ok (.aload_n 0, 1) := by decide +kernel
theorem dX3_code_1 : decode cX3_code 1 = .ok (.iload_n 1, 1) := by decide +kernel
theorem dX3_code_2 : decode cX3_code 2 = .ok (.invokevirtual 59, 3) := by decide +kernel
theorem dX3_code_5 : decode cX3_code 5 = .ok (.ifCond .eq 12, 3) := by decide +kernel
theorem dX3_code_8 : decode cX3_code 8 = .ok (.iload_n 2, 1) := by decide +kernel
theorem dX3_code_9 : decode cX3_code 9 = .ok (.ifCond .lt 8, 3) := by decide +kernel
theorem dX3_code_12 : decode cX3_code 12 = .ok (.iload_n 2, 1) := by decide +kernel
theorem dX3_code_13 : decode cX3_code 13 = .ok (.iconst 3, 1) := by decide +kernel
theorem dX3_code_14 : decode cX3_code 14 = .ok (.if_icmp .le 6, 3) := by decide +kernel
theorem dX3_code_17 : decode cX3_code 17 = .ok (.bipush (-9), 2) := by decide +kernel
theorem dX3_code_19 : decode cX3_code 19 = .ok (.ireturn, 1) := by decide +kernel
theorem dX3_code_20 : decode cX3_code 20 = .ok (.aload_n 0, 1) := by decide +kernel
theorem dX3_code_21 : decode cX3_code 21 = .ok (.getfield 9, 3) := by decide +kernel
theorem dX3_code_24 : decode cX3_code 24 = .ok (.iload_n 1, 1) := by decide +kernel
theorem dX3_code_25 : decode cX3_code 25 = .ok (.iconst 4, 1) := by decide +kernel
theorem dX3_code_26 : decode cX3_code 26 = .ok (.imul, 1) := by decide +kernel
theorem dX3_code_27 : decode cX3_code 27 = .ok (.iload_n 2, 1) := by decide +kernel
theorem dX3_code_28 : decode cX3_code 28 = .ok (.iadd, 1) := by decide +kernel
theorem dX3_code_29 : decode cX3_code 29 = .ok (.iaload, 1) := by decide +kernel
theorem dX3_code_30 : decode cX3_code 30 = .ok (.ireturn, 1) := by decide +kernel
set_option maxRecDepth 20000 in
theorem ggX3_scan_X3_forgetScan : GoodIn wsX3_scan wsX3_forgetScan := goodIn_r _ [8, 3, 2, 222, 223, 224, 225, 226, 227, 228, 229] (by decide +kernel) (by decide +kernel)
set_option maxRecDepth 20000 in
theorem gX3_scan_X3_forgetScan : GoodIn wsX3_scan (wsV RX3 56 RX3 yX3_forgetScan wsX3_forgetScan) := goodIn_app (goodIn_of _ (by decide +kernel)) ggX3_scan_X3_forgetScan
set_option maxRecDepth 20000 in
theorem ggX3_scan_X3_isWhole : GoodIn wsX3_scan wsX3_isWhole := goodIn_r _ [12, 13, 14, 15, 16, 17, 7, 18, 19, 20, 21, 22, 23, 24, 25, 222, 223, 224, 225, 226, 227, 228, 229] (by decide +kernel) (by decide +kernel)
set_option maxRecDepth 20000 in
theorem gX3_scan_X3_isWhole : GoodIn wsX3_scan (wsV RX3 63 RX3 yX3_isWhole wsX3_isWhole) := goodIn_app (goodIn_of _ (by decide +kernel)) ggX3_scan_X3_isWhole
set_option maxRecDepth 20000 in
theorem ggX3_scan_X2_begin : GoodIn wsX3_scan wsX2_begin := goodIn_r _ [30, 31, 32, 33, 230, 231, 232] (by decide +kernel) (by decide +kernel)
set_option maxRecDepth 20000 in
theorem gX3_scan_X2_begin : GoodIn wsX3_scan (wsV RX3 67 RX2 yX2_begin wsX2_begin) := goodIn_app (goodIn_of _ (by decide +kernel)) ggX3_scan_X2_begin
set_option maxRecDepth 20000 in
theorem ggX3_scan_X3_runRound : GoodIn wsX3_scan wsX3_runRound := goodIn_r _ [37, 13, 1, 38, 39, 40, 29, 41, 31, 42, 43, 44, 7, 45, 46, 14, 47, 48, 49, 50, 51, 52, 53, 54, 55, 56, 57, 58, 59, 60, 61, 62, 63, 64, 65, 66, 32, 67, 68, 69, 70, 33, 71, 72, 73, 74, 75, 76, 77, 78, 79, 80, 81, 82, 83, 84, 85, 86, 87, 88, 89, 90, 91, 92, 93, 94, 95, 96, 97, 98, 99, 100, 101, 102, 103, 104, 105, 106, 107, 108, 109, 110, 111, 112, 113, 114, 115, 116, 117, 118, 119, 120, 121, 122, 123, 124, 125, 126, 127, 128, 129, 130, 131, 132, 133, 134, 135, 136, 137, 138, 139, 140, 141, 142, 143, 144, 145, 146, 147, 148, 149, 150, 151, 152, 153, 154, 155, 156, 157, 158, 159, 160, 161, 162, 163, 164, 165, 166, 167, 168, 169, 170, 171, 172, 173, 174, 175, 176, 177, 178, 179, 180, 181, 182, 183, 184, 185, 186, 187, 188, 189, 190, 191, 192, 193, 194, 222, 223, 224, 225, 226, 227, 228, 229, 230, 231, 232, 233, 234, 235, 236, 237, 238] (by decide +kernel) (by decide +kernel)
set_option maxRecDepth 20000 in
theorem gX3_scan_X3_runRound : GoodIn wsX3_scan (wsV RX3 70 RX3 yX3_runRound wsX3_runRound) := goodIn_app (goodIn_of _ (by decide +kernel)) ggX3_scan_X3_runRound
set_option maxRecDepth 20000 in
theorem ggX3_scan_X3_settle : GoodIn wsX3_scan wsX3_settle := goodIn_r _ [198, 199, 13, 1, 26, 27, 28, 29, 30, 31, 32, 33, 38, 39, 40, 41, 42, 43, 44, 7, 45, 46, 14, 47, 48, 49, 50, 51, 52, 53, 54, 55, 56, 57, 58, 59, 60, 61, 62, 63, 64, 65, 66, 67, 68, 69, 70, 71, 72, 73, 74, 75, 76, 77, 78, 79, 80, 81, 82, 83, 84, 85, 86, 87, 88, 89, 90, 91, 92, 93, 94, 95, 96, 97, 98, 99, 100, 101, 102, 103, 104, 105, 106, 107, 108, 109, 110, 111, 112, 113, 114, 115, 116, 117, 118, 119, 120, 121, 122, 123, 124, 125, 126, 127, 128, 129, 130, 131, 132, 133, 134, 135, 136, 137, 138, 139, 140, 141, 142, 143, 144, 145, 146, 147, 148, 149, 150, 151, 152, 153, 154, 155, 156, 157, 158, 159, 160, 161, 162, 163, 164, 165, 166, 167, 168, 169, 170, 171, 172, 173, 174, 175, 176, 177, 178, 179, 180, 181, 182, 183, 184, 185, 186, 187, 188, 189, 190, 191, 192, 193, 194, 222, 223, 224, 225, 226, 227, 228, 229, 230, 231, 232, 233, 234, 235, 236, 237, 238] (by decide +kernel) (by decide +kernel)
set_option maxRecDepth 20000 in
theorem gX3_scan_X3_settle : GoodIn wsX3_scan (wsV RX3 73 RX3 yX3_settle wsX3_settle) := goodIn_app (goodIn_of _ (by decide +kernel)) ggX3_scan_X3_settle
set_option maxRecDepth 20000 in
theorem ggX3_scan_X3_countAlarms : GoodIn wsX3_scan wsX3_countAlarms := goodIn_r _ [203, 13, 204, 205, 206, 7, 207, 14, 208, 209, 210, 211, 3, 199, 22, 23, 24, 25, 38, 39, 40, 29, 41, 31, 212, 213, 214, 215, 216, 64, 65, 66, 32, 217, 68, 69, 70, 33, 218, 219, 220, 221, 148, 222, 223, 224, 225, 226, 227, 228, 229, 230, 231, 232] (by decide +kernel) (by decide +kernel)
set_option maxRecDepth 20000 in
theorem gX3_scan_X3_countAlarms : GoodIn wsX3_scan (wsV RX3 76 RX3 yX3_countAlarms wsX3_countAlarms) := goodIn_app (goodIn_of _ (by decide +kernel)) ggX3_scan_X3_countAlarms
theorem dX3_scan_0 : decode cX3_scan 0 = .ok (.aload_n 0, 1) := by decide +kernel
theorem dX3_scan_1 : decode cX3_scan 1 = .ok (.invokevirtual 56, 3) := by decide +kernel
theorem dX3_scan_4 : decode cX3_scan 4 = .ok (.aload_n 0, 1) := by decide +kernel
theorem dX3_scan_5 : decode cX3_scan 5 = .ok (.invokevirtual 63, 3) := by decide +kernel
theorem dX3_scan_8 : decode cX3_scan 8 = .ok (.ifCond .ne 5, 3) := by decide +kernel
theorem dX3_scan_11 : decode cX3_scan 11 = .ok (.iconst (-1), 1) := by decide +kernel
theorem dX3_scan_12 : decode cX3_scan 12 = .ok (.ireturn, 1) := by decide +kernel
theorem dX3_scan_13 : decode cX3_scan 13 = .ok (.aload_n 0, 1) := by decide +kernel
theorem dX3_scan_14 : decode cX3_scan 14 = .ok (.getfield 27, 3) := by decide +kernel
theorem dX3_scan_17 : decode cX3_scan 17 = .ok (.invokevirtual 67, 3) := by decide +kernel
theorem dX3_scan_20 : decode cX3_scan 20 = .ok (.iconst 1, 1) := by decide +kernel
theorem dX3_scan_21 : decode cX3_scan 21 = .ok (.istore_n 1, 1) := by decide +kernel
theorem dX3_scan_22 : decode cX3_scan 22 = .ok (.iconst 1, 1) := by decide +kernel
theorem dX3_scan_23 : decode cX3_scan 23 = .ok (.istore_n 2, 1) := by decide +kernel
theorem dX3_scan_24 : decode cX3_scan 24 = .ok (.iload_n 1, 1) := by decide +kernel
theorem dX3_scan_25 : decode cX3_scan 25 = .ok (.ifCond .eq 26, 3) := by decide +kernel
theorem dX3_scan_28 : decode cX3_scan 28 = .ok (.iload_n 2, 1) := by decide +kernel
theorem dX3_scan_29 : decode cX3_scan 29 = .ok (.sipush 10000, 3) := by decide +kernel
theorem dX3_scan_32 : decode cX3_scan 32 = .ok (.if_icmp .gt 19, 3) := by decide +kernel
theorem dX3_scan_35 : decode cX3_scan 35 = .ok (.aload_n 0, 1) := by decide +kernel
theorem dX3_scan_36 : decode cX3_scan 36 = .ok (.invokevirtual 70, 3) := by decide +kernel
theorem dX3_scan_39 : decode cX3_scan 39 = .ok (.istore_n 1, 1) := by decide +kernel
theorem dX3_scan_40 : decode cX3_scan 40 = .ok (.aload_n 0, 1) := by decide +kernel
theorem dX3_scan_41 : decode cX3_scan 41 = .ok (.iload_n 2, 1) := by decide +kernel
theorem dX3_scan_42 : decode cX3_scan 42 = .ok (.putfield 21, 3) := by decide +kernel
theorem dX3_scan_45 : decode cX3_scan 45 = .ok (.iinc 2 1, 3) := by decide +kernel
theorem dX3_scan_48 : decode cX3_scan 48 = .ok (.goto (-24), 3) := by decide +kernel
theorem dX3_scan_51 : decode cX3_scan 51 = .ok (.aload_n 0, 1) := by decide +kernel
theorem dX3_scan_52 : decode cX3_scan 52 = .ok (.invokevirtual 73, 3) := by decide +kernel
theorem dX3_scan_55 : decode cX3_scan 55 = .ok (.aload_n 0, 1) := by decide +kernel
theorem dX3_scan_56 : decode cX3_scan 56 = .ok (.iconst 1, 1) := by decide +kernel
theorem dX3_scan_57 : decode cX3_scan 57 = .ok (.putfield 17, 3) := by decide +kernel
theorem dX3_scan_60 : decode cX3_scan 60 = .ok (.aload_n 0, 1) := by decide +kernel
theorem dX3_scan_61 : decode cX3_scan 61 = .ok (.invokevirtual 76, 3) := by decide +kernel
theorem dX3_scan_64 : decode cX3_scan 64 = .ok (.ireturn, 1) := by decide +kernel
theorem dX3_rounds_0 : decode cX3_rounds 0 = .ok (.aload_n 0, 1) := by decide +kernel
theorem dX3_rounds_1 : decode cX3_rounds 1 = .ok (.getfield 21, 3) := by decide +kernel
theorem dX3_rounds_4 : decode cX3_rounds 4 = .ok (.ireturn, 1) := by decide +kernel
set_option maxRecDepth 20000 in
theorem ggX3_reached_X3_isInstruction : GoodIn wsX3_reached wsX3_isInstruction := goodIn_r _ [7, 8, 15, 16, 17, 18, 19, 20, 21, 22] (by decide +kernel) (by decide +kernel)
set_option maxRecDepth 20000 in
theorem gX3_reached_X3_isInstruction : GoodIn wsX3_reached (wsV RX3 59 RX3 yX3_isInstruction wsX3_isInstruction) := goodIn_app (goodIn_of _ (by decide +kernel)) ggX3_reached_X3_isInstruction
set_option maxRecDepth 20000 in
theorem ggX3_reached_X2_isSomewhere : GoodIn wsX3_reached wsX2_isSomewhere := goodIn_r _ [13, 14, 23, 24, 25] (by decide +kernel) (by decide +kernel)
set_option maxRecDepth 20000 in
theorem gX3_reached_X2_isSomewhere : GoodIn wsX3_reached (wsV RX3 80 RX2 yX2_isSomewhere wsX2_isSomewhere) := goodIn_app (goodIn_of _ (by decide +kernel)) ggX3_reached_X2_isSomewhere
theorem dX3_reached_0 : decode cX3_reached 0 = .ok (.aload_n 0, 1) := by decide +kernel
theorem dX3_reached_1 : decode cX3_reached 1 = .ok (.getfield 17, 3) := by decide +kernel
theorem dX3_reached_4 : decode cX3_reached 4 = .ok (.ifCond .eq 11, 3) := by decide +kernel
theorem dX3_reached_7 : decode cX3_reached 7 = .ok (.aload_n 0, 1) := by decide +kernel
theorem dX3_reached_8 : decode cX3_reached 8 = .ok (.iload_n 1, 1) := by decide +kernel
theorem dX3_reached_9 : decode cX3_reached 9 = .ok (.invokevirtual 59, 3) := by decide +kernel
theorem dX3_reached_12 : decode cX3_reached 12 = .ok (.ifCond .ne 5, 3) := by decide +kernel
theorem dX3_reached_15 : decode cX3_reached 15 = .ok (.iconst (-1), 1) := by decide +kernel
theorem dX3_reached_16 : decode cX3_reached 16 = .ok (.ireturn, 1) := by decide +kernel
theorem dX3_reached_17 : decode cX3_reached 17 = .ok (.aload_n 0, 1) := by decide +kernel
theorem dX3_reached_18 : decode cX3_reached 18 = .ok (.getfield 31, 3) := by decide +kernel
theorem dX3_reached_21 : decode cX3_reached 21 = .ok (.iload_n 1, 1) := by decide +kernel
theorem dX3_reached_22 : decode cX3_reached 22 = .ok (.invokevirtual 80, 3) := by decide +kernel
theorem dX3_reached_25 : decode cX3_reached 25 = .ok (.ifCond .eq 7, 3) := by decide +kernel
theorem dX3_reached_28 : decode cX3_reached 28 = .ok (.iconst 1, 1) := by decide +kernel
theorem dX3_reached_29 : decode cX3_reached 29 = .ok (.goto 4, 3) := by decide +kernel
theorem dX3_reached_32 : decode cX3_reached 32 = .ok (.iconst 0, 1) := by decide +kernel
theorem dX3_reached_33 : decode cX3_reached 33 = .ok (.ireturn, 1) := by decide +kernel
set_option maxRecDepth 20000 in
theorem ggX3_low_X3_reached : GoodIn wsX3_low wsX3_reached := goodIn_r _ [7, 8, 2, 9, 10, 11, 6, 12, 13, 14, 15, 16, 17, 18, 19, 28, 29, 30, 31, 32, 33, 34, 35, 36, 37, 38] (by decide +kernel) (by decide +kernel)
set_option maxRecDepth 20000 in
theorem gX3_low_X3_reached : GoodIn wsX3_low (wsV RX3 83 RX3 yX3_reached wsX3_reached) := goodIn_app (goodIn_of _ (by decide +kernel)) ggX3_low_X3_reached
set_option maxRecDepth 20000 in
theorem ggX3_low_X3_isVariable : GoodIn wsX3_low wsX3_isVariable := goodIn_r _ [22] (by decide +kernel) (by decide +kernel)
set_option maxRecDepth 20000 in
theorem gX3_low_X3_isVariable : GoodIn wsX3_low (va_wsS RX3 87 yX3_isVariable wsX3_isVariable) := goodIn_app (goodIn_of _ (by decide +kernel)) ggX3_low_X3_isVariable
set_option maxRecDepth 20000 in
theorem ggX3_low_X2_lowOf : GoodIn wsX3_low wsX2_lowOf := goodIn_r _ [26, 27, 36, 37, 38] (by decide +kernel) (by decide +kernel)
set_option maxRecDepth 20000 in
theorem gX3_low_X2_lowOf : GoodIn wsX3_low (wsV RX3 92 RX2 yX2_lowOf wsX2_lowOf) := goodIn_app (goodIn_of _ (by decide +kernel)) ggX3_low_X2_lowOf
theorem dX3_low_0 : decode cX3_low 0 = .ok (.aload_n 0, 1) := by decide +kernel
theorem dX3_low_1 : decode cX3_low 1 = .ok (.iload_n 1, 1) := by decide +kernel
theorem dX3_low_2 : decode cX3_low 2 = .ok (.invokevirtual 83, 3) := by decide +kernel
theorem dX3_low_5 : decode cX3_low 5 = .ok (.iconst 1, 1) := by decide +kernel
theorem dX3_low_6 : decode cX3_low 6 = .ok (.if_icmp .ne 10, 3) := by decide +kernel
theorem dX3_low_9 : decode cX3_low 9 = .ok (.iload_n 2, 1) := by decide +kernel
theorem dX3_low_10 : decode cX3_low 10 = .ok (.invokestatic 87, 3) := by decide +kernel
theorem dX3_low_13 : decode cX3_low 13 = .ok (.ifCond .ne 7, 3) := by decide +kernel
theorem dX3_low_16 : decode cX3_low 16 = .ok (.ldc2_w 90, 3) := by decide +kernel
theorem dX3_low_19 : decode cX3_low 19 = .ok (.lreturn, 1) := by decide +kernel
theorem dX3_low_20 : decode cX3_low 20 = .ok (.aload_n 0, 1) := by decide +kernel
theorem dX3_low_21 : decode cX3_low 21 = .ok (.getfield 31, 3) := by decide +kernel
theorem dX3_low_24 : decode cX3_low 24 = .ok (.iload_n 1, 1) := by decide +kernel
theorem dX3_low_25 : decode cX3_low 25 = .ok (.iload_n 2, 1) := by decide +kernel
theorem dX3_low_26 : decode cX3_low 26 = .ok (.invokevirtual 92, 3) := by decide +kernel
theorem dX3_low_29 : decode cX3_low 29 = .ok (.lreturn, 1) := by decide +kernel
set_option maxRecDepth 20000 in
theorem ggX3_high_X3_reached : GoodIn wsX3_high wsX3_reached := goodIn_r _ [7, 8, 2, 9, 10, 11, 6, 12, 13, 14, 15, 16, 17, 18, 19, 28, 29, 30, 31, 32, 33, 34, 35, 36, 37, 38] (by decide +kernel) (by decide +kernel)
set_option maxRecDepth 20000 in
theorem gX3_high_X3_reached : GoodIn wsX3_high (wsV RX3 83 RX3 yX3_reached wsX3_reached) := goodIn_app (goodIn_of _ (by decide +kernel)) ggX3_high_X3_reached
set_option maxRecDepth 20000 in
theorem ggX3_high_X3_isVariable : GoodIn wsX3_high wsX3_isVariable := goodIn_r _ [22] (by decide +kernel) (by decide +kernel)
set_option maxRecDepth 20000 in
theorem gX3_high_X3_isVariable : GoodIn wsX3_high (va_wsS RX3 87 yX3_isVariable wsX3_isVariable) := goodIn_app (goodIn_of _ (by decide +kernel)) ggX3_high_X3_isVariable
set_option maxRecDepth 20000 in
theorem ggX3_high_X2_highOf : GoodIn wsX3_high wsX2_highOf := goodIn_r _ [26, 27, 36, 37, 38] (by decide +kernel) (by decide +kernel)
set_option maxRecDepth 20000 in
theorem gX3_high_X2_highOf : GoodIn wsX3_high (wsV RX3 96 RX2 yX2_highOf wsX2_highOf) := goodIn_app (goodIn_of _ (by decide +kernel)) ggX3_high_X2_highOf
theorem dX3_high_0 : decode cX3_high 0 = .ok (.aload_n 0, 1) := by decide +kernel
theorem dX3_high_1 : decode cX3_high 1 = .ok (.iload_n 1, 1) := by decide +kernel
theorem dX3_high_2 : decode cX3_high 2 = .ok (.invokevirtual 83, 3) := by decide +kernel
theorem dX3_high_5 : decode cX3_high 5 = .ok (.iconst 1, 1) := by decide +kernel
theorem dX3_high_6 : decode cX3_high 6 = .ok (.if_icmp .ne 10, 3) := by decide +kernel
theorem dX3_high_9 : decode cX3_high 9 = .ok (.iload_n 2, 1) := by decide +kernel
theorem dX3_high_10 : decode cX3_high 10 = .ok (.invokestatic 87, 3) := by decide +kernel
theorem dX3_high_13 : decode cX3_high 13 = .ok (.ifCond .ne 7, 3) := by decide +kernel
theorem dX3_high_16 : decode cX3_high 16 = .ok (.ldc2_w 90, 3) := by decide +kernel
theorem dX3_high_19 : decode cX3_high 19 = .ok (.lreturn, 1) := by decide +kernel
theorem dX3_high_20 : decode cX3_high 20 = .ok (.aload_n 0, 1) := by decide +kernel
theorem dX3_high_21 : decode cX3_high 21 = .ok (.getfield 31, 3) := by decide +kernel
theorem dX3_high_24 : decode cX3_high 24 = .ok (.iload_n 1, 1) := by decide +kernel
theorem dX3_high_25 : decode cX3_high 25 = .ok (.iload_n 2, 1) := by decide +kernel
theorem dX3_high_26 : decode cX3_high 26 = .ok (.invokevirtual 96, 3) := by decide +kernel
theorem dX3_high_29 : decode cX3_high 29 = .ok (.lreturn, 1) := by decide +kernel
set_option maxRecDepth 20000 in
theorem ggX3_alarm_X3_reached : GoodIn wsX3_alarm wsX3_reached := goodIn_r _ [6, 7, 8, 9, 10, 11, 5, 12, 13, 14, 15, 16, 17, 18, 19, 39, 40, 41, 42, 43, 44, 45, 46, 47, 48, 49] (by decide +kernel) (by decide +kernel)
set_option maxRecDepth 20000 in
theorem gX3_alarm_X3_reached : GoodIn wsX3_alarm (wsV RX3 83 RX3 yX3_reached wsX3_reached) := goodIn_app (goodIn_of _ (by decide +kernel)) ggX3_alarm_X3_reached
set_option maxRecDepth 20000 in
theorem ggX3_alarm_X3_mayDivideByZero : GoodIn wsX3_alarm wsX3_mayDivideByZero := goodIn_r _ [23, 1, 8, 24, 25, 26, 17, 27, 28, 29, 30, 31, 32, 33, 39, 40, 41, 42, 43, 44, 45, 46, 47, 48, 49] (by decide +kernel) (by decide +kernel)
set_option maxRecDepth 20000 in
theorem gX3_alarm_X3_mayDivideByZero : GoodIn wsX3_alarm (wsV RX3 99 RX3 yX3_mayDivideByZero wsX3_mayDivideByZero) := goodIn_app (goodIn_of _ (by decide +kernel)) ggX3_alarm_X3_mayDivideByZero
set_option maxRecDepth 20000 in
theorem ggX3_alarm_X3_mayLeaveArray : GoodIn wsX3_alarm wsX3_mayLeaveArray := goodIn_r _ [37, 1, 8, 38, 24, 25, 26, 17, 27, 28, 29, 30, 31, 32, 33, 39, 40, 41, 42, 43, 44, 45, 46, 47, 48, 49] (by decide +kernel) (by decide +kernel)
set_option maxRecDepth 20000 in
theorem gX3_alarm_X3_mayLeaveArray : GoodIn wsX3_alarm (wsV RX3 102 RX3 yX3_mayLeaveArray wsX3_mayLeaveArray) := goodIn_app (goodIn_of _ (by decide +kernel)) ggX3_alarm_X3_mayLeaveArray
theorem dX3_alarm_0 : decode cX3_alarm 0 = .ok (.aload_n 0, 1) := by decide +kernel
theorem dX3_alarm_1 : decode cX3_alarm 1 = .ok (.iload_n 1, 1) := by decide +kernel
theorem dX3_alarm_2 : decode cX3_alarm 2 = .ok (.invokevirtual 83, 3) := by decide +kernel
theorem dX3_alarm_5 : decode cX3_alarm 5 = .ok (.iconst 1, 1) := by decide +kernel
theorem dX3_alarm_6 : decode cX3_alarm 6 = .ok (.if_icmp .eq 5, 3) := by decide +kernel
theorem dX3_alarm_9 : decode cX3_alarm 9 = .ok (.iconst 0, 1) := by decide +kernel
theorem dX3_alarm_10 : decode cX3_alarm 10 = .ok (.ireturn, 1) := by decide +kernel
theorem dX3_alarm_11 : decode cX3_alarm 11 = .ok (.aload_n 0, 1) := by decide +kernel
theorem dX3_alarm_12 : decode cX3_alarm 12 = .ok (.getfield 9, 3) := by decide +kernel
theorem dX3_alarm_15 : decode cX3_alarm 15 = .ok (.iload_n 1, 1) := by decide +kernel
theorem dX3_alarm_16 : decode cX3_alarm 16 = .ok (.iconst 4, 1) := by decide +kernel
theorem dX3_alarm_17 : decode cX3_alarm 17 = .ok (.imul, 1) := by decide +kernel
theorem dX3_alarm_18 : decode cX3_alarm 18 = .ok (.iconst 0, 1) := by decide +kernel
theorem dX3_alarm_19 : decode cX3_alarm 19 = .ok (.iadd, 1) := by decide +kernel
theorem dX3_alarm_20 : decode cX3_alarm 20 = .ok (.iaload, 1) := by decide +kernel
theorem dX3_alarm_21 : decode cX3_alarm 21 = .ok (.tableswitch 55 6 8 #[27, 41, 41], 27) := by decide +kernel
theorem dX3_alarm_48 : decode cX3_alarm 48 = .ok (.aload_n 0, 1) := by decide +kernel
theorem dX3_alarm_49 : decode cX3_alarm 49 = .ok (.iload_n 1, 1) := by decide +kernel
theorem dX3_alarm_50 : decode cX3_alarm 50 = .ok (.invokevirtual 99, 3) := by decide +kernel
theorem dX3_alarm_53 : decode cX3_alarm 53 = .ok (.ifCond .eq 7, 3) := by decide +kernel
theorem dX3_alarm_56 : decode cX3_alarm 56 = .ok (.iconst 1, 1) := by decide +kernel
theorem dX3_alarm_57 : decode cX3_alarm 57 = .ok (.goto 4, 3) := by decide +kernel
theorem dX3_alarm_60 : decode cX3_alarm 60 = .ok (.iconst 0, 1) := by decide +kernel
theorem dX3_alarm_61 : decode cX3_alarm 61 = .ok (.ireturn, 1) := by decide +kernel
theorem dX3_alarm_62 : decode cX3_alarm 62 = .ok (.aload_n 0, 1) := by decide +kernel
theorem dX3_alarm_63 : decode cX3_alarm 63 = .ok (.iload_n 1, 1) := by decide +kernel
theorem dX3_alarm_64 : decode cX3_alarm 64 = .ok (.invokevirtual 102, 3) := by decide +kernel
theorem dX3_alarm_67 : decode cX3_alarm 67 = .ok (.ifCond .eq 7, 3) := by decide +kernel
theorem dX3_alarm_70 : decode cX3_alarm 70 = .ok (.iconst 2, 1) := by decide +kernel
theorem dX3_alarm_71 : decode cX3_alarm 71 = .ok (.goto 4, 3) := by decide +kernel
theorem dX3_alarm_74 : decode cX3_alarm 74 = .ok (.iconst 0, 1) := by decide +kernel
theorem dX3_alarm_75 : decode cX3_alarm 75 = .ok (.ireturn, 1) := by decide +kernel
theorem dX3_alarm_76 : decode cX3_alarm 76 = .ok (.iconst 0, 1) := by decide +kernel
theorem dX3_alarm_77 : decode cX3_alarm 77 = .ok (.ireturn, 1) := by decide +kernel
theorem dX3_isVariable_0 : decode cX3_isVariable 0 = .ok (.iload_n 0, 1) := by decide +kernel
theorem dX3_isVariable_1 : decode cX3_isVariable 1 = .ok (.ifCond .lt 12, 3) := by decide +kernel
theorem dX3_isVariable_4 : decode cX3_isVariable 4 = .ok (.iload_n 0, 1) := by decide +kernel
theorem dX3_isVariable_5 : decode cX3_isVariable 5 = .ok (.iconst 4, 1) := by decide +kernel
theorem dX3_isVariable_6 : decode cX3_isVariable 6 = .ok (.if_icmp .ge 7, 3) := by decide +kernel
theorem dX3_isVariable_9 : decode cX3_isVariable 9 = .ok (.iconst 1, 1) := by decide +kernel
theorem dX3_isVariable_10 : decode cX3_isVariable 10 = .ok (.goto 4, 3) := by decide +kernel
theorem dX3_isVariable_13 : decode cX3_isVariable 13 = .ok (.iconst 0, 1) := by decide +kernel
theorem dX3_isVariable_14 : decode cX3_isVariable 14 = .ok (.ireturn, 1) := by decide +kernel
theorem dX3_isInstruction_0 : decode cX3_isInstruction 0 = .ok (.iload_n 1, 1) := by decide +kernel
theorem dX3_isInstruction_1 : decode cX3_isInstruction 1 = .ok (.ifCond .lt 15, 3) := by decide +kernel
theorem dX3_isInstruction_4 : decode cX3_isInstruction 4 = .ok (.iload_n 1, 1) := by decide +kernel
theorem dX3_isInstruction_5 : decode cX3_isInstruction 5 = .ok (.aload_n 0, 1) := by decide +kernel
theorem dX3_isInstruction_6 : decode cX3_isInstruction 6 = .ok (.getfield 13, 3) := by decide +kernel
theorem dX3_isInstruction_9 : decode cX3_isInstruction 9 = .ok (.if_icmp .ge 7, 3) := by decide +kernel
theorem dX3_isInstruction_12 : decode cX3_isInstruction 12 = .ok (.iconst 1, 1) := by decide +kernel
theorem dX3_isInstruction_13 : decode cX3_isInstruction 13 = .ok (.goto 4, 3) := by decide +kernel
theorem dX3_isInstruction_16 : decode cX3_isInstruction 16 = .ok (.iconst 0, 1) := by decide +kernel
theorem dX3_isInstruction_17 : decode cX3_isInstruction 17 = .ok (.ireturn, 1) := by decide +kernel
set_option maxRecDepth 20000 in
theorem ggX3_areVariablesRight_X3_isVariable : GoodIn wsX3_areVariablesRight wsX3_isVariable := goodIn_r _ [4] (by decide +kernel) (by decide +kernel)
set_option maxRecDepth 20000 in
theorem gX3_areVariablesRight_X3_isVariable : GoodIn wsX3_areVariablesRight (va_wsS RX3 87 yX3_isVariable wsX3_isVariable) := goodIn_app (goodIn_of _ (by decide +kernel)) ggX3_areVariablesRight_X3_isVariable
theorem dX3_areVariablesRight_0 : decode cX3_areVariablesRight 0 = .ok (.iload_n 0, 1) := by decide +kernel
theorem dX3_areVariablesRight_1 : decode cX3_areVariablesRight 1 = .ok (.iconst 1, 1) := by decide +kernel
theorem dX3_areVariablesRight_2 : decode cX3_areVariablesRight 2 = .ok (.if_icmp .lt 9, 3) := by decide +kernel
theorem dX3_areVariablesRight_5 : decode cX3_areVariablesRight 5 = .ok (.iload_n 0, 1) := by decide +kernel
theorem dX3_areVariablesRight_6 : decode cX3_areVariablesRight 6 = .ok (.bipush 9, 2) := by decide +kernel
theorem dX3_areVariablesRight_8 : decode cX3_areVariablesRight 8 = .ok (.if_icmp .le 9, 3) := by decide +kernel
theorem dX3_areVariablesRight_11 : decode cX3_areVariablesRight 11 = .ok (.iload_n 0, 1) := by decide +kernel
theorem dX3_areVariablesRight_12 : decode cX3_areVariablesRight 12 = .ok (.bipush 11, 2) := by decide +kernel
theorem dX3_areVariablesRight_14 : decode cX3_areVariablesRight 14 = .ok (.if_icmp .ne 7, 3) := by decide +kernel
theorem dX3_areVariablesRight_17 : decode cX3_areVariablesRight 17 = .ok (.iconst 1, 1) := by decide +kernel
theorem dX3_areVariablesRight_18 : decode cX3_areVariablesRight 18 = .ok (.goto 4, 3) := by decide +kernel
theorem dX3_areVariablesRight_21 : decode cX3_areVariablesRight 21 = .ok (.iconst 0, 1) := by decide +kernel
theorem dX3_areVariablesRight_22 : decode cX3_areVariablesRight 22 = .ok (.istore 4, 2) := by decide +kernel
theorem dX3_areVariablesRight_24 : decode cX3_areVariablesRight 24 = .ok (.iload_n 0, 1) := by decide +kernel
theorem dX3_areVariablesRight_25 : decode cX3_areVariablesRight 25 = .ok (.iconst 2, 1) := by decide +kernel
theorem dX3_areVariablesRight_26 : decode cX3_areVariablesRight 26 = .ok (.if_icmp .lt 13, 3) := by decide +kernel
theorem dX3_areVariablesRight_29 : decode cX3_areVariablesRight 29 = .ok (.iload_n 0, 1) := by decide +kernel
theorem dX3_areVariablesRight_30 : decode cX3_areVariablesRight 30 = .ok (.bipush 9, 2) := by decide +kernel
theorem dX3_areVariablesRight_32 : decode cX3_areVariablesRight 32 = .ok (.if_icmp .gt 7, 3) := by decide +kernel
theorem dX3_areVariablesRight_35 : decode cX3_areVariablesRight 35 = .ok (.iconst 1, 1) := by decide +kernel
theorem dX3_areVariablesRight_36 : decode cX3_areVariablesRight 36 = .ok (.goto 4, 3) := by decide +kernel
theorem dX3_areVariablesRight_39 : decode cX3_areVariablesRight 39 = .ok (.iconst 0, 1) := by decide +kernel
theorem dX3_areVariablesRight_40 : decode cX3_areVariablesRight 40 = .ok (.istore 5, 2) := by decide +kernel
theorem dX3_areVariablesRight_42 : decode cX3_areVariablesRight 42 = .ok (.iload_n 0, 1) := by decide +kernel
theorem dX3_areVariablesRight_43 : decode cX3_areVariablesRight 43 = .ok (.iconst 3, 1) := by decide +kernel
theorem dX3_areVariablesRight_44 : decode cX3_areVariablesRight 44 = .ok (.if_icmp .lt 13, 3) := by decide +kernel
theorem dX3_areVariablesRight_47 : decode cX3_areVariablesRight 47 = .ok (.iload_n 0, 1) := by decide +kernel
theorem dX3_areVariablesRight_48 : decode cX3_areVariablesRight 48 = .ok (.bipush 6, 2) := by decide +kernel
theorem dX3_areVariablesRight_50 : decode cX3_areVariablesRight 50 = .ok (.if_icmp .gt 7, 3) := by decide +kernel
theorem dX3_areVariablesRight_53 : decode cX3_areVariablesRight 53 = .ok (.iconst 1, 1) := by decide +kernel
theorem dX3_areVariablesRight_54 : decode cX3_areVariablesRight 54 = .ok (.goto 4, 3) := by decide +kernel
theorem dX3_areVariablesRight_57 : decode cX3_areVariablesRight 57 = .ok (.iconst 0, 1) := by decide +kernel
theorem dX3_areVariablesRight_58 : decode cX3_areVariablesRight 58 = .ok (.istore 6, 2) := by decide +kernel
theorem dX3_areVariablesRight_60 : decode cX3_areVariablesRight 60 = .ok (.iload 4, 2) := by decide +kernel
theorem dX3_areVariablesRight_62 : decode cX3_areVariablesRight 62 = .ok (.ifCond .eq 10, 3) := by decide +kernel
theorem dX3_areVariablesRight_65 : decode cX3_areVariablesRight 65 = .ok (.iload_n 1, 1) := by decide +kernel
theorem dX3_areVariablesRight_66 : decode cX3_areVariablesRight 66 = .ok (.invokestatic 87, 3) := by decide +kernel
theorem dX3_areVariablesRight_69 : decode cX3_areVariablesRight 69 = .ok (.ifCond .eq 31, 3) := by decide +kernel
theorem dX3_areVariablesRight_72 : decode cX3_areVariablesRight 72 = .ok (.iload 5, 2) := by decide +kernel
theorem dX3_areVariablesRight_74 : decode cX3_areVariablesRight 74 = .ok (.ifCond .eq 10, 3) := by decide +kernel
theorem dX3_areVariablesRight_77 : decode cX3_areVariablesRight 77 = .ok (.iload_n 2, 1) := by decide +kernel
theorem dX3_areVariablesRight_78 : decode cX3_areVariablesRight 78 = .ok (.invokestatic 87, 3) := by decide +kernel
theorem dX3_areVariablesRight_81 : decode cX3_areVariablesRight 81 = .ok (.ifCond .eq 19, 3) := by decide +kernel
theorem dX3_areVariablesRight_84 : decode cX3_areVariablesRight 84 = .ok (.iload 6, 2) := by decide +kernel
theorem dX3_areVariablesRight_86 : decode cX3_areVariablesRight 86 = .ok (.ifCond .eq 10, 3) := by decide +kernel
theorem dX3_areVariablesRight_89 : decode cX3_areVariablesRight 89 = .ok (.iload_n 3, 1) := by decide +kernel
theorem dX3_areVariablesRight_90 : decode cX3_areVariablesRight 90 = .ok (.invokestatic 87, 3) := by decide +kernel
theorem dX3_areVariablesRight_93 : decode cX3_areVariablesRight 93 = .ok (.ifCond .eq 7, 3) := by decide +kernel
theorem dX3_areVariablesRight_96 : decode cX3_areVariablesRight 96 = .ok (.iconst 1, 1) := by decide +kernel
theorem dX3_areVariablesRight_97 : decode cX3_areVariablesRight 97 = .ok (.goto 4, 3) := by decide +kernel
theorem dX3_areVariablesRight_100 : decode cX3_areVariablesRight 100 = .ok (.iconst 0, 1) := by decide +kernel
theorem dX3_areVariablesRight_101 : decode cX3_areVariablesRight 101 = .ok (.ireturn, 1) := by decide +kernel
set_option maxRecDepth 20000 in
theorem ggX3_isPlaceRight_X3_goesOnAtC : GoodIn wsX3_isPlaceRight wsX3_goesOnAtC := goodIn_r _ [4] (by decide +kernel) (by decide +kernel)
set_option maxRecDepth 20000 in
theorem gX3_isPlaceRight_X3_goesOnAtC : GoodIn wsX3_isPlaceRight (va_wsS RX3 105 yX3_goesOnAtC wsX3_goesOnAtC) := goodIn_app (goodIn_of _ (by decide +kernel)) ggX3_isPlaceRight_X3_goesOnAtC
theorem dX3_isPlaceRight_0 : decode cX3_isPlaceRight 0 = .ok (.iload_n 0, 1) := by decide +kernel
theorem dX3_isPlaceRight_1 : decode cX3_isPlaceRight 1 = .ok (.invokestatic 105, 3) := by decide +kernel
theorem dX3_isPlaceRight_4 : decode cX3_isPlaceRight 4 = .ok (.ifCond .eq 13, 3) := by decide +kernel
theorem dX3_isPlaceRight_7 : decode cX3_isPlaceRight 7 = .ok (.iload_n 1, 1) := by decide +kernel
theorem dX3_isPlaceRight_8 : decode cX3_isPlaceRight 8 = .ok (.ifCond .lt 13, 3) := by decide +kernel
theorem dX3_isPlaceRight_11 : decode cX3_isPlaceRight 11 = .ok (.iload_n 1, 1) := by decide +kernel
theorem dX3_isPlaceRight_12 : decode cX3_isPlaceRight 12 = .ok (.bipush 24, 2) := by decide +kernel
theorem dX3_isPlaceRight_14 : decode cX3_isPlaceRight 14 = .ok (.if_icmp .ge 7, 3) := by decide +kernel
theorem dX3_isPlaceRight_17 : decode cX3_isPlaceRight 17 = .ok (.iconst 1, 1) := by decide +kernel
theorem dX3_isPlaceRight_18 : decode cX3_isPlaceRight 18 = .ok (.goto 4, 3) := by decide +kernel
theorem dX3_isPlaceRight_21 : decode cX3_isPlaceRight 21 = .ok (.iconst 0, 1) := by decide +kernel
theorem dX3_isPlaceRight_22 : decode cX3_isPlaceRight 22 = .ok (.ireturn, 1) := by decide +kernel
theorem dX3_goesOnAtC_0 : decode cX3_goesOnAtC 0 = .ok (.iload_n 0, 1) := by decide +kernel
theorem dX3_goesOnAtC_1 : decode cX3_goesOnAtC 1 = .ok (.bipush 9, 2) := by decide +kernel
theorem dX3_goesOnAtC_3 : decode cX3_goesOnAtC 3 = .ok (.if_icmp .eq 9, 3) := by decide +kernel
theorem dX3_goesOnAtC_6 : decode cX3_goesOnAtC 6 = .ok (.iload_n 0, 1) := by decide +kernel
theorem dX3_goesOnAtC_7 : decode cX3_goesOnAtC 7 = .ok (.bipush 10, 2) := by decide +kernel
theorem dX3_goesOnAtC_9 : decode cX3_goesOnAtC 9 = .ok (.if_icmp .ne 7, 3) := by decide +kernel
theorem dX3_goesOnAtC_12 : decode cX3_goesOnAtC 12 = .ok (.iconst 1, 1) := by decide +kernel
theorem dX3_goesOnAtC_13 : decode cX3_goesOnAtC 13 = .ok (.goto 4, 3) := by decide +kernel
theorem dX3_goesOnAtC_16 : decode cX3_goesOnAtC 16 = .ok (.iconst 0, 1) := by decide +kernel
theorem dX3_goesOnAtC_17 : decode cX3_goesOnAtC 17 = .ok (.ireturn, 1) := by decide +kernel
theorem dX3_forgetScan_0 : decode cX3_forgetScan 0 = .ok (.aload_n 0, 1) := by decide +kernel
theorem dX3_forgetScan_1 : decode cX3_forgetScan 1 = .ok (.iconst 0, 1) := by decide +kernel
theorem dX3_forgetScan_2 : decode cX3_forgetScan 2 = .ok (.putfield 17, 3) := by decide +kernel
theorem dX3_forgetScan_5 : decode cX3_forgetScan 5 = .ok (.aload_n 0, 1) := by decide +kernel
theorem dX3_forgetScan_6 : decode cX3_forgetScan 6 = .ok (.iconst 0, 1) := by decide +kernel
theorem dX3_forgetScan_7 : decode cX3_forgetScan 7 = .ok (.putfield 21, 3) := by decide +kernel
theorem dX3_forgetScan_10 : decode cX3_forgetScan 10 = .ok (.return_, 1) := by decide +kernel
set_option maxRecDepth 20000 in
theorem ggX3_isWhole_X3_areAllPlacesInside : GoodIn wsX3_isWhole wsX3_areAllPlacesInside := goodIn_r _ [7, 1, 2, 8, 9, 6, 10, 11, 12, 13, 14, 15, 16, 17, 18, 19, 20, 21, 22] (by decide +kernel) (by decide +kernel)
set_option maxRecDepth 20000 in
theorem gX3_isWhole_X3_areAllPlacesInside : GoodIn wsX3_isWhole (wsV RX3 108 RX3 yX3_areAllPlacesInside wsX3_areAllPlacesInside) := goodIn_app (goodIn_of _ (by decide +kernel)) ggX3_isWhole_X3_areAllPlacesInside
theorem dX3_isWhole_0 : decode cX3_isWhole 0 = .ok (.aload_n 0, 1) := by decide +kernel
theorem dX3_isWhole_1 : decode cX3_isWhole 1 = .ok (.getfield 13, 3) := by decide +kernel
theorem dX3_isWhole_4 : decode cX3_isWhole 4 = .ok (.ifCond .ne 5, 3) := by decide +kernel
theorem dX3_isWhole_7 : decode cX3_isWhole 7 = .ok (.iconst 0, 1) := by decide +kernel
theorem dX3_isWhole_8 : decode cX3_isWhole 8 = .ok (.ireturn, 1) := by decide +kernel
theorem dX3_isWhole_9 : decode cX3_isWhole 9 = .ok (.aload_n 0, 1) := by decide +kernel
theorem dX3_isWhole_10 : decode cX3_isWhole 10 = .ok (.getfield 9, 3) := by decide +kernel
theorem dX3_isWhole_13 : decode cX3_isWhole 13 = .ok (.aload_n 0, 1) := by decide +kernel
end
section
theorem dX3_isWhole_14 : decode cX3_isWhole 14 = .ok (.getfield 13, 3) := by decide +kernel
theorem dX3_isWhole_17 : decode cX3_isWhole 17 = .ok (.iconst 1, 1) := by decide +kernel
theorem dX3_isWhole_18 : decode cX3_isWhole 18 = .ok (.isub, 1) := by decide +kernel
theorem dX3_isWhole_19 : decode cX3_isWhole 19 = .ok (.iconst 4, 1) := by decide +kernel
theorem dX3_isWhole_20 : decode cX3_isWhole 20 = .ok (.imul, 1) := by decide +kernel
theorem dX3_isWhole_21 : decode cX3_isWhole 21 = .ok (.iconst 0, 1) := by decide +kernel
theorem dX3_isWhole_22 : decode cX3_isWhole 22 = .ok (.iadd, 1) := by decide +kernel
theorem dX3_isWhole_23 : decode cX3_isWhole 23 = .ok (.iaload, 1) := by decide +kernel
theorem dX3_isWhole_24 : decode cX3_isWhole 24 = .ok (.istore_n 1, 1) := by decide +kernel
theorem dX3_isWhole_25 : decode cX3_isWhole 25 = .ok (.iload_n 1, 1) := by decide +kernel
theorem dX3_isWhole_26 : decode cX3_isWhole 26 = .ok (.ifCond .eq 9, 3) := by decide +kernel
theorem dX3_isWhole_29 : decode cX3_isWhole 29 = .ok (.iload_n 1, 1) := by decide +kernel
theorem dX3_isWhole_30 : decode cX3_isWhole 30 = .ok (.bipush 10, 2) := by decide +kernel
theorem dX3_isWhole_32 : decode cX3_isWhole 32 = .ok (.if_icmp .ne 14, 3) := by decide +kernel
theorem dX3_isWhole_35 : decode cX3_isWhole 35 = .ok (.aload_n 0, 1) := by decide +kernel
theorem dX3_isWhole_36 : decode cX3_isWhole 36 = .ok (.invokevirtual 108, 3) := by decide +kernel
theorem dX3_isWhole_39 : decode cX3_isWhole 39 = .ok (.ifCond .eq 7, 3) := by decide +kernel
theorem dX3_isWhole_42 : decode cX3_isWhole 42 = .ok (.iconst 1, 1) := by decide +kernel
theorem dX3_isWhole_43 : decode cX3_isWhole 43 = .ok (.goto 4, 3) := by decide +kernel
theorem dX3_isWhole_46 : decode cX3_isWhole 46 = .ok (.iconst 0, 1) := by decide +kernel
theorem dX3_isWhole_47 : decode cX3_isWhole 47 = .ok (.ireturn, 1) := by decide +kernel
set_option maxRecDepth 20000 in
theorem ggX3_areAllPlacesInside_X3_goesOnAtC : GoodIn wsX3_areAllPlacesInside wsX3_goesOnAtC := goodIn_r _ [6] (by decide +kernel) (by decide +kernel)
set_option maxRecDepth 20000 in
theorem gX3_areAllPlacesInside_X3_goesOnAtC : GoodIn wsX3_areAllPlacesInside (va_wsS RX3 105 yX3_goesOnAtC wsX3_goesOnAtC) := goodIn_app (goodIn_of _ (by decide +kernel)) ggX3_areAllPlacesInside_X3_goesOnAtC
set_option maxRecDepth 20000 in
theorem ggX3_areAllPlacesInside_X3_isInstruction : GoodIn wsX3_areAllPlacesInside wsX3_isInstruction := goodIn_r _ [10, 1, 11, 12, 13, 14, 15, 16, 17, 18] (by decide +kernel) (by decide +kernel)
set_option maxRecDepth 20000 in
theorem gX3_areAllPlacesInside_X3_isInstruction : GoodIn wsX3_areAllPlacesInside (wsV RX3 59 RX3 yX3_isInstruction wsX3_isInstruction) := goodIn_app (goodIn_of _ (by decide +kernel)) ggX3_areAllPlacesInside_X3_isInstruction
theorem dX3_areAllPlacesInside_0 : decode cX3_areAllPlacesInside 0 = .ok (.iconst 0, 1) := by decide +kernel
theorem dX3_areAllPlacesInside_1 : decode cX3_areAllPlacesInside 1 = .ok (.istore_n 1, 1) := by decide +kernel
theorem dX3_areAllPlacesInside_2 : decode cX3_areAllPlacesInside 2 = .ok (.iload_n 1, 1) := by decide +kernel
theorem dX3_areAllPlacesInside_3 : decode cX3_areAllPlacesInside 3 = .ok (.aload_n 0, 1) := by decide +kernel
theorem dX3_areAllPlacesInside_4 : decode cX3_areAllPlacesInside 4 = .ok (.getfield 13, 3) := by decide +kernel
theorem dX3_areAllPlacesInside_7 : decode cX3_areAllPlacesInside 7 = .ok (.if_icmp .ge 44, 3) := by decide +kernel
theorem dX3_areAllPlacesInside_10 : decode cX3_areAllPlacesInside 10 = .ok (.iload_n 1, 1) := by decide +kernel
theorem dX3_areAllPlacesInside_11 : decode cX3_areAllPlacesInside 11 = .ok (.iconst 4, 1) := by decide +kernel
theorem dX3_areAllPlacesInside_12 : decode cX3_areAllPlacesInside 12 = .ok (.imul, 1) := by decide +kernel
theorem dX3_areAllPlacesInside_13 : decode cX3_areAllPlacesInside 13 = .ok (.istore_n 2, 1) := by decide +kernel
theorem dX3_areAllPlacesInside_14 : decode cX3_areAllPlacesInside 14 = .ok (.aload_n 0, 1) := by decide +kernel
theorem dX3_areAllPlacesInside_15 : decode cX3_areAllPlacesInside 15 = .ok (.getfield 9, 3) := by decide +kernel
theorem dX3_areAllPlacesInside_18 : decode cX3_areAllPlacesInside 18 = .ok (.iload_n 2, 1) := by decide +kernel
theorem dX3_areAllPlacesInside_19 : decode cX3_areAllPlacesInside 19 = .ok (.iconst 0, 1) := by decide +kernel
theorem dX3_areAllPlacesInside_20 : decode cX3_areAllPlacesInside 20 = .ok (.iadd, 1) := by decide +kernel
theorem dX3_areAllPlacesInside_21 : decode cX3_areAllPlacesInside 21 = .ok (.iaload, 1) := by decide +kernel
theorem dX3_areAllPlacesInside_22 : decode cX3_areAllPlacesInside 22 = .ok (.invokestatic 105, 3) := by decide +kernel
theorem dX3_areAllPlacesInside_25 : decode cX3_areAllPlacesInside 25 = .ok (.ifCond .eq 20, 3) := by decide +kernel
theorem dX3_areAllPlacesInside_28 : decode cX3_areAllPlacesInside 28 = .ok (.aload_n 0, 1) := by decide +kernel
theorem dX3_areAllPlacesInside_29 : decode cX3_areAllPlacesInside 29 = .ok (.aload_n 0, 1) := by decide +kernel
theorem dX3_areAllPlacesInside_30 : decode cX3_areAllPlacesInside 30 = .ok (.getfield 9, 3) := by decide +kernel
theorem dX3_areAllPlacesInside_33 : decode cX3_areAllPlacesInside 33 = .ok (.iload_n 2, 1) := by decide +kernel
theorem dX3_areAllPlacesInside_34 : decode cX3_areAllPlacesInside 34 = .ok (.iconst 3, 1) := by decide +kernel
theorem dX3_areAllPlacesInside_35 : decode cX3_areAllPlacesInside 35 = .ok (.iadd, 1) := by decide +kernel
theorem dX3_areAllPlacesInside_36 : decode cX3_areAllPlacesInside 36 = .ok (.iaload, 1) := by decide +kernel
theorem dX3_areAllPlacesInside_37 : decode cX3_areAllPlacesInside 37 = .ok (.invokevirtual 59, 3) := by decide +kernel
theorem dX3_areAllPlacesInside_40 : decode cX3_areAllPlacesInside 40 = .ok (.ifCond .ne 5, 3) := by decide +kernel
theorem dX3_areAllPlacesInside_43 : decode cX3_areAllPlacesInside 43 = .ok (.iconst 0, 1) := by decide +kernel
theorem dX3_areAllPlacesInside_44 : decode cX3_areAllPlacesInside 44 = .ok (.ireturn, 1) := by decide +kernel
theorem dX3_areAllPlacesInside_45 : decode cX3_areAllPlacesInside 45 = .ok (.iinc 1 1, 3) := by decide +kernel
theorem dX3_areAllPlacesInside_48 : decode cX3_areAllPlacesInside 48 = .ok (.goto (-46), 3) := by decide +kernel
theorem dX3_areAllPlacesInside_51 : decode cX3_areAllPlacesInside 51 = .ok (.iconst 1, 1) := by decide +kernel
theorem dX3_areAllPlacesInside_52 : decode cX3_areAllPlacesInside 52 = .ok (.ireturn, 1) := by decide +kernel
set_option maxRecDepth 20000 in
theorem ggX3_runRound_X2_isSomewhere : GoodIn wsX3_runRound wsX2_isSomewhere := goodIn_r _ [7, 8, 174, 175, 176] (by decide +kernel) (by decide +kernel)
set_option maxRecDepth 20000 in
theorem gX3_runRound_X2_isSomewhere : GoodIn wsX3_runRound (wsV RX3 80 RX2 yX2_isSomewhere wsX2_isSomewhere) := goodIn_app (goodIn_of _ (by decide +kernel)) ggX3_runRound_X2_isSomewhere
set_option maxRecDepth 20000 in
theorem ggX3_runRound_X3_sendFlows : GoodIn wsX3_runRound wsX3_sendFlows := goodIn_r _ [13, 14, 15, 16, 17, 18, 12, 19, 2, 20, 21, 22, 23, 24, 6, 25, 26, 27, 28, 29, 30, 31, 32, 33, 34, 35, 36, 37, 38, 39, 40, 41, 42, 43, 44, 45, 46, 47, 48, 49, 50, 51, 52, 53, 54, 55, 56, 57, 58, 59, 60, 61, 62, 63, 64, 65, 66, 67, 68, 69, 70, 71, 72, 73, 74, 75, 76, 77, 78, 79, 80, 81, 82, 83, 84, 85, 86, 87, 88, 89, 90, 91, 92, 93, 94, 95, 96, 97, 98, 99, 100, 101, 102, 103, 104, 105, 106, 107, 108, 109, 110, 111, 112, 113, 114, 115, 116, 117, 118, 119, 120, 121, 122, 123, 124, 125, 126, 127, 128, 129, 130, 131, 132, 133, 134, 135, 136, 137, 138, 139, 140, 141, 8, 142, 143, 144, 145, 146, 147, 148, 149, 150, 151, 152, 153, 154, 155, 156, 157, 158, 159, 160, 161, 162, 163, 164, 165, 166, 167, 168, 169, 170, 171, 172, 173, 177, 178, 179, 174, 175, 176, 180, 181, 182] (by decide +kernel) (by decide +kernel)
set_option maxRecDepth 20000 in
theorem gX3_runRound_X3_sendFlows : GoodIn wsX3_runRound (wsV RX3 111 RX3 yX3_sendFlows wsX3_sendFlows) := goodIn_app (goodIn_of _ (by decide +kernel)) ggX3_runRound_X3_sendFlows
theorem dX3_runRound_0 : decode cX3_runRound 0 = .ok (.iconst 0, 1) := by decide +kernel
theorem dX3_runRound_1 : decode cX3_runRound 1 = .ok (.istore_n 1, 1) := by decide +kernel
theorem dX3_runRound_2 : decode cX3_runRound 2 = .ok (.iconst 0, 1) := by decide +kernel
theorem dX3_runRound_3 : decode cX3_runRound 3 = .ok (.istore_n 2, 1) := by decide +kernel
theorem dX3_runRound_4 : decode cX3_runRound 4 = .ok (.iload_n 2, 1) := by decide +kernel
theorem dX3_runRound_5 : decode cX3_runRound 5 = .ok (.aload_n 0, 1) := by decide +kernel
theorem dX3_runRound_6 : decode cX3_runRound 6 = .ok (.getfield 13, 3) := by decide +kernel
theorem dX3_runRound_9 : decode cX3_runRound 9 = .ok (.if_icmp .ge 35, 3) := by decide +kernel
theorem dX3_runRound_12 : decode cX3_runRound 12 = .ok (.aload_n 0, 1) := by decide +kernel
theorem dX3_runRound_13 : decode cX3_runRound 13 = .ok (.getfield 27, 3) := by decide +kernel
theorem dX3_runRound_16 : decode cX3_runRound 16 = .ok (.iload_n 2, 1) := by decide +kernel
theorem dX3_runRound_17 : decode cX3_runRound 17 = .ok (.invokevirtual 80, 3) := by decide +kernel
theorem dX3_runRound_20 : decode cX3_runRound 20 = .ok (.ifCond .eq 18, 3) := by decide +kernel
theorem dX3_runRound_23 : decode cX3_runRound 23 = .ok (.aload_n 0, 1) := by decide +kernel
theorem dX3_runRound_24 : decode cX3_runRound 24 = .ok (.iload_n 2, 1) := by decide +kernel
theorem dX3_runRound_25 : decode cX3_runRound 25 = .ok (.aload_n 0, 1) := by decide +kernel
theorem dX3_runRound_26 : decode cX3_runRound 26 = .ok (.getfield 27, 3) := by decide +kernel
theorem dX3_runRound_29 : decode cX3_runRound 29 = .ok (.iconst 1, 1) := by decide +kernel
theorem dX3_runRound_30 : decode cX3_runRound 30 = .ok (.invokevirtual 111, 3) := by decide +kernel
theorem dX3_runRound_33 : decode cX3_runRound 33 = .ok (.ifCond .eq 5, 3) := by decide +kernel
theorem dX3_runRound_36 : decode cX3_runRound 36 = .ok (.iconst 1, 1) := by decide +kernel
theorem dX3_runRound_37 : decode cX3_runRound 37 = .ok (.istore_n 1, 1) := by decide +kernel
theorem dX3_runRound_38 : decode cX3_runRound 38 = .ok (.iinc 2 1, 3) := by decide +kernel
theorem dX3_runRound_41 : decode cX3_runRound 41 = .ok (.goto (-37), 3) := by decide +kernel
theorem dX3_runRound_44 : decode cX3_runRound 44 = .ok (.iload_n 1, 1) := by decide +kernel
theorem dX3_runRound_45 : decode cX3_runRound 45 = .ok (.ireturn, 1) := by decide +kernel
set_option maxRecDepth 20000 in
theorem ggX3_settle_X2_begin : GoodIn wsX3_settle wsX2_begin := goodIn_r _ [8, 9, 10, 11, 179, 180, 181] (by decide +kernel) (by decide +kernel)
set_option maxRecDepth 20000 in
theorem gX3_settle_X2_begin : GoodIn wsX3_settle (wsV RX3 67 RX2 yX2_begin wsX2_begin) := goodIn_app (goodIn_of _ (by decide +kernel)) ggX3_settle_X2_begin
set_option maxRecDepth 20000 in
theorem ggX3_settle_X2_isSomewhere : GoodIn wsX3_settle wsX2_isSomewhere := goodIn_r _ [15, 9, 179, 180, 181] (by decide +kernel) (by decide +kernel)
set_option maxRecDepth 20000 in
theorem gX3_settle_X2_isSomewhere : GoodIn wsX3_settle (wsV RX3 80 RX2 yX2_isSomewhere wsX2_isSomewhere) := goodIn_app (goodIn_of _ (by decide +kernel)) ggX3_settle_X2_isSomewhere
set_option maxRecDepth 20000 in
theorem ggX3_settle_X3_sendFlows : GoodIn wsX3_settle wsX3_sendFlows := goodIn_r _ [20, 21, 22, 23, 24, 25, 19, 26, 3, 27, 28, 29, 30, 31, 7, 32, 33, 34, 35, 36, 37, 38, 39, 40, 41, 42, 10, 43, 44, 45, 46, 11, 47, 48, 49, 50, 51, 52, 53, 54, 55, 56, 57, 58, 59, 60, 61, 62, 63, 64, 65, 66, 67, 68, 69, 70, 71, 72, 73, 74, 75, 76, 77, 78, 79, 80, 81, 82, 83, 84, 85, 86, 87, 88, 89, 90, 91, 92, 93, 94, 95, 96, 97, 98, 99, 100, 101, 102, 103, 104, 105, 106, 107, 108, 109, 110, 111, 112, 113, 114, 115, 116, 117, 118, 119, 120, 121, 122, 123, 124, 125, 126, 127, 128, 129, 130, 131, 132, 133, 134, 135, 136, 137, 138, 139, 140, 141, 142, 143, 144, 145, 146, 9, 147, 148, 149, 150, 151, 152, 153, 154, 155, 156, 157, 158, 159, 160, 161, 162, 163, 164, 165, 166, 167, 168, 169, 170, 171, 172, 173, 174, 175, 176, 177, 178, 182, 183, 184, 179, 180, 181, 185, 186, 187] (by decide +kernel) (by decide +kernel)
set_option maxRecDepth 20000 in
theorem gX3_settle_X3_sendFlows : GoodIn wsX3_settle (wsV RX3 111 RX3 yX3_sendFlows wsX3_sendFlows) := goodIn_app (goodIn_of _ (by decide +kernel)) ggX3_settle_X3_sendFlows
theorem dX3_settle_0 : decode cX3_settle 0 = .ok (.aload_n 0, 1) := by decide +kernel
theorem dX3_settle_1 : decode cX3_settle 1 = .ok (.getfield 31, 3) := by decide +kernel
theorem dX3_settle_4 : decode cX3_settle 4 = .ok (.invokevirtual 67, 3) := by decide +kernel
theorem dX3_settle_7 : decode cX3_settle 7 = .ok (.iconst 0, 1) := by decide +kernel
theorem dX3_settle_8 : decode cX3_settle 8 = .ok (.istore_n 1, 1) := by decide +kernel
theorem dX3_settle_9 : decode cX3_settle 9 = .ok (.iload_n 1, 1) := by decide +kernel
theorem dX3_settle_10 : decode cX3_settle 10 = .ok (.aload_n 0, 1) := by decide +kernel
theorem dX3_settle_11 : decode cX3_settle 11 = .ok (.getfield 13, 3) := by decide +kernel
theorem dX3_settle_14 : decode cX3_settle 14 = .ok (.if_icmp .ge 31, 3) := by decide +kernel
theorem dX3_settle_17 : decode cX3_settle 17 = .ok (.aload_n 0, 1) := by decide +kernel
theorem dX3_settle_18 : decode cX3_settle 18 = .ok (.getfield 27, 3) := by decide +kernel
theorem dX3_settle_21 : decode cX3_settle 21 = .ok (.iload_n 1, 1) := by decide +kernel
theorem dX3_settle_22 : decode cX3_settle 22 = .ok (.invokevirtual 80, 3) := by decide +kernel
theorem dX3_settle_25 : decode cX3_settle 25 = .ok (.ifCond .eq 14, 3) := by decide +kernel
theorem dX3_settle_28 : decode cX3_settle 28 = .ok (.aload_n 0, 1) := by decide +kernel
theorem dX3_settle_29 : decode cX3_settle 29 = .ok (.iload_n 1, 1) := by decide +kernel
theorem dX3_settle_30 : decode cX3_settle 30 = .ok (.aload_n 0, 1) := by decide +kernel
theorem dX3_settle_31 : decode cX3_settle 31 = .ok (.getfield 31, 3) := by decide +kernel
theorem dX3_settle_34 : decode cX3_settle 34 = .ok (.iconst 0, 1) := by decide +kernel
theorem dX3_settle_35 : decode cX3_settle 35 = .ok (.invokevirtual 111, 3) := by decide +kernel
theorem dX3_settle_38 : decode cX3_settle 38 = .ok (.pop, 1) := by decide +kernel
theorem dX3_settle_39 : decode cX3_settle 39 = .ok (.iinc 1 1, 3) := by decide +kernel
theorem dX3_settle_42 : decode cX3_settle 42 = .ok (.goto (-33), 3) := by decide +kernel
theorem dX3_settle_45 : decode cX3_settle 45 = .ok (.return_, 1) := by decide +kernel
set_option maxRecDepth 20000 in
theorem ggX3_sendFlows_X3_makeFlowToNext : GoodIn wsX3_sendFlows wsX3_makeFlowToNext := goodIn_r _ [7, 2, 8, 1, 9, 10, 11, 12, 13, 14, 15, 16, 17, 18, 19, 20, 21, 22, 23, 24, 25, 26, 27, 28, 29, 30, 31, 32, 33, 34, 35, 36, 37, 38, 39, 40, 41, 42, 43, 44, 45, 46, 47, 48, 49, 6, 50, 51, 52, 53, 54, 55, 56, 57, 58, 59, 60, 61, 62, 63, 64, 65, 66, 67, 68, 69, 70, 71, 72, 73, 74, 75, 76, 77, 78, 79, 80, 81, 82, 83, 84, 85, 86, 87, 88, 89, 90, 91, 92, 93, 94, 95, 96, 97, 98, 99, 100, 101, 102, 103, 104, 105, 106, 107, 108, 109, 110, 111, 112, 113, 114, 115, 116, 117, 118, 119, 120, 121, 122, 123, 124, 125, 126, 127, 157, 158, 159, 160, 161, 162, 163, 164, 165, 166, 167, 168, 169, 170, 171, 172, 173] (by decide +kernel) (by decide +kernel)
set_option maxRecDepth 20000 in
theorem gX3_sendFlows_X3_makeFlowToNext : GoodIn wsX3_sendFlows (wsV RX3 115 RX3 yX3_makeFlowToNext wsX3_makeFlowToNext) := goodIn_app (goodIn_of _ (by decide +kernel)) ggX3_sendFlows_X3_makeFlowToNext
set_option maxRecDepth 20000 in
theorem ggX3_sendFlows_X2_take : GoodIn wsX3_sendFlows wsX2_take := goodIn_r _ [131, 132, 133, 134, 135, 19, 136, 21, 137, 138, 139, 14, 140, 26, 31, 141, 40, 41, 42, 36, 142, 44, 45, 46, 37, 143, 144, 145, 146, 147, 148, 168, 169, 170, 165, 166, 167] (by decide +kernel) (by decide +kernel)
set_option maxRecDepth 20000 in
theorem gX3_sendFlows_X2_take : GoodIn wsX3_sendFlows (wsV RX3 119 RX2 yX2_take wsX2_take) := goodIn_app (goodIn_of _ (by decide +kernel)) ggX3_sendFlows_X2_take
set_option maxRecDepth 20000 in
theorem ggX3_sendFlows_X3_makeFlowToPlace : GoodIn wsX3_sendFlows wsX3_makeFlowToPlace := goodIn_r _ [152, 8, 1, 2, 11, 12, 13, 14, 15, 16, 17, 18, 19, 20, 21, 22, 23, 24, 25, 26, 27, 28, 29, 30, 31, 32, 33, 34, 35, 36, 37, 153, 154, 155, 6, 156, 87, 88, 89, 90, 43, 44, 45, 46, 123, 124, 125, 126, 127, 54, 55, 56, 119, 120, 121, 122, 39, 40, 41, 42, 114, 115, 116, 117, 118, 58, 59, 157, 158, 159, 160, 161, 162, 163, 164, 165, 166, 167, 168, 169, 170] (by decide +kernel) (by decide +kernel)
set_option maxRecDepth 20000 in
theorem gX3_sendFlows_X3_makeFlowToPlace : GoodIn wsX3_sendFlows (wsV RX3 123 RX3 yX3_makeFlowToPlace wsX3_makeFlowToPlace) := goodIn_app (goodIn_of _ (by decide +kernel)) ggX3_sendFlows_X3_makeFlowToPlace
theorem dX3_sendFlows_0 : decode cX3_sendFlows 0 = .ok (.aload_n 0, 1) := by decide +kernel
theorem dX3_sendFlows_1 : decode cX3_sendFlows 1 = .ok (.iload_n 1, 1) := by decide +kernel
theorem dX3_sendFlows_2 : decode cX3_sendFlows 2 = .ok (.invokevirtual 115, 3) := by decide +kernel
theorem dX3_sendFlows_5 : decode cX3_sendFlows 5 = .ok (.aload_n 2, 1) := by decide +kernel
theorem dX3_sendFlows_6 : decode cX3_sendFlows 6 = .ok (.iload_n 1, 1) := by decide +kernel
theorem dX3_sendFlows_7 : decode cX3_sendFlows 7 = .ok (.iconst 1, 1) := by decide +kernel
theorem dX3_sendFlows_8 : decode cX3_sendFlows 8 = .ok (.iadd, 1) := by decide +kernel
theorem dX3_sendFlows_9 : decode cX3_sendFlows 9 = .ok (.aload_n 0, 1) := by decide +kernel
theorem dX3_sendFlows_10 : decode cX3_sendFlows 10 = .ok (.getfield 37, 3) := by decide +kernel
theorem dX3_sendFlows_13 : decode cX3_sendFlows 13 = .ok (.iconst 0, 1) := by decide +kernel
theorem dX3_sendFlows_14 : decode cX3_sendFlows 14 = .ok (.invokevirtual 119, 3) := by decide +kernel
theorem dX3_sendFlows_17 : decode cX3_sendFlows 17 = .ok (.istore 4, 2) := by decide +kernel
theorem dX3_sendFlows_19 : decode cX3_sendFlows 19 = .ok (.aload_n 0, 1) := by decide +kernel
theorem dX3_sendFlows_20 : decode cX3_sendFlows 20 = .ok (.iload_n 1, 1) := by decide +kernel
theorem dX3_sendFlows_21 : decode cX3_sendFlows 21 = .ok (.invokevirtual 123, 3) := by decide +kernel
theorem dX3_sendFlows_24 : decode cX3_sendFlows 24 = .ok (.aload_n 0, 1) := by decide +kernel
theorem dX3_sendFlows_25 : decode cX3_sendFlows 25 = .ok (.getfield 9, 3) := by decide +kernel
theorem dX3_sendFlows_28 : decode cX3_sendFlows 28 = .ok (.iload_n 1, 1) := by decide +kernel
theorem dX3_sendFlows_29 : decode cX3_sendFlows 29 = .ok (.iconst 4, 1) := by decide +kernel
theorem dX3_sendFlows_30 : decode cX3_sendFlows 30 = .ok (.imul, 1) := by decide +kernel
theorem dX3_sendFlows_31 : decode cX3_sendFlows 31 = .ok (.iconst 3, 1) := by decide +kernel
theorem dX3_sendFlows_32 : decode cX3_sendFlows 32 = .ok (.iadd, 1) := by decide +kernel
theorem dX3_sendFlows_33 : decode cX3_sendFlows 33 = .ok (.iaload, 1) := by decide +kernel
theorem dX3_sendFlows_34 : decode cX3_sendFlows 34 = .ok (.istore 5, 2) := by decide +kernel
theorem dX3_sendFlows_36 : decode cX3_sendFlows 36 = .ok (.aload_n 2, 1) := by decide +kernel
theorem dX3_sendFlows_37 : decode cX3_sendFlows 37 = .ok (.iload 5, 2) := by decide +kernel
theorem dX3_sendFlows_39 : decode cX3_sendFlows 39 = .ok (.aload_n 0, 1) := by decide +kernel
theorem dX3_sendFlows_40 : decode cX3_sendFlows 40 = .ok (.getfield 37, 3) := by decide +kernel
theorem dX3_sendFlows_43 : decode cX3_sendFlows 43 = .ok (.iload_n 3, 1) := by decide +kernel
theorem dX3_sendFlows_44 : decode cX3_sendFlows 44 = .ok (.ifCond .eq 13, 3) := by decide +kernel
theorem dX3_sendFlows_47 : decode cX3_sendFlows 47 = .ok (.iload 5, 2) := by decide +kernel
theorem dX3_sendFlows_49 : decode cX3_sendFlows 49 = .ok (.iload_n 1, 1) := by decide +kernel
theorem dX3_sendFlows_50 : decode cX3_sendFlows 50 = .ok (.if_icmp .gt 7, 3) := by decide +kernel
theorem dX3_sendFlows_53 : decode cX3_sendFlows 53 = .ok (.iconst 1, 1) := by decide +kernel
theorem dX3_sendFlows_54 : decode cX3_sendFlows 54 = .ok (.goto 4, 3) := by decide +kernel
theorem dX3_sendFlows_57 : decode cX3_sendFlows 57 = .ok (.iconst 0, 1) := by decide +kernel
theorem dX3_sendFlows_58 : decode cX3_sendFlows 58 = .ok (.invokevirtual 119, 3) := by decide +kernel
theorem dX3_sendFlows_61 : decode cX3_sendFlows 61 = .ok (.istore 6, 2) := by decide +kernel
theorem dX3_sendFlows_63 : decode cX3_sendFlows 63 = .ok (.iload 4, 2) := by decide +kernel
theorem dX3_sendFlows_65 : decode cX3_sendFlows 65 = .ok (.ifCond .ne 8, 3) := by decide +kernel
theorem dX3_sendFlows_68 : decode cX3_sendFlows 68 = .ok (.iload 6, 2) := by decide +kernel
theorem dX3_sendFlows_70 : decode cX3_sendFlows 70 = .ok (.ifCond .eq 7, 3) := by decide +kernel
theorem dX3_sendFlows_73 : decode cX3_sendFlows 73 = .ok (.iconst 1, 1) := by decide +kernel
theorem dX3_sendFlows_74 : decode cX3_sendFlows 74 = .ok (.goto 4, 3) := by decide +kernel
theorem dX3_sendFlows_77 : decode cX3_sendFlows 77 = .ok (.iconst 0, 1) := by decide +kernel
theorem dX3_sendFlows_78 : decode cX3_sendFlows 78 = .ok (.ireturn, 1) := by decide +kernel
set_option maxRecDepth 20000 in
theorem ggX3_makeFlowToNext_X2_copyTo : GoodIn wsX3_makeFlowToNext wsX2_copyTo := goodIn_r _ [10, 11, 12, 13, 14, 15, 16, 17, 18, 19, 9, 20, 21, 22, 23, 24, 25, 26, 27, 28, 29, 30, 31, 32, 132, 133, 134, 135, 136, 137] (by decide +kernel) (by decide +kernel)
set_option maxRecDepth 20000 in
theorem gX3_makeFlowToNext_X2_copyTo : GoodIn wsX3_makeFlowToNext (wsV RX3 126 RX2 yX2_copyTo wsX2_copyTo) := goodIn_app (goodIn_of _ (by decide +kernel)) ggX3_makeFlowToNext_X2_copyTo
set_option maxRecDepth 20000 in
theorem ggX3_makeFlowToNext_X0_put : GoodIn wsX3_makeFlowToNext wsX0_put := goodIn_r _ [30, 31, 32, 132, 133, 134] (by decide +kernel) (by decide +kernel)
set_option maxRecDepth 20000 in
theorem gX3_makeFlowToNext_X0_put : GoodIn wsX3_makeFlowToNext (wsV RX3 130 RX0 yX0_put wsX0_put) := goodIn_app (goodIn_of _ (by decide +kernel)) ggX3_makeFlowToNext_X0_put
set_option maxRecDepth 20000 in
theorem ggX3_makeFlowToNext_X0_lowOf : GoodIn wsX3_makeFlowToNext wsX0_lowOf := goodIn_r _ [37, 31, 132, 133, 134] (by decide +kernel) (by decide +kernel)
set_option maxRecDepth 20000 in
theorem gX3_makeFlowToNext_X0_lowOf : GoodIn wsX3_makeFlowToNext (wsV RX3 134 RX0 yX0_lowOf wsX0_lowOf) := goodIn_app (goodIn_of _ (by decide +kernel)) ggX3_makeFlowToNext_X0_lowOf
set_option maxRecDepth 20000 in
theorem ggX3_makeFlowToNext_X0_highOf : GoodIn wsX3_makeFlowToNext wsX0_highOf := goodIn_r _ [41, 32, 132, 133, 134] (by decide +kernel) (by decide +kernel)
set_option maxRecDepth 20000 in
theorem gX3_makeFlowToNext_X0_highOf : GoodIn wsX3_makeFlowToNext (wsV RX3 137 RX0 yX0_highOf wsX0_highOf) := goodIn_app (goodIn_of _ (by decide +kernel)) ggX3_makeFlowToNext_X0_highOf
set_option maxRecDepth 20000 in
theorem ggX3_makeFlowToNext_X3_calculate : GoodIn wsX3_makeFlowToNext wsX3_calculate := goodIn_r _ [46, 3, 47, 48, 49, 50, 51, 52, 53, 54, 55, 34, 35, 36, 14, 37, 31, 38, 39, 40, 41, 32, 56, 57, 58, 59, 60, 61, 62, 63, 64, 45, 65, 66, 67, 68, 69, 70, 71, 72, 73, 74, 124, 125, 126, 127, 128, 129, 130, 131, 132, 133, 134, 138, 139, 140] (by decide +kernel) (by decide +kernel)
set_option maxRecDepth 20000 in
theorem gX3_makeFlowToNext_X3_calculate : GoodIn wsX3_makeFlowToNext (wsV RX3 139 RX3 yX3_calculate wsX3_calculate) := goodIn_app (goodIn_of _ (by decide +kernel)) ggX3_makeFlowToNext_X3_calculate
set_option maxRecDepth 20000 in
theorem ggX3_makeFlowToNext_X3_putResults : GoodIn wsX3_makeFlowToNext wsX3_putResults := goodIn_r _ [78, 47, 3, 4, 5, 79, 80, 81, 59, 82, 61, 83, 84, 85, 14, 86, 16, 87, 88, 89, 90, 73, 74, 91, 92, 93, 94, 95, 96, 97, 98, 99, 100, 33, 28, 29, 30, 31, 32, 124, 125, 126, 127, 128, 129, 130, 131, 138, 139, 140, 132, 133, 134] (by decide +kernel) (by decide +kernel)
set_option maxRecDepth 20000 in
theorem gX3_makeFlowToNext_X3_putResults : GoodIn wsX3_makeFlowToNext (wsV RX3 143 RX3 yX3_putResults wsX3_putResults) := goodIn_app (goodIn_of _ (by decide +kernel)) ggX3_makeFlowToNext_X3_putResults
set_option maxRecDepth 20000 in
theorem ggX3_makeFlowToNext_X3_stopOutsideArray : GoodIn wsX3_makeFlowToNext wsX3_stopOutsideArray := goodIn_r _ [104, 3, 105, 38, 39, 40, 14, 41, 32, 34, 35, 36, 37, 31, 83, 84, 85, 86, 16, 124, 125, 126, 127, 128, 129, 130, 131, 132, 133, 134] (by decide +kernel) (by decide +kernel)
set_option maxRecDepth 20000 in
theorem gX3_makeFlowToNext_X3_stopOutsideArray : GoodIn wsX3_makeFlowToNext (wsV RX3 146 RX3 yX3_stopOutsideArray wsX3_stopOutsideArray) := goodIn_app (goodIn_of _ (by decide +kernel)) ggX3_makeFlowToNext_X3_stopOutsideArray
set_option maxRecDepth 20000 in
theorem ggX3_makeFlowToNext_X3_keepNotLess : GoodIn wsX3_makeFlowToNext wsX3_keepNotLess := goodIn_r _ [109, 3, 34, 35, 36, 14, 37, 31, 110, 111, 112, 113, 114, 54, 51, 55, 115, 116, 117, 118, 32, 16, 38, 39, 40, 41, 119, 120, 121, 122, 123, 50, 52, 124, 125, 126, 127, 128, 129, 130, 131, 132, 133, 134] (by decide +kernel) (by decide +kernel)
set_option maxRecDepth 20000 in
theorem gX3_makeFlowToNext_X3_keepNotLess : GoodIn wsX3_makeFlowToNext (wsV RX3 153 RX3 yX3_keepNotLess wsX3_keepNotLess) := goodIn_app (goodIn_of _ (by decide +kernel)) ggX3_makeFlowToNext_X3_keepNotLess
set_option maxRecDepth 20000 in
theorem ggX3_makeFlowToNext_X0_stop : GoodIn wsX3_makeFlowToNext wsX0_stop := goodIn_r _ [86, 16, 132, 133, 134] (by decide +kernel) (by decide +kernel)
set_option maxRecDepth 20000 in
theorem gX3_makeFlowToNext_X0_stop : GoodIn wsX3_makeFlowToNext (wsV RX3 157 RX0 yX0_stop wsX0_stop) := goodIn_app (goodIn_of _ (by decide +kernel)) ggX3_makeFlowToNext_X0_stop
theorem dX3_makeFlowToNext_0 : decode cX3_makeFlowToNext 0 = .ok (.iload_n 1, 1) := by decide +kernel
theorem dX3_makeFlowToNext_1 : decode cX3_makeFlowToNext 1 = .ok (.iconst 4, 1) := by decide +kernel
theorem dX3_makeFlowToNext_2 : decode cX3_makeFlowToNext 2 = .ok (.imul, 1) := by decide +kernel
theorem dX3_makeFlowToNext_3 : decode cX3_makeFlowToNext 3 = .ok (.istore_n 2, 1) := by decide +kernel
theorem dX3_makeFlowToNext_4 : decode cX3_makeFlowToNext 4 = .ok (.aload_n 0, 1) := by decide +kernel
theorem dX3_makeFlowToNext_5 : decode cX3_makeFlowToNext 5 = .ok (.getfield 9, 3) := by decide +kernel
theorem dX3_makeFlowToNext_8 : decode cX3_makeFlowToNext 8 = .ok (.iload_n 2, 1) := by decide +kernel
theorem dX3_makeFlowToNext_9 : decode cX3_makeFlowToNext 9 = .ok (.iconst 0, 1) := by decide +kernel
theorem dX3_makeFlowToNext_10 : decode cX3_makeFlowToNext 10 = .ok (.iadd, 1) := by decide +kernel
theorem dX3_makeFlowToNext_11 : decode cX3_makeFlowToNext 11 = .ok (.iaload, 1) := by decide +kernel
theorem dX3_makeFlowToNext_12 : decode cX3_makeFlowToNext 12 = .ok (.istore_n 3, 1) := by decide +kernel
theorem dX3_makeFlowToNext_13 : decode cX3_makeFlowToNext 13 = .ok (.aload_n 0, 1) := by decide +kernel
theorem dX3_makeFlowToNext_14 : decode cX3_makeFlowToNext 14 = .ok (.getfield 9, 3) := by decide +kernel
theorem dX3_makeFlowToNext_17 : decode cX3_makeFlowToNext 17 = .ok (.iload_n 2, 1) := by decide +kernel
theorem dX3_makeFlowToNext_18 : decode cX3_makeFlowToNext 18 = .ok (.iconst 1, 1) := by decide +kernel
theorem dX3_makeFlowToNext_19 : decode cX3_makeFlowToNext 19 = .ok (.iadd, 1) := by decide +kernel
theorem dX3_makeFlowToNext_20 : decode cX3_makeFlowToNext 20 = .ok (.iaload, 1) := by decide +kernel
theorem dX3_makeFlowToNext_21 : decode cX3_makeFlowToNext 21 = .ok (.istore 4, 2) := by decide +kernel
theorem dX3_makeFlowToNext_23 : decode cX3_makeFlowToNext 23 = .ok (.aload_n 0, 1) := by decide +kernel
theorem dX3_makeFlowToNext_24 : decode cX3_makeFlowToNext 24 = .ok (.getfield 9, 3) := by decide +kernel
theorem dX3_makeFlowToNext_27 : decode cX3_makeFlowToNext 27 = .ok (.iload_n 2, 1) := by decide +kernel
theorem dX3_makeFlowToNext_28 : decode cX3_makeFlowToNext 28 = .ok (.iconst 2, 1) := by decide +kernel
theorem dX3_makeFlowToNext_29 : decode cX3_makeFlowToNext 29 = .ok (.iadd, 1) := by decide +kernel
theorem dX3_makeFlowToNext_30 : decode cX3_makeFlowToNext 30 = .ok (.iaload, 1) := by decide +kernel
theorem dX3_makeFlowToNext_31 : decode cX3_makeFlowToNext 31 = .ok (.istore 5, 2) := by decide +kernel
theorem dX3_makeFlowToNext_33 : decode cX3_makeFlowToNext 33 = .ok (.aload_n 0, 1) := by decide +kernel
theorem dX3_makeFlowToNext_34 : decode cX3_makeFlowToNext 34 = .ok (.getfield 27, 3) := by decide +kernel
theorem dX3_makeFlowToNext_37 : decode cX3_makeFlowToNext 37 = .ok (.aload_n 0, 1) := by decide +kernel
theorem dX3_makeFlowToNext_38 : decode cX3_makeFlowToNext 38 = .ok (.getfield 37, 3) := by decide +kernel
theorem dX3_makeFlowToNext_41 : decode cX3_makeFlowToNext 41 = .ok (.iload_n 1, 1) := by decide +kernel
theorem dX3_makeFlowToNext_42 : decode cX3_makeFlowToNext 42 = .ok (.invokevirtual 126, 3) := by decide +kernel
theorem dX3_makeFlowToNext_45 : decode cX3_makeFlowToNext 45 = .ok (.iload_n 3, 1) := by decide +kernel
theorem dX3_makeFlowToNext_46 : decode cX3_makeFlowToNext 46 = .ok (.tableswitch 192 1 11 #[58, 76, 106, 106, 106, 106, 130, 154, 163, 192, 174], 58) := by decide +kernel
theorem dX3_makeFlowToNext_104 : decode cX3_makeFlowToNext 104 = .ok (.aload_n 0, 1) := by decide +kernel
theorem dX3_makeFlowToNext_105 : decode cX3_makeFlowToNext 105 = .ok (.getfield 37, 3) := by decide +kernel
theorem dX3_makeFlowToNext_108 : decode cX3_makeFlowToNext 108 = .ok (.iload 4, 2) := by decide +kernel
theorem dX3_makeFlowToNext_110 : decode cX3_makeFlowToNext 110 = .ok (.iload 5, 2) := by decide +kernel
theorem dX3_makeFlowToNext_112 : decode cX3_makeFlowToNext 112 = .ok (.i2l, 1) := by decide +kernel
theorem dX3_makeFlowToNext_113 : decode cX3_makeFlowToNext 113 = .ok (.iload 5, 2) := by decide +kernel
theorem dX3_makeFlowToNext_115 : decode cX3_makeFlowToNext 115 = .ok (.i2l, 1) := by decide +kernel
theorem dX3_makeFlowToNext_116 : decode cX3_makeFlowToNext 116 = .ok (.invokevirtual 130, 3) := by decide +kernel
theorem dX3_makeFlowToNext_119 : decode cX3_makeFlowToNext 119 = .ok (.goto 126, 3) := by decide +kernel
theorem dX3_makeFlowToNext_122 : decode cX3_makeFlowToNext 122 = .ok (.aload_n 0, 1) := by decide +kernel
theorem dX3_makeFlowToNext_123 : decode cX3_makeFlowToNext 123 = .ok (.getfield 37, 3) := by decide +kernel
theorem dX3_makeFlowToNext_126 : decode cX3_makeFlowToNext 126 = .ok (.iload 4, 2) := by decide +kernel
theorem dX3_makeFlowToNext_128 : decode cX3_makeFlowToNext 128 = .ok (.aload_n 0, 1) := by decide +kernel
theorem dX3_makeFlowToNext_129 : decode cX3_makeFlowToNext 129 = .ok (.getfield 37, 3) := by decide +kernel
theorem dX3_makeFlowToNext_132 : decode cX3_makeFlowToNext 132 = .ok (.iload 5, 2) := by decide +kernel
theorem dX3_makeFlowToNext_134 : decode cX3_makeFlowToNext 134 = .ok (.invokevirtual 134, 3) := by decide +kernel
theorem dX3_makeFlowToNext_137 : decode cX3_makeFlowToNext 137 = .ok (.aload_n 0, 1) := by decide +kernel
theorem dX3_makeFlowToNext_138 : decode cX3_makeFlowToNext 138 = .ok (.getfield 37, 3) := by decide +kernel
theorem dX3_makeFlowToNext_141 : decode cX3_makeFlowToNext 141 = .ok (.iload 5, 2) := by decide +kernel
theorem dX3_makeFlowToNext_143 : decode cX3_makeFlowToNext 143 = .ok (.invokevirtual 137, 3) := by decide +kernel
theorem dX3_makeFlowToNext_146 : decode cX3_makeFlowToNext 146 = .ok (.invokevirtual 130, 3) := by decide +kernel
theorem dX3_makeFlowToNext_149 : decode cX3_makeFlowToNext 149 = .ok (.goto 96, 3) := by decide +kernel
theorem dX3_makeFlowToNext_152 : decode cX3_makeFlowToNext 152 = .ok (.aload_n 0, 1) := by decide +kernel
theorem dX3_makeFlowToNext_153 : decode cX3_makeFlowToNext 153 = .ok (.iload_n 3, 1) := by decide +kernel
theorem dX3_makeFlowToNext_154 : decode cX3_makeFlowToNext 154 = .ok (.iload 5, 2) := by decide +kernel
theorem dX3_makeFlowToNext_156 : decode cX3_makeFlowToNext 156 = .ok (.aload_n 0, 1) := by decide +kernel
theorem dX3_makeFlowToNext_157 : decode cX3_makeFlowToNext 157 = .ok (.getfield 9, 3) := by decide +kernel
theorem dX3_makeFlowToNext_160 : decode cX3_makeFlowToNext 160 = .ok (.iload_n 2, 1) := by decide +kernel
theorem dX3_makeFlowToNext_161 : decode cX3_makeFlowToNext 161 = .ok (.iconst 3, 1) := by decide +kernel
theorem dX3_makeFlowToNext_162 : decode cX3_makeFlowToNext 162 = .ok (.iadd, 1) := by decide +kernel
theorem dX3_makeFlowToNext_163 : decode cX3_makeFlowToNext 163 = .ok (.iaload, 1) := by decide +kernel
theorem dX3_makeFlowToNext_164 : decode cX3_makeFlowToNext 164 = .ok (.invokevirtual 139, 3) := by decide +kernel
theorem dX3_makeFlowToNext_167 : decode cX3_makeFlowToNext 167 = .ok (.aload_n 0, 1) := by decide +kernel
theorem dX3_makeFlowToNext_168 : decode cX3_makeFlowToNext 168 = .ok (.iload 4, 2) := by decide +kernel
theorem dX3_makeFlowToNext_170 : decode cX3_makeFlowToNext 170 = .ok (.invokevirtual 143, 3) := by decide +kernel
theorem dX3_makeFlowToNext_173 : decode cX3_makeFlowToNext 173 = .ok (.goto 72, 3) := by decide +kernel
theorem dX3_makeFlowToNext_176 : decode cX3_makeFlowToNext 176 = .ok (.aload_n 0, 1) := by decide +kernel
theorem dX3_makeFlowToNext_177 : decode cX3_makeFlowToNext 177 = .ok (.iload 5, 2) := by decide +kernel
theorem dX3_makeFlowToNext_179 : decode cX3_makeFlowToNext 179 = .ok (.invokevirtual 146, 3) := by decide +kernel
theorem dX3_makeFlowToNext_182 : decode cX3_makeFlowToNext 182 = .ok (.aload_n 0, 1) := by decide +kernel
theorem dX3_makeFlowToNext_183 : decode cX3_makeFlowToNext 183 = .ok (.getfield 37, 3) := by decide +kernel
theorem dX3_makeFlowToNext_186 : decode cX3_makeFlowToNext 186 = .ok (.iload 4, 2) := by decide +kernel
theorem dX3_makeFlowToNext_188 : decode cX3_makeFlowToNext 188 = .ok (.ldc2_w 149, 3) := by decide +kernel
theorem dX3_makeFlowToNext_191 : decode cX3_makeFlowToNext 191 = .ok (.ldc2_w 151, 3) := by decide +kernel
theorem dX3_makeFlowToNext_194 : decode cX3_makeFlowToNext 194 = .ok (.invokevirtual 130, 3) := by decide +kernel
theorem dX3_makeFlowToNext_197 : decode cX3_makeFlowToNext 197 = .ok (.goto 48, 3) := by decide +kernel
theorem dX3_makeFlowToNext_200 : decode cX3_makeFlowToNext 200 = .ok (.aload_n 0, 1) := by decide +kernel
theorem dX3_makeFlowToNext_201 : decode cX3_makeFlowToNext 201 = .ok (.iload 5, 2) := by decide +kernel
theorem dX3_makeFlowToNext_203 : decode cX3_makeFlowToNext 203 = .ok (.invokevirtual 146, 3) := by decide +kernel
theorem dX3_makeFlowToNext_206 : decode cX3_makeFlowToNext 206 = .ok (.goto 39, 3) := by decide +kernel
theorem dX3_makeFlowToNext_209 : decode cX3_makeFlowToNext 209 = .ok (.aload_n 0, 1) := by decide +kernel
theorem dX3_makeFlowToNext_210 : decode cX3_makeFlowToNext 210 = .ok (.iload 4, 2) := by decide +kernel
theorem dX3_makeFlowToNext_212 : decode cX3_makeFlowToNext 212 = .ok (.iload 5, 2) := by decide +kernel
theorem dX3_makeFlowToNext_214 : decode cX3_makeFlowToNext 214 = .ok (.invokevirtual 153, 3) := by decide +kernel
theorem dX3_makeFlowToNext_217 : decode cX3_makeFlowToNext 217 = .ok (.goto 28, 3) := by decide +kernel
theorem dX3_makeFlowToNext_220 : decode cX3_makeFlowToNext 220 = .ok (.aload_n 0, 1) := by decide +kernel
theorem dX3_makeFlowToNext_221 : decode cX3_makeFlowToNext 221 = .ok (.getfield 37, 3) := by decide +kernel
theorem dX3_makeFlowToNext_224 : decode cX3_makeFlowToNext 224 = .ok (.iload 4, 2) := by decide +kernel
theorem dX3_makeFlowToNext_226 : decode cX3_makeFlowToNext 226 = .ok (.ldc2_w 149, 3) := by decide +kernel
theorem dX3_makeFlowToNext_229 : decode cX3_makeFlowToNext 229 = .ok (.ldc2_w 151, 3) := by decide +kernel
theorem dX3_makeFlowToNext_232 : decode cX3_makeFlowToNext 232 = .ok (.invokevirtual 130, 3) := by decide +kernel
theorem dX3_makeFlowToNext_235 : decode cX3_makeFlowToNext 235 = .ok (.goto 10, 3) := by decide +kernel
theorem dX3_makeFlowToNext_238 : decode cX3_makeFlowToNext 238 = .ok (.aload_n 0, 1) := by decide +kernel
theorem dX3_makeFlowToNext_239 : decode cX3_makeFlowToNext 239 = .ok (.getfield 37, 3) := by decide +kernel
theorem dX3_makeFlowToNext_242 : decode cX3_makeFlowToNext 242 = .ok (.invokevirtual 157, 3) := by decide +kernel
theorem dX3_makeFlowToNext_245 : decode cX3_makeFlowToNext 245 = .ok (.return_, 1) := by decide +kernel
set_option maxRecDepth 20000 in
theorem ggX3_makeFlowToPlace_X2_copyTo : GoodIn wsX3_makeFlowToPlace wsX2_copyTo := goodIn_r _ [8, 9, 10, 11, 12, 13, 14, 15, 16, 17, 7, 18, 19, 20, 21, 22, 23, 24, 25, 26, 27, 28, 29, 30, 75, 76, 77, 78, 79, 80] (by decide +kernel) (by decide +kernel)
set_option maxRecDepth 20000 in
theorem gX3_makeFlowToPlace_X2_copyTo : GoodIn wsX3_makeFlowToPlace (wsV RX3 126 RX2 yX2_copyTo wsX2_copyTo) := goodIn_app (goodIn_of _ (by decide +kernel)) ggX3_makeFlowToPlace_X2_copyTo
set_option maxRecDepth 20000 in
theorem ggX3_makeFlowToPlace_X3_keepLess : GoodIn wsX3_makeFlowToPlace wsX3_keepLess := goodIn_r _ [35, 2, 36, 37, 38, 12, 39, 14, 40, 41, 42, 43, 30, 44, 45, 46, 47, 48, 49, 50, 51, 52, 53, 54, 55, 29, 56, 57, 58, 59, 60, 61, 62, 63, 64, 65, 66, 67, 68, 69, 70, 71, 72, 73, 74, 75, 76, 77] (by decide +kernel) (by decide +kernel)
set_option maxRecDepth 20000 in
theorem gX3_makeFlowToPlace_X3_keepLess : GoodIn wsX3_makeFlowToPlace (wsV RX3 160 RX3 yX3_keepLess wsX3_keepLess) := goodIn_app (goodIn_of _ (by decide +kernel)) ggX3_makeFlowToPlace_X3_keepLess
set_option maxRecDepth 20000 in
theorem ggX3_makeFlowToPlace_X0_stop : GoodIn wsX3_makeFlowToPlace wsX0_stop := goodIn_r _ [39, 14, 75, 76, 77] (by decide +kernel) (by decide +kernel)
set_option maxRecDepth 20000 in
theorem gX3_makeFlowToPlace_X0_stop : GoodIn wsX3_makeFlowToPlace (wsV RX3 157 RX0 yX0_stop wsX0_stop) := goodIn_app (goodIn_of _ (by decide +kernel)) ggX3_makeFlowToPlace_X0_stop
theorem dX3_makeFlowToPlace_0 : decode cX3_makeFlowToPlace 0 = .ok (.iload_n 1, 1) := by decide +kernel
theorem dX3_makeFlowToPlace_1 : decode cX3_makeFlowToPlace 1 = .ok (.iconst 4, 1) := by decide +kernel
theorem dX3_makeFlowToPlace_2 : decode cX3_makeFlowToPlace 2 = .ok (.imul, 1) := by decide +kernel
theorem dX3_makeFlowToPlace_3 : decode cX3_makeFlowToPlace 3 = .ok (.istore_n 2, 1) := by decide +kernel
theorem dX3_makeFlowToPlace_4 : decode cX3_makeFlowToPlace 4 = .ok (.aload_n 0, 1) := by decide +kernel
theorem dX3_makeFlowToPlace_5 : decode cX3_makeFlowToPlace 5 = .ok (.getfield 27, 3) := by decide +kernel
theorem dX3_makeFlowToPlace_8 : decode cX3_makeFlowToPlace 8 = .ok (.aload_n 0, 1) := by decide +kernel
theorem dX3_makeFlowToPlace_9 : decode cX3_makeFlowToPlace 9 = .ok (.getfield 37, 3) := by decide +kernel
theorem dX3_makeFlowToPlace_12 : decode cX3_makeFlowToPlace 12 = .ok (.iload_n 1, 1) := by decide +kernel
theorem dX3_makeFlowToPlace_13 : decode cX3_makeFlowToPlace 13 = .ok (.invokevirtual 126, 3) := by decide +kernel
theorem dX3_makeFlowToPlace_16 : decode cX3_makeFlowToPlace 16 = .ok (.aload_n 0, 1) := by decide +kernel
theorem dX3_makeFlowToPlace_17 : decode cX3_makeFlowToPlace 17 = .ok (.getfield 9, 3) := by decide +kernel
theorem dX3_makeFlowToPlace_20 : decode cX3_makeFlowToPlace 20 = .ok (.iload_n 2, 1) := by decide +kernel
theorem dX3_makeFlowToPlace_21 : decode cX3_makeFlowToPlace 21 = .ok (.iconst 0, 1) := by decide +kernel
theorem dX3_makeFlowToPlace_22 : decode cX3_makeFlowToPlace 22 = .ok (.iadd, 1) := by decide +kernel
theorem dX3_makeFlowToPlace_23 : decode cX3_makeFlowToPlace 23 = .ok (.iaload, 1) := by decide +kernel
theorem dX3_makeFlowToPlace_24 : decode cX3_makeFlowToPlace 24 = .ok (.lookupswitch 54 #[(9, 28), (10, 51)], 28) := by decide +kernel
theorem dX3_makeFlowToPlace_52 : decode cX3_makeFlowToPlace 52 = .ok (.aload_n 0, 1) := by decide +kernel
theorem dX3_makeFlowToPlace_53 : decode cX3_makeFlowToPlace 53 = .ok (.aload_n 0, 1) := by decide +kernel
theorem dX3_makeFlowToPlace_54 : decode cX3_makeFlowToPlace 54 = .ok (.getfield 9, 3) := by decide +kernel
theorem dX3_makeFlowToPlace_57 : decode cX3_makeFlowToPlace 57 = .ok (.iload_n 2, 1) := by decide +kernel
theorem dX3_makeFlowToPlace_58 : decode cX3_makeFlowToPlace 58 = .ok (.iconst 1, 1) := by decide +kernel
theorem dX3_makeFlowToPlace_59 : decode cX3_makeFlowToPlace 59 = .ok (.iadd, 1) := by decide +kernel
theorem dX3_makeFlowToPlace_60 : decode cX3_makeFlowToPlace 60 = .ok (.iaload, 1) := by decide +kernel
theorem dX3_makeFlowToPlace_61 : decode cX3_makeFlowToPlace 61 = .ok (.aload_n 0, 1) := by decide +kernel
theorem dX3_makeFlowToPlace_62 : decode cX3_makeFlowToPlace 62 = .ok (.getfield 9, 3) := by decide +kernel
theorem dX3_makeFlowToPlace_65 : decode cX3_makeFlowToPlace 65 = .ok (.iload_n 2, 1) := by decide +kernel
theorem dX3_makeFlowToPlace_66 : decode cX3_makeFlowToPlace 66 = .ok (.iconst 2, 1) := by decide +kernel
theorem dX3_makeFlowToPlace_67 : decode cX3_makeFlowToPlace 67 = .ok (.iadd, 1) := by decide +kernel
theorem dX3_makeFlowToPlace_68 : decode cX3_makeFlowToPlace 68 = .ok (.iaload, 1) := by decide +kernel
theorem dX3_makeFlowToPlace_69 : decode cX3_makeFlowToPlace 69 = .ok (.invokevirtual 160, 3) := by decide +kernel
theorem dX3_makeFlowToPlace_72 : decode cX3_makeFlowToPlace 72 = .ok (.goto 13, 3) := by decide +kernel
theorem dX3_makeFlowToPlace_75 : decode cX3_makeFlowToPlace 75 = .ok (.goto 10, 3) := by decide +kernel
theorem dX3_makeFlowToPlace_78 : decode cX3_makeFlowToPlace 78 = .ok (.aload_n 0, 1) := by decide +kernel
theorem dX3_makeFlowToPlace_79 : decode cX3_makeFlowToPlace 79 = .ok (.getfield 37, 3) := by decide +kernel
theorem dX3_makeFlowToPlace_82 : decode cX3_makeFlowToPlace 82 = .ok (.invokevirtual 157, 3) := by decide +kernel
theorem dX3_makeFlowToPlace_85 : decode cX3_makeFlowToPlace 85 = .ok (.return_, 1) := by decide +kernel
set_option maxRecDepth 20000 in
theorem ggX3_calculate_X0_lowOf : GoodIn wsX3_calculate wsX0_lowOf := goodIn_r _ [15, 16, 50, 51, 52] (by decide +kernel) (by decide +kernel)
set_option maxRecDepth 20000 in
theorem gX3_calculate_X0_lowOf : GoodIn wsX3_calculate (wsV RX3 134 RX0 yX0_lowOf wsX0_lowOf) := goodIn_app (goodIn_of _ (by decide +kernel)) ggX3_calculate_X0_lowOf
set_option maxRecDepth 20000 in
theorem ggX3_calculate_X0_highOf : GoodIn wsX3_calculate wsX0_highOf := goodIn_r _ [20, 21, 50, 51, 52] (by decide +kernel) (by decide +kernel)
set_option maxRecDepth 20000 in
theorem gX3_calculate_X0_highOf : GoodIn wsX3_calculate (wsV RX3 137 RX0 yX0_highOf wsX0_highOf) := goodIn_app (goodIn_of _ (by decide +kernel)) ggX3_calculate_X0_highOf
set_option maxRecDepth 20000 in
theorem ggX3_calculate_X1_forget : GoodIn wsX3_calculate wsX1_forget := goodIn_r _ [26, 27, 53, 54, 55] (by decide +kernel) (by decide +kernel)
set_option maxRecDepth 20000 in
theorem gX3_calculate_X1_forget : GoodIn wsX3_calculate (wsV RX3 163 RX1 yX1_forget wsX1_forget) := goodIn_app (goodIn_of _ (by decide +kernel)) ggX3_calculate_X1_forget
set_option maxRecDepth 20000 in
theorem ggX3_calculate_X3_takeEnds : GoodIn wsX3_calculate wsX3_takeEnds := goodIn_r _ [32, 1, 2, 11, 12, 13, 14, 15, 16, 17, 18, 19, 20, 21, 33, 34, 31, 35, 36, 37, 38, 25, 39, 27, 40, 41, 42, 43, 44, 45, 46, 47, 48, 49, 50, 51, 52, 53, 54, 55] (by decide +kernel) (by decide +kernel)
set_option maxRecDepth 20000 in
theorem gX3_calculate_X3_takeEnds : GoodIn wsX3_calculate (wsV RX3 174 RX3 yX3_takeEnds wsX3_takeEnds) := goodIn_app (goodIn_of _ (by decide +kernel)) ggX3_calculate_X3_takeEnds
theorem dX3_calculate_0 : decode cX3_calculate 0 = .ok (.aload_n 0, 1) := by decide +kernel
theorem dX3_calculate_1 : decode cX3_calculate 1 = .ok (.getfield 37, 3) := by decide +kernel
theorem dX3_calculate_4 : decode cX3_calculate 4 = .ok (.iload_n 3, 1) := by decide +kernel
theorem dX3_calculate_5 : decode cX3_calculate 5 = .ok (.invokevirtual 134, 3) := by decide +kernel
theorem dX3_calculate_8 : decode cX3_calculate 8 = .ok (.lstore 4, 2) := by decide +kernel
theorem dX3_calculate_10 : decode cX3_calculate 10 = .ok (.aload_n 0, 1) := by decide +kernel
theorem dX3_calculate_11 : decode cX3_calculate 11 = .ok (.getfield 37, 3) := by decide +kernel
theorem dX3_calculate_14 : decode cX3_calculate 14 = .ok (.iload_n 3, 1) := by decide +kernel
theorem dX3_calculate_15 : decode cX3_calculate 15 = .ok (.invokevirtual 137, 3) := by decide +kernel
theorem dX3_calculate_18 : decode cX3_calculate 18 = .ok (.lstore 6, 2) := by decide +kernel
theorem dX3_calculate_20 : decode cX3_calculate 20 = .ok (.aload_n 0, 1) := by decide +kernel
theorem dX3_calculate_21 : decode cX3_calculate 21 = .ok (.getfield 44, 3) := by decide +kernel
theorem dX3_calculate_24 : decode cX3_calculate 24 = .ok (.invokevirtual 163, 3) := by decide +kernel
theorem dX3_calculate_27 : decode cX3_calculate 27 = .ok (.iload_n 1, 1) := by decide +kernel
theorem dX3_calculate_28 : decode cX3_calculate 28 = .ok (.bipush 6, 2) := by decide +kernel
theorem dX3_calculate_30 : decode cX3_calculate 30 = .ok (.if_icmp .ne 36, 3) := by decide +kernel
theorem dX3_calculate_33 : decode cX3_calculate 33 = .ok (.aload_n 0, 1) := by decide +kernel
theorem dX3_calculate_34 : decode cX3_calculate 34 = .ok (.iload_n 1, 1) := by decide +kernel
theorem dX3_calculate_35 : decode cX3_calculate 35 = .ok (.iload_n 2, 1) := by decide +kernel
theorem dX3_calculate_36 : decode cX3_calculate 36 = .ok (.lload 4, 2) := by decide +kernel
theorem dX3_calculate_38 : decode cX3_calculate 38 = .ok (.lload 6, 2) := by decide +kernel
theorem dX3_calculate_40 : decode cX3_calculate 40 = .ok (.ldc2_w 166, 3) := by decide +kernel
theorem dX3_calculate_43 : decode cX3_calculate 43 = .ok (.invokestatic 168, 3) := by decide +kernel
theorem dX3_calculate_46 : decode cX3_calculate 46 = .ok (.invokevirtual 174, 3) := by decide +kernel
theorem dX3_calculate_49 : decode cX3_calculate 49 = .ok (.aload_n 0, 1) := by decide +kernel
theorem dX3_calculate_50 : decode cX3_calculate 50 = .ok (.iload_n 1, 1) := by decide +kernel
theorem dX3_calculate_51 : decode cX3_calculate 51 = .ok (.iload_n 2, 1) := by decide +kernel
theorem dX3_calculate_52 : decode cX3_calculate 52 = .ok (.lload 4, 2) := by decide +kernel
theorem dX3_calculate_54 : decode cX3_calculate 54 = .ok (.lconst 1, 1) := by decide +kernel
theorem dX3_calculate_55 : decode cX3_calculate 55 = .ok (.invokestatic 178, 3) := by decide +kernel
theorem dX3_calculate_58 : decode cX3_calculate 58 = .ok (.lload 6, 2) := by decide +kernel
theorem dX3_calculate_60 : decode cX3_calculate 60 = .ok (.invokevirtual 174, 3) := by decide +kernel
theorem dX3_calculate_63 : decode cX3_calculate 63 = .ok (.goto 13, 3) := by decide +kernel
theorem dX3_calculate_66 : decode cX3_calculate 66 = .ok (.aload_n 0, 1) := by decide +kernel
theorem dX3_calculate_67 : decode cX3_calculate 67 = .ok (.iload_n 1, 1) := by decide +kernel
theorem dX3_calculate_68 : decode cX3_calculate 68 = .ok (.iload_n 2, 1) := by decide +kernel
theorem dX3_calculate_69 : decode cX3_calculate 69 = .ok (.lload 4, 2) := by decide +kernel
theorem dX3_calculate_71 : decode cX3_calculate 71 = .ok (.lload 6, 2) := by decide +kernel
theorem dX3_calculate_73 : decode cX3_calculate 73 = .ok (.invokevirtual 174, 3) := by decide +kernel
theorem dX3_calculate_76 : decode cX3_calculate 76 = .ok (.return_, 1) := by decide +kernel
set_option maxRecDepth 20000 in
theorem ggX3_takeEnds_X0_lowOf : GoodIn wsX3_takeEnds wsX0_lowOf := goodIn_r _ [7, 8, 34, 35, 36] (by decide +kernel) (by decide +kernel)
set_option maxRecDepth 20000 in
theorem gX3_takeEnds_X0_lowOf : GoodIn wsX3_takeEnds (wsV RX3 134 RX0 yX0_lowOf wsX0_lowOf) := goodIn_app (goodIn_of _ (by decide +kernel)) ggX3_takeEnds_X0_lowOf
set_option maxRecDepth 20000 in
theorem ggX3_takeEnds_X0_highOf : GoodIn wsX3_takeEnds wsX0_highOf := goodIn_r _ [12, 13, 34, 35, 36] (by decide +kernel) (by decide +kernel)
set_option maxRecDepth 20000 in
theorem gX3_takeEnds_X0_highOf : GoodIn wsX3_takeEnds (wsV RX3 137 RX0 yX0_highOf wsX0_highOf) := goodIn_app (goodIn_of _ (by decide +kernel)) ggX3_takeEnds_X0_highOf
set_option maxRecDepth 20000 in
theorem ggX3_takeEnds_X3_exactResult : GoodIn wsX3_takeEnds wsX3_exactResult := goodIn_r _ [17] (by decide +kernel) (by decide +kernel)
set_option maxRecDepth 20000 in
theorem gX3_takeEnds_X3_exactResult : GoodIn wsX3_takeEnds (va_wsS RX3 181 yX3_exactResult wsX3_exactResult) := goodIn_app (goodIn_of _ (by decide +kernel)) ggX3_takeEnds_X3_exactResult
set_option maxRecDepth 20000 in
theorem ggX3_takeEnds_X1_take : GoodIn wsX3_takeEnds wsX1_take := goodIn_r _ [22, 23, 24, 25, 37, 38, 39] (by decide +kernel) (by decide +kernel)
set_option maxRecDepth 20000 in
theorem gX3_takeEnds_X1_take : GoodIn wsX3_takeEnds (wsV RX3 185 RX1 yX1_take wsX1_take) := goodIn_app (goodIn_of _ (by decide +kernel)) ggX3_takeEnds_X1_take
theorem dX3_takeEnds_0 : decode cX3_takeEnds 0 = .ok (.lload_n 3, 1) := by decide +kernel
theorem dX3_takeEnds_1 : decode cX3_takeEnds 1 = .ok (.lload 5, 2) := by decide +kernel
theorem dX3_takeEnds_3 : decode cX3_takeEnds 3 = .ok (.lcmp, 1) := by decide +kernel
theorem dX3_takeEnds_4 : decode cX3_takeEnds 4 = .ok (.ifCond .le 4, 3) := by decide +kernel
theorem dX3_takeEnds_7 : decode cX3_takeEnds 7 = .ok (.return_, 1) := by decide +kernel
theorem dX3_takeEnds_8 : decode cX3_takeEnds 8 = .ok (.aload_n 0, 1) := by decide +kernel
theorem dX3_takeEnds_9 : decode cX3_takeEnds 9 = .ok (.getfield 37, 3) := by decide +kernel
theorem dX3_takeEnds_12 : decode cX3_takeEnds 12 = .ok (.iload_n 2, 1) := by decide +kernel
theorem dX3_takeEnds_13 : decode cX3_takeEnds 13 = .ok (.invokevirtual 134, 3) := by decide +kernel
theorem dX3_takeEnds_16 : decode cX3_takeEnds 16 = .ok (.lstore 7, 2) := by decide +kernel
theorem dX3_takeEnds_18 : decode cX3_takeEnds 18 = .ok (.aload_n 0, 1) := by decide +kernel
theorem dX3_takeEnds_19 : decode cX3_takeEnds 19 = .ok (.getfield 37, 3) := by decide +kernel
theorem dX3_takeEnds_22 : decode cX3_takeEnds 22 = .ok (.iload_n 2, 1) := by decide +kernel
theorem dX3_takeEnds_23 : decode cX3_takeEnds 23 = .ok (.invokevirtual 137, 3) := by decide +kernel
theorem dX3_takeEnds_26 : decode cX3_takeEnds 26 = .ok (.lstore 9, 2) := by decide +kernel
theorem dX3_takeEnds_28 : decode cX3_takeEnds 28 = .ok (.aload_n 0, 1) := by decide +kernel
theorem dX3_takeEnds_29 : decode cX3_takeEnds 29 = .ok (.getfield 44, 3) := by decide +kernel
theorem dX3_takeEnds_32 : decode cX3_takeEnds 32 = .ok (.iload_n 1, 1) := by decide +kernel
theorem dX3_takeEnds_33 : decode cX3_takeEnds 33 = .ok (.lload 7, 2) := by decide +kernel
theorem dX3_takeEnds_35 : decode cX3_takeEnds 35 = .ok (.lload_n 3, 1) := by decide +kernel
theorem dX3_takeEnds_36 : decode cX3_takeEnds 36 = .ok (.invokestatic 181, 3) := by decide +kernel
theorem dX3_takeEnds_39 : decode cX3_takeEnds 39 = .ok (.invokevirtual 185, 3) := by decide +kernel
theorem dX3_takeEnds_42 : decode cX3_takeEnds 42 = .ok (.aload_n 0, 1) := by decide +kernel
theorem dX3_takeEnds_43 : decode cX3_takeEnds 43 = .ok (.getfield 44, 3) := by decide +kernel
theorem dX3_takeEnds_46 : decode cX3_takeEnds 46 = .ok (.iload_n 1, 1) := by decide +kernel
theorem dX3_takeEnds_47 : decode cX3_takeEnds 47 = .ok (.lload 7, 2) := by decide +kernel
theorem dX3_takeEnds_49 : decode cX3_takeEnds 49 = .ok (.lload 5, 2) := by decide +kernel
theorem dX3_takeEnds_51 : decode cX3_takeEnds 51 = .ok (.invokestatic 181, 3) := by decide +kernel
theorem dX3_takeEnds_54 : decode cX3_takeEnds 54 = .ok (.invokevirtual 185, 3) := by decide +kernel
theorem dX3_takeEnds_57 : decode cX3_takeEnds 57 = .ok (.aload_n 0, 1) := by decide +kernel
theorem dX3_takeEnds_58 : decode cX3_takeEnds 58 = .ok (.getfield 44, 3) := by decide +kernel
theorem dX3_takeEnds_61 : decode cX3_takeEnds 61 = .ok (.iload_n 1, 1) := by decide +kernel
theorem dX3_takeEnds_62 : decode cX3_takeEnds 62 = .ok (.lload 9, 2) := by decide +kernel
theorem dX3_takeEnds_64 : decode cX3_takeEnds 64 = .ok (.lload_n 3, 1) := by decide +kernel
end
section
theorem dX3_takeEnds_65 : decode cX3_takeEnds 65 = .ok (.invokestatic 181, 3) := by decide +kernel
theorem dX3_takeEnds_68 : decode cX3_takeEnds 68 = .ok (.invokevirtual 185, 3) := by decide +kernel
theorem dX3_takeEnds_71 : decode cX3_takeEnds 71 = .ok (.aload_n 0, 1) := by decide +kernel
theorem dX3_takeEnds_72 : decode cX3_takeEnds 72 = .ok (.getfield 44, 3) := by decide +kernel
theorem dX3_takeEnds_75 : decode cX3_takeEnds 75 = .ok (.iload_n 1, 1) := by decide +kernel
theorem dX3_takeEnds_76 : decode cX3_takeEnds 76 = .ok (.lload 9, 2) := by decide +kernel
theorem dX3_takeEnds_78 : decode cX3_takeEnds 78 = .ok (.lload 5, 2) := by decide +kernel
theorem dX3_takeEnds_80 : decode cX3_takeEnds 80 = .ok (.invokestatic 181, 3) := by decide +kernel
theorem dX3_takeEnds_83 : decode cX3_takeEnds 83 = .ok (.invokevirtual 185, 3) := by decide +kernel
theorem dX3_takeEnds_86 : decode cX3_takeEnds 86 = .ok (.return_, 1) := by decide +kernel
theorem dX3_exactResult_0 : decode cX3_exactResult 0 = .ok (.iload_n 0, 1) := by decide +kernel
theorem dX3_exactResult_1 : decode cX3_exactResult 1 = .ok (.tableswitch 39 3 5 #[27, 31, 35], 27) := by decide +kernel
theorem dX3_exactResult_28 : decode cX3_exactResult 28 = .ok (.lload_n 1, 1) := by decide +kernel
theorem dX3_exactResult_29 : decode cX3_exactResult 29 = .ok (.lload_n 3, 1) := by decide +kernel
theorem dX3_exactResult_30 : decode cX3_exactResult 30 = .ok (.ladd, 1) := by decide +kernel
theorem dX3_exactResult_31 : decode cX3_exactResult 31 = .ok (.lreturn, 1) := by decide +kernel
theorem dX3_exactResult_32 : decode cX3_exactResult 32 = .ok (.lload_n 1, 1) := by decide +kernel
theorem dX3_exactResult_33 : decode cX3_exactResult 33 = .ok (.lload_n 3, 1) := by decide +kernel
theorem dX3_exactResult_34 : decode cX3_exactResult 34 = .ok (.lsub, 1) := by decide +kernel
theorem dX3_exactResult_35 : decode cX3_exactResult 35 = .ok (.lreturn, 1) := by decide +kernel
theorem dX3_exactResult_36 : decode cX3_exactResult 36 = .ok (.lload_n 1, 1) := by decide +kernel
theorem dX3_exactResult_37 : decode cX3_exactResult 37 = .ok (.lload_n 3, 1) := by decide +kernel
theorem dX3_exactResult_38 : decode cX3_exactResult 38 = .ok (.lmul, 1) := by decide +kernel
theorem dX3_exactResult_39 : decode cX3_exactResult 39 = .ok (.lreturn, 1) := by decide +kernel
theorem dX3_exactResult_40 : decode cX3_exactResult 40 = .ok (.lload_n 3, 1) := by decide +kernel
theorem dX3_exactResult_41 : decode cX3_exactResult 41 = .ok (.lconst 0, 1) := by decide +kernel
theorem dX3_exactResult_42 : decode cX3_exactResult 42 = .ok (.lcmp, 1) := by decide +kernel
theorem dX3_exactResult_43 : decode cX3_exactResult 43 = .ok (.ifCond .ne 7, 3) := by decide +kernel
theorem dX3_exactResult_46 : decode cX3_exactResult 46 = .ok (.lconst 0, 1) := by decide +kernel
theorem dX3_exactResult_47 : decode cX3_exactResult 47 = .ok (.goto 6, 3) := by decide +kernel
theorem dX3_exactResult_50 : decode cX3_exactResult 50 = .ok (.lload_n 1, 1) := by decide +kernel
theorem dX3_exactResult_51 : decode cX3_exactResult 51 = .ok (.lload_n 3, 1) := by decide +kernel
theorem dX3_exactResult_52 : decode cX3_exactResult 52 = .ok (.ldiv, 1) := by decide +kernel
theorem dX3_exactResult_53 : decode cX3_exactResult 53 = .ok (.lreturn, 1) := by decide +kernel
set_option maxRecDepth 20000 in
theorem ggX3_putResults_X1_isEmpty : GoodIn wsX3_putResults wsX1_isEmpty := goodIn_r _ [9, 10, 47, 48, 49] (by decide +kernel) (by decide +kernel)
set_option maxRecDepth 20000 in
theorem gX3_putResults_X1_isEmpty : GoodIn wsX3_putResults (wsV RX3 188 RX1 yX1_isEmpty wsX1_isEmpty) := goodIn_app (goodIn_of _ (by decide +kernel)) ggX3_putResults_X1_isEmpty
set_option maxRecDepth 20000 in
theorem ggX3_putResults_X0_stop : GoodIn wsX3_putResults wsX0_stop := goodIn_r _ [15, 16, 50, 51, 52] (by decide +kernel) (by decide +kernel)
set_option maxRecDepth 20000 in
theorem gX3_putResults_X0_stop : GoodIn wsX3_putResults (wsV RX3 157 RX0 yX0_stop wsX0_stop) := goodIn_app (goodIn_of _ (by decide +kernel)) ggX3_putResults_X0_stop
set_option maxRecDepth 20000 in
theorem ggX3_putResults_X1_wrapTogether : GoodIn wsX3_putResults wsX1_wrapTogether := goodIn_r _ [20, 21, 22, 23, 24, 25, 8, 26, 27, 28, 29, 30, 47, 48, 49] (by decide +kernel) (by decide +kernel)
set_option maxRecDepth 20000 in
theorem gX3_putResults_X1_wrapTogether : GoodIn wsX3_putResults (wsV RX3 191 RX1 yX1_wrapTogether wsX1_wrapTogether) := goodIn_app (goodIn_of _ (by decide +kernel)) ggX3_putResults_X1_wrapTogether
set_option maxRecDepth 20000 in
theorem ggX3_putResults_X1_wrappedLeast : GoodIn wsX3_putResults wsX1_wrappedLeast := goodIn_r _ [26, 21, 47, 48, 49] (by decide +kernel) (by decide +kernel)
set_option maxRecDepth 20000 in
theorem gX3_putResults_X1_wrappedLeast : GoodIn wsX3_putResults (wsV RX3 194 RX1 yX1_wrappedLeast wsX1_wrappedLeast) := goodIn_app (goodIn_of _ (by decide +kernel)) ggX3_putResults_X1_wrappedLeast
set_option maxRecDepth 20000 in
theorem ggX3_putResults_X1_wrappedGreatest : GoodIn wsX3_putResults wsX1_wrappedGreatest := goodIn_r _ [30, 22, 47, 48, 49] (by decide +kernel) (by decide +kernel)
set_option maxRecDepth 20000 in
theorem gX3_putResults_X1_wrappedGreatest : GoodIn wsX3_putResults (wsV RX3 198 RX1 yX1_wrappedGreatest wsX1_wrappedGreatest) := goodIn_app (goodIn_of _ (by decide +kernel)) ggX3_putResults_X1_wrappedGreatest
set_option maxRecDepth 20000 in
theorem ggX3_putResults_X0_put : GoodIn wsX3_putResults wsX0_put := goodIn_r _ [36, 37, 38, 50, 51, 52] (by decide +kernel) (by decide +kernel)
set_option maxRecDepth 20000 in
theorem gX3_putResults_X0_put : GoodIn wsX3_putResults (wsV RX3 130 RX0 yX0_put wsX0_put) := goodIn_app (goodIn_of _ (by decide +kernel)) ggX3_putResults_X0_put
theorem dX3_putResults_0 : decode cX3_putResults 0 = .ok (.aload_n 0, 1) := by decide +kernel
theorem dX3_putResults_1 : decode cX3_putResults 1 = .ok (.getfield 44, 3) := by decide +kernel
theorem dX3_putResults_4 : decode cX3_putResults 4 = .ok (.invokevirtual 188, 3) := by decide +kernel
theorem dX3_putResults_7 : decode cX3_putResults 7 = .ok (.ifCond .eq 13, 3) := by decide +kernel
theorem dX3_putResults_10 : decode cX3_putResults 10 = .ok (.aload_n 0, 1) := by decide +kernel
theorem dX3_putResults_11 : decode cX3_putResults 11 = .ok (.getfield 37, 3) := by decide +kernel
theorem dX3_putResults_14 : decode cX3_putResults 14 = .ok (.invokevirtual 157, 3) := by decide +kernel
theorem dX3_putResults_17 : decode cX3_putResults 17 = .ok (.goto 52, 3) := by decide +kernel
theorem dX3_putResults_20 : decode cX3_putResults 20 = .ok (.aload_n 0, 1) := by decide +kernel
theorem dX3_putResults_21 : decode cX3_putResults 21 = .ok (.getfield 44, 3) := by decide +kernel
theorem dX3_putResults_24 : decode cX3_putResults 24 = .ok (.invokevirtual 191, 3) := by decide +kernel
theorem dX3_putResults_27 : decode cX3_putResults 27 = .ok (.ifCond .eq 28, 3) := by decide +kernel
theorem dX3_putResults_30 : decode cX3_putResults 30 = .ok (.aload_n 0, 1) := by decide +kernel
theorem dX3_putResults_31 : decode cX3_putResults 31 = .ok (.getfield 37, 3) := by decide +kernel
theorem dX3_putResults_34 : decode cX3_putResults 34 = .ok (.iload_n 1, 1) := by decide +kernel
theorem dX3_putResults_35 : decode cX3_putResults 35 = .ok (.aload_n 0, 1) := by decide +kernel
theorem dX3_putResults_36 : decode cX3_putResults 36 = .ok (.getfield 44, 3) := by decide +kernel
theorem dX3_putResults_39 : decode cX3_putResults 39 = .ok (.invokevirtual 194, 3) := by decide +kernel
theorem dX3_putResults_42 : decode cX3_putResults 42 = .ok (.aload_n 0, 1) := by decide +kernel
theorem dX3_putResults_43 : decode cX3_putResults 43 = .ok (.getfield 44, 3) := by decide +kernel
theorem dX3_putResults_46 : decode cX3_putResults 46 = .ok (.invokevirtual 198, 3) := by decide +kernel
theorem dX3_putResults_49 : decode cX3_putResults 49 = .ok (.invokevirtual 130, 3) := by decide +kernel
theorem dX3_putResults_52 : decode cX3_putResults 52 = .ok (.goto 17, 3) := by decide +kernel
theorem dX3_putResults_55 : decode cX3_putResults 55 = .ok (.aload_n 0, 1) := by decide +kernel
theorem dX3_putResults_56 : decode cX3_putResults 56 = .ok (.getfield 37, 3) := by decide +kernel
theorem dX3_putResults_59 : decode cX3_putResults 59 = .ok (.iload_n 1, 1) := by decide +kernel
theorem dX3_putResults_60 : decode cX3_putResults 60 = .ok (.ldc2_w 149, 3) := by decide +kernel
theorem dX3_putResults_63 : decode cX3_putResults 63 = .ok (.ldc2_w 151, 3) := by decide +kernel
theorem dX3_putResults_66 : decode cX3_putResults 66 = .ok (.invokevirtual 130, 3) := by decide +kernel
theorem dX3_putResults_69 : decode cX3_putResults 69 = .ok (.return_, 1) := by decide +kernel
set_option maxRecDepth 20000 in
theorem ggX3_stopOutsideArray_X0_highOf : GoodIn wsX3_stopOutsideArray wsX0_highOf := goodIn_r _ [7, 8, 27, 28, 29] (by decide +kernel) (by decide +kernel)
set_option maxRecDepth 20000 in
theorem gX3_stopOutsideArray_X0_highOf : GoodIn wsX3_stopOutsideArray (wsV RX3 137 RX0 yX0_highOf wsX0_highOf) := goodIn_app (goodIn_of _ (by decide +kernel)) ggX3_stopOutsideArray_X0_highOf
set_option maxRecDepth 20000 in
theorem ggX3_stopOutsideArray_X0_lowOf : GoodIn wsX3_stopOutsideArray wsX0_lowOf := goodIn_r _ [12, 13, 27, 28, 29] (by decide +kernel) (by decide +kernel)
set_option maxRecDepth 20000 in
theorem gX3_stopOutsideArray_X0_lowOf : GoodIn wsX3_stopOutsideArray (wsV RX3 134 RX0 yX0_lowOf wsX0_lowOf) := goodIn_app (goodIn_of _ (by decide +kernel)) ggX3_stopOutsideArray_X0_lowOf
set_option maxRecDepth 20000 in
theorem ggX3_stopOutsideArray_X0_stop : GoodIn wsX3_stopOutsideArray wsX0_stop := goodIn_r _ [17, 18, 27, 28, 29] (by decide +kernel) (by decide +kernel)
set_option maxRecDepth 20000 in
theorem gX3_stopOutsideArray_X0_stop : GoodIn wsX3_stopOutsideArray (wsV RX3 157 RX0 yX0_stop wsX0_stop) := goodIn_app (goodIn_of _ (by decide +kernel)) ggX3_stopOutsideArray_X0_stop
theorem dX3_stopOutsideArray_0 : decode cX3_stopOutsideArray 0 = .ok (.aload_n 0, 1) := by decide +kernel
theorem dX3_stopOutsideArray_1 : decode cX3_stopOutsideArray 1 = .ok (.getfield 37, 3) := by decide +kernel
theorem dX3_stopOutsideArray_4 : decode cX3_stopOutsideArray 4 = .ok (.iload_n 1, 1) := by decide +kernel
theorem dX3_stopOutsideArray_5 : decode cX3_stopOutsideArray 5 = .ok (.invokevirtual 137, 3) := by decide +kernel
theorem dX3_stopOutsideArray_8 : decode cX3_stopOutsideArray 8 = .ok (.lconst 0, 1) := by decide +kernel
theorem dX3_stopOutsideArray_9 : decode cX3_stopOutsideArray 9 = .ok (.lcmp, 1) := by decide +kernel
theorem dX3_stopOutsideArray_10 : decode cX3_stopOutsideArray 10 = .ok (.ifCond .lt 18, 3) := by decide +kernel
theorem dX3_stopOutsideArray_13 : decode cX3_stopOutsideArray 13 = .ok (.aload_n 0, 1) := by decide +kernel
theorem dX3_stopOutsideArray_14 : decode cX3_stopOutsideArray 14 = .ok (.getfield 37, 3) := by decide +kernel
theorem dX3_stopOutsideArray_17 : decode cX3_stopOutsideArray 17 = .ok (.iload_n 1, 1) := by decide +kernel
theorem dX3_stopOutsideArray_18 : decode cX3_stopOutsideArray 18 = .ok (.invokevirtual 134, 3) := by decide +kernel
theorem dX3_stopOutsideArray_21 : decode cX3_stopOutsideArray 21 = .ok (.ldc2_w 201, 3) := by decide +kernel
theorem dX3_stopOutsideArray_24 : decode cX3_stopOutsideArray 24 = .ok (.lcmp, 1) := by decide +kernel
theorem dX3_stopOutsideArray_25 : decode cX3_stopOutsideArray 25 = .ok (.ifCond .le 10, 3) := by decide +kernel
theorem dX3_stopOutsideArray_28 : decode cX3_stopOutsideArray 28 = .ok (.aload_n 0, 1) := by decide +kernel
theorem dX3_stopOutsideArray_29 : decode cX3_stopOutsideArray 29 = .ok (.getfield 37, 3) := by decide +kernel
theorem dX3_stopOutsideArray_32 : decode cX3_stopOutsideArray 32 = .ok (.invokevirtual 157, 3) := by decide +kernel
theorem dX3_stopOutsideArray_35 : decode cX3_stopOutsideArray 35 = .ok (.return_, 1) := by decide +kernel
set_option maxRecDepth 20000 in
theorem ggX3_keepNotLess_X0_lowOf : GoodIn wsX3_keepNotLess wsX0_lowOf := goodIn_r _ [6, 7, 41, 42, 43] (by decide +kernel) (by decide +kernel)
set_option maxRecDepth 20000 in
theorem gX3_keepNotLess_X0_lowOf : GoodIn wsX3_keepNotLess (wsV RX3 134 RX0 yX0_lowOf wsX0_lowOf) := goodIn_app (goodIn_of _ (by decide +kernel)) ggX3_keepNotLess_X0_lowOf
set_option maxRecDepth 20000 in
theorem ggX3_keepNotLess_X0_raiseLow : GoodIn wsX3_keepNotLess wsX0_raiseLow := goodIn_r _ [11, 7, 12, 13, 14, 15, 16, 17, 18, 5, 19, 20, 21, 41, 42, 43] (by decide +kernel) (by decide +kernel)
set_option maxRecDepth 20000 in
theorem gX3_keepNotLess_X0_raiseLow : GoodIn wsX3_keepNotLess (wsV RX3 203 RX0 yX0_raiseLow wsX0_raiseLow) := goodIn_app (goodIn_of _ (by decide +kernel)) ggX3_keepNotLess_X0_raiseLow
set_option maxRecDepth 20000 in
theorem ggX3_keepNotLess_X0_highOf : GoodIn wsX3_keepNotLess wsX0_highOf := goodIn_r _ [25, 20, 41, 42, 43] (by decide +kernel) (by decide +kernel)
set_option maxRecDepth 20000 in
theorem gX3_keepNotLess_X0_highOf : GoodIn wsX3_keepNotLess (wsV RX3 137 RX0 yX0_highOf wsX0_highOf) := goodIn_app (goodIn_of _ (by decide +kernel)) ggX3_keepNotLess_X0_highOf
set_option maxRecDepth 20000 in
theorem ggX3_keepNotLess_X0_lowerHigh : GoodIn wsX3_keepNotLess wsX0_lowerHigh := goodIn_r _ [29, 20, 30, 31, 14, 32, 16, 17, 18, 5, 19, 7, 21, 41, 42, 43] (by decide +kernel) (by decide +kernel)
set_option maxRecDepth 20000 in
theorem gX3_keepNotLess_X0_lowerHigh : GoodIn wsX3_keepNotLess (wsV RX3 207 RX0 yX0_lowerHigh wsX0_lowerHigh) := goodIn_app (goodIn_of _ (by decide +kernel)) ggX3_keepNotLess_X0_lowerHigh
theorem dX3_keepNotLess_0 : decode cX3_keepNotLess 0 = .ok (.iload_n 1, 1) := by decide +kernel
theorem dX3_keepNotLess_1 : decode cX3_keepNotLess 1 = .ok (.iload_n 2, 1) := by decide +kernel
theorem dX3_keepNotLess_2 : decode cX3_keepNotLess 2 = .ok (.if_icmp .eq 35, 3) := by decide +kernel
theorem dX3_keepNotLess_5 : decode cX3_keepNotLess 5 = .ok (.aload_n 0, 1) := by decide +kernel
theorem dX3_keepNotLess_6 : decode cX3_keepNotLess 6 = .ok (.getfield 37, 3) := by decide +kernel
theorem dX3_keepNotLess_9 : decode cX3_keepNotLess 9 = .ok (.iload_n 1, 1) := by decide +kernel
theorem dX3_keepNotLess_10 : decode cX3_keepNotLess 10 = .ok (.aload_n 0, 1) := by decide +kernel
theorem dX3_keepNotLess_11 : decode cX3_keepNotLess 11 = .ok (.getfield 37, 3) := by decide +kernel
theorem dX3_keepNotLess_14 : decode cX3_keepNotLess 14 = .ok (.iload_n 2, 1) := by decide +kernel
theorem dX3_keepNotLess_15 : decode cX3_keepNotLess 15 = .ok (.invokevirtual 134, 3) := by decide +kernel
theorem dX3_keepNotLess_18 : decode cX3_keepNotLess 18 = .ok (.invokevirtual 203, 3) := by decide +kernel
theorem dX3_keepNotLess_21 : decode cX3_keepNotLess 21 = .ok (.aload_n 0, 1) := by decide +kernel
theorem dX3_keepNotLess_22 : decode cX3_keepNotLess 22 = .ok (.getfield 37, 3) := by decide +kernel
theorem dX3_keepNotLess_25 : decode cX3_keepNotLess 25 = .ok (.iload_n 2, 1) := by decide +kernel
theorem dX3_keepNotLess_26 : decode cX3_keepNotLess 26 = .ok (.aload_n 0, 1) := by decide +kernel
theorem dX3_keepNotLess_27 : decode cX3_keepNotLess 27 = .ok (.getfield 37, 3) := by decide +kernel
theorem dX3_keepNotLess_30 : decode cX3_keepNotLess 30 = .ok (.iload_n 1, 1) := by decide +kernel
theorem dX3_keepNotLess_31 : decode cX3_keepNotLess 31 = .ok (.invokevirtual 137, 3) := by decide +kernel
theorem dX3_keepNotLess_34 : decode cX3_keepNotLess 34 = .ok (.invokevirtual 207, 3) := by decide +kernel
theorem dX3_keepNotLess_37 : decode cX3_keepNotLess 37 = .ok (.return_, 1) := by decide +kernel
set_option maxRecDepth 20000 in
theorem ggX3_keepLess_X0_stop : GoodIn wsX3_keepLess wsX0_stop := goodIn_r _ [6, 7, 45, 46, 47] (by decide +kernel) (by decide +kernel)
set_option maxRecDepth 20000 in
theorem gX3_keepLess_X0_stop : GoodIn wsX3_keepLess (wsV RX3 157 RX0 yX0_stop wsX0_stop) := goodIn_app (goodIn_of _ (by decide +kernel)) ggX3_keepLess_X0_stop
set_option maxRecDepth 20000 in
theorem ggX3_keepLess_X0_highOf : GoodIn wsX3_keepLess wsX0_highOf := goodIn_r _ [11, 12, 45, 46, 47] (by decide +kernel) (by decide +kernel)
set_option maxRecDepth 20000 in
theorem gX3_keepLess_X0_highOf : GoodIn wsX3_keepLess (wsV RX3 137 RX0 yX0_highOf wsX0_highOf) := goodIn_app (goodIn_of _ (by decide +kernel)) ggX3_keepLess_X0_highOf
set_option maxRecDepth 20000 in
theorem ggX3_keepLess_X0_lowerHigh : GoodIn wsX3_keepLess wsX0_lowerHigh := goodIn_r _ [16, 12, 17, 18, 19, 20, 21, 22, 23, 5, 24, 25, 7, 45, 46, 47] (by decide +kernel) (by decide +kernel)
set_option maxRecDepth 20000 in
theorem gX3_keepLess_X0_lowerHigh : GoodIn wsX3_keepLess (wsV RX3 207 RX0 yX0_lowerHigh wsX0_lowerHigh) := goodIn_app (goodIn_of _ (by decide +kernel)) ggX3_keepLess_X0_lowerHigh
set_option maxRecDepth 20000 in
theorem ggX3_keepLess_X0_lowOf : GoodIn wsX3_keepLess wsX0_lowOf := goodIn_r _ [29, 25, 45, 46, 47] (by decide +kernel) (by decide +kernel)
set_option maxRecDepth 20000 in
theorem gX3_keepLess_X0_lowOf : GoodIn wsX3_keepLess (wsV RX3 134 RX0 yX0_lowOf wsX0_lowOf) := goodIn_app (goodIn_of _ (by decide +kernel)) ggX3_keepLess_X0_lowOf
set_option maxRecDepth 20000 in
theorem ggX3_keepLess_X0_raiseLow : GoodIn wsX3_keepLess wsX0_raiseLow := goodIn_r _ [33, 25, 34, 35, 19, 36, 21, 22, 23, 5, 24, 12, 7, 45, 46, 47] (by decide +kernel) (by decide +kernel)
set_option maxRecDepth 20000 in
theorem gX3_keepLess_X0_raiseLow : GoodIn wsX3_keepLess (wsV RX3 203 RX0 yX0_raiseLow wsX0_raiseLow) := goodIn_app (goodIn_of _ (by decide +kernel)) ggX3_keepLess_X0_raiseLow
theorem dX3_keepLess_0 : decode cX3_keepLess 0 = .ok (.iload_n 1, 1) := by decide +kernel
theorem dX3_keepLess_1 : decode cX3_keepLess 1 = .ok (.iload_n 2, 1) := by decide +kernel
theorem dX3_keepLess_2 : decode cX3_keepLess 2 = .ok (.if_icmp .ne 13, 3) := by decide +kernel
theorem dX3_keepLess_5 : decode cX3_keepLess 5 = .ok (.aload_n 0, 1) := by decide +kernel
theorem dX3_keepLess_6 : decode cX3_keepLess 6 = .ok (.getfield 37, 3) := by decide +kernel
theorem dX3_keepLess_9 : decode cX3_keepLess 9 = .ok (.invokevirtual 157, 3) := by decide +kernel
theorem dX3_keepLess_12 : decode cX3_keepLess 12 = .ok (.goto 39, 3) := by decide +kernel
theorem dX3_keepLess_15 : decode cX3_keepLess 15 = .ok (.aload_n 0, 1) := by decide +kernel
theorem dX3_keepLess_16 : decode cX3_keepLess 16 = .ok (.getfield 37, 3) := by decide +kernel
theorem dX3_keepLess_19 : decode cX3_keepLess 19 = .ok (.iload_n 1, 1) := by decide +kernel
theorem dX3_keepLess_20 : decode cX3_keepLess 20 = .ok (.aload_n 0, 1) := by decide +kernel
theorem dX3_keepLess_21 : decode cX3_keepLess 21 = .ok (.getfield 37, 3) := by decide +kernel
theorem dX3_keepLess_24 : decode cX3_keepLess 24 = .ok (.iload_n 2, 1) := by decide +kernel
theorem dX3_keepLess_25 : decode cX3_keepLess 25 = .ok (.invokevirtual 137, 3) := by decide +kernel
theorem dX3_keepLess_28 : decode cX3_keepLess 28 = .ok (.lconst 1, 1) := by decide +kernel
theorem dX3_keepLess_29 : decode cX3_keepLess 29 = .ok (.lsub, 1) := by decide +kernel
theorem dX3_keepLess_30 : decode cX3_keepLess 30 = .ok (.invokevirtual 207, 3) := by decide +kernel
theorem dX3_keepLess_33 : decode cX3_keepLess 33 = .ok (.aload_n 0, 1) := by decide +kernel
theorem dX3_keepLess_34 : decode cX3_keepLess 34 = .ok (.getfield 37, 3) := by decide +kernel
theorem dX3_keepLess_37 : decode cX3_keepLess 37 = .ok (.iload_n 2, 1) := by decide +kernel
theorem dX3_keepLess_38 : decode cX3_keepLess 38 = .ok (.aload_n 0, 1) := by decide +kernel
theorem dX3_keepLess_39 : decode cX3_keepLess 39 = .ok (.getfield 37, 3) := by decide +kernel
theorem dX3_keepLess_42 : decode cX3_keepLess 42 = .ok (.iload_n 1, 1) := by decide +kernel
theorem dX3_keepLess_43 : decode cX3_keepLess 43 = .ok (.invokevirtual 134, 3) := by decide +kernel
theorem dX3_keepLess_46 : decode cX3_keepLess 46 = .ok (.lconst 1, 1) := by decide +kernel
theorem dX3_keepLess_47 : decode cX3_keepLess 47 = .ok (.ladd, 1) := by decide +kernel
theorem dX3_keepLess_48 : decode cX3_keepLess 48 = .ok (.invokevirtual 203, 3) := by decide +kernel
theorem dX3_keepLess_51 : decode cX3_keepLess 51 = .ok (.return_, 1) := by decide +kernel
set_option maxRecDepth 20000 in
theorem ggX3_countAlarms_X3_alarm : GoodIn wsX3_countAlarms wsX3_alarm := goodIn_r _ [6, 7, 8, 9, 10, 5, 11, 12, 13, 14, 15, 16, 17, 1, 18, 19, 20, 21, 22, 23, 24, 25, 26, 27, 28, 29, 30, 31, 32, 33, 34, 35, 36, 37, 38, 39, 40, 41, 42, 43, 44, 45, 46, 47, 48, 49, 50, 51, 52, 53] (by decide +kernel) (by decide +kernel)
set_option maxRecDepth 20000 in
theorem gX3_countAlarms_X3_alarm : GoodIn wsX3_countAlarms (wsV RX3 210 RX3 yX3_alarm wsX3_alarm) := goodIn_app (goodIn_of _ (by decide +kernel)) ggX3_countAlarms_X3_alarm
theorem dX3_countAlarms_0 : decode cX3_countAlarms 0 = .ok (.iconst 0, 1) := by decide +kernel
theorem dX3_countAlarms_1 : decode cX3_countAlarms 1 = .ok (.istore_n 1, 1) := by decide +kernel
theorem dX3_countAlarms_2 : decode cX3_countAlarms 2 = .ok (.iconst 0, 1) := by decide +kernel
theorem dX3_countAlarms_3 : decode cX3_countAlarms 3 = .ok (.istore_n 2, 1) := by decide +kernel
theorem dX3_countAlarms_4 : decode cX3_countAlarms 4 = .ok (.iload_n 2, 1) := by decide +kernel
theorem dX3_countAlarms_5 : decode cX3_countAlarms 5 = .ok (.aload_n 0, 1) := by decide +kernel
theorem dX3_countAlarms_6 : decode cX3_countAlarms 6 = .ok (.getfield 13, 3) := by decide +kernel
theorem dX3_countAlarms_9 : decode cX3_countAlarms 9 = .ok (.if_icmp .ge 20, 3) := by decide +kernel
theorem dX3_countAlarms_12 : decode cX3_countAlarms 12 = .ok (.aload_n 0, 1) := by decide +kernel
theorem dX3_countAlarms_13 : decode cX3_countAlarms 13 = .ok (.iload_n 2, 1) := by decide +kernel
theorem dX3_countAlarms_14 : decode cX3_countAlarms 14 = .ok (.invokevirtual 210, 3) := by decide +kernel
theorem dX3_countAlarms_17 : decode cX3_countAlarms 17 = .ok (.ifCond .eq 6, 3) := by decide +kernel
theorem dX3_countAlarms_20 : decode cX3_countAlarms 20 = .ok (.iinc 1 1, 3) := by decide +kernel
theorem dX3_countAlarms_23 : decode cX3_countAlarms 23 = .ok (.iinc 2 1, 3) := by decide +kernel
theorem dX3_countAlarms_26 : decode cX3_countAlarms 26 = .ok (.goto (-22), 3) := by decide +kernel
theorem dX3_countAlarms_29 : decode cX3_countAlarms 29 = .ok (.iload_n 1, 1) := by decide +kernel
theorem dX3_countAlarms_30 : decode cX3_countAlarms 30 = .ok (.ireturn, 1) := by decide +kernel
set_option maxRecDepth 20000 in
theorem ggX3_mayDivideByZero_X2_lowOf : GoodIn wsX3_mayDivideByZero wsX2_lowOf := goodIn_r _ [7, 8, 22, 23, 24] (by decide +kernel) (by decide +kernel)
set_option maxRecDepth 20000 in
theorem gX3_mayDivideByZero_X2_lowOf : GoodIn wsX3_mayDivideByZero (wsV RX3 92 RX2 yX2_lowOf wsX2_lowOf) := goodIn_app (goodIn_of _ (by decide +kernel)) ggX3_mayDivideByZero_X2_lowOf
set_option maxRecDepth 20000 in
theorem ggX3_mayDivideByZero_X2_highOf : GoodIn wsX3_mayDivideByZero wsX2_highOf := goodIn_r _ [12, 13, 22, 23, 24] (by decide +kernel) (by decide +kernel)
set_option maxRecDepth 20000 in
theorem gX3_mayDivideByZero_X2_highOf : GoodIn wsX3_mayDivideByZero (wsV RX3 96 RX2 yX2_highOf wsX2_highOf) := goodIn_app (goodIn_of _ (by decide +kernel)) ggX3_mayDivideByZero_X2_highOf
theorem dX3_mayDivideByZero_0 : decode cX3_mayDivideByZero 0 = .ok (.aload_n 0, 1) := by decide +kernel
theorem dX3_mayDivideByZero_1 : decode cX3_mayDivideByZero 1 = .ok (.getfield 9, 3) := by decide +kernel
theorem dX3_mayDivideByZero_4 : decode cX3_mayDivideByZero 4 = .ok (.iload_n 1, 1) := by decide +kernel
theorem dX3_mayDivideByZero_5 : decode cX3_mayDivideByZero 5 = .ok (.iconst 4, 1) := by decide +kernel
theorem dX3_mayDivideByZero_6 : decode cX3_mayDivideByZero 6 = .ok (.imul, 1) := by decide +kernel
theorem dX3_mayDivideByZero_7 : decode cX3_mayDivideByZero 7 = .ok (.iconst 3, 1) := by decide +kernel
theorem dX3_mayDivideByZero_8 : decode cX3_mayDivideByZero 8 = .ok (.iadd, 1) := by decide +kernel
theorem dX3_mayDivideByZero_9 : decode cX3_mayDivideByZero 9 = .ok (.iaload, 1) := by decide +kernel
theorem dX3_mayDivideByZero_10 : decode cX3_mayDivideByZero 10 = .ok (.istore_n 2, 1) := by decide +kernel
theorem dX3_mayDivideByZero_11 : decode cX3_mayDivideByZero 11 = .ok (.aload_n 0, 1) := by decide +kernel
theorem dX3_mayDivideByZero_12 : decode cX3_mayDivideByZero 12 = .ok (.getfield 31, 3) := by decide +kernel
theorem dX3_mayDivideByZero_15 : decode cX3_mayDivideByZero 15 = .ok (.iload_n 1, 1) := by decide +kernel
theorem dX3_mayDivideByZero_16 : decode cX3_mayDivideByZero 16 = .ok (.iload_n 2, 1) := by decide +kernel
theorem dX3_mayDivideByZero_17 : decode cX3_mayDivideByZero 17 = .ok (.invokevirtual 92, 3) := by decide +kernel
theorem dX3_mayDivideByZero_20 : decode cX3_mayDivideByZero 20 = .ok (.lconst 0, 1) := by decide +kernel
theorem dX3_mayDivideByZero_21 : decode cX3_mayDivideByZero 21 = .ok (.lcmp, 1) := by decide +kernel
theorem dX3_mayDivideByZero_22 : decode cX3_mayDivideByZero 22 = .ok (.ifCond .gt 21, 3) := by decide +kernel
theorem dX3_mayDivideByZero_25 : decode cX3_mayDivideByZero 25 = .ok (.aload_n 0, 1) := by decide +kernel
theorem dX3_mayDivideByZero_26 : decode cX3_mayDivideByZero 26 = .ok (.getfield 31, 3) := by decide +kernel
theorem dX3_mayDivideByZero_29 : decode cX3_mayDivideByZero 29 = .ok (.iload_n 1, 1) := by decide +kernel
theorem dX3_mayDivideByZero_30 : decode cX3_mayDivideByZero 30 = .ok (.iload_n 2, 1) := by decide +kernel
theorem dX3_mayDivideByZero_31 : decode cX3_mayDivideByZero 31 = .ok (.invokevirtual 96, 3) := by decide +kernel
theorem dX3_mayDivideByZero_34 : decode cX3_mayDivideByZero 34 = .ok (.lconst 0, 1) := by decide +kernel
theorem dX3_mayDivideByZero_35 : decode cX3_mayDivideByZero 35 = .ok (.lcmp, 1) := by decide +kernel
theorem dX3_mayDivideByZero_36 : decode cX3_mayDivideByZero 36 = .ok (.ifCond .lt 7, 3) := by decide +kernel
theorem dX3_mayDivideByZero_39 : decode cX3_mayDivideByZero 39 = .ok (.iconst 1, 1) := by decide +kernel
theorem dX3_mayDivideByZero_40 : decode cX3_mayDivideByZero 40 = .ok (.goto 4, 3) := by decide +kernel
theorem dX3_mayDivideByZero_43 : decode cX3_mayDivideByZero 43 = .ok (.iconst 0, 1) := by decide +kernel
theorem dX3_mayDivideByZero_44 : decode cX3_mayDivideByZero 44 = .ok (.ireturn, 1) := by decide +kernel
set_option maxRecDepth 20000 in
theorem ggX3_mayLeaveArray_X2_lowOf : GoodIn wsX3_mayLeaveArray wsX2_lowOf := goodIn_r _ [8, 9, 23, 24, 25] (by decide +kernel) (by decide +kernel)
set_option maxRecDepth 20000 in
theorem gX3_mayLeaveArray_X2_lowOf : GoodIn wsX3_mayLeaveArray (wsV RX3 92 RX2 yX2_lowOf wsX2_lowOf) := goodIn_app (goodIn_of _ (by decide +kernel)) ggX3_mayLeaveArray_X2_lowOf
set_option maxRecDepth 20000 in
theorem ggX3_mayLeaveArray_X2_highOf : GoodIn wsX3_mayLeaveArray wsX2_highOf := goodIn_r _ [13, 14, 23, 24, 25] (by decide +kernel) (by decide +kernel)
set_option maxRecDepth 20000 in
theorem gX3_mayLeaveArray_X2_highOf : GoodIn wsX3_mayLeaveArray (wsV RX3 96 RX2 yX2_highOf wsX2_highOf) := goodIn_app (goodIn_of _ (by decide +kernel)) ggX3_mayLeaveArray_X2_highOf
theorem dX3_mayLeaveArray_0 : decode cX3_mayLeaveArray 0 = .ok (.aload_n 0, 1) := by decide +kernel
theorem dX3_mayLeaveArray_1 : decode cX3_mayLeaveArray 1 = .ok (.getfield 9, 3) := by decide +kernel
theorem dX3_mayLeaveArray_4 : decode cX3_mayLeaveArray 4 = .ok (.iload_n 1, 1) := by decide +kernel
theorem dX3_mayLeaveArray_5 : decode cX3_mayLeaveArray 5 = .ok (.iconst 4, 1) := by decide +kernel
theorem dX3_mayLeaveArray_6 : decode cX3_mayLeaveArray 6 = .ok (.imul, 1) := by decide +kernel
theorem dX3_mayLeaveArray_7 : decode cX3_mayLeaveArray 7 = .ok (.iconst 2, 1) := by decide +kernel
theorem dX3_mayLeaveArray_8 : decode cX3_mayLeaveArray 8 = .ok (.iadd, 1) := by decide +kernel
theorem dX3_mayLeaveArray_9 : decode cX3_mayLeaveArray 9 = .ok (.iaload, 1) := by decide +kernel
theorem dX3_mayLeaveArray_10 : decode cX3_mayLeaveArray 10 = .ok (.istore_n 2, 1) := by decide +kernel
theorem dX3_mayLeaveArray_11 : decode cX3_mayLeaveArray 11 = .ok (.aload_n 0, 1) := by decide +kernel
theorem dX3_mayLeaveArray_12 : decode cX3_mayLeaveArray 12 = .ok (.getfield 31, 3) := by decide +kernel
theorem dX3_mayLeaveArray_15 : decode cX3_mayLeaveArray 15 = .ok (.iload_n 1, 1) := by decide +kernel
theorem dX3_mayLeaveArray_16 : decode cX3_mayLeaveArray 16 = .ok (.iload_n 2, 1) := by decide +kernel
theorem dX3_mayLeaveArray_17 : decode cX3_mayLeaveArray 17 = .ok (.invokevirtual 92, 3) := by decide +kernel
theorem dX3_mayLeaveArray_20 : decode cX3_mayLeaveArray 20 = .ok (.lconst 0, 1) := by decide +kernel
theorem dX3_mayLeaveArray_21 : decode cX3_mayLeaveArray 21 = .ok (.lcmp, 1) := by decide +kernel
theorem dX3_mayLeaveArray_22 : decode cX3_mayLeaveArray 22 = .ok (.ifCond .lt 19, 3) := by decide +kernel
theorem dX3_mayLeaveArray_25 : decode cX3_mayLeaveArray 25 = .ok (.aload_n 0, 1) := by decide +kernel
theorem dX3_mayLeaveArray_26 : decode cX3_mayLeaveArray 26 = .ok (.getfield 31, 3) := by decide +kernel
theorem dX3_mayLeaveArray_29 : decode cX3_mayLeaveArray 29 = .ok (.iload_n 1, 1) := by decide +kernel
theorem dX3_mayLeaveArray_30 : decode cX3_mayLeaveArray 30 = .ok (.iload_n 2, 1) := by decide +kernel
theorem dX3_mayLeaveArray_31 : decode cX3_mayLeaveArray 31 = .ok (.invokevirtual 96, 3) := by decide +kernel
theorem dX3_mayLeaveArray_34 : decode cX3_mayLeaveArray 34 = .ok (.ldc2_w 201, 3) := by decide +kernel
theorem dX3_mayLeaveArray_37 : decode cX3_mayLeaveArray 37 = .ok (.lcmp, 1) := by decide +kernel
theorem dX3_mayLeaveArray_38 : decode cX3_mayLeaveArray 38 = .ok (.ifCond .le 7, 3) := by decide +kernel
theorem dX3_mayLeaveArray_41 : decode cX3_mayLeaveArray 41 = .ok (.iconst 1, 1) := by decide +kernel
theorem dX3_mayLeaveArray_42 : decode cX3_mayLeaveArray 42 = .ok (.goto 4, 3) := by decide +kernel
theorem dX3_mayLeaveArray_45 : decode cX3_mayLeaveArray 45 = .ok (.iconst 0, 1) := by decide +kernel
theorem dX3_mayLeaveArray_46 : decode cX3_mayLeaveArray 46 = .ok (.ireturn, 1) := by decide +kernel
end
section
theorem dX4_init_0 : decode cX4_init 0 = .ok (.aload_n 0, 1) := by decide +kernel
theorem dX4_init_1 : decode cX4_init 1 = .ok (.invokespecial 1, 3) := by decide +kernel
theorem dX4_init_4 : decode cX4_init 4 = .ok (.aload_n 0, 1) := by decide +kernel
theorem dX4_init_5 : decode cX4_init 5 = .ok (.bipush 96, 2) := by decide +kernel
theorem dX4_init_7 : decode cX4_init 7 = .ok (.newarray .int, 2) := by decide +kernel
theorem dX4_init_9 : decode cX4_init 9 = .ok (.putfield 7, 3) := by decide +kernel
theorem dX4_init_12 : decode cX4_init 12 = .ok (.aload_n 0, 1) := by decide +kernel
theorem dX4_init_13 : decode cX4_init 13 = .ok (.bipush 24, 2) := by decide +kernel
theorem dX4_init_15 : decode cX4_init 15 = .ok (.newarray .boolean, 2) := by decide +kernel
theorem dX4_init_17 : decode cX4_init 17 = .ok (.putfield 13, 3) := by decide +kernel
theorem dX4_init_20 : decode cX4_init 20 = .ok (.aload_n 0, 1) := by decide +kernel
theorem dX4_init_21 : decode cX4_init 21 = .ok (.bipush 96, 2) := by decide +kernel
theorem dX4_init_23 : decode cX4_init 23 = .ok (.newarray .long, 2) := by decide +kernel
theorem dX4_init_25 : decode cX4_init 25 = .ok (.putfield 17, 3) := by decide +kernel
theorem dX4_init_28 : decode cX4_init 28 = .ok (.aload_n 0, 1) := by decide +kernel
theorem dX4_init_29 : decode cX4_init 29 = .ok (.bipush 96, 2) := by decide +kernel
theorem dX4_init_31 : decode cX4_init 31 = .ok (.newarray .long, 2) := by decide +kernel
theorem dX4_init_33 : decode cX4_init 33 = .ok (.putfield 21, 3) := by decide +kernel
theorem dX4_init_36 : decode cX4_init 36 = .ok (.aload_n 0, 1) := by decide +kernel
theorem dX4_init_37 : decode cX4_init 37 = .ok (.bipush 24, 2) := by decide +kernel
theorem dX4_init_39 : decode cX4_init 39 = .ok (.newarray .boolean, 2) := by decide +kernel
theorem dX4_init_41 : decode cX4_init 41 = .ok (.putfield 24, 3) := by decide +kernel
theorem dX4_init_44 : decode cX4_init 44 = .ok (.aload_n 0, 1) := by decide +kernel
theorem dX4_init_45 : decode cX4_init 45 = .ok (.bipush 96, 2) := by decide +kernel
theorem dX4_init_47 : decode cX4_init 47 = .ok (.newarray .long, 2) := by decide +kernel
theorem dX4_init_49 : decode cX4_init 49 = .ok (.putfield 27, 3) := by decide +kernel
theorem dX4_init_52 : decode cX4_init 52 = .ok (.aload_n 0, 1) := by decide +kernel
theorem dX4_init_53 : decode cX4_init 53 = .ok (.bipush 96, 2) := by decide +kernel
theorem dX4_init_55 : decode cX4_init 55 = .ok (.newarray .long, 2) := by decide +kernel
theorem dX4_init_57 : decode cX4_init 57 = .ok (.putfield 30, 3) := by decide +kernel
theorem dX4_init_60 : decode cX4_init 60 = .ok (.aload_n 0, 1) := by decide +kernel
theorem dX4_init_61 : decode cX4_init 61 = .ok (.iconst 2, 1) := by decide +kernel
theorem dX4_init_62 : decode cX4_init 62 = .ok (.newarray .boolean, 2) := by decide +kernel
theorem dX4_init_64 : decode cX4_init 64 = .ok (.putfield 33, 3) := by decide +kernel
theorem dX4_init_67 : decode cX4_init 67 = .ok (.aload_n 0, 1) := by decide +kernel
theorem dX4_init_68 : decode cX4_init 68 = .ok (.bipush 8, 2) := by decide +kernel
theorem dX4_init_70 : decode cX4_init 70 = .ok (.newarray .long, 2) := by decide +kernel
theorem dX4_init_72 : decode cX4_init 72 = .ok (.putfield 36, 3) := by decide +kernel
theorem dX4_init_75 : decode cX4_init 75 = .ok (.aload_n 0, 1) := by decide +kernel
theorem dX4_init_76 : decode cX4_init 76 = .ok (.bipush 8, 2) := by decide +kernel
theorem dX4_init_78 : decode cX4_init 78 = .ok (.newarray .long, 2) := by decide +kernel
theorem dX4_init_80 : decode cX4_init 80 = .ok (.putfield 39, 3) := by decide +kernel
theorem dX4_init_83 : decode cX4_init 83 = .ok (.aload_n 0, 1) := by decide +kernel
theorem dX4_init_84 : decode cX4_init 84 = .ok (.iconst 0, 1) := by decide +kernel
theorem dX4_init_85 : decode cX4_init 85 = .ok (.putfield 42, 3) := by decide +kernel
theorem dX4_init_88 : decode cX4_init 88 = .ok (.return_, 1) := by decide +kernel
theorem dX4_within_0 : decode cX4_within 0 = .ok (.iload_n 0, 1) := by decide +kernel
theorem dX4_within_1 : decode cX4_within 1 = .ok (.ifCond .lt 12, 3) := by decide +kernel
theorem dX4_within_4 : decode cX4_within 4 = .ok (.iload_n 0, 1) := by decide +kernel
theorem dX4_within_5 : decode cX4_within 5 = .ok (.iload_n 1, 1) := by decide +kernel
theorem dX4_within_6 : decode cX4_within 6 = .ok (.if_icmp .gt 7, 3) := by decide +kernel
theorem dX4_within_9 : decode cX4_within 9 = .ok (.iconst 1, 1) := by decide +kernel
theorem dX4_within_10 : decode cX4_within 10 = .ok (.goto 4, 3) := by decide +kernel
theorem dX4_within_13 : decode cX4_within 13 = .ok (.iconst 0, 1) := by decide +kernel
theorem dX4_within_14 : decode cX4_within 14 = .ok (.ireturn, 1) := by decide +kernel
set_option maxRecDepth 20000 in
theorem ggX4_fits_X4_within : GoodIn wsX4_fits wsX4_within := goodIn_r _ [4] (by decide +kernel) (by decide +kernel)
set_option maxRecDepth 20000 in
theorem gX4_fits_X4_within : GoodIn wsX4_fits (va_wsS RX4 46 yX4_within wsX4_within) := goodIn_app (goodIn_of _ (by decide +kernel)) ggX4_fits_X4_within
theorem dX4_fits_0 : decode cX4_fits 0 = .ok (.iload_n 0, 1) := by decide +kernel
theorem dX4_fits_1 : decode cX4_fits 1 = .ok (.bipush 11, 2) := by decide +kernel
theorem dX4_fits_3 : decode cX4_fits 3 = .ok (.invokestatic 46, 3) := by decide +kernel
theorem dX4_fits_6 : decode cX4_fits 6 = .ok (.ifCond .ne 5, 3) := by decide +kernel
theorem dX4_fits_9 : decode cX4_fits 9 = .ok (.iconst 0, 1) := by decide +kernel
theorem dX4_fits_10 : decode cX4_fits 10 = .ok (.ireturn, 1) := by decide +kernel
theorem dX4_fits_11 : decode cX4_fits 11 = .ok (.iload_n 0, 1) := by decide +kernel
theorem dX4_fits_12 : decode cX4_fits 12 = .ok (.ifCond .eq 19, 3) := by decide +kernel
theorem dX4_fits_15 : decode cX4_fits 15 = .ok (.iload_n 0, 1) := by decide +kernel
theorem dX4_fits_16 : decode cX4_fits 16 = .ok (.bipush 10, 2) := by decide +kernel
theorem dX4_fits_18 : decode cX4_fits 18 = .ok (.if_icmp .eq 13, 3) := by decide +kernel
theorem dX4_fits_21 : decode cX4_fits 21 = .ok (.iload_n 1, 1) := by decide +kernel
theorem dX4_fits_22 : decode cX4_fits 22 = .ok (.iconst 3, 1) := by decide +kernel
theorem dX4_fits_23 : decode cX4_fits 23 = .ok (.invokestatic 46, 3) := by decide +kernel
theorem dX4_fits_26 : decode cX4_fits 26 = .ok (.ifCond .ne 5, 3) := by decide +kernel
theorem dX4_fits_29 : decode cX4_fits 29 = .ok (.iconst 0, 1) := by decide +kernel
theorem dX4_fits_30 : decode cX4_fits 30 = .ok (.ireturn, 1) := by decide +kernel
theorem dX4_fits_31 : decode cX4_fits 31 = .ok (.iload_n 0, 1) := by decide +kernel
theorem dX4_fits_32 : decode cX4_fits 32 = .ok (.iconst 2, 1) := by decide +kernel
theorem dX4_fits_33 : decode cX4_fits 33 = .ok (.if_icmp .lt 19, 3) := by decide +kernel
theorem dX4_fits_36 : decode cX4_fits 36 = .ok (.iload_n 0, 1) := by decide +kernel
theorem dX4_fits_37 : decode cX4_fits 37 = .ok (.bipush 9, 2) := by decide +kernel
theorem dX4_fits_39 : decode cX4_fits 39 = .ok (.if_icmp .gt 13, 3) := by decide +kernel
theorem dX4_fits_42 : decode cX4_fits 42 = .ok (.iload_n 2, 1) := by decide +kernel
theorem dX4_fits_43 : decode cX4_fits 43 = .ok (.iconst 3, 1) := by decide +kernel
theorem dX4_fits_44 : decode cX4_fits 44 = .ok (.invokestatic 46, 3) := by decide +kernel
theorem dX4_fits_47 : decode cX4_fits 47 = .ok (.ifCond .ne 5, 3) := by decide +kernel
theorem dX4_fits_50 : decode cX4_fits 50 = .ok (.iconst 0, 1) := by decide +kernel
theorem dX4_fits_51 : decode cX4_fits 51 = .ok (.ireturn, 1) := by decide +kernel
theorem dX4_fits_52 : decode cX4_fits 52 = .ok (.iload_n 0, 1) := by decide +kernel
theorem dX4_fits_53 : decode cX4_fits 53 = .ok (.iconst 3, 1) := by decide +kernel
theorem dX4_fits_54 : decode cX4_fits 54 = .ok (.if_icmp .lt 19, 3) := by decide +kernel
theorem dX4_fits_57 : decode cX4_fits 57 = .ok (.iload_n 0, 1) := by decide +kernel
theorem dX4_fits_58 : decode cX4_fits 58 = .ok (.bipush 6, 2) := by decide +kernel
theorem dX4_fits_60 : decode cX4_fits 60 = .ok (.if_icmp .gt 13, 3) := by decide +kernel
theorem dX4_fits_63 : decode cX4_fits 63 = .ok (.iload_n 3, 1) := by decide +kernel
theorem dX4_fits_64 : decode cX4_fits 64 = .ok (.iconst 3, 1) := by decide +kernel
theorem dX4_fits_65 : decode cX4_fits 65 = .ok (.invokestatic 46, 3) := by decide +kernel
theorem dX4_fits_68 : decode cX4_fits 68 = .ok (.ifCond .ne 5, 3) := by decide +kernel
theorem dX4_fits_71 : decode cX4_fits 71 = .ok (.iconst 0, 1) := by decide +kernel
theorem dX4_fits_72 : decode cX4_fits 72 = .ok (.ireturn, 1) := by decide +kernel
theorem dX4_fits_73 : decode cX4_fits 73 = .ok (.iload_n 0, 1) := by decide +kernel
theorem dX4_fits_74 : decode cX4_fits 74 = .ok (.bipush 9, 2) := by decide +kernel
theorem dX4_fits_76 : decode cX4_fits 76 = .ok (.if_icmp .eq 9, 3) := by decide +kernel
theorem dX4_fits_79 : decode cX4_fits 79 = .ok (.iload_n 0, 1) := by decide +kernel
theorem dX4_fits_80 : decode cX4_fits 80 = .ok (.bipush 10, 2) := by decide +kernel
theorem dX4_fits_82 : decode cX4_fits 82 = .ok (.if_icmp .ne 12, 3) := by decide +kernel
theorem dX4_fits_85 : decode cX4_fits 85 = .ok (.iload_n 3, 1) := by decide +kernel
theorem dX4_fits_86 : decode cX4_fits 86 = .ok (.bipush 23, 2) := by decide +kernel
theorem dX4_fits_88 : decode cX4_fits 88 = .ok (.invokestatic 46, 3) := by decide +kernel
theorem dX4_fits_91 : decode cX4_fits 91 = .ok (.ifCond .eq 7, 3) := by decide +kernel
theorem dX4_fits_94 : decode cX4_fits 94 = .ok (.iconst 1, 1) := by decide +kernel
theorem dX4_fits_95 : decode cX4_fits 95 = .ok (.goto 4, 3) := by decide +kernel
theorem dX4_fits_98 : decode cX4_fits 98 = .ok (.iconst 0, 1) := by decide +kernel
theorem dX4_fits_99 : decode cX4_fits 99 = .ok (.ireturn, 1) := by decide +kernel
set_option maxRecDepth 20000 in
theorem ggX4_add_X4_fits : GoodIn wsX4_add wsX4_fits := goodIn_r _ [6, 7, 8, 5, 9] (by decide +kernel) (by decide +kernel)
set_option maxRecDepth 20000 in
theorem gX4_add_X4_fits : GoodIn wsX4_add (va_wsS RX4 50 yX4_fits wsX4_fits) := goodIn_app (goodIn_of _ (by decide +kernel)) ggX4_add_X4_fits
set_option maxRecDepth 20000 in
theorem ggX4_add_X4_forget : GoodIn wsX4_add wsX4_forget := goodIn_r _ [13, 14, 15, 16, 17, 18, 19, 20, 21, 22, 23, 24, 25, 26, 27, 28, 29, 30] (by decide +kernel) (by decide +kernel)
set_option maxRecDepth 20000 in
theorem gX4_add_X4_forget : GoodIn wsX4_add (wsV RX4 54 RX4 yX4_forget wsX4_forget) := goodIn_app (goodIn_of _ (by decide +kernel)) ggX4_add_X4_forget
theorem dX4_add_0 : decode cX4_add 0 = .ok (.iload_n 1, 1) := by decide +kernel
theorem dX4_add_1 : decode cX4_add 1 = .ok (.iload_n 2, 1) := by decide +kernel
theorem dX4_add_2 : decode cX4_add 2 = .ok (.iload_n 3, 1) := by decide +kernel
theorem dX4_add_3 : decode cX4_add 3 = .ok (.iload 4, 2) := by decide +kernel
theorem dX4_add_5 : decode cX4_add 5 = .ok (.invokestatic 50, 3) := by decide +kernel
theorem dX4_add_8 : decode cX4_add 8 = .ok (.ifCond .ne 5, 3) := by decide +kernel
theorem dX4_add_11 : decode cX4_add 11 = .ok (.iconst (-1), 1) := by decide +kernel
theorem dX4_add_12 : decode cX4_add 12 = .ok (.ireturn, 1) := by decide +kernel
theorem dX4_add_13 : decode cX4_add 13 = .ok (.aload_n 0, 1) := by decide +kernel
theorem dX4_add_14 : decode cX4_add 14 = .ok (.getfield 42, 3) := by decide +kernel
theorem dX4_add_17 : decode cX4_add 17 = .ok (.bipush 24, 2) := by decide +kernel
theorem dX4_add_19 : decode cX4_add 19 = .ok (.if_icmp .ne 6, 3) := by decide +kernel
theorem dX4_add_22 : decode cX4_add 22 = .ok (.bipush (-2), 2) := by decide +kernel
theorem dX4_add_24 : decode cX4_add 24 = .ok (.ireturn, 1) := by decide +kernel
theorem dX4_add_25 : decode cX4_add 25 = .ok (.aload_n 0, 1) := by decide +kernel
theorem dX4_add_26 : decode cX4_add 26 = .ok (.getfield 7, 3) := by decide +kernel
theorem dX4_add_29 : decode cX4_add 29 = .ok (.iconst 4, 1) := by decide +kernel
theorem dX4_add_30 : decode cX4_add 30 = .ok (.aload_n 0, 1) := by decide +kernel
theorem dX4_add_31 : decode cX4_add 31 = .ok (.getfield 42, 3) := by decide +kernel
theorem dX4_add_34 : decode cX4_add 34 = .ok (.imul, 1) := by decide +kernel
theorem dX4_add_35 : decode cX4_add 35 = .ok (.iload_n 1, 1) := by decide +kernel
theorem dX4_add_36 : decode cX4_add 36 = .ok (.iastore, 1) := by decide +kernel
theorem dX4_add_37 : decode cX4_add 37 = .ok (.aload_n 0, 1) := by decide +kernel
theorem dX4_add_38 : decode cX4_add 38 = .ok (.getfield 7, 3) := by decide +kernel
theorem dX4_add_41 : decode cX4_add 41 = .ok (.iconst 4, 1) := by decide +kernel
theorem dX4_add_42 : decode cX4_add 42 = .ok (.aload_n 0, 1) := by decide +kernel
theorem dX4_add_43 : decode cX4_add 43 = .ok (.getfield 42, 3) := by decide +kernel
theorem dX4_add_46 : decode cX4_add 46 = .ok (.imul, 1) := by decide +kernel
theorem dX4_add_47 : decode cX4_add 47 = .ok (.iconst 1, 1) := by decide +kernel
theorem dX4_add_48 : decode cX4_add 48 = .ok (.iadd, 1) := by decide +kernel
theorem dX4_add_49 : decode cX4_add 49 = .ok (.iload_n 2, 1) := by decide +kernel
theorem dX4_add_50 : decode cX4_add 50 = .ok (.iastore, 1) := by decide +kernel
theorem dX4_add_51 : decode cX4_add 51 = .ok (.aload_n 0, 1) := by decide +kernel
theorem dX4_add_52 : decode cX4_add 52 = .ok (.getfield 7, 3) := by decide +kernel
theorem dX4_add_55 : decode cX4_add 55 = .ok (.iconst 4, 1) := by decide +kernel
theorem dX4_add_56 : decode cX4_add 56 = .ok (.aload_n 0, 1) := by decide +kernel
theorem dX4_add_57 : decode cX4_add 57 = .ok (.getfield 42, 3) := by decide +kernel
theorem dX4_add_60 : decode cX4_add 60 = .ok (.imul, 1) := by decide +kernel
theorem dX4_add_61 : decode cX4_add 61 = .ok (.iconst 2, 1) := by decide +kernel
theorem dX4_add_62 : decode cX4_add 62 = .ok (.iadd, 1) := by decide +kernel
theorem dX4_add_63 : decode cX4_add 63 = .ok (.iload_n 3, 1) := by decide +kernel
theorem dX4_add_64 : decode cX4_add 64 = .ok (.iastore, 1) := by decide +kernel
theorem dX4_add_65 : decode cX4_add 65 = .ok (.aload_n 0, 1) := by decide +kernel
theorem dX4_add_66 : decode cX4_add 66 = .ok (.getfield 7, 3) := by decide +kernel
theorem dX4_add_69 : decode cX4_add 69 = .ok (.iconst 4, 1) := by decide +kernel
theorem dX4_add_70 : decode cX4_add 70 = .ok (.aload_n 0, 1) := by decide +kernel
theorem dX4_add_71 : decode cX4_add 71 = .ok (.getfield 42, 3) := by decide +kernel
theorem dX4_add_74 : decode cX4_add 74 = .ok (.imul, 1) := by decide +kernel
theorem dX4_add_75 : decode cX4_add 75 = .ok (.iconst 3, 1) := by decide +kernel
theorem dX4_add_76 : decode cX4_add 76 = .ok (.iadd, 1) := by decide +kernel
theorem dX4_add_77 : decode cX4_add 77 = .ok (.iload 4, 2) := by decide +kernel
theorem dX4_add_79 : decode cX4_add 79 = .ok (.iastore, 1) := by decide +kernel
theorem dX4_add_80 : decode cX4_add 80 = .ok (.aload_n 0, 1) := by decide +kernel
theorem dX4_add_81 : decode cX4_add 81 = .ok (.aload_n 0, 1) := by decide +kernel
theorem dX4_add_82 : decode cX4_add 82 = .ok (.getfield 42, 3) := by decide +kernel
theorem dX4_add_85 : decode cX4_add 85 = .ok (.iconst 1, 1) := by decide +kernel
theorem dX4_add_86 : decode cX4_add 86 = .ok (.iadd, 1) := by decide +kernel
theorem dX4_add_87 : decode cX4_add 87 = .ok (.putfield 42, 3) := by decide +kernel
theorem dX4_add_90 : decode cX4_add 90 = .ok (.aload_n 0, 1) := by decide +kernel
theorem dX4_add_91 : decode cX4_add 91 = .ok (.invokevirtual 54, 3) := by decide +kernel
theorem dX4_add_94 : decode cX4_add 94 = .ok (.aload_n 0, 1) := by decide +kernel
theorem dX4_add_95 : decode cX4_add 95 = .ok (.getfield 42, 3) := by decide +kernel
theorem dX4_add_98 : decode cX4_add 98 = .ok (.iconst 1, 1) := by decide +kernel
theorem dX4_add_99 : decode cX4_add 99 = .ok (.isub, 1) := by decide +kernel
theorem dX4_add_100 : decode cX4_add 100 = .ok (.ireturn, 1) := by decide +kernel
theorem dX4_forget_0 : decode cX4_forget 0 = .ok (.aload_n 0, 1) := by decide +kernel
theorem dX4_forget_1 : decode cX4_forget 1 = .ok (.iconst 0, 1) := by decide +kernel
theorem dX4_forget_2 : decode cX4_forget 2 = .ok (.putfield 57, 3) := by decide +kernel
theorem dX4_forget_5 : decode cX4_forget 5 = .ok (.aload_n 0, 1) := by decide +kernel
theorem dX4_forget_6 : decode cX4_forget 6 = .ok (.iconst 0, 1) := by decide +kernel
theorem dX4_forget_7 : decode cX4_forget 7 = .ok (.putfield 61, 3) := by decide +kernel
theorem dX4_forget_10 : decode cX4_forget 10 = .ok (.return_, 1) := by decide +kernel
set_option maxRecDepth 20000 in
theorem ggX4_clear_X4_forget : GoodIn wsX4_clear wsX4_forget := goodIn_r _ [6, 7, 8, 9, 10, 11, 12, 13, 14, 15, 16, 17, 18, 19, 20, 21, 22, 23] (by decide +kernel) (by decide +kernel)
set_option maxRecDepth 20000 in
theorem gX4_clear_X4_forget : GoodIn wsX4_clear (wsV RX4 54 RX4 yX4_forget wsX4_forget) := goodIn_app (goodIn_of _ (by decide +kernel)) ggX4_clear_X4_forget
theorem dX4_clear_0 : decode cX4_clear 0 = .ok (.aload_n 0, 1) := by decide +kernel
theorem dX4_clear_1 : decode cX4_clear 1 = .ok (.iconst 0, 1) := by decide +kernel
theorem dX4_clear_2 : decode cX4_clear 2 = .ok (.putfield 42, 3) := by decide +kernel
theorem dX4_clear_5 : decode cX4_clear 5 = .ok (.aload_n 0, 1) := by decide +kernel
theorem dX4_clear_6 : decode cX4_clear 6 = .ok (.invokevirtual 54, 3) := by decide +kernel
theorem dX4_clear_9 : decode cX4_clear 9 = .ok (.return_, 1) := by decide +kernel
theorem dX4_size_0 : decode cX4_size 0 = .ok (.aload_n 0, 1) := by decide +kernel
theorem dX4_size_1 : decode cX4_size 1 = .ok (.getfield 42, 3) := by decide +kernel
theorem dX4_size_4 : decode cX4_size 4 = .ok (.ireturn, 1) := by decide +kernel
set_option maxRecDepth 20000 in
theorem ggX4_code_X4_within : GoodIn wsX4_code wsX4_within := goodIn_r _ [6] (by decide +kernel) (by decide +kernel)
set_option maxRecDepth 20000 in
theorem gX4_code_X4_within : GoodIn wsX4_code (va_wsS RX4 46 yX4_within wsX4_within) := goodIn_app (goodIn_of _ (by decide +kernel)) ggX4_code_X4_within
theorem dX4_code_0 : decode cX4_code 0 = .ok (.iload_n 1, 1) := by decide +kernel
theorem dX4_code_1 : decode cX4_code 1 = .ok (.aload_n 0, 1) := by decide +kernel
theorem dX4_code_2 : decode cX4_code 2 = .ok (.getfield 42, 3) := by decide +kernel
theorem dX4_code_5 : decode cX4_code 5 = .ok (.iconst 1, 1) := by decide +kernel
theorem dX4_code_6 : decode cX4_code 6 = .ok (.isub, 1) := by decide +kernel
theorem dX4_code_7 : decode cX4_code 7 = .ok (.invokestatic 46, 3) := by decide +kernel
theorem dX4_code_10 : decode cX4_code 10 = .ok (.ifCond .eq 24, 3) := by decide +kernel
theorem dX4_code_13 : decode cX4_code 13 = .ok (.iload_n 2, 1) := by decide +kernel
theorem dX4_code_14 : decode cX4_code 14 = .ok (.iconst 3, 1) := by decide +kernel
theorem dX4_code_15 : decode cX4_code 15 = .ok (.invokestatic 46, 3) := by decide +kernel
theorem dX4_code_18 : decode cX4_code 18 = .ok (.ifCond .eq 16, 3) := by decide +kernel
theorem dX4_code_21 : decode cX4_code 21 = .ok (.aload_n 0, 1) := by decide +kernel
theorem dX4_code_22 : decode cX4_code 22 = .ok (.getfield 7, 3) := by decide +kernel
theorem dX4_code_25 : decode cX4_code 25 = .ok (.iconst 4, 1) := by decide +kernel
theorem dX4_code_26 : decode cX4_code 26 = .ok (.iload_n 1, 1) := by decide +kernel
theorem dX4_code_27 : decode cX4_code 27 = .ok (.imul, 1) := by decide +kernel
theorem dX4_code_28 : decode cX4_code 28 = .ok (.iload_n 2, 1) := by decide +kernel
theorem dX4_code_29 : decode cX4_code 29 = .ok (.iadd, 1) := by decide +kernel
theorem dX4_code_30 : decode cX4_code 30 = .ok (.iaload, 1) := by decide +kernel
theorem dX4_code_31 : decode cX4_code 31 = .ok (.goto 5, 3) := by decide +kernel
theorem dX4_code_34 : decode cX4_code 34 = .ok (.bipush (-9), 2) := by decide +kernel
theorem dX4_code_36 : decode cX4_code 36 = .ok (.ireturn, 1) := by decide +kernel
theorem dX4_whole_0 : decode cX4_whole 0 = .ok (.aload_n 0, 1) := by decide +kernel
theorem dX4_whole_1 : decode cX4_whole 1 = .ok (.getfield 42, 3) := by decide +kernel
theorem dX4_whole_4 : decode cX4_whole 4 = .ok (.ifCond .eq 37, 3) := by decide +kernel
theorem dX4_whole_7 : decode cX4_whole 7 = .ok (.aload_n 0, 1) := by decide +kernel
theorem dX4_whole_8 : decode cX4_whole 8 = .ok (.getfield 7, 3) := by decide +kernel
theorem dX4_whole_11 : decode cX4_whole 11 = .ok (.iconst 4, 1) := by decide +kernel
theorem dX4_whole_12 : decode cX4_whole 12 = .ok (.aload_n 0, 1) := by decide +kernel
theorem dX4_whole_13 : decode cX4_whole 13 = .ok (.getfield 42, 3) := by decide +kernel
theorem dX4_whole_16 : decode cX4_whole 16 = .ok (.imul, 1) := by decide +kernel
theorem dX4_whole_17 : decode cX4_whole 17 = .ok (.iconst 4, 1) := by decide +kernel
theorem dX4_whole_18 : decode cX4_whole 18 = .ok (.isub, 1) := by decide +kernel
theorem dX4_whole_19 : decode cX4_whole 19 = .ok (.iaload, 1) := by decide +kernel
theorem dX4_whole_20 : decode cX4_whole 20 = .ok (.ifCond .eq 23, 3) := by decide +kernel
theorem dX4_whole_23 : decode cX4_whole 23 = .ok (.aload_n 0, 1) := by decide +kernel
theorem dX4_whole_24 : decode cX4_whole 24 = .ok (.getfield 7, 3) := by decide +kernel
theorem dX4_whole_27 : decode cX4_whole 27 = .ok (.iconst 4, 1) := by decide +kernel
theorem dX4_whole_28 : decode cX4_whole 28 = .ok (.aload_n 0, 1) := by decide +kernel
theorem dX4_whole_29 : decode cX4_whole 29 = .ok (.getfield 42, 3) := by decide +kernel
theorem dX4_whole_32 : decode cX4_whole 32 = .ok (.imul, 1) := by decide +kernel
theorem dX4_whole_33 : decode cX4_whole 33 = .ok (.iconst 4, 1) := by decide +kernel
theorem dX4_whole_34 : decode cX4_whole 34 = .ok (.isub, 1) := by decide +kernel
theorem dX4_whole_35 : decode cX4_whole 35 = .ok (.iaload, 1) := by decide +kernel
theorem dX4_whole_36 : decode cX4_whole 36 = .ok (.bipush 10, 2) := by decide +kernel
theorem dX4_whole_38 : decode cX4_whole 38 = .ok (.if_icmp .eq 5, 3) := by decide +kernel
theorem dX4_whole_41 : decode cX4_whole 41 = .ok (.iconst 0, 1) := by decide +kernel
theorem dX4_whole_42 : decode cX4_whole 42 = .ok (.ireturn, 1) := by decide +kernel
theorem dX4_whole_43 : decode cX4_whole 43 = .ok (.iconst 0, 1) := by decide +kernel
theorem dX4_whole_44 : decode cX4_whole 44 = .ok (.istore_n 1, 1) := by decide +kernel
theorem dX4_whole_45 : decode cX4_whole 45 = .ok (.iload_n 1, 1) := by decide +kernel
theorem dX4_whole_46 : decode cX4_whole 46 = .ok (.aload_n 0, 1) := by decide +kernel
theorem dX4_whole_47 : decode cX4_whole 47 = .ok (.getfield 42, 3) := by decide +kernel
theorem dX4_whole_50 : decode cX4_whole 50 = .ok (.if_icmp .ge 49, 3) := by decide +kernel
theorem dX4_whole_53 : decode cX4_whole 53 = .ok (.aload_n 0, 1) := by decide +kernel
theorem dX4_whole_54 : decode cX4_whole 54 = .ok (.getfield 7, 3) := by decide +kernel
theorem dX4_whole_57 : decode cX4_whole 57 = .ok (.iconst 4, 1) := by decide +kernel
theorem dX4_whole_58 : decode cX4_whole 58 = .ok (.iload_n 1, 1) := by decide +kernel
theorem dX4_whole_59 : decode cX4_whole 59 = .ok (.imul, 1) := by decide +kernel
theorem dX4_whole_60 : decode cX4_whole 60 = .ok (.iaload, 1) := by decide +kernel
theorem dX4_whole_61 : decode cX4_whole 61 = .ok (.istore_n 2, 1) := by decide +kernel
theorem dX4_whole_62 : decode cX4_whole 62 = .ok (.iload_n 2, 1) := by decide +kernel
theorem dX4_whole_63 : decode cX4_whole 63 = .ok (.bipush 9, 2) := by decide +kernel
theorem dX4_whole_65 : decode cX4_whole 65 = .ok (.if_icmp .eq 9, 3) := by decide +kernel
theorem dX4_whole_68 : decode cX4_whole 68 = .ok (.iload_n 2, 1) := by decide +kernel
theorem dX4_whole_69 : decode cX4_whole 69 = .ok (.bipush 10, 2) := by decide +kernel
theorem dX4_whole_71 : decode cX4_whole 71 = .ok (.if_icmp .ne 22, 3) := by decide +kernel
theorem dX4_whole_74 : decode cX4_whole 74 = .ok (.aload_n 0, 1) := by decide +kernel
theorem dX4_whole_75 : decode cX4_whole 75 = .ok (.getfield 7, 3) := by decide +kernel
theorem dX4_whole_78 : decode cX4_whole 78 = .ok (.iconst 4, 1) := by decide +kernel
theorem dX4_whole_79 : decode cX4_whole 79 = .ok (.iload_n 1, 1) := by decide +kernel
theorem dX4_whole_80 : decode cX4_whole 80 = .ok (.imul, 1) := by decide +kernel
theorem dX4_whole_81 : decode cX4_whole 81 = .ok (.iconst 3, 1) := by decide +kernel
theorem dX4_whole_82 : decode cX4_whole 82 = .ok (.iadd, 1) := by decide +kernel
theorem dX4_whole_83 : decode cX4_whole 83 = .ok (.iaload, 1) := by decide +kernel
theorem dX4_whole_84 : decode cX4_whole 84 = .ok (.aload_n 0, 1) := by decide +kernel
theorem dX4_whole_85 : decode cX4_whole 85 = .ok (.getfield 42, 3) := by decide +kernel
theorem dX4_whole_88 : decode cX4_whole 88 = .ok (.if_icmp .lt 5, 3) := by decide +kernel
theorem dX4_whole_91 : decode cX4_whole 91 = .ok (.iconst 0, 1) := by decide +kernel
theorem dX4_whole_92 : decode cX4_whole 92 = .ok (.ireturn, 1) := by decide +kernel
theorem dX4_whole_93 : decode cX4_whole 93 = .ok (.iinc 1 1, 3) := by decide +kernel
theorem dX4_whole_96 : decode cX4_whole 96 = .ok (.goto (-51), 3) := by decide +kernel
theorem dX4_whole_99 : decode cX4_whole 99 = .ok (.iconst 1, 1) := by decide +kernel
theorem dX4_whole_100 : decode cX4_whole 100 = .ok (.ireturn, 1) := by decide +kernel
theorem dX4_set_0 : decode cX4_set 0 = .ok (.lload_n 2, 1) := by decide +kernel
theorem dX4_set_1 : decode cX4_set 1 = .ok (.ldc2_w 64, 3) := by decide +kernel
theorem dX4_set_4 : decode cX4_set 4 = .ok (.ladd, 1) := by decide +kernel
theorem dX4_set_5 : decode cX4_set 5 = .ok (.bipush 32, 2) := by decide +kernel
theorem dX4_set_7 : decode cX4_set 7 = .ok (.lshr, 1) := by decide +kernel
theorem dX4_set_8 : decode cX4_set 8 = .ok (.lload 4, 2) := by decide +kernel
theorem dX4_set_10 : decode cX4_set 10 = .ok (.ldc2_w 64, 3) := by decide +kernel
theorem dX4_set_13 : decode cX4_set 13 = .ok (.ladd, 1) := by decide +kernel
theorem dX4_set_14 : decode cX4_set 14 = .ok (.bipush 32, 2) := by decide +kernel
theorem dX4_set_16 : decode cX4_set 16 = .ok (.lshr, 1) := by decide +kernel
theorem dX4_set_17 : decode cX4_set 17 = .ok (.lcmp, 1) := by decide +kernel
theorem dX4_set_18 : decode cX4_set 18 = .ok (.ifCond .ne 7, 3) := by decide +kernel
theorem dX4_set_21 : decode cX4_set 21 = .ok (.iconst 1, 1) := by decide +kernel
theorem dX4_set_22 : decode cX4_set 22 = .ok (.goto 4, 3) := by decide +kernel
theorem dX4_set_25 : decode cX4_set 25 = .ok (.iconst 0, 1) := by decide +kernel
theorem dX4_set_26 : decode cX4_set 26 = .ok (.istore 6, 2) := by decide +kernel
theorem dX4_set_28 : decode cX4_set 28 = .ok (.aload_n 0, 1) := by decide +kernel
theorem dX4_set_29 : decode cX4_set 29 = .ok (.getfield 36, 3) := by decide +kernel
theorem dX4_set_32 : decode cX4_set 32 = .ok (.iload_n 1, 1) := by decide +kernel
theorem dX4_set_33 : decode cX4_set 33 = .ok (.iload 6, 2) := by decide +kernel
theorem dX4_set_35 : decode cX4_set 35 = .ok (.ifCond .eq 9, 3) := by decide +kernel
theorem dX4_set_38 : decode cX4_set 38 = .ok (.lload_n 2, 1) := by decide +kernel
theorem dX4_set_39 : decode cX4_set 39 = .ok (.l2i, 1) := by decide +kernel
theorem dX4_set_40 : decode cX4_set 40 = .ok (.i2l, 1) := by decide +kernel
theorem dX4_set_41 : decode cX4_set 41 = .ok (.goto 6, 3) := by decide +kernel
theorem dX4_set_44 : decode cX4_set 44 = .ok (.ldc2_w 66, 3) := by decide +kernel
theorem dX4_set_47 : decode cX4_set 47 = .ok (.lastore, 1) := by decide +kernel
theorem dX4_set_48 : decode cX4_set 48 = .ok (.aload_n 0, 1) := by decide +kernel
theorem dX4_set_49 : decode cX4_set 49 = .ok (.getfield 39, 3) := by decide +kernel
theorem dX4_set_52 : decode cX4_set 52 = .ok (.iload_n 1, 1) := by decide +kernel
theorem dX4_set_53 : decode cX4_set 53 = .ok (.iload 6, 2) := by decide +kernel
theorem dX4_set_55 : decode cX4_set 55 = .ok (.ifCond .eq 10, 3) := by decide +kernel
theorem dX4_set_58 : decode cX4_set 58 = .ok (.lload 4, 2) := by decide +kernel
theorem dX4_set_60 : decode cX4_set 60 = .ok (.l2i, 1) := by decide +kernel
theorem dX4_set_61 : decode cX4_set 61 = .ok (.i2l, 1) := by decide +kernel
theorem dX4_set_62 : decode cX4_set 62 = .ok (.goto 6, 3) := by decide +kernel
theorem dX4_set_65 : decode cX4_set 65 = .ok (.ldc2_w 68, 3) := by decide +kernel
theorem dX4_set_68 : decode cX4_set 68 = .ok (.lastore, 1) := by decide +kernel
theorem dX4_set_69 : decode cX4_set 69 = .ok (.return_, 1) := by decide +kernel
theorem dX4_meet_0 : decode cX4_meet 0 = .ok (.iload_n 1, 1) := by decide +kernel
theorem dX4_meet_1 : decode cX4_meet 1 = .ok (.iconst 3, 1) := by decide +kernel
theorem dX4_meet_2 : decode cX4_meet 2 = .ok (.if_icmp .ne 10, 3) := by decide +kernel
theorem dX4_meet_5 : decode cX4_meet 5 = .ok (.lload_n 2, 1) := by decide +kernel
theorem dX4_meet_6 : decode cX4_meet 6 = .ok (.lload 4, 2) := by decide +kernel
theorem dX4_meet_8 : decode cX4_meet 8 = .ok (.ladd, 1) := by decide +kernel
theorem dX4_meet_9 : decode cX4_meet 9 = .ok (.goto 31, 3) := by decide +kernel
theorem dX4_meet_12 : decode cX4_meet 12 = .ok (.iload_n 1, 1) := by decide +kernel
theorem dX4_meet_13 : decode cX4_meet 13 = .ok (.iconst 4, 1) := by decide +kernel
theorem dX4_meet_14 : decode cX4_meet 14 = .ok (.if_icmp .ne 10, 3) := by decide +kernel
theorem dX4_meet_17 : decode cX4_meet 17 = .ok (.lload_n 2, 1) := by decide +kernel
theorem dX4_meet_18 : decode cX4_meet 18 = .ok (.lload 4, 2) := by decide +kernel
theorem dX4_meet_20 : decode cX4_meet 20 = .ok (.lsub, 1) := by decide +kernel
theorem dX4_meet_21 : decode cX4_meet 21 = .ok (.goto 19, 3) := by decide +kernel
theorem dX4_meet_24 : decode cX4_meet 24 = .ok (.iload_n 1, 1) := by decide +kernel
theorem dX4_meet_25 : decode cX4_meet 25 = .ok (.iconst 5, 1) := by decide +kernel
theorem dX4_meet_26 : decode cX4_meet 26 = .ok (.if_icmp .ne 10, 3) := by decide +kernel
theorem dX4_meet_29 : decode cX4_meet 29 = .ok (.lload_n 2, 1) := by decide +kernel
theorem dX4_meet_30 : decode cX4_meet 30 = .ok (.lload 4, 2) := by decide +kernel
theorem dX4_meet_32 : decode cX4_meet 32 = .ok (.lmul, 1) := by decide +kernel
theorem dX4_meet_33 : decode cX4_meet 33 = .ok (.goto 7, 3) := by decide +kernel
theorem dX4_meet_36 : decode cX4_meet 36 = .ok (.lload_n 2, 1) := by decide +kernel
theorem dX4_meet_37 : decode cX4_meet 37 = .ok (.lload 4, 2) := by decide +kernel
theorem dX4_meet_39 : decode cX4_meet 39 = .ok (.ldiv, 1) := by decide +kernel
theorem dX4_meet_40 : decode cX4_meet 40 = .ok (.lstore 6, 2) := by decide +kernel
theorem dX4_meet_42 : decode cX4_meet 42 = .ok (.lload 6, 2) := by decide +kernel
theorem dX4_meet_44 : decode cX4_meet 44 = .ok (.aload_n 0, 1) := by decide +kernel
theorem dX4_meet_45 : decode cX4_meet 45 = .ok (.getfield 70, 3) := by decide +kernel
theorem dX4_meet_48 : decode cX4_meet 48 = .ok (.lcmp, 1) := by decide +kernel
theorem dX4_meet_49 : decode cX4_meet 49 = .ok (.ifCond .ge 9, 3) := by decide +kernel
theorem dX4_meet_52 : decode cX4_meet 52 = .ok (.aload_n 0, 1) := by decide +kernel
theorem dX4_meet_53 : decode cX4_meet 53 = .ok (.lload 6, 2) := by decide +kernel
theorem dX4_meet_55 : decode cX4_meet 55 = .ok (.putfield 70, 3) := by decide +kernel
theorem dX4_meet_58 : decode cX4_meet 58 = .ok (.lload 6, 2) := by decide +kernel
theorem dX4_meet_60 : decode cX4_meet 60 = .ok (.aload_n 0, 1) := by decide +kernel
theorem dX4_meet_61 : decode cX4_meet 61 = .ok (.getfield 74, 3) := by decide +kernel
theorem dX4_meet_64 : decode cX4_meet 64 = .ok (.lcmp, 1) := by decide +kernel
theorem dX4_meet_65 : decode cX4_meet 65 = .ok (.ifCond .le 9, 3) := by decide +kernel
theorem dX4_meet_68 : decode cX4_meet 68 = .ok (.aload_n 0, 1) := by decide +kernel
theorem dX4_meet_69 : decode cX4_meet 69 = .ok (.lload 6, 2) := by decide +kernel
theorem dX4_meet_71 : decode cX4_meet 71 = .ok (.putfield 74, 3) := by decide +kernel
theorem dX4_meet_74 : decode cX4_meet 74 = .ok (.return_, 1) := by decide +kernel
set_option maxRecDepth 20000 in
theorem ggX4_corners_X4_meet : GoodIn wsX4_corners wsX4_meet := goodIn_r _ [5, 6, 7, 8, 9, 10, 11, 12, 13, 14, 15, 16, 17, 18, 19, 20, 21, 22] (by decide +kernel) (by decide +kernel)
set_option maxRecDepth 20000 in
theorem gX4_corners_X4_meet : GoodIn wsX4_corners (wsV RX4 77 RX4 yX4_meet wsX4_meet) := goodIn_app (goodIn_of _ (by decide +kernel)) ggX4_corners_X4_meet
theorem dX4_corners_0 : decode cX4_corners 0 = .ok (.aload_n 0, 1) := by decide +kernel
theorem dX4_corners_1 : decode cX4_corners 1 = .ok (.iload_n 1, 1) := by decide +kernel
theorem dX4_corners_2 : decode cX4_corners 2 = .ok (.lload_n 2, 1) := by decide +kernel
theorem dX4_corners_3 : decode cX4_corners 3 = .ok (.lload 6, 2) := by decide +kernel
theorem dX4_corners_5 : decode cX4_corners 5 = .ok (.invokevirtual 77, 3) := by decide +kernel
theorem dX4_corners_8 : decode cX4_corners 8 = .ok (.aload_n 0, 1) := by decide +kernel
theorem dX4_corners_9 : decode cX4_corners 9 = .ok (.iload_n 1, 1) := by decide +kernel
theorem dX4_corners_10 : decode cX4_corners 10 = .ok (.lload_n 2, 1) := by decide +kernel
theorem dX4_corners_11 : decode cX4_corners 11 = .ok (.lload 8, 2) := by decide +kernel
theorem dX4_corners_13 : decode cX4_corners 13 = .ok (.invokevirtual 77, 3) := by decide +kernel
theorem dX4_corners_16 : decode cX4_corners 16 = .ok (.aload_n 0, 1) := by decide +kernel
theorem dX4_corners_17 : decode cX4_corners 17 = .ok (.iload_n 1, 1) := by decide +kernel
theorem dX4_corners_18 : decode cX4_corners 18 = .ok (.lload 4, 2) := by decide +kernel
theorem dX4_corners_20 : decode cX4_corners 20 = .ok (.lload 6, 2) := by decide +kernel
theorem dX4_corners_22 : decode cX4_corners 22 = .ok (.invokevirtual 77, 3) := by decide +kernel
theorem dX4_corners_25 : decode cX4_corners 25 = .ok (.aload_n 0, 1) := by decide +kernel
theorem dX4_corners_26 : decode cX4_corners 26 = .ok (.iload_n 1, 1) := by decide +kernel
theorem dX4_corners_27 : decode cX4_corners 27 = .ok (.lload 4, 2) := by decide +kernel
theorem dX4_corners_29 : decode cX4_corners 29 = .ok (.lload 8, 2) := by decide +kernel
theorem dX4_corners_31 : decode cX4_corners 31 = .ok (.invokevirtual 77, 3) := by decide +kernel
theorem dX4_corners_34 : decode cX4_corners 34 = .ok (.return_, 1) := by decide +kernel
set_option maxRecDepth 20000 in
theorem ggX4_calculate_X4_corners : GoodIn wsX4_calculate wsX4_corners := goodIn_r _ [12, 13, 14, 15, 11, 16, 4, 5, 26, 27, 28, 29, 30, 31, 32, 33, 34, 35, 36, 37, 38, 39, 40] (by decide +kernel) (by decide +kernel)
set_option maxRecDepth 20000 in
theorem gX4_calculate_X4_corners : GoodIn wsX4_calculate (wsV RX4 83 RX4 yX4_corners wsX4_corners) := goodIn_app (goodIn_of _ (by decide +kernel)) ggX4_calculate_X4_corners
set_option maxRecDepth 20000 in
theorem ggX4_calculate_X4_set : GoodIn wsX4_calculate wsX4_set := goodIn_r _ [20, 21, 22, 23, 24, 25, 26, 27, 28, 29, 30, 31, 32, 33, 34, 35, 36, 37, 38, 39, 40] (by decide +kernel) (by decide +kernel)
set_option maxRecDepth 20000 in
theorem gX4_calculate_X4_set : GoodIn wsX4_calculate (wsV RX4 89 RX4 yX4_set wsX4_set) := goodIn_app (goodIn_of _ (by decide +kernel)) ggX4_calculate_X4_set
theorem dX4_calculate_0 : decode cX4_calculate 0 = .ok (.aload_n 0, 1) := by decide +kernel
theorem dX4_calculate_1 : decode cX4_calculate 1 = .ok (.getfield 17, 3) := by decide +kernel
theorem dX4_calculate_4 : decode cX4_calculate 4 = .ok (.iconst 4, 1) := by decide +kernel
theorem dX4_calculate_5 : decode cX4_calculate 5 = .ok (.iload_n 2, 1) := by decide +kernel
theorem dX4_calculate_6 : decode cX4_calculate 6 = .ok (.imul, 1) := by decide +kernel
theorem dX4_calculate_7 : decode cX4_calculate 7 = .ok (.iload 4, 2) := by decide +kernel
theorem dX4_calculate_9 : decode cX4_calculate 9 = .ok (.iadd, 1) := by decide +kernel
theorem dX4_calculate_10 : decode cX4_calculate 10 = .ok (.laload, 1) := by decide +kernel
theorem dX4_calculate_11 : decode cX4_calculate 11 = .ok (.lstore 6, 2) := by decide +kernel
theorem dX4_calculate_13 : decode cX4_calculate 13 = .ok (.aload_n 0, 1) := by decide +kernel
theorem dX4_calculate_14 : decode cX4_calculate 14 = .ok (.getfield 21, 3) := by decide +kernel
theorem dX4_calculate_17 : decode cX4_calculate 17 = .ok (.iconst 4, 1) := by decide +kernel
theorem dX4_calculate_18 : decode cX4_calculate 18 = .ok (.iload_n 2, 1) := by decide +kernel
theorem dX4_calculate_19 : decode cX4_calculate 19 = .ok (.imul, 1) := by decide +kernel
theorem dX4_calculate_20 : decode cX4_calculate 20 = .ok (.iload 4, 2) := by decide +kernel
theorem dX4_calculate_22 : decode cX4_calculate 22 = .ok (.iadd, 1) := by decide +kernel
theorem dX4_calculate_23 : decode cX4_calculate 23 = .ok (.laload, 1) := by decide +kernel
theorem dX4_calculate_24 : decode cX4_calculate 24 = .ok (.lstore 8, 2) := by decide +kernel
theorem dX4_calculate_26 : decode cX4_calculate 26 = .ok (.aload_n 0, 1) := by decide +kernel
theorem dX4_calculate_27 : decode cX4_calculate 27 = .ok (.getfield 17, 3) := by decide +kernel
theorem dX4_calculate_30 : decode cX4_calculate 30 = .ok (.iconst 4, 1) := by decide +kernel
theorem dX4_calculate_31 : decode cX4_calculate 31 = .ok (.iload_n 2, 1) := by decide +kernel
theorem dX4_calculate_32 : decode cX4_calculate 32 = .ok (.imul, 1) := by decide +kernel
theorem dX4_calculate_33 : decode cX4_calculate 33 = .ok (.iload 5, 2) := by decide +kernel
theorem dX4_calculate_35 : decode cX4_calculate 35 = .ok (.iadd, 1) := by decide +kernel
theorem dX4_calculate_36 : decode cX4_calculate 36 = .ok (.laload, 1) := by decide +kernel
theorem dX4_calculate_37 : decode cX4_calculate 37 = .ok (.lstore 10, 2) := by decide +kernel
theorem dX4_calculate_39 : decode cX4_calculate 39 = .ok (.aload_n 0, 1) := by decide +kernel
theorem dX4_calculate_40 : decode cX4_calculate 40 = .ok (.getfield 21, 3) := by decide +kernel
theorem dX4_calculate_43 : decode cX4_calculate 43 = .ok (.iconst 4, 1) := by decide +kernel
theorem dX4_calculate_44 : decode cX4_calculate 44 = .ok (.iload_n 2, 1) := by decide +kernel
theorem dX4_calculate_45 : decode cX4_calculate 45 = .ok (.imul, 1) := by decide +kernel
theorem dX4_calculate_46 : decode cX4_calculate 46 = .ok (.iload 5, 2) := by decide +kernel
theorem dX4_calculate_48 : decode cX4_calculate 48 = .ok (.iadd, 1) := by decide +kernel
theorem dX4_calculate_49 : decode cX4_calculate 49 = .ok (.laload, 1) := by decide +kernel
theorem dX4_calculate_50 : decode cX4_calculate 50 = .ok (.lstore 12, 2) := by decide +kernel
theorem dX4_calculate_52 : decode cX4_calculate 52 = .ok (.aload_n 0, 1) := by decide +kernel
theorem dX4_calculate_53 : decode cX4_calculate 53 = .ok (.ldc2_w 81, 3) := by decide +kernel
theorem dX4_calculate_56 : decode cX4_calculate 56 = .ok (.putfield 70, 3) := by decide +kernel
theorem dX4_calculate_59 : decode cX4_calculate 59 = .ok (.aload_n 0, 1) := by decide +kernel
theorem dX4_calculate_60 : decode cX4_calculate 60 = .ok (.aload_n 0, 1) := by decide +kernel
theorem dX4_calculate_61 : decode cX4_calculate 61 = .ok (.getfield 70, 3) := by decide +kernel
theorem dX4_calculate_64 : decode cX4_calculate 64 = .ok (.aload_n 0, 1) := by decide +kernel
theorem dX4_calculate_65 : decode cX4_calculate 65 = .ok (.getfield 70, 3) := by decide +kernel
theorem dX4_calculate_68 : decode cX4_calculate 68 = .ok (.lconst 1, 1) := by decide +kernel
theorem dX4_calculate_69 : decode cX4_calculate 69 = .ok (.lsub, 1) := by decide +kernel
theorem dX4_calculate_70 : decode cX4_calculate 70 = .ok (.ladd, 1) := by decide +kernel
theorem dX4_calculate_71 : decode cX4_calculate 71 = .ok (.putfield 70, 3) := by decide +kernel
theorem dX4_calculate_74 : decode cX4_calculate 74 = .ok (.aload_n 0, 1) := by decide +kernel
theorem dX4_calculate_75 : decode cX4_calculate 75 = .ok (.aload_n 0, 1) := by decide +kernel
theorem dX4_calculate_76 : decode cX4_calculate 76 = .ok (.getfield 70, 3) := by decide +kernel
theorem dX4_calculate_79 : decode cX4_calculate 79 = .ok (.lneg, 1) := by decide +kernel
theorem dX4_calculate_80 : decode cX4_calculate 80 = .ok (.lconst 1, 1) := by decide +kernel
theorem dX4_calculate_81 : decode cX4_calculate 81 = .ok (.lsub, 1) := by decide +kernel
theorem dX4_calculate_82 : decode cX4_calculate 82 = .ok (.putfield 74, 3) := by decide +kernel
theorem dX4_calculate_85 : decode cX4_calculate 85 = .ok (.iload_n 1, 1) := by decide +kernel
theorem dX4_calculate_86 : decode cX4_calculate 86 = .ok (.bipush 6, 2) := by decide +kernel
theorem dX4_calculate_88 : decode cX4_calculate 88 = .ok (.if_icmp .eq 19, 3) := by decide +kernel
theorem dX4_calculate_91 : decode cX4_calculate 91 = .ok (.aload_n 0, 1) := by decide +kernel
theorem dX4_calculate_92 : decode cX4_calculate 92 = .ok (.iload_n 1, 1) := by decide +kernel
theorem dX4_calculate_93 : decode cX4_calculate 93 = .ok (.lload 6, 2) := by decide +kernel
theorem dX4_calculate_95 : decode cX4_calculate 95 = .ok (.lload 8, 2) := by decide +kernel
theorem dX4_calculate_97 : decode cX4_calculate 97 = .ok (.lload 10, 2) := by decide +kernel
theorem dX4_calculate_99 : decode cX4_calculate 99 = .ok (.lload 12, 2) := by decide +kernel
theorem dX4_calculate_101 : decode cX4_calculate 101 = .ok (.invokevirtual 83, 3) := by decide +kernel
theorem dX4_calculate_104 : decode cX4_calculate 104 = .ok (.goto 88, 3) := by decide +kernel
theorem dX4_calculate_107 : decode cX4_calculate 107 = .ok (.lload 10, 2) := by decide +kernel
theorem dX4_calculate_109 : decode cX4_calculate 109 = .ok (.lconst 0, 1) := by decide +kernel
theorem dX4_calculate_110 : decode cX4_calculate 110 = .ok (.lcmp, 1) := by decide +kernel
theorem dX4_calculate_111 : decode cX4_calculate 111 = .ok (.ifCond .ge 29, 3) := by decide +kernel
theorem dX4_calculate_114 : decode cX4_calculate 114 = .ok (.aload_n 0, 1) := by decide +kernel
theorem dX4_calculate_115 : decode cX4_calculate 115 = .ok (.iload_n 1, 1) := by decide +kernel
theorem dX4_calculate_116 : decode cX4_calculate 116 = .ok (.lload 6, 2) := by decide +kernel
theorem dX4_calculate_118 : decode cX4_calculate 118 = .ok (.lload 8, 2) := by decide +kernel
theorem dX4_calculate_120 : decode cX4_calculate 120 = .ok (.lload 10, 2) := by decide +kernel
theorem dX4_calculate_122 : decode cX4_calculate 122 = .ok (.lload 12, 2) := by decide +kernel
theorem dX4_calculate_124 : decode cX4_calculate 124 = .ok (.lconst 0, 1) := by decide +kernel
theorem dX4_calculate_125 : decode cX4_calculate 125 = .ok (.lcmp, 1) := by decide +kernel
theorem dX4_calculate_126 : decode cX4_calculate 126 = .ok (.ifCond .ge 8, 3) := by decide +kernel
theorem dX4_calculate_129 : decode cX4_calculate 129 = .ok (.lload 12, 2) := by decide +kernel
theorem dX4_calculate_131 : decode cX4_calculate 131 = .ok (.goto 6, 3) := by decide +kernel
theorem dX4_calculate_134 : decode cX4_calculate 134 = .ok (.ldc2_w 87, 3) := by decide +kernel
theorem dX4_calculate_137 : decode cX4_calculate 137 = .ok (.invokevirtual 83, 3) := by decide +kernel
theorem dX4_calculate_140 : decode cX4_calculate 140 = .ok (.lload 12, 2) := by decide +kernel
theorem dX4_calculate_142 : decode cX4_calculate 142 = .ok (.lconst 0, 1) := by decide +kernel
theorem dX4_calculate_143 : decode cX4_calculate 143 = .ok (.lcmp, 1) := by decide +kernel
theorem dX4_calculate_144 : decode cX4_calculate 144 = .ok (.ifCond .le 27, 3) := by decide +kernel
theorem dX4_calculate_147 : decode cX4_calculate 147 = .ok (.aload_n 0, 1) := by decide +kernel
theorem dX4_calculate_148 : decode cX4_calculate 148 = .ok (.iload_n 1, 1) := by decide +kernel
theorem dX4_calculate_149 : decode cX4_calculate 149 = .ok (.lload 6, 2) := by decide +kernel
theorem dX4_calculate_151 : decode cX4_calculate 151 = .ok (.lload 8, 2) := by decide +kernel
theorem dX4_calculate_153 : decode cX4_calculate 153 = .ok (.lload 10, 2) := by decide +kernel
theorem dX4_calculate_155 : decode cX4_calculate 155 = .ok (.lconst 0, 1) := by decide +kernel
theorem dX4_calculate_156 : decode cX4_calculate 156 = .ok (.lcmp, 1) := by decide +kernel
theorem dX4_calculate_157 : decode cX4_calculate 157 = .ok (.ifCond .le 8, 3) := by decide +kernel
theorem dX4_calculate_160 : decode cX4_calculate 160 = .ok (.lload 10, 2) := by decide +kernel
theorem dX4_calculate_162 : decode cX4_calculate 162 = .ok (.goto 4, 3) := by decide +kernel
theorem dX4_calculate_165 : decode cX4_calculate 165 = .ok (.lconst 1, 1) := by decide +kernel
theorem dX4_calculate_166 : decode cX4_calculate 166 = .ok (.lload 12, 2) := by decide +kernel
theorem dX4_calculate_168 : decode cX4_calculate 168 = .ok (.invokevirtual 83, 3) := by decide +kernel
theorem dX4_calculate_171 : decode cX4_calculate 171 = .ok (.lload 10, 2) := by decide +kernel
theorem dX4_calculate_173 : decode cX4_calculate 173 = .ok (.lconst 0, 1) := by decide +kernel
theorem dX4_calculate_174 : decode cX4_calculate 174 = .ok (.lcmp, 1) := by decide +kernel
theorem dX4_calculate_175 : decode cX4_calculate 175 = .ok (.ifCond .ne 17, 3) := by decide +kernel
theorem dX4_calculate_178 : decode cX4_calculate 178 = .ok (.lload 12, 2) := by decide +kernel
theorem dX4_calculate_180 : decode cX4_calculate 180 = .ok (.lconst 0, 1) := by decide +kernel
theorem dX4_calculate_181 : decode cX4_calculate 181 = .ok (.lcmp, 1) := by decide +kernel
theorem dX4_calculate_182 : decode cX4_calculate 182 = .ok (.ifCond .ne 10, 3) := by decide +kernel
theorem dX4_calculate_185 : decode cX4_calculate 185 = .ok (.aload_n 0, 1) := by decide +kernel
theorem dX4_calculate_186 : decode cX4_calculate 186 = .ok (.getfield 33, 3) := by decide +kernel
theorem dX4_calculate_189 : decode cX4_calculate 189 = .ok (.iconst 0, 1) := by decide +kernel
theorem dX4_calculate_190 : decode cX4_calculate 190 = .ok (.iconst 0, 1) := by decide +kernel
theorem dX4_calculate_191 : decode cX4_calculate 191 = .ok (.bastore, 1) := by decide +kernel
theorem dX4_calculate_192 : decode cX4_calculate 192 = .ok (.aload_n 0, 1) := by decide +kernel
theorem dX4_calculate_193 : decode cX4_calculate 193 = .ok (.getfield 33, 3) := by decide +kernel
theorem dX4_calculate_196 : decode cX4_calculate 196 = .ok (.iconst 0, 1) := by decide +kernel
theorem dX4_calculate_197 : decode cX4_calculate 197 = .ok (.baload, 1) := by decide +kernel
theorem dX4_calculate_198 : decode cX4_calculate 198 = .ok (.ifCond .eq 16, 3) := by decide +kernel
theorem dX4_calculate_201 : decode cX4_calculate 201 = .ok (.aload_n 0, 1) := by decide +kernel
theorem dX4_calculate_202 : decode cX4_calculate 202 = .ok (.iload_n 3, 1) := by decide +kernel
theorem dX4_calculate_203 : decode cX4_calculate 203 = .ok (.aload_n 0, 1) := by decide +kernel
theorem dX4_calculate_204 : decode cX4_calculate 204 = .ok (.getfield 70, 3) := by decide +kernel
theorem dX4_calculate_207 : decode cX4_calculate 207 = .ok (.aload_n 0, 1) := by decide +kernel
theorem dX4_calculate_208 : decode cX4_calculate 208 = .ok (.getfield 74, 3) := by decide +kernel
theorem dX4_calculate_211 : decode cX4_calculate 211 = .ok (.invokevirtual 89, 3) := by decide +kernel
theorem dX4_calculate_214 : decode cX4_calculate 214 = .ok (.return_, 1) := by decide +kernel
theorem dX4_compare_0 : decode cX4_compare 0 = .ok (.iload_n 2, 1) := by decide +kernel
end
section
theorem dX4_compare_1 : decode cX4_compare 1 = .ok (.iload_n 3, 1) := by decide +kernel
theorem dX4_compare_2 : decode cX4_compare 2 = .ok (.if_icmp .ne 11, 3) := by decide +kernel
theorem dX4_compare_5 : decode cX4_compare 5 = .ok (.aload_n 0, 1) := by decide +kernel
theorem dX4_compare_6 : decode cX4_compare 6 = .ok (.getfield 33, 3) := by decide +kernel
theorem dX4_compare_9 : decode cX4_compare 9 = .ok (.iconst 1, 1) := by decide +kernel
theorem dX4_compare_10 : decode cX4_compare 10 = .ok (.iconst 0, 1) := by decide +kernel
theorem dX4_compare_11 : decode cX4_compare 11 = .ok (.bastore, 1) := by decide +kernel
theorem dX4_compare_12 : decode cX4_compare 12 = .ok (.return_, 1) := by decide +kernel
theorem dX4_compare_13 : decode cX4_compare 13 = .ok (.aload_n 0, 1) := by decide +kernel
theorem dX4_compare_14 : decode cX4_compare 14 = .ok (.getfield 17, 3) := by decide +kernel
theorem dX4_compare_17 : decode cX4_compare 17 = .ok (.iconst 4, 1) := by decide +kernel
theorem dX4_compare_18 : decode cX4_compare 18 = .ok (.iload_n 1, 1) := by decide +kernel
theorem dX4_compare_19 : decode cX4_compare 19 = .ok (.imul, 1) := by decide +kernel
theorem dX4_compare_20 : decode cX4_compare 20 = .ok (.iload_n 2, 1) := by decide +kernel
theorem dX4_compare_21 : decode cX4_compare 21 = .ok (.iadd, 1) := by decide +kernel
theorem dX4_compare_22 : decode cX4_compare 22 = .ok (.laload, 1) := by decide +kernel
theorem dX4_compare_23 : decode cX4_compare 23 = .ok (.lstore 4, 2) := by decide +kernel
theorem dX4_compare_25 : decode cX4_compare 25 = .ok (.aload_n 0, 1) := by decide +kernel
theorem dX4_compare_26 : decode cX4_compare 26 = .ok (.getfield 21, 3) := by decide +kernel
theorem dX4_compare_29 : decode cX4_compare 29 = .ok (.iconst 4, 1) := by decide +kernel
theorem dX4_compare_30 : decode cX4_compare 30 = .ok (.iload_n 1, 1) := by decide +kernel
theorem dX4_compare_31 : decode cX4_compare 31 = .ok (.imul, 1) := by decide +kernel
theorem dX4_compare_32 : decode cX4_compare 32 = .ok (.iload_n 2, 1) := by decide +kernel
theorem dX4_compare_33 : decode cX4_compare 33 = .ok (.iadd, 1) := by decide +kernel
theorem dX4_compare_34 : decode cX4_compare 34 = .ok (.laload, 1) := by decide +kernel
theorem dX4_compare_35 : decode cX4_compare 35 = .ok (.lstore 6, 2) := by decide +kernel
theorem dX4_compare_37 : decode cX4_compare 37 = .ok (.aload_n 0, 1) := by decide +kernel
theorem dX4_compare_38 : decode cX4_compare 38 = .ok (.getfield 17, 3) := by decide +kernel
theorem dX4_compare_41 : decode cX4_compare 41 = .ok (.iconst 4, 1) := by decide +kernel
theorem dX4_compare_42 : decode cX4_compare 42 = .ok (.iload_n 1, 1) := by decide +kernel
theorem dX4_compare_43 : decode cX4_compare 43 = .ok (.imul, 1) := by decide +kernel
theorem dX4_compare_44 : decode cX4_compare 44 = .ok (.iload_n 3, 1) := by decide +kernel
theorem dX4_compare_45 : decode cX4_compare 45 = .ok (.iadd, 1) := by decide +kernel
theorem dX4_compare_46 : decode cX4_compare 46 = .ok (.laload, 1) := by decide +kernel
theorem dX4_compare_47 : decode cX4_compare 47 = .ok (.lstore 8, 2) := by decide +kernel
theorem dX4_compare_49 : decode cX4_compare 49 = .ok (.aload_n 0, 1) := by decide +kernel
theorem dX4_compare_50 : decode cX4_compare 50 = .ok (.getfield 21, 3) := by decide +kernel
theorem dX4_compare_53 : decode cX4_compare 53 = .ok (.iconst 4, 1) := by decide +kernel
theorem dX4_compare_54 : decode cX4_compare 54 = .ok (.iload_n 1, 1) := by decide +kernel
theorem dX4_compare_55 : decode cX4_compare 55 = .ok (.imul, 1) := by decide +kernel
theorem dX4_compare_56 : decode cX4_compare 56 = .ok (.iload_n 3, 1) := by decide +kernel
theorem dX4_compare_57 : decode cX4_compare 57 = .ok (.iadd, 1) := by decide +kernel
theorem dX4_compare_58 : decode cX4_compare 58 = .ok (.laload, 1) := by decide +kernel
theorem dX4_compare_59 : decode cX4_compare 59 = .ok (.lstore 10, 2) := by decide +kernel
theorem dX4_compare_61 : decode cX4_compare 61 = .ok (.lload 8, 2) := by decide +kernel
theorem dX4_compare_63 : decode cX4_compare 63 = .ok (.lload 4, 2) := by decide +kernel
theorem dX4_compare_65 : decode cX4_compare 65 = .ok (.lcmp, 1) := by decide +kernel
theorem dX4_compare_66 : decode cX4_compare 66 = .ok (.ifCond .le 11, 3) := by decide +kernel
theorem dX4_compare_69 : decode cX4_compare 69 = .ok (.aload_n 0, 1) := by decide +kernel
theorem dX4_compare_70 : decode cX4_compare 70 = .ok (.getfield 36, 3) := by decide +kernel
theorem dX4_compare_73 : decode cX4_compare 73 = .ok (.iload_n 2, 1) := by decide +kernel
theorem dX4_compare_74 : decode cX4_compare 74 = .ok (.lload 8, 2) := by decide +kernel
theorem dX4_compare_76 : decode cX4_compare 76 = .ok (.lastore, 1) := by decide +kernel
theorem dX4_compare_77 : decode cX4_compare 77 = .ok (.lload 6, 2) := by decide +kernel
theorem dX4_compare_79 : decode cX4_compare 79 = .ok (.lload 10, 2) := by decide +kernel
theorem dX4_compare_81 : decode cX4_compare 81 = .ok (.lcmp, 1) := by decide +kernel
theorem dX4_compare_82 : decode cX4_compare 82 = .ok (.ifCond .ge 11, 3) := by decide +kernel
theorem dX4_compare_85 : decode cX4_compare 85 = .ok (.aload_n 0, 1) := by decide +kernel
theorem dX4_compare_86 : decode cX4_compare 86 = .ok (.getfield 39, 3) := by decide +kernel
theorem dX4_compare_89 : decode cX4_compare 89 = .ok (.iload_n 3, 1) := by decide +kernel
theorem dX4_compare_90 : decode cX4_compare 90 = .ok (.lload 6, 2) := by decide +kernel
theorem dX4_compare_92 : decode cX4_compare 92 = .ok (.lastore, 1) := by decide +kernel
theorem dX4_compare_93 : decode cX4_compare 93 = .ok (.aload_n 0, 1) := by decide +kernel
theorem dX4_compare_94 : decode cX4_compare 94 = .ok (.getfield 33, 3) := by decide +kernel
theorem dX4_compare_97 : decode cX4_compare 97 = .ok (.iconst 0, 1) := by decide +kernel
theorem dX4_compare_98 : decode cX4_compare 98 = .ok (.aload_n 0, 1) := by decide +kernel
theorem dX4_compare_99 : decode cX4_compare 99 = .ok (.getfield 36, 3) := by decide +kernel
theorem dX4_compare_102 : decode cX4_compare 102 = .ok (.iload_n 2, 1) := by decide +kernel
theorem dX4_compare_103 : decode cX4_compare 103 = .ok (.laload, 1) := by decide +kernel
theorem dX4_compare_104 : decode cX4_compare 104 = .ok (.aload_n 0, 1) := by decide +kernel
theorem dX4_compare_105 : decode cX4_compare 105 = .ok (.getfield 39, 3) := by decide +kernel
theorem dX4_compare_108 : decode cX4_compare 108 = .ok (.iload_n 2, 1) := by decide +kernel
theorem dX4_compare_109 : decode cX4_compare 109 = .ok (.laload, 1) := by decide +kernel
theorem dX4_compare_110 : decode cX4_compare 110 = .ok (.lcmp, 1) := by decide +kernel
theorem dX4_compare_111 : decode cX4_compare 111 = .ok (.ifCond .gt 23, 3) := by decide +kernel
theorem dX4_compare_114 : decode cX4_compare 114 = .ok (.aload_n 0, 1) := by decide +kernel
theorem dX4_compare_115 : decode cX4_compare 115 = .ok (.getfield 36, 3) := by decide +kernel
theorem dX4_compare_118 : decode cX4_compare 118 = .ok (.iload_n 3, 1) := by decide +kernel
theorem dX4_compare_119 : decode cX4_compare 119 = .ok (.laload, 1) := by decide +kernel
theorem dX4_compare_120 : decode cX4_compare 120 = .ok (.aload_n 0, 1) := by decide +kernel
theorem dX4_compare_121 : decode cX4_compare 121 = .ok (.getfield 39, 3) := by decide +kernel
theorem dX4_compare_124 : decode cX4_compare 124 = .ok (.iload_n 3, 1) := by decide +kernel
theorem dX4_compare_125 : decode cX4_compare 125 = .ok (.laload, 1) := by decide +kernel
theorem dX4_compare_126 : decode cX4_compare 126 = .ok (.lcmp, 1) := by decide +kernel
theorem dX4_compare_127 : decode cX4_compare 127 = .ok (.ifCond .gt 7, 3) := by decide +kernel
theorem dX4_compare_130 : decode cX4_compare 130 = .ok (.iconst 1, 1) := by decide +kernel
theorem dX4_compare_131 : decode cX4_compare 131 = .ok (.goto 4, 3) := by decide +kernel
theorem dX4_compare_134 : decode cX4_compare 134 = .ok (.iconst 0, 1) := by decide +kernel
theorem dX4_compare_135 : decode cX4_compare 135 = .ok (.bastore, 1) := by decide +kernel
theorem dX4_compare_136 : decode cX4_compare 136 = .ok (.lload 10, 2) := by decide +kernel
theorem dX4_compare_138 : decode cX4_compare 138 = .ok (.lconst 1, 1) := by decide +kernel
theorem dX4_compare_139 : decode cX4_compare 139 = .ok (.lsub, 1) := by decide +kernel
theorem dX4_compare_140 : decode cX4_compare 140 = .ok (.lload 6, 2) := by decide +kernel
theorem dX4_compare_142 : decode cX4_compare 142 = .ok (.lcmp, 1) := by decide +kernel
theorem dX4_compare_143 : decode cX4_compare 143 = .ok (.ifCond .ge 15, 3) := by decide +kernel
theorem dX4_compare_146 : decode cX4_compare 146 = .ok (.aload_n 0, 1) := by decide +kernel
theorem dX4_compare_147 : decode cX4_compare 147 = .ok (.getfield 39, 3) := by decide +kernel
theorem dX4_compare_150 : decode cX4_compare 150 = .ok (.iconst 4, 1) := by decide +kernel
theorem dX4_compare_151 : decode cX4_compare 151 = .ok (.iload_n 2, 1) := by decide +kernel
theorem dX4_compare_152 : decode cX4_compare 152 = .ok (.iadd, 1) := by decide +kernel
theorem dX4_compare_153 : decode cX4_compare 153 = .ok (.lload 10, 2) := by decide +kernel
theorem dX4_compare_155 : decode cX4_compare 155 = .ok (.lconst 1, 1) := by decide +kernel
theorem dX4_compare_156 : decode cX4_compare 156 = .ok (.lsub, 1) := by decide +kernel
theorem dX4_compare_157 : decode cX4_compare 157 = .ok (.lastore, 1) := by decide +kernel
theorem dX4_compare_158 : decode cX4_compare 158 = .ok (.lload 4, 2) := by decide +kernel
theorem dX4_compare_160 : decode cX4_compare 160 = .ok (.lconst 1, 1) := by decide +kernel
theorem dX4_compare_161 : decode cX4_compare 161 = .ok (.ladd, 1) := by decide +kernel
theorem dX4_compare_162 : decode cX4_compare 162 = .ok (.lload 8, 2) := by decide +kernel
theorem dX4_compare_164 : decode cX4_compare 164 = .ok (.lcmp, 1) := by decide +kernel
theorem dX4_compare_165 : decode cX4_compare 165 = .ok (.ifCond .le 15, 3) := by decide +kernel
theorem dX4_compare_168 : decode cX4_compare 168 = .ok (.aload_n 0, 1) := by decide +kernel
theorem dX4_compare_169 : decode cX4_compare 169 = .ok (.getfield 36, 3) := by decide +kernel
theorem dX4_compare_172 : decode cX4_compare 172 = .ok (.iconst 4, 1) := by decide +kernel
theorem dX4_compare_173 : decode cX4_compare 173 = .ok (.iload_n 3, 1) := by decide +kernel
theorem dX4_compare_174 : decode cX4_compare 174 = .ok (.iadd, 1) := by decide +kernel
theorem dX4_compare_175 : decode cX4_compare 175 = .ok (.lload 4, 2) := by decide +kernel
theorem dX4_compare_177 : decode cX4_compare 177 = .ok (.lconst 1, 1) := by decide +kernel
theorem dX4_compare_178 : decode cX4_compare 178 = .ok (.ladd, 1) := by decide +kernel
theorem dX4_compare_179 : decode cX4_compare 179 = .ok (.lastore, 1) := by decide +kernel
theorem dX4_compare_180 : decode cX4_compare 180 = .ok (.aload_n 0, 1) := by decide +kernel
theorem dX4_compare_181 : decode cX4_compare 181 = .ok (.getfield 33, 3) := by decide +kernel
theorem dX4_compare_184 : decode cX4_compare 184 = .ok (.iconst 1, 1) := by decide +kernel
theorem dX4_compare_185 : decode cX4_compare 185 = .ok (.aload_n 0, 1) := by decide +kernel
theorem dX4_compare_186 : decode cX4_compare 186 = .ok (.getfield 36, 3) := by decide +kernel
theorem dX4_compare_189 : decode cX4_compare 189 = .ok (.iconst 4, 1) := by decide +kernel
theorem dX4_compare_190 : decode cX4_compare 190 = .ok (.iload_n 2, 1) := by decide +kernel
theorem dX4_compare_191 : decode cX4_compare 191 = .ok (.iadd, 1) := by decide +kernel
theorem dX4_compare_192 : decode cX4_compare 192 = .ok (.laload, 1) := by decide +kernel
theorem dX4_compare_193 : decode cX4_compare 193 = .ok (.aload_n 0, 1) := by decide +kernel
theorem dX4_compare_194 : decode cX4_compare 194 = .ok (.getfield 39, 3) := by decide +kernel
theorem dX4_compare_197 : decode cX4_compare 197 = .ok (.iconst 4, 1) := by decide +kernel
theorem dX4_compare_198 : decode cX4_compare 198 = .ok (.iload_n 2, 1) := by decide +kernel
theorem dX4_compare_199 : decode cX4_compare 199 = .ok (.iadd, 1) := by decide +kernel
theorem dX4_compare_200 : decode cX4_compare 200 = .ok (.laload, 1) := by decide +kernel
theorem dX4_compare_201 : decode cX4_compare 201 = .ok (.lcmp, 1) := by decide +kernel
theorem dX4_compare_202 : decode cX4_compare 202 = .ok (.ifCond .gt 27, 3) := by decide +kernel
theorem dX4_compare_205 : decode cX4_compare 205 = .ok (.aload_n 0, 1) := by decide +kernel
theorem dX4_compare_206 : decode cX4_compare 206 = .ok (.getfield 36, 3) := by decide +kernel
theorem dX4_compare_209 : decode cX4_compare 209 = .ok (.iconst 4, 1) := by decide +kernel
theorem dX4_compare_210 : decode cX4_compare 210 = .ok (.iload_n 3, 1) := by decide +kernel
theorem dX4_compare_211 : decode cX4_compare 211 = .ok (.iadd, 1) := by decide +kernel
theorem dX4_compare_212 : decode cX4_compare 212 = .ok (.laload, 1) := by decide +kernel
theorem dX4_compare_213 : decode cX4_compare 213 = .ok (.aload_n 0, 1) := by decide +kernel
theorem dX4_compare_214 : decode cX4_compare 214 = .ok (.getfield 39, 3) := by decide +kernel
theorem dX4_compare_217 : decode cX4_compare 217 = .ok (.iconst 4, 1) := by decide +kernel
theorem dX4_compare_218 : decode cX4_compare 218 = .ok (.iload_n 3, 1) := by decide +kernel
theorem dX4_compare_219 : decode cX4_compare 219 = .ok (.iadd, 1) := by decide +kernel
theorem dX4_compare_220 : decode cX4_compare 220 = .ok (.laload, 1) := by decide +kernel
theorem dX4_compare_221 : decode cX4_compare 221 = .ok (.lcmp, 1) := by decide +kernel
theorem dX4_compare_222 : decode cX4_compare 222 = .ok (.ifCond .gt 7, 3) := by decide +kernel
theorem dX4_compare_225 : decode cX4_compare 225 = .ok (.iconst 1, 1) := by decide +kernel
theorem dX4_compare_226 : decode cX4_compare 226 = .ok (.goto 4, 3) := by decide +kernel
theorem dX4_compare_229 : decode cX4_compare 229 = .ok (.iconst 0, 1) := by decide +kernel
theorem dX4_compare_230 : decode cX4_compare 230 = .ok (.bastore, 1) := by decide +kernel
theorem dX4_compare_231 : decode cX4_compare 231 = .ok (.return_, 1) := by decide +kernel
set_option maxRecDepth 20000 in
theorem ggX4_flow_X4_set : GoodIn wsX4_flow wsX4_set := goodIn_r _ [14, 15, 3, 8, 5, 9, 36, 37, 38, 39, 40, 41, 42, 43, 44, 45, 46, 47, 48, 49, 50] (by decide +kernel) (by decide +kernel)
set_option maxRecDepth 20000 in
theorem gX4_flow_X4_set : GoodIn wsX4_flow (wsV RX4 89 RX4 yX4_set wsX4_set) := goodIn_app (goodIn_of _ (by decide +kernel)) ggX4_flow_X4_set
set_option maxRecDepth 20000 in
theorem ggX4_flow_X4_calculate : GoodIn wsX4_flow wsX4_calculate := goodIn_r _ [19, 4, 6, 20, 21, 22, 23, 2, 24, 25, 26, 13, 27, 28, 29, 30, 31, 10, 11, 12, 14, 15, 3, 8, 5, 9, 36, 37, 38, 39, 40, 41, 42, 43, 44, 45, 46, 47, 48, 49, 50] (by decide +kernel) (by decide +kernel)
set_option maxRecDepth 20000 in
theorem gX4_flow_X4_calculate : GoodIn wsX4_flow (wsV RX4 92 RX4 yX4_calculate wsX4_calculate) := goodIn_app (goodIn_of _ (by decide +kernel)) ggX4_flow_X4_calculate
set_option maxRecDepth 20000 in
theorem ggX4_flow_X4_compare : GoodIn wsX4_flow wsX4_compare := goodIn_r _ [35, 2, 4, 6, 3, 5, 36, 37, 38, 39, 40, 41, 42, 43, 44, 45, 46, 47, 48, 49, 50] (by decide +kernel) (by decide +kernel)
set_option maxRecDepth 20000 in
theorem gX4_flow_X4_compare : GoodIn wsX4_flow (wsV RX4 98 RX4 yX4_compare wsX4_compare) := goodIn_app (goodIn_of _ (by decide +kernel)) ggX4_flow_X4_compare
theorem dX4_flow_0 : decode cX4_flow 0 = .ok (.aload_n 0, 1) := by decide +kernel
theorem dX4_flow_1 : decode cX4_flow 1 = .ok (.getfield 7, 3) := by decide +kernel
theorem dX4_flow_4 : decode cX4_flow 4 = .ok (.iconst 4, 1) := by decide +kernel
theorem dX4_flow_5 : decode cX4_flow 5 = .ok (.iload_n 1, 1) := by decide +kernel
theorem dX4_flow_6 : decode cX4_flow 6 = .ok (.imul, 1) := by decide +kernel
theorem dX4_flow_7 : decode cX4_flow 7 = .ok (.iaload, 1) := by decide +kernel
theorem dX4_flow_8 : decode cX4_flow 8 = .ok (.istore_n 2, 1) := by decide +kernel
theorem dX4_flow_9 : decode cX4_flow 9 = .ok (.aload_n 0, 1) := by decide +kernel
theorem dX4_flow_10 : decode cX4_flow 10 = .ok (.getfield 7, 3) := by decide +kernel
theorem dX4_flow_13 : decode cX4_flow 13 = .ok (.iconst 4, 1) := by decide +kernel
theorem dX4_flow_14 : decode cX4_flow 14 = .ok (.iload_n 1, 1) := by decide +kernel
theorem dX4_flow_15 : decode cX4_flow 15 = .ok (.imul, 1) := by decide +kernel
theorem dX4_flow_16 : decode cX4_flow 16 = .ok (.iconst 1, 1) := by decide +kernel
theorem dX4_flow_17 : decode cX4_flow 17 = .ok (.iadd, 1) := by decide +kernel
theorem dX4_flow_18 : decode cX4_flow 18 = .ok (.iaload, 1) := by decide +kernel
theorem dX4_flow_19 : decode cX4_flow 19 = .ok (.istore_n 3, 1) := by decide +kernel
theorem dX4_flow_20 : decode cX4_flow 20 = .ok (.aload_n 0, 1) := by decide +kernel
theorem dX4_flow_21 : decode cX4_flow 21 = .ok (.getfield 7, 3) := by decide +kernel
theorem dX4_flow_24 : decode cX4_flow 24 = .ok (.iconst 4, 1) := by decide +kernel
theorem dX4_flow_25 : decode cX4_flow 25 = .ok (.iload_n 1, 1) := by decide +kernel
theorem dX4_flow_26 : decode cX4_flow 26 = .ok (.imul, 1) := by decide +kernel
theorem dX4_flow_27 : decode cX4_flow 27 = .ok (.iconst 2, 1) := by decide +kernel
theorem dX4_flow_28 : decode cX4_flow 28 = .ok (.iadd, 1) := by decide +kernel
theorem dX4_flow_29 : decode cX4_flow 29 = .ok (.iaload, 1) := by decide +kernel
theorem dX4_flow_30 : decode cX4_flow 30 = .ok (.istore 4, 2) := by decide +kernel
theorem dX4_flow_32 : decode cX4_flow 32 = .ok (.aload_n 0, 1) := by decide +kernel
theorem dX4_flow_33 : decode cX4_flow 33 = .ok (.getfield 33, 3) := by decide +kernel
theorem dX4_flow_36 : decode cX4_flow 36 = .ok (.iconst 0, 1) := by decide +kernel
theorem dX4_flow_37 : decode cX4_flow 37 = .ok (.iload_n 2, 1) := by decide +kernel
theorem dX4_flow_38 : decode cX4_flow 38 = .ok (.ifCond .eq 13, 3) := by decide +kernel
theorem dX4_flow_41 : decode cX4_flow 41 = .ok (.iload_n 2, 1) := by decide +kernel
theorem dX4_flow_42 : decode cX4_flow 42 = .ok (.bipush 10, 2) := by decide +kernel
theorem dX4_flow_44 : decode cX4_flow 44 = .ok (.if_icmp .eq 7, 3) := by decide +kernel
theorem dX4_flow_47 : decode cX4_flow 47 = .ok (.iconst 1, 1) := by decide +kernel
theorem dX4_flow_48 : decode cX4_flow 48 = .ok (.goto 4, 3) := by decide +kernel
theorem dX4_flow_51 : decode cX4_flow 51 = .ok (.iconst 0, 1) := by decide +kernel
theorem dX4_flow_52 : decode cX4_flow 52 = .ok (.bastore, 1) := by decide +kernel
theorem dX4_flow_53 : decode cX4_flow 53 = .ok (.aload_n 0, 1) := by decide +kernel
theorem dX4_flow_54 : decode cX4_flow 54 = .ok (.getfield 33, 3) := by decide +kernel
theorem dX4_flow_57 : decode cX4_flow 57 = .ok (.iconst 1, 1) := by decide +kernel
theorem dX4_flow_58 : decode cX4_flow 58 = .ok (.iload_n 2, 1) := by decide +kernel
theorem dX4_flow_59 : decode cX4_flow 59 = .ok (.bipush 9, 2) := by decide +kernel
theorem dX4_flow_61 : decode cX4_flow 61 = .ok (.if_icmp .eq 9, 3) := by decide +kernel
theorem dX4_flow_64 : decode cX4_flow 64 = .ok (.iload_n 2, 1) := by decide +kernel
theorem dX4_flow_65 : decode cX4_flow 65 = .ok (.bipush 10, 2) := by decide +kernel
theorem dX4_flow_67 : decode cX4_flow 67 = .ok (.if_icmp .ne 7, 3) := by decide +kernel
theorem dX4_flow_70 : decode cX4_flow 70 = .ok (.iconst 1, 1) := by decide +kernel
theorem dX4_flow_71 : decode cX4_flow 71 = .ok (.goto 4, 3) := by decide +kernel
theorem dX4_flow_74 : decode cX4_flow 74 = .ok (.iconst 0, 1) := by decide +kernel
theorem dX4_flow_75 : decode cX4_flow 75 = .ok (.bastore, 1) := by decide +kernel
theorem dX4_flow_76 : decode cX4_flow 76 = .ok (.iconst 0, 1) := by decide +kernel
theorem dX4_flow_77 : decode cX4_flow 77 = .ok (.istore 5, 2) := by decide +kernel
theorem dX4_flow_79 : decode cX4_flow 79 = .ok (.iload 5, 2) := by decide +kernel
theorem dX4_flow_81 : decode cX4_flow 81 = .ok (.iconst 4, 1) := by decide +kernel
theorem dX4_flow_82 : decode cX4_flow 82 = .ok (.if_icmp .ge 77, 3) := by decide +kernel
theorem dX4_flow_85 : decode cX4_flow 85 = .ok (.aload_n 0, 1) := by decide +kernel
theorem dX4_flow_86 : decode cX4_flow 86 = .ok (.getfield 36, 3) := by decide +kernel
theorem dX4_flow_89 : decode cX4_flow 89 = .ok (.iload 5, 2) := by decide +kernel
theorem dX4_flow_91 : decode cX4_flow 91 = .ok (.aload_n 0, 1) := by decide +kernel
theorem dX4_flow_92 : decode cX4_flow 92 = .ok (.getfield 17, 3) := by decide +kernel
theorem dX4_flow_95 : decode cX4_flow 95 = .ok (.iconst 4, 1) := by decide +kernel
theorem dX4_flow_96 : decode cX4_flow 96 = .ok (.iload_n 1, 1) := by decide +kernel
theorem dX4_flow_97 : decode cX4_flow 97 = .ok (.imul, 1) := by decide +kernel
theorem dX4_flow_98 : decode cX4_flow 98 = .ok (.iload 5, 2) := by decide +kernel
theorem dX4_flow_100 : decode cX4_flow 100 = .ok (.iadd, 1) := by decide +kernel
theorem dX4_flow_101 : decode cX4_flow 101 = .ok (.laload, 1) := by decide +kernel
theorem dX4_flow_102 : decode cX4_flow 102 = .ok (.lastore, 1) := by decide +kernel
theorem dX4_flow_103 : decode cX4_flow 103 = .ok (.aload_n 0, 1) := by decide +kernel
theorem dX4_flow_104 : decode cX4_flow 104 = .ok (.getfield 39, 3) := by decide +kernel
theorem dX4_flow_107 : decode cX4_flow 107 = .ok (.iload 5, 2) := by decide +kernel
theorem dX4_flow_109 : decode cX4_flow 109 = .ok (.aload_n 0, 1) := by decide +kernel
theorem dX4_flow_110 : decode cX4_flow 110 = .ok (.getfield 21, 3) := by decide +kernel
theorem dX4_flow_113 : decode cX4_flow 113 = .ok (.iconst 4, 1) := by decide +kernel
theorem dX4_flow_114 : decode cX4_flow 114 = .ok (.iload_n 1, 1) := by decide +kernel
theorem dX4_flow_115 : decode cX4_flow 115 = .ok (.imul, 1) := by decide +kernel
theorem dX4_flow_116 : decode cX4_flow 116 = .ok (.iload 5, 2) := by decide +kernel
theorem dX4_flow_118 : decode cX4_flow 118 = .ok (.iadd, 1) := by decide +kernel
theorem dX4_flow_119 : decode cX4_flow 119 = .ok (.laload, 1) := by decide +kernel
theorem dX4_flow_120 : decode cX4_flow 120 = .ok (.lastore, 1) := by decide +kernel
theorem dX4_flow_121 : decode cX4_flow 121 = .ok (.aload_n 0, 1) := by decide +kernel
theorem dX4_flow_122 : decode cX4_flow 122 = .ok (.getfield 36, 3) := by decide +kernel
theorem dX4_flow_125 : decode cX4_flow 125 = .ok (.iconst 4, 1) := by decide +kernel
theorem dX4_flow_126 : decode cX4_flow 126 = .ok (.iload 5, 2) := by decide +kernel
theorem dX4_flow_128 : decode cX4_flow 128 = .ok (.iadd, 1) := by decide +kernel
theorem dX4_flow_129 : decode cX4_flow 129 = .ok (.aload_n 0, 1) := by decide +kernel
theorem dX4_flow_130 : decode cX4_flow 130 = .ok (.getfield 36, 3) := by decide +kernel
theorem dX4_flow_133 : decode cX4_flow 133 = .ok (.iload 5, 2) := by decide +kernel
theorem dX4_flow_135 : decode cX4_flow 135 = .ok (.laload, 1) := by decide +kernel
theorem dX4_flow_136 : decode cX4_flow 136 = .ok (.lastore, 1) := by decide +kernel
theorem dX4_flow_137 : decode cX4_flow 137 = .ok (.aload_n 0, 1) := by decide +kernel
theorem dX4_flow_138 : decode cX4_flow 138 = .ok (.getfield 39, 3) := by decide +kernel
theorem dX4_flow_141 : decode cX4_flow 141 = .ok (.iconst 4, 1) := by decide +kernel
theorem dX4_flow_142 : decode cX4_flow 142 = .ok (.iload 5, 2) := by decide +kernel
theorem dX4_flow_144 : decode cX4_flow 144 = .ok (.iadd, 1) := by decide +kernel
theorem dX4_flow_145 : decode cX4_flow 145 = .ok (.aload_n 0, 1) := by decide +kernel
theorem dX4_flow_146 : decode cX4_flow 146 = .ok (.getfield 39, 3) := by decide +kernel
theorem dX4_flow_149 : decode cX4_flow 149 = .ok (.iload 5, 2) := by decide +kernel
theorem dX4_flow_151 : decode cX4_flow 151 = .ok (.laload, 1) := by decide +kernel
theorem dX4_flow_152 : decode cX4_flow 152 = .ok (.lastore, 1) := by decide +kernel
theorem dX4_flow_153 : decode cX4_flow 153 = .ok (.iinc 5 1, 3) := by decide +kernel
theorem dX4_flow_156 : decode cX4_flow 156 = .ok (.goto (-77), 3) := by decide +kernel
theorem dX4_flow_159 : decode cX4_flow 159 = .ok (.iload_n 2, 1) := by decide +kernel
theorem dX4_flow_160 : decode cX4_flow 160 = .ok (.iconst 1, 1) := by decide +kernel
theorem dX4_flow_161 : decode cX4_flow 161 = .ok (.if_icmp .ne 14, 3) := by decide +kernel
theorem dX4_flow_164 : decode cX4_flow 164 = .ok (.aload_n 0, 1) := by decide +kernel
theorem dX4_flow_165 : decode cX4_flow 165 = .ok (.iload_n 3, 1) := by decide +kernel
theorem dX4_flow_166 : decode cX4_flow 166 = .ok (.iload 4, 2) := by decide +kernel
theorem dX4_flow_168 : decode cX4_flow 168 = .ok (.i2l, 1) := by decide +kernel
theorem dX4_flow_169 : decode cX4_flow 169 = .ok (.iload 4, 2) := by decide +kernel
theorem dX4_flow_171 : decode cX4_flow 171 = .ok (.i2l, 1) := by decide +kernel
theorem dX4_flow_172 : decode cX4_flow 172 = .ok (.invokevirtual 89, 3) := by decide +kernel
theorem dX4_flow_175 : decode cX4_flow 175 = .ok (.iload_n 2, 1) := by decide +kernel
theorem dX4_flow_176 : decode cX4_flow 176 = .ok (.iconst 2, 1) := by decide +kernel
theorem dX4_flow_177 : decode cX4_flow 177 = .ok (.if_icmp .ne 30, 3) := by decide +kernel
theorem dX4_flow_180 : decode cX4_flow 180 = .ok (.aload_n 0, 1) := by decide +kernel
theorem dX4_flow_181 : decode cX4_flow 181 = .ok (.iload_n 3, 1) := by decide +kernel
theorem dX4_flow_182 : decode cX4_flow 182 = .ok (.aload_n 0, 1) := by decide +kernel
theorem dX4_flow_183 : decode cX4_flow 183 = .ok (.getfield 17, 3) := by decide +kernel
theorem dX4_flow_186 : decode cX4_flow 186 = .ok (.iconst 4, 1) := by decide +kernel
theorem dX4_flow_187 : decode cX4_flow 187 = .ok (.iload_n 1, 1) := by decide +kernel
theorem dX4_flow_188 : decode cX4_flow 188 = .ok (.imul, 1) := by decide +kernel
theorem dX4_flow_189 : decode cX4_flow 189 = .ok (.iload 4, 2) := by decide +kernel
theorem dX4_flow_191 : decode cX4_flow 191 = .ok (.iadd, 1) := by decide +kernel
theorem dX4_flow_192 : decode cX4_flow 192 = .ok (.laload, 1) := by decide +kernel
theorem dX4_flow_193 : decode cX4_flow 193 = .ok (.aload_n 0, 1) := by decide +kernel
theorem dX4_flow_194 : decode cX4_flow 194 = .ok (.getfield 21, 3) := by decide +kernel
theorem dX4_flow_197 : decode cX4_flow 197 = .ok (.iconst 4, 1) := by decide +kernel
theorem dX4_flow_198 : decode cX4_flow 198 = .ok (.iload_n 1, 1) := by decide +kernel
theorem dX4_flow_199 : decode cX4_flow 199 = .ok (.imul, 1) := by decide +kernel
theorem dX4_flow_200 : decode cX4_flow 200 = .ok (.iload 4, 2) := by decide +kernel
theorem dX4_flow_202 : decode cX4_flow 202 = .ok (.iadd, 1) := by decide +kernel
theorem dX4_flow_203 : decode cX4_flow 203 = .ok (.laload, 1) := by decide +kernel
theorem dX4_flow_204 : decode cX4_flow 204 = .ok (.invokevirtual 89, 3) := by decide +kernel
theorem dX4_flow_207 : decode cX4_flow 207 = .ok (.iload_n 2, 1) := by decide +kernel
theorem dX4_flow_208 : decode cX4_flow 208 = .ok (.iconst 3, 1) := by decide +kernel
theorem dX4_flow_209 : decode cX4_flow 209 = .ok (.if_icmp .lt 28, 3) := by decide +kernel
theorem dX4_flow_212 : decode cX4_flow 212 = .ok (.iload_n 2, 1) := by decide +kernel
theorem dX4_flow_213 : decode cX4_flow 213 = .ok (.bipush 6, 2) := by decide +kernel
theorem dX4_flow_215 : decode cX4_flow 215 = .ok (.if_icmp .gt 22, 3) := by decide +kernel
theorem dX4_flow_218 : decode cX4_flow 218 = .ok (.aload_n 0, 1) := by decide +kernel
theorem dX4_flow_219 : decode cX4_flow 219 = .ok (.iload_n 2, 1) := by decide +kernel
theorem dX4_flow_220 : decode cX4_flow 220 = .ok (.iload_n 1, 1) := by decide +kernel
theorem dX4_flow_221 : decode cX4_flow 221 = .ok (.iload_n 3, 1) := by decide +kernel
theorem dX4_flow_222 : decode cX4_flow 222 = .ok (.iload 4, 2) := by decide +kernel
theorem dX4_flow_224 : decode cX4_flow 224 = .ok (.aload_n 0, 1) := by decide +kernel
theorem dX4_flow_225 : decode cX4_flow 225 = .ok (.getfield 7, 3) := by decide +kernel
theorem dX4_flow_228 : decode cX4_flow 228 = .ok (.iconst 4, 1) := by decide +kernel
theorem dX4_flow_229 : decode cX4_flow 229 = .ok (.iload_n 1, 1) := by decide +kernel
theorem dX4_flow_230 : decode cX4_flow 230 = .ok (.imul, 1) := by decide +kernel
theorem dX4_flow_231 : decode cX4_flow 231 = .ok (.iconst 3, 1) := by decide +kernel
theorem dX4_flow_232 : decode cX4_flow 232 = .ok (.iadd, 1) := by decide +kernel
theorem dX4_flow_233 : decode cX4_flow 233 = .ok (.iaload, 1) := by decide +kernel
theorem dX4_flow_234 : decode cX4_flow 234 = .ok (.invokevirtual 92, 3) := by decide +kernel
theorem dX4_flow_237 : decode cX4_flow 237 = .ok (.iload_n 2, 1) := by decide +kernel
theorem dX4_flow_238 : decode cX4_flow 238 = .ok (.bipush 7, 2) := by decide +kernel
theorem dX4_flow_240 : decode cX4_flow 240 = .ok (.if_icmp .eq 9, 3) := by decide +kernel
theorem dX4_flow_243 : decode cX4_flow 243 = .ok (.iload_n 2, 1) := by decide +kernel
theorem dX4_flow_244 : decode cX4_flow 244 = .ok (.bipush 8, 2) := by decide +kernel
theorem dX4_flow_246 : decode cX4_flow 246 = .ok (.if_icmp .ne 44, 3) := by decide +kernel
theorem dX4_flow_249 : decode cX4_flow 249 = .ok (.aload_n 0, 1) := by decide +kernel
theorem dX4_flow_250 : decode cX4_flow 250 = .ok (.getfield 21, 3) := by decide +kernel
theorem dX4_flow_253 : decode cX4_flow 253 = .ok (.iconst 4, 1) := by decide +kernel
theorem dX4_flow_254 : decode cX4_flow 254 = .ok (.iload_n 1, 1) := by decide +kernel
theorem dX4_flow_255 : decode cX4_flow 255 = .ok (.imul, 1) := by decide +kernel
theorem dX4_flow_256 : decode cX4_flow 256 = .ok (.iload 4, 2) := by decide +kernel
theorem dX4_flow_258 : decode cX4_flow 258 = .ok (.iadd, 1) := by decide +kernel
theorem dX4_flow_259 : decode cX4_flow 259 = .ok (.laload, 1) := by decide +kernel
theorem dX4_flow_260 : decode cX4_flow 260 = .ok (.lconst 0, 1) := by decide +kernel
theorem dX4_flow_261 : decode cX4_flow 261 = .ok (.lcmp, 1) := by decide +kernel
theorem dX4_flow_262 : decode cX4_flow 262 = .ok (.ifCond .lt 21, 3) := by decide +kernel
theorem dX4_flow_265 : decode cX4_flow 265 = .ok (.aload_n 0, 1) := by decide +kernel
theorem dX4_flow_266 : decode cX4_flow 266 = .ok (.getfield 17, 3) := by decide +kernel
theorem dX4_flow_269 : decode cX4_flow 269 = .ok (.iconst 4, 1) := by decide +kernel
theorem dX4_flow_270 : decode cX4_flow 270 = .ok (.iload_n 1, 1) := by decide +kernel
theorem dX4_flow_271 : decode cX4_flow 271 = .ok (.imul, 1) := by decide +kernel
theorem dX4_flow_272 : decode cX4_flow 272 = .ok (.iload 4, 2) := by decide +kernel
theorem dX4_flow_274 : decode cX4_flow 274 = .ok (.iadd, 1) := by decide +kernel
theorem dX4_flow_275 : decode cX4_flow 275 = .ok (.laload, 1) := by decide +kernel
theorem dX4_flow_276 : decode cX4_flow 276 = .ok (.ldc2_w 96, 3) := by decide +kernel
theorem dX4_flow_279 : decode cX4_flow 279 = .ok (.lcmp, 1) := by decide +kernel
theorem dX4_flow_280 : decode cX4_flow 280 = .ok (.ifCond .le 10, 3) := by decide +kernel
theorem dX4_flow_283 : decode cX4_flow 283 = .ok (.aload_n 0, 1) := by decide +kernel
theorem dX4_flow_284 : decode cX4_flow 284 = .ok (.getfield 33, 3) := by decide +kernel
theorem dX4_flow_287 : decode cX4_flow 287 = .ok (.iconst 0, 1) := by decide +kernel
theorem dX4_flow_288 : decode cX4_flow 288 = .ok (.iconst 0, 1) := by decide +kernel
theorem dX4_flow_289 : decode cX4_flow 289 = .ok (.bastore, 1) := by decide +kernel
theorem dX4_flow_290 : decode cX4_flow 290 = .ok (.iload_n 2, 1) := by decide +kernel
theorem dX4_flow_291 : decode cX4_flow 291 = .ok (.bipush 7, 2) := by decide +kernel
theorem dX4_flow_293 : decode cX4_flow 293 = .ok (.if_icmp .eq 9, 3) := by decide +kernel
theorem dX4_flow_296 : decode cX4_flow 296 = .ok (.iload_n 2, 1) := by decide +kernel
theorem dX4_flow_297 : decode cX4_flow 297 = .ok (.bipush 11, 2) := by decide +kernel
theorem dX4_flow_299 : decode cX4_flow 299 = .ok (.if_icmp .ne 14, 3) := by decide +kernel
theorem dX4_flow_302 : decode cX4_flow 302 = .ok (.aload_n 0, 1) := by decide +kernel
theorem dX4_flow_303 : decode cX4_flow 303 = .ok (.iload_n 3, 1) := by decide +kernel
theorem dX4_flow_304 : decode cX4_flow 304 = .ok (.ldc2_w 66, 3) := by decide +kernel
theorem dX4_flow_307 : decode cX4_flow 307 = .ok (.ldc2_w 68, 3) := by decide +kernel
theorem dX4_flow_310 : decode cX4_flow 310 = .ok (.invokevirtual 89, 3) := by decide +kernel
theorem dX4_flow_313 : decode cX4_flow 313 = .ok (.iload_n 2, 1) := by decide +kernel
theorem dX4_flow_314 : decode cX4_flow 314 = .ok (.bipush 9, 2) := by decide +kernel
theorem dX4_flow_316 : decode cX4_flow 316 = .ok (.if_icmp .ne 11, 3) := by decide +kernel
theorem dX4_flow_319 : decode cX4_flow 319 = .ok (.aload_n 0, 1) := by decide +kernel
theorem dX4_flow_320 : decode cX4_flow 320 = .ok (.iload_n 1, 1) := by decide +kernel
theorem dX4_flow_321 : decode cX4_flow 321 = .ok (.iload_n 3, 1) := by decide +kernel
theorem dX4_flow_322 : decode cX4_flow 322 = .ok (.iload 4, 2) := by decide +kernel
theorem dX4_flow_324 : decode cX4_flow 324 = .ok (.invokevirtual 98, 3) := by decide +kernel
theorem dX4_flow_327 : decode cX4_flow 327 = .ok (.return_, 1) := by decide +kernel
theorem dX4_arrive_0 : decode cX4_arrive 0 = .ok (.aload_n 0, 1) := by decide +kernel
theorem dX4_arrive_1 : decode cX4_arrive 1 = .ok (.getfield 13, 3) := by decide +kernel
theorem dX4_arrive_4 : decode cX4_arrive 4 = .ok (.iload_n 2, 1) := by decide +kernel
theorem dX4_arrive_5 : decode cX4_arrive 5 = .ok (.baload, 1) := by decide +kernel
theorem dX4_arrive_6 : decode cX4_arrive 6 = .ok (.ifCond .ne 7, 3) := by decide +kernel
theorem dX4_arrive_9 : decode cX4_arrive 9 = .ok (.iconst 1, 1) := by decide +kernel
theorem dX4_arrive_10 : decode cX4_arrive 10 = .ok (.goto 4, 3) := by decide +kernel
theorem dX4_arrive_13 : decode cX4_arrive 13 = .ok (.iconst 0, 1) := by decide +kernel
theorem dX4_arrive_14 : decode cX4_arrive 14 = .ok (.istore 4, 2) := by decide +kernel
theorem dX4_arrive_16 : decode cX4_arrive 16 = .ok (.iconst 0, 1) := by decide +kernel
theorem dX4_arrive_17 : decode cX4_arrive 17 = .ok (.istore 5, 2) := by decide +kernel
theorem dX4_arrive_19 : decode cX4_arrive 19 = .ok (.iload 5, 2) := by decide +kernel
theorem dX4_arrive_21 : decode cX4_arrive 21 = .ok (.iconst 4, 1) := by decide +kernel
theorem dX4_arrive_22 : decode cX4_arrive 22 = .ok (.if_icmp .ge 189, 3) := by decide +kernel
theorem dX4_arrive_25 : decode cX4_arrive 25 = .ok (.aload_n 0, 1) := by decide +kernel
theorem dX4_arrive_26 : decode cX4_arrive 26 = .ok (.getfield 13, 3) := by decide +kernel
theorem dX4_arrive_29 : decode cX4_arrive 29 = .ok (.iload_n 2, 1) := by decide +kernel
theorem dX4_arrive_30 : decode cX4_arrive 30 = .ok (.baload, 1) := by decide +kernel
theorem dX4_arrive_31 : decode cX4_arrive 31 = .ok (.ifCond .ne 50, 3) := by decide +kernel
theorem dX4_arrive_34 : decode cX4_arrive 34 = .ok (.aload_n 0, 1) := by decide +kernel
theorem dX4_arrive_35 : decode cX4_arrive 35 = .ok (.getfield 17, 3) := by decide +kernel
theorem dX4_arrive_38 : decode cX4_arrive 38 = .ok (.iconst 4, 1) := by decide +kernel
theorem dX4_arrive_39 : decode cX4_arrive 39 = .ok (.iload_n 2, 1) := by decide +kernel
theorem dX4_arrive_40 : decode cX4_arrive 40 = .ok (.imul, 1) := by decide +kernel
theorem dX4_arrive_41 : decode cX4_arrive 41 = .ok (.iload 5, 2) := by decide +kernel
theorem dX4_arrive_43 : decode cX4_arrive 43 = .ok (.iadd, 1) := by decide +kernel
theorem dX4_arrive_44 : decode cX4_arrive 44 = .ok (.aload_n 0, 1) := by decide +kernel
theorem dX4_arrive_45 : decode cX4_arrive 45 = .ok (.getfield 36, 3) := by decide +kernel
theorem dX4_arrive_48 : decode cX4_arrive 48 = .ok (.iconst 4, 1) := by decide +kernel
theorem dX4_arrive_49 : decode cX4_arrive 49 = .ok (.iload_n 3, 1) := by decide +kernel
theorem dX4_arrive_50 : decode cX4_arrive 50 = .ok (.imul, 1) := by decide +kernel
theorem dX4_arrive_51 : decode cX4_arrive 51 = .ok (.iload 5, 2) := by decide +kernel
theorem dX4_arrive_53 : decode cX4_arrive 53 = .ok (.iadd, 1) := by decide +kernel
theorem dX4_arrive_54 : decode cX4_arrive 54 = .ok (.laload, 1) := by decide +kernel
theorem dX4_arrive_55 : decode cX4_arrive 55 = .ok (.lastore, 1) := by decide +kernel
theorem dX4_arrive_56 : decode cX4_arrive 56 = .ok (.aload_n 0, 1) := by decide +kernel
theorem dX4_arrive_57 : decode cX4_arrive 57 = .ok (.getfield 21, 3) := by decide +kernel
theorem dX4_arrive_60 : decode cX4_arrive 60 = .ok (.iconst 4, 1) := by decide +kernel
theorem dX4_arrive_61 : decode cX4_arrive 61 = .ok (.iload_n 2, 1) := by decide +kernel
theorem dX4_arrive_62 : decode cX4_arrive 62 = .ok (.imul, 1) := by decide +kernel
theorem dX4_arrive_63 : decode cX4_arrive 63 = .ok (.iload 5, 2) := by decide +kernel
theorem dX4_arrive_65 : decode cX4_arrive 65 = .ok (.iadd, 1) := by decide +kernel
theorem dX4_arrive_66 : decode cX4_arrive 66 = .ok (.aload_n 0, 1) := by decide +kernel
theorem dX4_arrive_67 : decode cX4_arrive 67 = .ok (.getfield 39, 3) := by decide +kernel
theorem dX4_arrive_70 : decode cX4_arrive 70 = .ok (.iconst 4, 1) := by decide +kernel
theorem dX4_arrive_71 : decode cX4_arrive 71 = .ok (.iload_n 3, 1) := by decide +kernel
theorem dX4_arrive_72 : decode cX4_arrive 72 = .ok (.imul, 1) := by decide +kernel
theorem dX4_arrive_73 : decode cX4_arrive 73 = .ok (.iload 5, 2) := by decide +kernel
theorem dX4_arrive_75 : decode cX4_arrive 75 = .ok (.iadd, 1) := by decide +kernel
theorem dX4_arrive_76 : decode cX4_arrive 76 = .ok (.laload, 1) := by decide +kernel
theorem dX4_arrive_77 : decode cX4_arrive 77 = .ok (.lastore, 1) := by decide +kernel
theorem dX4_arrive_78 : decode cX4_arrive 78 = .ok (.goto 127, 3) := by decide +kernel
theorem dX4_arrive_81 : decode cX4_arrive 81 = .ok (.aload_n 0, 1) := by decide +kernel
theorem dX4_arrive_82 : decode cX4_arrive 82 = .ok (.getfield 36, 3) := by decide +kernel
theorem dX4_arrive_85 : decode cX4_arrive 85 = .ok (.iconst 4, 1) := by decide +kernel
theorem dX4_arrive_86 : decode cX4_arrive 86 = .ok (.iload_n 3, 1) := by decide +kernel
theorem dX4_arrive_87 : decode cX4_arrive 87 = .ok (.imul, 1) := by decide +kernel
theorem dX4_arrive_88 : decode cX4_arrive 88 = .ok (.iload 5, 2) := by decide +kernel
theorem dX4_arrive_90 : decode cX4_arrive 90 = .ok (.iadd, 1) := by decide +kernel
theorem dX4_arrive_91 : decode cX4_arrive 91 = .ok (.laload, 1) := by decide +kernel
theorem dX4_arrive_92 : decode cX4_arrive 92 = .ok (.aload_n 0, 1) := by decide +kernel
theorem dX4_arrive_93 : decode cX4_arrive 93 = .ok (.getfield 17, 3) := by decide +kernel
theorem dX4_arrive_96 : decode cX4_arrive 96 = .ok (.iconst 4, 1) := by decide +kernel
theorem dX4_arrive_97 : decode cX4_arrive 97 = .ok (.iload_n 2, 1) := by decide +kernel
theorem dX4_arrive_98 : decode cX4_arrive 98 = .ok (.imul, 1) := by decide +kernel
theorem dX4_arrive_99 : decode cX4_arrive 99 = .ok (.iload 5, 2) := by decide +kernel
theorem dX4_arrive_101 : decode cX4_arrive 101 = .ok (.iadd, 1) := by decide +kernel
theorem dX4_arrive_102 : decode cX4_arrive 102 = .ok (.laload, 1) := by decide +kernel
theorem dX4_arrive_103 : decode cX4_arrive 103 = .ok (.lcmp, 1) := by decide +kernel
theorem dX4_arrive_104 : decode cX4_arrive 104 = .ok (.ifCond .ge 39, 3) := by decide +kernel
theorem dX4_arrive_107 : decode cX4_arrive 107 = .ok (.aload_n 0, 1) := by decide +kernel
theorem dX4_arrive_108 : decode cX4_arrive 108 = .ok (.getfield 17, 3) := by decide +kernel
theorem dX4_arrive_111 : decode cX4_arrive 111 = .ok (.iconst 4, 1) := by decide +kernel
theorem dX4_arrive_112 : decode cX4_arrive 112 = .ok (.iload_n 2, 1) := by decide +kernel
theorem dX4_arrive_113 : decode cX4_arrive 113 = .ok (.imul, 1) := by decide +kernel
theorem dX4_arrive_114 : decode cX4_arrive 114 = .ok (.iload 5, 2) := by decide +kernel
theorem dX4_arrive_116 : decode cX4_arrive 116 = .ok (.iadd, 1) := by decide +kernel
theorem dX4_arrive_117 : decode cX4_arrive 117 = .ok (.iload_n 2, 1) := by decide +kernel
theorem dX4_arrive_118 : decode cX4_arrive 118 = .ok (.iload_n 1, 1) := by decide +kernel
theorem dX4_arrive_119 : decode cX4_arrive 119 = .ok (.if_icmp .gt 9, 3) := by decide +kernel
theorem dX4_arrive_122 : decode cX4_arrive 122 = .ok (.ldc2_w 66, 3) := by decide +kernel
theorem dX4_arrive_125 : decode cX4_arrive 125 = .ok (.goto 14, 3) := by decide +kernel
theorem dX4_arrive_128 : decode cX4_arrive 128 = .ok (.aload_n 0, 1) := by decide +kernel
theorem dX4_arrive_129 : decode cX4_arrive 129 = .ok (.getfield 36, 3) := by decide +kernel
theorem dX4_arrive_132 : decode cX4_arrive 132 = .ok (.iconst 4, 1) := by decide +kernel
theorem dX4_arrive_133 : decode cX4_arrive 133 = .ok (.iload_n 3, 1) := by decide +kernel
theorem dX4_arrive_134 : decode cX4_arrive 134 = .ok (.imul, 1) := by decide +kernel
theorem dX4_arrive_135 : decode cX4_arrive 135 = .ok (.iload 5, 2) := by decide +kernel
theorem dX4_arrive_137 : decode cX4_arrive 137 = .ok (.iadd, 1) := by decide +kernel
theorem dX4_arrive_138 : decode cX4_arrive 138 = .ok (.laload, 1) := by decide +kernel
theorem dX4_arrive_139 : decode cX4_arrive 139 = .ok (.lastore, 1) := by decide +kernel
theorem dX4_arrive_140 : decode cX4_arrive 140 = .ok (.iconst 1, 1) := by decide +kernel
theorem dX4_arrive_141 : decode cX4_arrive 141 = .ok (.istore 4, 2) := by decide +kernel
theorem dX4_arrive_143 : decode cX4_arrive 143 = .ok (.aload_n 0, 1) := by decide +kernel
theorem dX4_arrive_144 : decode cX4_arrive 144 = .ok (.getfield 39, 3) := by decide +kernel
theorem dX4_arrive_147 : decode cX4_arrive 147 = .ok (.iconst 4, 1) := by decide +kernel
theorem dX4_arrive_148 : decode cX4_arrive 148 = .ok (.iload_n 3, 1) := by decide +kernel
theorem dX4_arrive_149 : decode cX4_arrive 149 = .ok (.imul, 1) := by decide +kernel
theorem dX4_arrive_150 : decode cX4_arrive 150 = .ok (.iload 5, 2) := by decide +kernel
theorem dX4_arrive_152 : decode cX4_arrive 152 = .ok (.iadd, 1) := by decide +kernel
theorem dX4_arrive_153 : decode cX4_arrive 153 = .ok (.laload, 1) := by decide +kernel
theorem dX4_arrive_154 : decode cX4_arrive 154 = .ok (.aload_n 0, 1) := by decide +kernel
theorem dX4_arrive_155 : decode cX4_arrive 155 = .ok (.getfield 21, 3) := by decide +kernel
theorem dX4_arrive_158 : decode cX4_arrive 158 = .ok (.iconst 4, 1) := by decide +kernel
theorem dX4_arrive_159 : decode cX4_arrive 159 = .ok (.iload_n 2, 1) := by decide +kernel
theorem dX4_arrive_160 : decode cX4_arrive 160 = .ok (.imul, 1) := by decide +kernel
theorem dX4_arrive_161 : decode cX4_arrive 161 = .ok (.iload 5, 2) := by decide +kernel
theorem dX4_arrive_163 : decode cX4_arrive 163 = .ok (.iadd, 1) := by decide +kernel
theorem dX4_arrive_164 : decode cX4_arrive 164 = .ok (.laload, 1) := by decide +kernel
theorem dX4_arrive_165 : decode cX4_arrive 165 = .ok (.lcmp, 1) := by decide +kernel
theorem dX4_arrive_166 : decode cX4_arrive 166 = .ok (.ifCond .le 39, 3) := by decide +kernel
theorem dX4_arrive_169 : decode cX4_arrive 169 = .ok (.aload_n 0, 1) := by decide +kernel
theorem dX4_arrive_170 : decode cX4_arrive 170 = .ok (.getfield 21, 3) := by decide +kernel
theorem dX4_arrive_173 : decode cX4_arrive 173 = .ok (.iconst 4, 1) := by decide +kernel
theorem dX4_arrive_174 : decode cX4_arrive 174 = .ok (.iload_n 2, 1) := by decide +kernel
theorem dX4_arrive_175 : decode cX4_arrive 175 = .ok (.imul, 1) := by decide +kernel
theorem dX4_arrive_176 : decode cX4_arrive 176 = .ok (.iload 5, 2) := by decide +kernel
theorem dX4_arrive_178 : decode cX4_arrive 178 = .ok (.iadd, 1) := by decide +kernel
theorem dX4_arrive_179 : decode cX4_arrive 179 = .ok (.iload_n 2, 1) := by decide +kernel
theorem dX4_arrive_180 : decode cX4_arrive 180 = .ok (.iload_n 1, 1) := by decide +kernel
theorem dX4_arrive_181 : decode cX4_arrive 181 = .ok (.if_icmp .gt 9, 3) := by decide +kernel
theorem dX4_arrive_184 : decode cX4_arrive 184 = .ok (.ldc2_w 68, 3) := by decide +kernel
theorem dX4_arrive_187 : decode cX4_arrive 187 = .ok (.goto 14, 3) := by decide +kernel
theorem dX4_arrive_190 : decode cX4_arrive 190 = .ok (.aload_n 0, 1) := by decide +kernel
theorem dX4_arrive_191 : decode cX4_arrive 191 = .ok (.getfield 39, 3) := by decide +kernel
theorem dX4_arrive_194 : decode cX4_arrive 194 = .ok (.iconst 4, 1) := by decide +kernel
theorem dX4_arrive_195 : decode cX4_arrive 195 = .ok (.iload_n 3, 1) := by decide +kernel
theorem dX4_arrive_196 : decode cX4_arrive 196 = .ok (.imul, 1) := by decide +kernel
theorem dX4_arrive_197 : decode cX4_arrive 197 = .ok (.iload 5, 2) := by decide +kernel
theorem dX4_arrive_199 : decode cX4_arrive 199 = .ok (.iadd, 1) := by decide +kernel
theorem dX4_arrive_200 : decode cX4_arrive 200 = .ok (.laload, 1) := by decide +kernel
theorem dX4_arrive_201 : decode cX4_arrive 201 = .ok (.lastore, 1) := by decide +kernel
theorem dX4_arrive_202 : decode cX4_arrive 202 = .ok (.iconst 1, 1) := by decide +kernel
theorem dX4_arrive_203 : decode cX4_arrive 203 = .ok (.istore 4, 2) := by decide +kernel
theorem dX4_arrive_205 : decode cX4_arrive 205 = .ok (.iinc 5 1, 3) := by decide +kernel
theorem dX4_arrive_208 : decode cX4_arrive 208 = .ok (.goto (-189), 3) := by decide +kernel
theorem dX4_arrive_211 : decode cX4_arrive 211 = .ok (.aload_n 0, 1) := by decide +kernel
theorem dX4_arrive_212 : decode cX4_arrive 212 = .ok (.getfield 13, 3) := by decide +kernel
theorem dX4_arrive_215 : decode cX4_arrive 215 = .ok (.iload_n 2, 1) := by decide +kernel
theorem dX4_arrive_216 : decode cX4_arrive 216 = .ok (.iconst 1, 1) := by decide +kernel
theorem dX4_arrive_217 : decode cX4_arrive 217 = .ok (.bastore, 1) := by decide +kernel
theorem dX4_arrive_218 : decode cX4_arrive 218 = .ok (.iload 4, 2) := by decide +kernel
theorem dX4_arrive_220 : decode cX4_arrive 220 = .ok (.ireturn, 1) := by decide +kernel
theorem dX4_target_0 : decode cX4_target 0 = .ok (.iload_n 2, 1) := by decide +kernel
theorem dX4_target_1 : decode cX4_target 1 = .ok (.ifCond .ne 9, 3) := by decide +kernel
theorem dX4_target_4 : decode cX4_target 4 = .ok (.iload_n 1, 1) := by decide +kernel
theorem dX4_target_5 : decode cX4_target 5 = .ok (.iconst 1, 1) := by decide +kernel
theorem dX4_target_6 : decode cX4_target 6 = .ok (.iadd, 1) := by decide +kernel
theorem dX4_target_7 : decode cX4_target 7 = .ok (.goto 13, 3) := by decide +kernel
theorem dX4_target_10 : decode cX4_target 10 = .ok (.aload_n 0, 1) := by decide +kernel
theorem dX4_target_11 : decode cX4_target 11 = .ok (.getfield 7, 3) := by decide +kernel
theorem dX4_target_14 : decode cX4_target 14 = .ok (.iconst 4, 1) := by decide +kernel
theorem dX4_target_15 : decode cX4_target 15 = .ok (.iload_n 1, 1) := by decide +kernel
end
section
theorem dX4_target_16 : decode cX4_target 16 = .ok (.imul, 1) := by decide +kernel
theorem dX4_target_17 : decode cX4_target 17 = .ok (.iconst 3, 1) := by decide +kernel
theorem dX4_target_18 : decode cX4_target 18 = .ok (.iadd, 1) := by decide +kernel
theorem dX4_target_19 : decode cX4_target 19 = .ok (.iaload, 1) := by decide +kernel
theorem dX4_target_20 : decode cX4_target 20 = .ok (.ireturn, 1) := by decide +kernel
set_option maxRecDepth 20000 in
theorem ggX4_narrow_X4_flow : GoodIn wsX4_narrow wsX4_flow := goodIn_r _ [15, 16, 6, 7, 9, 8, 10, 17, 18, 19, 20, 21, 22, 14, 23, 24, 25, 26, 27, 28, 29, 30, 31, 32, 33, 34, 35, 36, 37, 38, 39, 40, 41, 42, 43, 44, 49, 50, 51, 52, 53, 54, 55, 56, 57, 58, 59, 60, 61, 62, 63] (by decide +kernel) (by decide +kernel)
set_option maxRecDepth 20000 in
theorem gX4_narrow_X4_flow : GoodIn wsX4_narrow (wsV RX4 102 RX4 yX4_flow wsX4_flow) := goodIn_app (goodIn_of _ (by decide +kernel)) ggX4_narrow_X4_flow
set_option maxRecDepth 20000 in
theorem ggX4_narrow_X4_target : GoodIn wsX4_narrow wsX4_target := goodIn_r _ [48, 16, 49, 50, 51, 52, 53, 54, 55, 56, 57, 58, 59, 60, 61, 62, 63] (by decide +kernel) (by decide +kernel)
set_option maxRecDepth 20000 in
theorem gX4_narrow_X4_target : GoodIn wsX4_narrow (wsV RX4 106 RX4 yX4_target wsX4_target) := goodIn_app (goodIn_of _ (by decide +kernel)) ggX4_narrow_X4_target
theorem dX4_narrow_0 : decode cX4_narrow 0 = .ok (.iconst 0, 1) := by decide +kernel
theorem dX4_narrow_1 : decode cX4_narrow 1 = .ok (.istore_n 1, 1) := by decide +kernel
theorem dX4_narrow_2 : decode cX4_narrow 2 = .ok (.iload_n 1, 1) := by decide +kernel
theorem dX4_narrow_3 : decode cX4_narrow 3 = .ok (.bipush 24, 2) := by decide +kernel
theorem dX4_narrow_5 : decode cX4_narrow 5 = .ok (.if_icmp .ge 24, 3) := by decide +kernel
theorem dX4_narrow_8 : decode cX4_narrow 8 = .ok (.aload_n 0, 1) := by decide +kernel
theorem dX4_narrow_9 : decode cX4_narrow 9 = .ok (.getfield 24, 3) := by decide +kernel
theorem dX4_narrow_12 : decode cX4_narrow 12 = .ok (.iload_n 1, 1) := by decide +kernel
theorem dX4_narrow_13 : decode cX4_narrow 13 = .ok (.iload_n 1, 1) := by decide +kernel
theorem dX4_narrow_14 : decode cX4_narrow 14 = .ok (.ifCond .ne 7, 3) := by decide +kernel
theorem dX4_narrow_17 : decode cX4_narrow 17 = .ok (.iconst 1, 1) := by decide +kernel
theorem dX4_narrow_18 : decode cX4_narrow 18 = .ok (.goto 4, 3) := by decide +kernel
theorem dX4_narrow_21 : decode cX4_narrow 21 = .ok (.iconst 0, 1) := by decide +kernel
theorem dX4_narrow_22 : decode cX4_narrow 22 = .ok (.bastore, 1) := by decide +kernel
theorem dX4_narrow_23 : decode cX4_narrow 23 = .ok (.iinc 1 1, 3) := by decide +kernel
theorem dX4_narrow_26 : decode cX4_narrow 26 = .ok (.goto (-24), 3) := by decide +kernel
theorem dX4_narrow_29 : decode cX4_narrow 29 = .ok (.iconst 0, 1) := by decide +kernel
theorem dX4_narrow_30 : decode cX4_narrow 30 = .ok (.istore_n 1, 1) := by decide +kernel
theorem dX4_narrow_31 : decode cX4_narrow 31 = .ok (.iload_n 1, 1) := by decide +kernel
theorem dX4_narrow_32 : decode cX4_narrow 32 = .ok (.iconst 4, 1) := by decide +kernel
theorem dX4_narrow_33 : decode cX4_narrow 33 = .ok (.if_icmp .ge 23, 3) := by decide +kernel
theorem dX4_narrow_36 : decode cX4_narrow 36 = .ok (.aload_n 0, 1) := by decide +kernel
theorem dX4_narrow_37 : decode cX4_narrow 37 = .ok (.getfield 27, 3) := by decide +kernel
theorem dX4_narrow_40 : decode cX4_narrow 40 = .ok (.iload_n 1, 1) := by decide +kernel
theorem dX4_narrow_41 : decode cX4_narrow 41 = .ok (.lconst 0, 1) := by decide +kernel
theorem dX4_narrow_42 : decode cX4_narrow 42 = .ok (.lastore, 1) := by decide +kernel
theorem dX4_narrow_43 : decode cX4_narrow 43 = .ok (.aload_n 0, 1) := by decide +kernel
theorem dX4_narrow_44 : decode cX4_narrow 44 = .ok (.getfield 30, 3) := by decide +kernel
theorem dX4_narrow_47 : decode cX4_narrow 47 = .ok (.iload_n 1, 1) := by decide +kernel
theorem dX4_narrow_48 : decode cX4_narrow 48 = .ok (.lconst 0, 1) := by decide +kernel
theorem dX4_narrow_49 : decode cX4_narrow 49 = .ok (.lastore, 1) := by decide +kernel
theorem dX4_narrow_50 : decode cX4_narrow 50 = .ok (.iinc 1 1, 3) := by decide +kernel
theorem dX4_narrow_53 : decode cX4_narrow 53 = .ok (.goto (-22), 3) := by decide +kernel
theorem dX4_narrow_56 : decode cX4_narrow 56 = .ok (.iconst 0, 1) := by decide +kernel
theorem dX4_narrow_57 : decode cX4_narrow 57 = .ok (.istore_n 1, 1) := by decide +kernel
theorem dX4_narrow_58 : decode cX4_narrow 58 = .ok (.iload_n 1, 1) := by decide +kernel
theorem dX4_narrow_59 : decode cX4_narrow 59 = .ok (.aload_n 0, 1) := by decide +kernel
theorem dX4_narrow_60 : decode cX4_narrow 60 = .ok (.getfield 42, 3) := by decide +kernel
theorem dX4_narrow_63 : decode cX4_narrow 63 = .ok (.if_icmp .ge 197, 3) := by decide +kernel
theorem dX4_narrow_66 : decode cX4_narrow 66 = .ok (.aload_n 0, 1) := by decide +kernel
theorem dX4_narrow_67 : decode cX4_narrow 67 = .ok (.getfield 13, 3) := by decide +kernel
theorem dX4_narrow_70 : decode cX4_narrow 70 = .ok (.iload_n 1, 1) := by decide +kernel
theorem dX4_narrow_71 : decode cX4_narrow 71 = .ok (.baload, 1) := by decide +kernel
theorem dX4_narrow_72 : decode cX4_narrow 72 = .ok (.ifCond .eq 8, 3) := by decide +kernel
theorem dX4_narrow_75 : decode cX4_narrow 75 = .ok (.aload_n 0, 1) := by decide +kernel
theorem dX4_narrow_76 : decode cX4_narrow 76 = .ok (.iload_n 1, 1) := by decide +kernel
theorem dX4_narrow_77 : decode cX4_narrow 77 = .ok (.invokevirtual 102, 3) := by decide +kernel
theorem dX4_narrow_80 : decode cX4_narrow 80 = .ok (.iconst 0, 1) := by decide +kernel
theorem dX4_narrow_81 : decode cX4_narrow 81 = .ok (.istore_n 2, 1) := by decide +kernel
theorem dX4_narrow_82 : decode cX4_narrow 82 = .ok (.iload_n 2, 1) := by decide +kernel
theorem dX4_narrow_83 : decode cX4_narrow 83 = .ok (.iconst 2, 1) := by decide +kernel
theorem dX4_narrow_84 : decode cX4_narrow 84 = .ok (.if_icmp .ge 170, 3) := by decide +kernel
theorem dX4_narrow_87 : decode cX4_narrow 87 = .ok (.aload_n 0, 1) := by decide +kernel
theorem dX4_narrow_88 : decode cX4_narrow 88 = .ok (.getfield 13, 3) := by decide +kernel
theorem dX4_narrow_91 : decode cX4_narrow 91 = .ok (.iload_n 1, 1) := by decide +kernel
theorem dX4_narrow_92 : decode cX4_narrow 92 = .ok (.baload, 1) := by decide +kernel
theorem dX4_narrow_93 : decode cX4_narrow 93 = .ok (.ifCond .eq 155, 3) := by decide +kernel
theorem dX4_narrow_96 : decode cX4_narrow 96 = .ok (.aload_n 0, 1) := by decide +kernel
theorem dX4_narrow_97 : decode cX4_narrow 97 = .ok (.getfield 33, 3) := by decide +kernel
theorem dX4_narrow_100 : decode cX4_narrow 100 = .ok (.iload_n 2, 1) := by decide +kernel
theorem dX4_narrow_101 : decode cX4_narrow 101 = .ok (.baload, 1) := by decide +kernel
theorem dX4_narrow_102 : decode cX4_narrow 102 = .ok (.ifCond .eq 146, 3) := by decide +kernel
theorem dX4_narrow_105 : decode cX4_narrow 105 = .ok (.aload_n 0, 1) := by decide +kernel
theorem dX4_narrow_106 : decode cX4_narrow 106 = .ok (.iload_n 1, 1) := by decide +kernel
theorem dX4_narrow_107 : decode cX4_narrow 107 = .ok (.iload_n 2, 1) := by decide +kernel
theorem dX4_narrow_108 : decode cX4_narrow 108 = .ok (.invokevirtual 106, 3) := by decide +kernel
theorem dX4_narrow_111 : decode cX4_narrow 111 = .ok (.istore_n 3, 1) := by decide +kernel
theorem dX4_narrow_112 : decode cX4_narrow 112 = .ok (.iconst 0, 1) := by decide +kernel
theorem dX4_narrow_113 : decode cX4_narrow 113 = .ok (.istore 4, 2) := by decide +kernel
theorem dX4_narrow_115 : decode cX4_narrow 115 = .ok (.iload 4, 2) := by decide +kernel
theorem dX4_narrow_117 : decode cX4_narrow 117 = .ok (.iconst 4, 1) := by decide +kernel
theorem dX4_narrow_118 : decode cX4_narrow 118 = .ok (.if_icmp .ge 123, 3) := by decide +kernel
theorem dX4_narrow_121 : decode cX4_narrow 121 = .ok (.aload_n 0, 1) := by decide +kernel
theorem dX4_narrow_122 : decode cX4_narrow 122 = .ok (.getfield 24, 3) := by decide +kernel
theorem dX4_narrow_125 : decode cX4_narrow 125 = .ok (.iload_n 3, 1) := by decide +kernel
theorem dX4_narrow_126 : decode cX4_narrow 126 = .ok (.baload, 1) := by decide +kernel
theorem dX4_narrow_127 : decode cX4_narrow 127 = .ok (.ifCond .eq 29, 3) := by decide +kernel
theorem dX4_narrow_130 : decode cX4_narrow 130 = .ok (.aload_n 0, 1) := by decide +kernel
theorem dX4_narrow_131 : decode cX4_narrow 131 = .ok (.getfield 36, 3) := by decide +kernel
theorem dX4_narrow_134 : decode cX4_narrow 134 = .ok (.iconst 4, 1) := by decide +kernel
theorem dX4_narrow_135 : decode cX4_narrow 135 = .ok (.iload_n 2, 1) := by decide +kernel
theorem dX4_narrow_136 : decode cX4_narrow 136 = .ok (.imul, 1) := by decide +kernel
theorem dX4_narrow_137 : decode cX4_narrow 137 = .ok (.iload 4, 2) := by decide +kernel
theorem dX4_narrow_139 : decode cX4_narrow 139 = .ok (.iadd, 1) := by decide +kernel
theorem dX4_narrow_140 : decode cX4_narrow 140 = .ok (.laload, 1) := by decide +kernel
theorem dX4_narrow_141 : decode cX4_narrow 141 = .ok (.aload_n 0, 1) := by decide +kernel
theorem dX4_narrow_142 : decode cX4_narrow 142 = .ok (.getfield 27, 3) := by decide +kernel
theorem dX4_narrow_145 : decode cX4_narrow 145 = .ok (.iconst 4, 1) := by decide +kernel
theorem dX4_narrow_146 : decode cX4_narrow 146 = .ok (.iload_n 3, 1) := by decide +kernel
theorem dX4_narrow_147 : decode cX4_narrow 147 = .ok (.imul, 1) := by decide +kernel
theorem dX4_narrow_148 : decode cX4_narrow 148 = .ok (.iload 4, 2) := by decide +kernel
theorem dX4_narrow_150 : decode cX4_narrow 150 = .ok (.iadd, 1) := by decide +kernel
theorem dX4_narrow_151 : decode cX4_narrow 151 = .ok (.laload, 1) := by decide +kernel
theorem dX4_narrow_152 : decode cX4_narrow 152 = .ok (.lcmp, 1) := by decide +kernel
theorem dX4_narrow_153 : decode cX4_narrow 153 = .ok (.ifCond .ge 25, 3) := by decide +kernel
theorem dX4_narrow_156 : decode cX4_narrow 156 = .ok (.aload_n 0, 1) := by decide +kernel
theorem dX4_narrow_157 : decode cX4_narrow 157 = .ok (.getfield 27, 3) := by decide +kernel
theorem dX4_narrow_160 : decode cX4_narrow 160 = .ok (.iconst 4, 1) := by decide +kernel
theorem dX4_narrow_161 : decode cX4_narrow 161 = .ok (.iload_n 3, 1) := by decide +kernel
theorem dX4_narrow_162 : decode cX4_narrow 162 = .ok (.imul, 1) := by decide +kernel
theorem dX4_narrow_163 : decode cX4_narrow 163 = .ok (.iload 4, 2) := by decide +kernel
theorem dX4_narrow_165 : decode cX4_narrow 165 = .ok (.iadd, 1) := by decide +kernel
theorem dX4_narrow_166 : decode cX4_narrow 166 = .ok (.aload_n 0, 1) := by decide +kernel
theorem dX4_narrow_167 : decode cX4_narrow 167 = .ok (.getfield 36, 3) := by decide +kernel
theorem dX4_narrow_170 : decode cX4_narrow 170 = .ok (.iconst 4, 1) := by decide +kernel
theorem dX4_narrow_171 : decode cX4_narrow 171 = .ok (.iload_n 2, 1) := by decide +kernel
theorem dX4_narrow_172 : decode cX4_narrow 172 = .ok (.imul, 1) := by decide +kernel
theorem dX4_narrow_173 : decode cX4_narrow 173 = .ok (.iload 4, 2) := by decide +kernel
theorem dX4_narrow_175 : decode cX4_narrow 175 = .ok (.iadd, 1) := by decide +kernel
theorem dX4_narrow_176 : decode cX4_narrow 176 = .ok (.laload, 1) := by decide +kernel
theorem dX4_narrow_177 : decode cX4_narrow 177 = .ok (.lastore, 1) := by decide +kernel
theorem dX4_narrow_178 : decode cX4_narrow 178 = .ok (.aload_n 0, 1) := by decide +kernel
theorem dX4_narrow_179 : decode cX4_narrow 179 = .ok (.getfield 24, 3) := by decide +kernel
theorem dX4_narrow_182 : decode cX4_narrow 182 = .ok (.iload_n 3, 1) := by decide +kernel
theorem dX4_narrow_183 : decode cX4_narrow 183 = .ok (.baload, 1) := by decide +kernel
theorem dX4_narrow_184 : decode cX4_narrow 184 = .ok (.ifCond .eq 29, 3) := by decide +kernel
theorem dX4_narrow_187 : decode cX4_narrow 187 = .ok (.aload_n 0, 1) := by decide +kernel
theorem dX4_narrow_188 : decode cX4_narrow 188 = .ok (.getfield 39, 3) := by decide +kernel
theorem dX4_narrow_191 : decode cX4_narrow 191 = .ok (.iconst 4, 1) := by decide +kernel
theorem dX4_narrow_192 : decode cX4_narrow 192 = .ok (.iload_n 2, 1) := by decide +kernel
theorem dX4_narrow_193 : decode cX4_narrow 193 = .ok (.imul, 1) := by decide +kernel
theorem dX4_narrow_194 : decode cX4_narrow 194 = .ok (.iload 4, 2) := by decide +kernel
theorem dX4_narrow_196 : decode cX4_narrow 196 = .ok (.iadd, 1) := by decide +kernel
theorem dX4_narrow_197 : decode cX4_narrow 197 = .ok (.laload, 1) := by decide +kernel
theorem dX4_narrow_198 : decode cX4_narrow 198 = .ok (.aload_n 0, 1) := by decide +kernel
theorem dX4_narrow_199 : decode cX4_narrow 199 = .ok (.getfield 30, 3) := by decide +kernel
theorem dX4_narrow_202 : decode cX4_narrow 202 = .ok (.iconst 4, 1) := by decide +kernel
theorem dX4_narrow_203 : decode cX4_narrow 203 = .ok (.iload_n 3, 1) := by decide +kernel
theorem dX4_narrow_204 : decode cX4_narrow 204 = .ok (.imul, 1) := by decide +kernel
theorem dX4_narrow_205 : decode cX4_narrow 205 = .ok (.iload 4, 2) := by decide +kernel
theorem dX4_narrow_207 : decode cX4_narrow 207 = .ok (.iadd, 1) := by decide +kernel
theorem dX4_narrow_208 : decode cX4_narrow 208 = .ok (.laload, 1) := by decide +kernel
theorem dX4_narrow_209 : decode cX4_narrow 209 = .ok (.lcmp, 1) := by decide +kernel
theorem dX4_narrow_210 : decode cX4_narrow 210 = .ok (.ifCond .le 25, 3) := by decide +kernel
theorem dX4_narrow_213 : decode cX4_narrow 213 = .ok (.aload_n 0, 1) := by decide +kernel
theorem dX4_narrow_214 : decode cX4_narrow 214 = .ok (.getfield 30, 3) := by decide +kernel
theorem dX4_narrow_217 : decode cX4_narrow 217 = .ok (.iconst 4, 1) := by decide +kernel
theorem dX4_narrow_218 : decode cX4_narrow 218 = .ok (.iload_n 3, 1) := by decide +kernel
theorem dX4_narrow_219 : decode cX4_narrow 219 = .ok (.imul, 1) := by decide +kernel
theorem dX4_narrow_220 : decode cX4_narrow 220 = .ok (.iload 4, 2) := by decide +kernel
theorem dX4_narrow_222 : decode cX4_narrow 222 = .ok (.iadd, 1) := by decide +kernel
theorem dX4_narrow_223 : decode cX4_narrow 223 = .ok (.aload_n 0, 1) := by decide +kernel
theorem dX4_narrow_224 : decode cX4_narrow 224 = .ok (.getfield 39, 3) := by decide +kernel
theorem dX4_narrow_227 : decode cX4_narrow 227 = .ok (.iconst 4, 1) := by decide +kernel
theorem dX4_narrow_228 : decode cX4_narrow 228 = .ok (.iload_n 2, 1) := by decide +kernel
theorem dX4_narrow_229 : decode cX4_narrow 229 = .ok (.imul, 1) := by decide +kernel
theorem dX4_narrow_230 : decode cX4_narrow 230 = .ok (.iload 4, 2) := by decide +kernel
theorem dX4_narrow_232 : decode cX4_narrow 232 = .ok (.iadd, 1) := by decide +kernel
theorem dX4_narrow_233 : decode cX4_narrow 233 = .ok (.laload, 1) := by decide +kernel
theorem dX4_narrow_234 : decode cX4_narrow 234 = .ok (.lastore, 1) := by decide +kernel
theorem dX4_narrow_235 : decode cX4_narrow 235 = .ok (.iinc 4 1, 3) := by decide +kernel
theorem dX4_narrow_238 : decode cX4_narrow 238 = .ok (.goto (-123), 3) := by decide +kernel
theorem dX4_narrow_241 : decode cX4_narrow 241 = .ok (.aload_n 0, 1) := by decide +kernel
theorem dX4_narrow_242 : decode cX4_narrow 242 = .ok (.getfield 24, 3) := by decide +kernel
theorem dX4_narrow_245 : decode cX4_narrow 245 = .ok (.iload_n 3, 1) := by decide +kernel
theorem dX4_narrow_246 : decode cX4_narrow 246 = .ok (.iconst 1, 1) := by decide +kernel
theorem dX4_narrow_247 : decode cX4_narrow 247 = .ok (.bastore, 1) := by decide +kernel
theorem dX4_narrow_248 : decode cX4_narrow 248 = .ok (.iinc 2 1, 3) := by decide +kernel
theorem dX4_narrow_251 : decode cX4_narrow 251 = .ok (.goto (-169), 3) := by decide +kernel
theorem dX4_narrow_254 : decode cX4_narrow 254 = .ok (.iinc 1 1, 3) := by decide +kernel
theorem dX4_narrow_257 : decode cX4_narrow 257 = .ok (.goto (-199), 3) := by decide +kernel
theorem dX4_narrow_260 : decode cX4_narrow 260 = .ok (.iconst 0, 1) := by decide +kernel
theorem dX4_narrow_261 : decode cX4_narrow 261 = .ok (.istore_n 1, 1) := by decide +kernel
theorem dX4_narrow_262 : decode cX4_narrow 262 = .ok (.iload_n 1, 1) := by decide +kernel
theorem dX4_narrow_263 : decode cX4_narrow 263 = .ok (.bipush 96, 2) := by decide +kernel
theorem dX4_narrow_265 : decode cX4_narrow 265 = .ok (.if_icmp .ge 33, 3) := by decide +kernel
theorem dX4_narrow_268 : decode cX4_narrow 268 = .ok (.aload_n 0, 1) := by decide +kernel
theorem dX4_narrow_269 : decode cX4_narrow 269 = .ok (.getfield 17, 3) := by decide +kernel
theorem dX4_narrow_272 : decode cX4_narrow 272 = .ok (.iload_n 1, 1) := by decide +kernel
theorem dX4_narrow_273 : decode cX4_narrow 273 = .ok (.aload_n 0, 1) := by decide +kernel
theorem dX4_narrow_274 : decode cX4_narrow 274 = .ok (.getfield 27, 3) := by decide +kernel
theorem dX4_narrow_277 : decode cX4_narrow 277 = .ok (.iload_n 1, 1) := by decide +kernel
theorem dX4_narrow_278 : decode cX4_narrow 278 = .ok (.laload, 1) := by decide +kernel
theorem dX4_narrow_279 : decode cX4_narrow 279 = .ok (.lastore, 1) := by decide +kernel
theorem dX4_narrow_280 : decode cX4_narrow 280 = .ok (.aload_n 0, 1) := by decide +kernel
theorem dX4_narrow_281 : decode cX4_narrow 281 = .ok (.getfield 21, 3) := by decide +kernel
theorem dX4_narrow_284 : decode cX4_narrow 284 = .ok (.iload_n 1, 1) := by decide +kernel
theorem dX4_narrow_285 : decode cX4_narrow 285 = .ok (.aload_n 0, 1) := by decide +kernel
theorem dX4_narrow_286 : decode cX4_narrow 286 = .ok (.getfield 30, 3) := by decide +kernel
theorem dX4_narrow_289 : decode cX4_narrow 289 = .ok (.iload_n 1, 1) := by decide +kernel
theorem dX4_narrow_290 : decode cX4_narrow 290 = .ok (.laload, 1) := by decide +kernel
theorem dX4_narrow_291 : decode cX4_narrow 291 = .ok (.lastore, 1) := by decide +kernel
theorem dX4_narrow_292 : decode cX4_narrow 292 = .ok (.iinc 1 1, 3) := by decide +kernel
theorem dX4_narrow_295 : decode cX4_narrow 295 = .ok (.goto (-33), 3) := by decide +kernel
theorem dX4_narrow_298 : decode cX4_narrow 298 = .ok (.iconst 0, 1) := by decide +kernel
theorem dX4_narrow_299 : decode cX4_narrow 299 = .ok (.istore_n 1, 1) := by decide +kernel
theorem dX4_narrow_300 : decode cX4_narrow 300 = .ok (.iload_n 1, 1) := by decide +kernel
theorem dX4_narrow_301 : decode cX4_narrow 301 = .ok (.bipush 24, 2) := by decide +kernel
theorem dX4_narrow_303 : decode cX4_narrow 303 = .ok (.if_icmp .ge 21, 3) := by decide +kernel
theorem dX4_narrow_306 : decode cX4_narrow 306 = .ok (.aload_n 0, 1) := by decide +kernel
theorem dX4_narrow_307 : decode cX4_narrow 307 = .ok (.getfield 13, 3) := by decide +kernel
theorem dX4_narrow_310 : decode cX4_narrow 310 = .ok (.iload_n 1, 1) := by decide +kernel
theorem dX4_narrow_311 : decode cX4_narrow 311 = .ok (.aload_n 0, 1) := by decide +kernel
theorem dX4_narrow_312 : decode cX4_narrow 312 = .ok (.getfield 24, 3) := by decide +kernel
theorem dX4_narrow_315 : decode cX4_narrow 315 = .ok (.iload_n 1, 1) := by decide +kernel
theorem dX4_narrow_316 : decode cX4_narrow 316 = .ok (.baload, 1) := by decide +kernel
theorem dX4_narrow_317 : decode cX4_narrow 317 = .ok (.bastore, 1) := by decide +kernel
theorem dX4_narrow_318 : decode cX4_narrow 318 = .ok (.iinc 1 1, 3) := by decide +kernel
theorem dX4_narrow_321 : decode cX4_narrow 321 = .ok (.goto (-21), 3) := by decide +kernel
theorem dX4_narrow_324 : decode cX4_narrow 324 = .ok (.return_, 1) := by decide +kernel
set_option maxRecDepth 20000 in
theorem ggX4_scan_X4_forget : GoodIn wsX4_scan wsX4_forget := goodIn_r _ [13, 1, 6, 79, 80, 81, 82, 83, 84, 85, 86, 87, 88, 89, 90, 91, 92, 93] (by decide +kernel) (by decide +kernel)
set_option maxRecDepth 20000 in
theorem gX4_scan_X4_forget : GoodIn wsX4_scan (wsV RX4 54 RX4 yX4_forget wsX4_forget) := goodIn_app (goodIn_of _ (by decide +kernel)) ggX4_scan_X4_forget
set_option maxRecDepth 20000 in
theorem ggX4_scan_X4_whole : GoodIn wsX4_scan wsX4_whole := goodIn_r _ [17, 7, 18, 79, 80, 81, 82, 83, 84, 85, 86, 87, 88, 89, 90, 91, 92, 93] (by decide +kernel) (by decide +kernel)
set_option maxRecDepth 20000 in
theorem gX4_scan_X4_whole : GoodIn wsX4_scan (wsV RX4 110 RX4 yX4_whole wsX4_whole) := goodIn_app (goodIn_of _ (by decide +kernel)) ggX4_scan_X4_whole
set_option maxRecDepth 20000 in
theorem ggX4_scan_X4_flow : GoodIn wsX4_scan wsX4_flow := goodIn_r _ [22, 18, 8, 23, 3, 24, 4, 25, 26, 27, 28, 29, 30, 12, 31, 32, 33, 34, 35, 36, 37, 38, 39, 40, 41, 42, 43, 44, 45, 46, 47, 48, 49, 50, 51, 52, 79, 80, 81, 82, 83, 84, 85, 86, 87, 88, 89, 90, 91, 92, 93] (by decide +kernel) (by decide +kernel)
set_option maxRecDepth 20000 in
theorem gX4_scan_X4_flow : GoodIn wsX4_scan (wsV RX4 102 RX4 yX4_flow wsX4_flow) := goodIn_app (goodIn_of _ (by decide +kernel)) ggX4_scan_X4_flow
set_option maxRecDepth 20000 in
theorem ggX4_scan_X4_target : GoodIn wsX4_scan wsX4_target := goodIn_r _ [56, 18, 79, 80, 81, 82, 83, 84, 85, 86, 87, 88, 89, 90, 91, 92, 93] (by decide +kernel) (by decide +kernel)
set_option maxRecDepth 20000 in
theorem gX4_scan_X4_target : GoodIn wsX4_scan (wsV RX4 106 RX4 yX4_target wsX4_target) := goodIn_app (goodIn_of _ (by decide +kernel)) ggX4_scan_X4_target
set_option maxRecDepth 20000 in
theorem ggX4_scan_X4_arrive : GoodIn wsX4_scan wsX4_arrive := goodIn_r _ [60, 2, 3, 23, 4, 24, 26, 27, 79, 80, 81, 82, 83, 84, 85, 86, 87, 88, 89, 90, 91, 92, 93] (by decide +kernel) (by decide +kernel)
set_option maxRecDepth 20000 in
theorem gX4_scan_X4_arrive : GoodIn wsX4_scan (wsV RX4 115 RX4 yX4_arrive wsX4_arrive) := goodIn_app (goodIn_of _ (by decide +kernel)) ggX4_scan_X4_arrive
set_option maxRecDepth 20000 in
theorem ggX4_scan_X4_narrow : GoodIn wsX4_scan wsX4_narrow := goodIn_r _ [64, 65, 66, 67, 7, 2, 8, 23, 24, 3, 4, 19, 20, 21, 12, 22, 18, 25, 26, 27, 28, 29, 30, 31, 32, 33, 34, 35, 36, 37, 38, 39, 40, 41, 42, 43, 44, 45, 46, 47, 48, 49, 50, 51, 52, 53, 54, 55, 56, 79, 80, 81, 82, 83, 84, 85, 86, 87, 88, 89, 90, 91, 92, 93] (by decide +kernel) (by decide +kernel)
set_option maxRecDepth 20000 in
theorem gX4_scan_X4_narrow : GoodIn wsX4_scan (wsV RX4 119 RX4 yX4_narrow wsX4_narrow) := goodIn_app (goodIn_of _ (by decide +kernel)) ggX4_scan_X4_narrow
set_option maxRecDepth 20000 in
theorem ggX4_scan_X4_alarm : GoodIn wsX4_scan wsX4_alarm := goodIn_r _ [71, 18, 3, 4, 25, 72, 73, 74, 12, 75, 1, 7, 2, 76, 77, 78, 79, 80, 81, 82, 83, 84, 85, 86, 87, 88, 89, 90, 91, 92, 93] (by decide +kernel) (by decide +kernel)
set_option maxRecDepth 20000 in
theorem gX4_scan_X4_alarm : GoodIn wsX4_scan (wsV RX4 122 RX4 yX4_alarm wsX4_alarm) := goodIn_app (goodIn_of _ (by decide +kernel)) ggX4_scan_X4_alarm
theorem dX4_scan_0 : decode cX4_scan 0 = .ok (.aload_n 0, 1) := by decide +kernel
theorem dX4_scan_1 : decode cX4_scan 1 = .ok (.invokevirtual 54, 3) := by decide +kernel
theorem dX4_scan_4 : decode cX4_scan 4 = .ok (.aload_n 0, 1) := by decide +kernel
theorem dX4_scan_5 : decode cX4_scan 5 = .ok (.invokevirtual 110, 3) := by decide +kernel
theorem dX4_scan_8 : decode cX4_scan 8 = .ok (.ifCond .ne 5, 3) := by decide +kernel
theorem dX4_scan_11 : decode cX4_scan 11 = .ok (.iconst (-1), 1) := by decide +kernel
theorem dX4_scan_12 : decode cX4_scan 12 = .ok (.ireturn, 1) := by decide +kernel
theorem dX4_scan_13 : decode cX4_scan 13 = .ok (.aload_n 0, 1) := by decide +kernel
theorem dX4_scan_14 : decode cX4_scan 14 = .ok (.iconst 1, 1) := by decide +kernel
theorem dX4_scan_15 : decode cX4_scan 15 = .ok (.putfield 57, 3) := by decide +kernel
theorem dX4_scan_18 : decode cX4_scan 18 = .ok (.iconst 0, 1) := by decide +kernel
theorem dX4_scan_19 : decode cX4_scan 19 = .ok (.istore_n 1, 1) := by decide +kernel
theorem dX4_scan_20 : decode cX4_scan 20 = .ok (.iload_n 1, 1) := by decide +kernel
theorem dX4_scan_21 : decode cX4_scan 21 = .ok (.bipush 24, 2) := by decide +kernel
theorem dX4_scan_23 : decode cX4_scan 23 = .ok (.if_icmp .ge 24, 3) := by decide +kernel
theorem dX4_scan_26 : decode cX4_scan 26 = .ok (.aload_n 0, 1) := by decide +kernel
theorem dX4_scan_27 : decode cX4_scan 27 = .ok (.getfield 13, 3) := by decide +kernel
theorem dX4_scan_30 : decode cX4_scan 30 = .ok (.iload_n 1, 1) := by decide +kernel
theorem dX4_scan_31 : decode cX4_scan 31 = .ok (.iload_n 1, 1) := by decide +kernel
theorem dX4_scan_32 : decode cX4_scan 32 = .ok (.ifCond .ne 7, 3) := by decide +kernel
theorem dX4_scan_35 : decode cX4_scan 35 = .ok (.iconst 1, 1) := by decide +kernel
theorem dX4_scan_36 : decode cX4_scan 36 = .ok (.goto 4, 3) := by decide +kernel
theorem dX4_scan_39 : decode cX4_scan 39 = .ok (.iconst 0, 1) := by decide +kernel
theorem dX4_scan_40 : decode cX4_scan 40 = .ok (.bastore, 1) := by decide +kernel
theorem dX4_scan_41 : decode cX4_scan 41 = .ok (.iinc 1 1, 3) := by decide +kernel
theorem dX4_scan_44 : decode cX4_scan 44 = .ok (.goto (-24), 3) := by decide +kernel
theorem dX4_scan_47 : decode cX4_scan 47 = .ok (.iconst 0, 1) := by decide +kernel
theorem dX4_scan_48 : decode cX4_scan 48 = .ok (.istore_n 1, 1) := by decide +kernel
theorem dX4_scan_49 : decode cX4_scan 49 = .ok (.iload_n 1, 1) := by decide +kernel
theorem dX4_scan_50 : decode cX4_scan 50 = .ok (.iconst 4, 1) := by decide +kernel
theorem dX4_scan_51 : decode cX4_scan 51 = .ok (.if_icmp .ge 23, 3) := by decide +kernel
theorem dX4_scan_54 : decode cX4_scan 54 = .ok (.aload_n 0, 1) := by decide +kernel
theorem dX4_scan_55 : decode cX4_scan 55 = .ok (.getfield 17, 3) := by decide +kernel
theorem dX4_scan_58 : decode cX4_scan 58 = .ok (.iload_n 1, 1) := by decide +kernel
theorem dX4_scan_59 : decode cX4_scan 59 = .ok (.lconst 0, 1) := by decide +kernel
theorem dX4_scan_60 : decode cX4_scan 60 = .ok (.lastore, 1) := by decide +kernel
theorem dX4_scan_61 : decode cX4_scan 61 = .ok (.aload_n 0, 1) := by decide +kernel
theorem dX4_scan_62 : decode cX4_scan 62 = .ok (.getfield 21, 3) := by decide +kernel
theorem dX4_scan_65 : decode cX4_scan 65 = .ok (.iload_n 1, 1) := by decide +kernel
theorem dX4_scan_66 : decode cX4_scan 66 = .ok (.lconst 0, 1) := by decide +kernel
theorem dX4_scan_67 : decode cX4_scan 67 = .ok (.lastore, 1) := by decide +kernel
theorem dX4_scan_68 : decode cX4_scan 68 = .ok (.iinc 1 1, 3) := by decide +kernel
theorem dX4_scan_71 : decode cX4_scan 71 = .ok (.goto (-22), 3) := by decide +kernel
theorem dX4_scan_74 : decode cX4_scan 74 = .ok (.iconst 1, 1) := by decide +kernel
theorem dX4_scan_75 : decode cX4_scan 75 = .ok (.istore_n 1, 1) := by decide +kernel
theorem dX4_scan_76 : decode cX4_scan 76 = .ok (.iconst 0, 1) := by decide +kernel
theorem dX4_scan_77 : decode cX4_scan 77 = .ok (.istore_n 2, 1) := by decide +kernel
theorem dX4_scan_78 : decode cX4_scan 78 = .ok (.iload_n 2, 1) := by decide +kernel
theorem dX4_scan_79 : decode cX4_scan 79 = .ok (.ldc 114, 2) := by decide +kernel
theorem dX4_scan_81 : decode cX4_scan 81 = .ok (.if_icmp .ge 99, 3) := by decide +kernel
theorem dX4_scan_84 : decode cX4_scan 84 = .ok (.iload_n 1, 1) := by decide +kernel
theorem dX4_scan_85 : decode cX4_scan 85 = .ok (.ifCond .eq 95, 3) := by decide +kernel
theorem dX4_scan_88 : decode cX4_scan 88 = .ok (.iconst 0, 1) := by decide +kernel
theorem dX4_scan_89 : decode cX4_scan 89 = .ok (.istore_n 1, 1) := by decide +kernel
theorem dX4_scan_90 : decode cX4_scan 90 = .ok (.aload_n 0, 1) := by decide +kernel
theorem dX4_scan_91 : decode cX4_scan 91 = .ok (.aload_n 0, 1) := by decide +kernel
theorem dX4_scan_92 : decode cX4_scan 92 = .ok (.getfield 61, 3) := by decide +kernel
theorem dX4_scan_95 : decode cX4_scan 95 = .ok (.iconst 1, 1) := by decide +kernel
theorem dX4_scan_96 : decode cX4_scan 96 = .ok (.iadd, 1) := by decide +kernel
theorem dX4_scan_97 : decode cX4_scan 97 = .ok (.putfield 61, 3) := by decide +kernel
theorem dX4_scan_100 : decode cX4_scan 100 = .ok (.iconst 0, 1) := by decide +kernel
theorem dX4_scan_101 : decode cX4_scan 101 = .ok (.istore_n 3, 1) := by decide +kernel
theorem dX4_scan_102 : decode cX4_scan 102 = .ok (.iload_n 3, 1) := by decide +kernel
theorem dX4_scan_103 : decode cX4_scan 103 = .ok (.aload_n 0, 1) := by decide +kernel
theorem dX4_scan_104 : decode cX4_scan 104 = .ok (.getfield 42, 3) := by decide +kernel
theorem dX4_scan_107 : decode cX4_scan 107 = .ok (.if_icmp .ge 67, 3) := by decide +kernel
theorem dX4_scan_110 : decode cX4_scan 110 = .ok (.aload_n 0, 1) := by decide +kernel
theorem dX4_scan_111 : decode cX4_scan 111 = .ok (.getfield 13, 3) := by decide +kernel
theorem dX4_scan_114 : decode cX4_scan 114 = .ok (.iload_n 3, 1) := by decide +kernel
theorem dX4_scan_115 : decode cX4_scan 115 = .ok (.baload, 1) := by decide +kernel
theorem dX4_scan_116 : decode cX4_scan 116 = .ok (.ifCond .eq 52, 3) := by decide +kernel
theorem dX4_scan_119 : decode cX4_scan 119 = .ok (.aload_n 0, 1) := by decide +kernel
theorem dX4_scan_120 : decode cX4_scan 120 = .ok (.iload_n 3, 1) := by decide +kernel
theorem dX4_scan_121 : decode cX4_scan 121 = .ok (.invokevirtual 102, 3) := by decide +kernel
theorem dX4_scan_124 : decode cX4_scan 124 = .ok (.iconst 0, 1) := by decide +kernel
theorem dX4_scan_125 : decode cX4_scan 125 = .ok (.istore 4, 2) := by decide +kernel
theorem dX4_scan_127 : decode cX4_scan 127 = .ok (.iload 4, 2) := by decide +kernel
theorem dX4_scan_129 : decode cX4_scan 129 = .ok (.iconst 2, 1) := by decide +kernel
theorem dX4_scan_130 : decode cX4_scan 130 = .ok (.if_icmp .ge 38, 3) := by decide +kernel
theorem dX4_scan_133 : decode cX4_scan 133 = .ok (.aload_n 0, 1) := by decide +kernel
theorem dX4_scan_134 : decode cX4_scan 134 = .ok (.getfield 33, 3) := by decide +kernel
theorem dX4_scan_137 : decode cX4_scan 137 = .ok (.iload 4, 2) := by decide +kernel
theorem dX4_scan_139 : decode cX4_scan 139 = .ok (.baload, 1) := by decide +kernel
theorem dX4_scan_140 : decode cX4_scan 140 = .ok (.ifCond .eq 22, 3) := by decide +kernel
theorem dX4_scan_143 : decode cX4_scan 143 = .ok (.aload_n 0, 1) := by decide +kernel
theorem dX4_scan_144 : decode cX4_scan 144 = .ok (.iload_n 3, 1) := by decide +kernel
theorem dX4_scan_145 : decode cX4_scan 145 = .ok (.aload_n 0, 1) := by decide +kernel
theorem dX4_scan_146 : decode cX4_scan 146 = .ok (.iload_n 3, 1) := by decide +kernel
theorem dX4_scan_147 : decode cX4_scan 147 = .ok (.iload 4, 2) := by decide +kernel
theorem dX4_scan_149 : decode cX4_scan 149 = .ok (.invokevirtual 106, 3) := by decide +kernel
theorem dX4_scan_152 : decode cX4_scan 152 = .ok (.iload 4, 2) := by decide +kernel
theorem dX4_scan_154 : decode cX4_scan 154 = .ok (.invokevirtual 115, 3) := by decide +kernel
theorem dX4_scan_157 : decode cX4_scan 157 = .ok (.ifCond .eq 5, 3) := by decide +kernel
theorem dX4_scan_160 : decode cX4_scan 160 = .ok (.iconst 1, 1) := by decide +kernel
theorem dX4_scan_161 : decode cX4_scan 161 = .ok (.istore_n 1, 1) := by decide +kernel
theorem dX4_scan_162 : decode cX4_scan 162 = .ok (.iinc 4 1, 3) := by decide +kernel
theorem dX4_scan_165 : decode cX4_scan 165 = .ok (.goto (-38), 3) := by decide +kernel
theorem dX4_scan_168 : decode cX4_scan 168 = .ok (.iinc 3 1, 3) := by decide +kernel
theorem dX4_scan_171 : decode cX4_scan 171 = .ok (.goto (-69), 3) := by decide +kernel
theorem dX4_scan_174 : decode cX4_scan 174 = .ok (.iinc 2 1, 3) := by decide +kernel
theorem dX4_scan_177 : decode cX4_scan 177 = .ok (.goto (-99), 3) := by decide +kernel
theorem dX4_scan_180 : decode cX4_scan 180 = .ok (.aload_n 0, 1) := by decide +kernel
theorem dX4_scan_181 : decode cX4_scan 181 = .ok (.invokevirtual 119, 3) := by decide +kernel
theorem dX4_scan_184 : decode cX4_scan 184 = .ok (.iconst 0, 1) := by decide +kernel
theorem dX4_scan_185 : decode cX4_scan 185 = .ok (.istore_n 2, 1) := by decide +kernel
theorem dX4_scan_186 : decode cX4_scan 186 = .ok (.iconst 0, 1) := by decide +kernel
theorem dX4_scan_187 : decode cX4_scan 187 = .ok (.istore_n 3, 1) := by decide +kernel
theorem dX4_scan_188 : decode cX4_scan 188 = .ok (.iload_n 3, 1) := by decide +kernel
theorem dX4_scan_189 : decode cX4_scan 189 = .ok (.aload_n 0, 1) := by decide +kernel
theorem dX4_scan_190 : decode cX4_scan 190 = .ok (.getfield 42, 3) := by decide +kernel
theorem dX4_scan_193 : decode cX4_scan 193 = .ok (.if_icmp .ge 21, 3) := by decide +kernel
theorem dX4_scan_196 : decode cX4_scan 196 = .ok (.aload_n 0, 1) := by decide +kernel
theorem dX4_scan_197 : decode cX4_scan 197 = .ok (.iload_n 3, 1) := by decide +kernel
theorem dX4_scan_198 : decode cX4_scan 198 = .ok (.invokevirtual 122, 3) := by decide +kernel
theorem dX4_scan_201 : decode cX4_scan 201 = .ok (.ifCond .le 7, 3) := by decide +kernel
theorem dX4_scan_204 : decode cX4_scan 204 = .ok (.iload_n 2, 1) := by decide +kernel
theorem dX4_scan_205 : decode cX4_scan 205 = .ok (.iconst 1, 1) := by decide +kernel
theorem dX4_scan_206 : decode cX4_scan 206 = .ok (.iadd, 1) := by decide +kernel
theorem dX4_scan_207 : decode cX4_scan 207 = .ok (.istore_n 2, 1) := by decide +kernel
theorem dX4_scan_208 : decode cX4_scan 208 = .ok (.iinc 3 1, 3) := by decide +kernel
theorem dX4_scan_211 : decode cX4_scan 211 = .ok (.goto (-23), 3) := by decide +kernel
theorem dX4_scan_214 : decode cX4_scan 214 = .ok (.iload_n 2, 1) := by decide +kernel
theorem dX4_scan_215 : decode cX4_scan 215 = .ok (.ireturn, 1) := by decide +kernel
theorem dX4_rounds_0 : decode cX4_rounds 0 = .ok (.aload_n 0, 1) := by decide +kernel
theorem dX4_rounds_1 : decode cX4_rounds 1 = .ok (.getfield 61, 3) := by decide +kernel
theorem dX4_rounds_4 : decode cX4_rounds 4 = .ok (.ireturn, 1) := by decide +kernel
set_option maxRecDepth 20000 in
theorem ggX4_reached_X4_within : GoodIn wsX4_reached wsX4_within := goodIn_r _ [7] (by decide +kernel) (by decide +kernel)
set_option maxRecDepth 20000 in
theorem gX4_reached_X4_within : GoodIn wsX4_reached (va_wsS RX4 46 yX4_within wsX4_within) := goodIn_app (goodIn_of _ (by decide +kernel)) ggX4_reached_X4_within
theorem dX4_reached_0 : decode cX4_reached 0 = .ok (.aload_n 0, 1) := by decide +kernel
theorem dX4_reached_1 : decode cX4_reached 1 = .ok (.getfield 57, 3) := by decide +kernel
theorem dX4_reached_4 : decode cX4_reached 4 = .ok (.ifCond .eq 16, 3) := by decide +kernel
theorem dX4_reached_7 : decode cX4_reached 7 = .ok (.iload_n 1, 1) := by decide +kernel
theorem dX4_reached_8 : decode cX4_reached 8 = .ok (.aload_n 0, 1) := by decide +kernel
theorem dX4_reached_9 : decode cX4_reached 9 = .ok (.getfield 42, 3) := by decide +kernel
theorem dX4_reached_12 : decode cX4_reached 12 = .ok (.iconst 1, 1) := by decide +kernel
theorem dX4_reached_13 : decode cX4_reached 13 = .ok (.isub, 1) := by decide +kernel
theorem dX4_reached_14 : decode cX4_reached 14 = .ok (.invokestatic 46, 3) := by decide +kernel
theorem dX4_reached_17 : decode cX4_reached 17 = .ok (.ifCond .ne 5, 3) := by decide +kernel
theorem dX4_reached_20 : decode cX4_reached 20 = .ok (.iconst (-1), 1) := by decide +kernel
theorem dX4_reached_21 : decode cX4_reached 21 = .ok (.ireturn, 1) := by decide +kernel
theorem dX4_reached_22 : decode cX4_reached 22 = .ok (.aload_n 0, 1) := by decide +kernel
theorem dX4_reached_23 : decode cX4_reached 23 = .ok (.getfield 13, 3) := by decide +kernel
theorem dX4_reached_26 : decode cX4_reached 26 = .ok (.iload_n 1, 1) := by decide +kernel
theorem dX4_reached_27 : decode cX4_reached 27 = .ok (.baload, 1) := by decide +kernel
theorem dX4_reached_28 : decode cX4_reached 28 = .ok (.ifCond .eq 7, 3) := by decide +kernel
theorem dX4_reached_31 : decode cX4_reached 31 = .ok (.iconst 1, 1) := by decide +kernel
theorem dX4_reached_32 : decode cX4_reached 32 = .ok (.goto 4, 3) := by decide +kernel
theorem dX4_reached_35 : decode cX4_reached 35 = .ok (.iconst 0, 1) := by decide +kernel
theorem dX4_reached_36 : decode cX4_reached 36 = .ok (.ireturn, 1) := by decide +kernel
set_option maxRecDepth 20000 in
theorem ggX4_low_X4_reached : GoodIn wsX4_low wsX4_reached := goodIn_r _ [7, 8, 9, 10, 11, 12, 6, 13, 14, 15, 16, 17, 18, 19, 20, 21, 22, 23, 24, 25, 26, 27, 28] (by decide +kernel) (by decide +kernel)
set_option maxRecDepth 20000 in
theorem gX4_low_X4_reached : GoodIn wsX4_low (wsV RX4 126 RX4 yX4_reached wsX4_reached) := goodIn_app (goodIn_of _ (by decide +kernel)) ggX4_low_X4_reached
set_option maxRecDepth 20000 in
theorem ggX4_low_X4_within : GoodIn wsX4_low wsX4_within := goodIn_r _ [13] (by decide +kernel) (by decide +kernel)
set_option maxRecDepth 20000 in
theorem gX4_low_X4_within : GoodIn wsX4_low (va_wsS RX4 46 yX4_within wsX4_within) := goodIn_app (goodIn_of _ (by decide +kernel)) ggX4_low_X4_within
theorem dX4_low_0 : decode cX4_low 0 = .ok (.aload_n 0, 1) := by decide +kernel
theorem dX4_low_1 : decode cX4_low 1 = .ok (.iload_n 1, 1) := by decide +kernel
theorem dX4_low_2 : decode cX4_low 2 = .ok (.invokevirtual 126, 3) := by decide +kernel
theorem dX4_low_5 : decode cX4_low 5 = .ok (.iconst 1, 1) := by decide +kernel
theorem dX4_low_6 : decode cX4_low 6 = .ok (.if_icmp .ne 24, 3) := by decide +kernel
theorem dX4_low_9 : decode cX4_low 9 = .ok (.iload_n 2, 1) := by decide +kernel
theorem dX4_low_10 : decode cX4_low 10 = .ok (.iconst 3, 1) := by decide +kernel
theorem dX4_low_11 : decode cX4_low 11 = .ok (.invokestatic 46, 3) := by decide +kernel
theorem dX4_low_14 : decode cX4_low 14 = .ok (.ifCond .eq 16, 3) := by decide +kernel
theorem dX4_low_17 : decode cX4_low 17 = .ok (.aload_n 0, 1) := by decide +kernel
theorem dX4_low_18 : decode cX4_low 18 = .ok (.getfield 17, 3) := by decide +kernel
theorem dX4_low_21 : decode cX4_low 21 = .ok (.iconst 4, 1) := by decide +kernel
theorem dX4_low_22 : decode cX4_low 22 = .ok (.iload_n 1, 1) := by decide +kernel
theorem dX4_low_23 : decode cX4_low 23 = .ok (.imul, 1) := by decide +kernel
theorem dX4_low_24 : decode cX4_low 24 = .ok (.iload_n 2, 1) := by decide +kernel
theorem dX4_low_25 : decode cX4_low 25 = .ok (.iadd, 1) := by decide +kernel
theorem dX4_low_26 : decode cX4_low 26 = .ok (.laload, 1) := by decide +kernel
theorem dX4_low_27 : decode cX4_low 27 = .ok (.goto 6, 3) := by decide +kernel
theorem dX4_low_30 : decode cX4_low 30 = .ok (.ldc2_w 129, 3) := by decide +kernel
theorem dX4_low_33 : decode cX4_low 33 = .ok (.lreturn, 1) := by decide +kernel
set_option maxRecDepth 20000 in
theorem ggX4_high_X4_reached : GoodIn wsX4_high wsX4_reached := goodIn_r _ [7, 8, 9, 10, 11, 12, 6, 13, 14, 15, 16, 17, 18, 19, 20, 21, 22, 23, 24, 25, 26, 27, 28] (by decide +kernel) (by decide +kernel)
set_option maxRecDepth 20000 in
theorem gX4_high_X4_reached : GoodIn wsX4_high (wsV RX4 126 RX4 yX4_reached wsX4_reached) := goodIn_app (goodIn_of _ (by decide +kernel)) ggX4_high_X4_reached
set_option maxRecDepth 20000 in
theorem ggX4_high_X4_within : GoodIn wsX4_high wsX4_within := goodIn_r _ [13] (by decide +kernel) (by decide +kernel)
set_option maxRecDepth 20000 in
theorem gX4_high_X4_within : GoodIn wsX4_high (va_wsS RX4 46 yX4_within wsX4_within) := goodIn_app (goodIn_of _ (by decide +kernel)) ggX4_high_X4_within
theorem dX4_high_0 : decode cX4_high 0 = .ok (.aload_n 0, 1) := by decide +kernel
theorem dX4_high_1 : decode cX4_high 1 = .ok (.iload_n 1, 1) := by decide +kernel
theorem dX4_high_2 : decode cX4_high 2 = .ok (.invokevirtual 126, 3) := by decide +kernel
theorem dX4_high_5 : decode cX4_high 5 = .ok (.iconst 1, 1) := by decide +kernel
theorem dX4_high_6 : decode cX4_high 6 = .ok (.if_icmp .ne 24, 3) := by decide +kernel
theorem dX4_high_9 : decode cX4_high 9 = .ok (.iload_n 2, 1) := by decide +kernel
theorem dX4_high_10 : decode cX4_high 10 = .ok (.iconst 3, 1) := by decide +kernel
theorem dX4_high_11 : decode cX4_high 11 = .ok (.invokestatic 46, 3) := by decide +kernel
theorem dX4_high_14 : decode cX4_high 14 = .ok (.ifCond .eq 16, 3) := by decide +kernel
theorem dX4_high_17 : decode cX4_high 17 = .ok (.aload_n 0, 1) := by decide +kernel
theorem dX4_high_18 : decode cX4_high 18 = .ok (.getfield 21, 3) := by decide +kernel
theorem dX4_high_21 : decode cX4_high 21 = .ok (.iconst 4, 1) := by decide +kernel
theorem dX4_high_22 : decode cX4_high 22 = .ok (.iload_n 1, 1) := by decide +kernel
theorem dX4_high_23 : decode cX4_high 23 = .ok (.imul, 1) := by decide +kernel
theorem dX4_high_24 : decode cX4_high 24 = .ok (.iload_n 2, 1) := by decide +kernel
theorem dX4_high_25 : decode cX4_high 25 = .ok (.iadd, 1) := by decide +kernel
theorem dX4_high_26 : decode cX4_high 26 = .ok (.laload, 1) := by decide +kernel
theorem dX4_high_27 : decode cX4_high 27 = .ok (.goto 6, 3) := by decide +kernel
theorem dX4_high_30 : decode cX4_high 30 = .ok (.ldc2_w 129, 3) := by decide +kernel
theorem dX4_high_33 : decode cX4_high 33 = .ok (.lreturn, 1) := by decide +kernel
set_option maxRecDepth 20000 in
theorem ggX4_alarm_X4_reached : GoodIn wsX4_alarm wsX4_reached := goodIn_r _ [9, 10, 11, 12, 13, 14, 8, 15, 16, 17, 18, 19, 20, 21, 22, 23, 24, 25, 26, 27, 28, 29, 30] (by decide +kernel) (by decide +kernel)
set_option maxRecDepth 20000 in
theorem gX4_alarm_X4_reached : GoodIn wsX4_alarm (wsV RX4 126 RX4 yX4_reached wsX4_reached) := goodIn_app (goodIn_of _ (by decide +kernel)) ggX4_alarm_X4_reached
theorem dX4_alarm_0 : decode cX4_alarm 0 = .ok (.aload_n 0, 1) := by decide +kernel
theorem dX4_alarm_1 : decode cX4_alarm 1 = .ok (.iload_n 1, 1) := by decide +kernel
theorem dX4_alarm_2 : decode cX4_alarm 2 = .ok (.invokevirtual 126, 3) := by decide +kernel
theorem dX4_alarm_5 : decode cX4_alarm 5 = .ok (.iconst 1, 1) := by decide +kernel
theorem dX4_alarm_6 : decode cX4_alarm 6 = .ok (.if_icmp .eq 5, 3) := by decide +kernel
theorem dX4_alarm_9 : decode cX4_alarm 9 = .ok (.iconst 0, 1) := by decide +kernel
theorem dX4_alarm_10 : decode cX4_alarm 10 = .ok (.ireturn, 1) := by decide +kernel
theorem dX4_alarm_11 : decode cX4_alarm 11 = .ok (.aload_n 0, 1) := by decide +kernel
theorem dX4_alarm_12 : decode cX4_alarm 12 = .ok (.getfield 7, 3) := by decide +kernel
theorem dX4_alarm_15 : decode cX4_alarm 15 = .ok (.iconst 4, 1) := by decide +kernel
theorem dX4_alarm_16 : decode cX4_alarm 16 = .ok (.iload_n 1, 1) := by decide +kernel
theorem dX4_alarm_17 : decode cX4_alarm 17 = .ok (.imul, 1) := by decide +kernel
theorem dX4_alarm_18 : decode cX4_alarm 18 = .ok (.iaload, 1) := by decide +kernel
theorem dX4_alarm_19 : decode cX4_alarm 19 = .ok (.istore_n 2, 1) := by decide +kernel
theorem dX4_alarm_20 : decode cX4_alarm 20 = .ok (.iconst 4, 1) := by decide +kernel
theorem dX4_alarm_21 : decode cX4_alarm 21 = .ok (.iload_n 1, 1) := by decide +kernel
theorem dX4_alarm_22 : decode cX4_alarm 22 = .ok (.imul, 1) := by decide +kernel
theorem dX4_alarm_23 : decode cX4_alarm 23 = .ok (.aload_n 0, 1) := by decide +kernel
theorem dX4_alarm_24 : decode cX4_alarm 24 = .ok (.getfield 7, 3) := by decide +kernel
theorem dX4_alarm_27 : decode cX4_alarm 27 = .ok (.iconst 4, 1) := by decide +kernel
theorem dX4_alarm_28 : decode cX4_alarm 28 = .ok (.iload_n 1, 1) := by decide +kernel
theorem dX4_alarm_29 : decode cX4_alarm 29 = .ok (.imul, 1) := by decide +kernel
theorem dX4_alarm_30 : decode cX4_alarm 30 = .ok (.iconst 2, 1) := by decide +kernel
theorem dX4_alarm_31 : decode cX4_alarm 31 = .ok (.iadd, 1) := by decide +kernel
theorem dX4_alarm_32 : decode cX4_alarm 32 = .ok (.iaload, 1) := by decide +kernel
theorem dX4_alarm_33 : decode cX4_alarm 33 = .ok (.iadd, 1) := by decide +kernel
theorem dX4_alarm_34 : decode cX4_alarm 34 = .ok (.istore_n 3, 1) := by decide +kernel
theorem dX4_alarm_35 : decode cX4_alarm 35 = .ok (.iconst 4, 1) := by decide +kernel
theorem dX4_alarm_36 : decode cX4_alarm 36 = .ok (.iload_n 1, 1) := by decide +kernel
theorem dX4_alarm_37 : decode cX4_alarm 37 = .ok (.imul, 1) := by decide +kernel
theorem dX4_alarm_38 : decode cX4_alarm 38 = .ok (.aload_n 0, 1) := by decide +kernel
theorem dX4_alarm_39 : decode cX4_alarm 39 = .ok (.getfield 7, 3) := by decide +kernel
theorem dX4_alarm_42 : decode cX4_alarm 42 = .ok (.iconst 4, 1) := by decide +kernel
theorem dX4_alarm_43 : decode cX4_alarm 43 = .ok (.iload_n 1, 1) := by decide +kernel
theorem dX4_alarm_44 : decode cX4_alarm 44 = .ok (.imul, 1) := by decide +kernel
theorem dX4_alarm_45 : decode cX4_alarm 45 = .ok (.iconst 3, 1) := by decide +kernel
theorem dX4_alarm_46 : decode cX4_alarm 46 = .ok (.iadd, 1) := by decide +kernel
theorem dX4_alarm_47 : decode cX4_alarm 47 = .ok (.iaload, 1) := by decide +kernel
theorem dX4_alarm_48 : decode cX4_alarm 48 = .ok (.iadd, 1) := by decide +kernel
theorem dX4_alarm_49 : decode cX4_alarm 49 = .ok (.istore 4, 2) := by decide +kernel
theorem dX4_alarm_51 : decode cX4_alarm 51 = .ok (.iload_n 2, 1) := by decide +kernel
theorem dX4_alarm_52 : decode cX4_alarm 52 = .ok (.bipush 6, 2) := by decide +kernel
theorem dX4_alarm_54 : decode cX4_alarm 54 = .ok (.if_icmp .ne 33, 3) := by decide +kernel
theorem dX4_alarm_57 : decode cX4_alarm 57 = .ok (.aload_n 0, 1) := by decide +kernel
theorem dX4_alarm_58 : decode cX4_alarm 58 = .ok (.getfield 17, 3) := by decide +kernel
theorem dX4_alarm_61 : decode cX4_alarm 61 = .ok (.iload 4, 2) := by decide +kernel
theorem dX4_alarm_63 : decode cX4_alarm 63 = .ok (.laload, 1) := by decide +kernel
theorem dX4_alarm_64 : decode cX4_alarm 64 = .ok (.lconst 0, 1) := by decide +kernel
theorem dX4_alarm_65 : decode cX4_alarm 65 = .ok (.lcmp, 1) := by decide +kernel
theorem dX4_alarm_66 : decode cX4_alarm 66 = .ok (.ifCond .gt 19, 3) := by decide +kernel
theorem dX4_alarm_69 : decode cX4_alarm 69 = .ok (.aload_n 0, 1) := by decide +kernel
theorem dX4_alarm_70 : decode cX4_alarm 70 = .ok (.getfield 21, 3) := by decide +kernel
theorem dX4_alarm_73 : decode cX4_alarm 73 = .ok (.iload 4, 2) := by decide +kernel
theorem dX4_alarm_75 : decode cX4_alarm 75 = .ok (.laload, 1) := by decide +kernel
theorem dX4_alarm_76 : decode cX4_alarm 76 = .ok (.lconst 0, 1) := by decide +kernel
theorem dX4_alarm_77 : decode cX4_alarm 77 = .ok (.lcmp, 1) := by decide +kernel
theorem dX4_alarm_78 : decode cX4_alarm 78 = .ok (.ifCond .lt 7, 3) := by decide +kernel
theorem dX4_alarm_81 : decode cX4_alarm 81 = .ok (.iconst 1, 1) := by decide +kernel
theorem dX4_alarm_82 : decode cX4_alarm 82 = .ok (.goto 4, 3) := by decide +kernel
theorem dX4_alarm_85 : decode cX4_alarm 85 = .ok (.iconst 0, 1) := by decide +kernel
theorem dX4_alarm_86 : decode cX4_alarm 86 = .ok (.ireturn, 1) := by decide +kernel
theorem dX4_alarm_87 : decode cX4_alarm 87 = .ok (.iload_n 2, 1) := by decide +kernel
theorem dX4_alarm_88 : decode cX4_alarm 88 = .ok (.bipush 7, 2) := by decide +kernel
theorem dX4_alarm_90 : decode cX4_alarm 90 = .ok (.if_icmp .eq 9, 3) := by decide +kernel
theorem dX4_alarm_93 : decode cX4_alarm 93 = .ok (.iload_n 2, 1) := by decide +kernel
theorem dX4_alarm_94 : decode cX4_alarm 94 = .ok (.bipush 8, 2) := by decide +kernel
theorem dX4_alarm_96 : decode cX4_alarm 96 = .ok (.if_icmp .ne 33, 3) := by decide +kernel
theorem dX4_alarm_99 : decode cX4_alarm 99 = .ok (.aload_n 0, 1) := by decide +kernel
theorem dX4_alarm_100 : decode cX4_alarm 100 = .ok (.getfield 17, 3) := by decide +kernel
theorem dX4_alarm_103 : decode cX4_alarm 103 = .ok (.iload_n 3, 1) := by decide +kernel
theorem dX4_alarm_104 : decode cX4_alarm 104 = .ok (.laload, 1) := by decide +kernel
theorem dX4_alarm_105 : decode cX4_alarm 105 = .ok (.lconst 0, 1) := by decide +kernel
theorem dX4_alarm_106 : decode cX4_alarm 106 = .ok (.lcmp, 1) := by decide +kernel
theorem dX4_alarm_107 : decode cX4_alarm 107 = .ok (.ifCond .lt 16, 3) := by decide +kernel
theorem dX4_alarm_110 : decode cX4_alarm 110 = .ok (.aload_n 0, 1) := by decide +kernel
theorem dX4_alarm_111 : decode cX4_alarm 111 = .ok (.getfield 21, 3) := by decide +kernel
theorem dX4_alarm_114 : decode cX4_alarm 114 = .ok (.iload_n 3, 1) := by decide +kernel
theorem dX4_alarm_115 : decode cX4_alarm 115 = .ok (.laload, 1) := by decide +kernel
theorem dX4_alarm_116 : decode cX4_alarm 116 = .ok (.ldc2_w 96, 3) := by decide +kernel
theorem dX4_alarm_119 : decode cX4_alarm 119 = .ok (.lcmp, 1) := by decide +kernel
theorem dX4_alarm_120 : decode cX4_alarm 120 = .ok (.ifCond .le 7, 3) := by decide +kernel
theorem dX4_alarm_123 : decode cX4_alarm 123 = .ok (.iconst 2, 1) := by decide +kernel
theorem dX4_alarm_124 : decode cX4_alarm 124 = .ok (.goto 4, 3) := by decide +kernel
theorem dX4_alarm_127 : decode cX4_alarm 127 = .ok (.iconst 0, 1) := by decide +kernel
theorem dX4_alarm_128 : decode cX4_alarm 128 = .ok (.ireturn, 1) := by decide +kernel
theorem dX4_alarm_129 : decode cX4_alarm 129 = .ok (.iconst 0, 1) := by decide +kernel
theorem dX4_alarm_130 : decode cX4_alarm 130 = .ok (.ireturn, 1) := by decide +kernel
end
section
/-! my layer: the kit's rows over one bundled context: g the run's data, E the classes' numbers; kK: from the world ws, locals lv, pc, stack the end is reached; kF: what is known of g; kQ, kC: a contract whose end speaks of the answer and the new world -/
def bI (b : Bool) : Int32 := if b then 1 else 0
abbrev kE := va_G × ClassId × ClassId × ClassId
def kTy (E : kE) : List (ClassId × FieldType) := [(E.2.1, .int), (E.2.2.1, .long), (E.2.2.2, .boolean)]
abbrev cObj (a ci : Nat) (fs : List Value) : Nat × va_E := (a, .inr (ci, fs))
abbrev cInt (E : kE) (a n : Nat) (f : Nat → Int32) : Nat × va_E := (a, .inl (E.2.1, n, .inl f))
abbrev cLng (E : kE) (a n : Nat) (f : Nat → Int64) : Nat × va_E := (a, .inl (E.2.2.1, n, .inr (.inl f)))
abbrev cBoo (E : kE) (a n : Nat) (f : Nat → Bool) : Nat × va_E := (a, .inl (E.2.2.2, n, .inl (fun j => bI (f j))))
def upB (f : Nat → Bool) (k : Nat) (x : Bool) : Nat → Bool := fun j => if j = k then x else f j
abbrev kG := Program × Launch × Env × Room × State × MethodId × Array Value × List Frame × Method × Code × va_G × (Nat → Prop) × Nat × (State → Prop)
def kK (g : kG) (ws : va_W) (lv : List (Nat × Value)) (ce sl pc : Nat) (st : List Value) : Prop := match g with
  | (p, l, e, R, s, m, args, below, meth, c, D, A, nL, Q) => ∀ (H : Heap) (locs : List Loc) (ls : Array Slot), va_P D vwCl ws H → va_D A ws → va_S A s.heap H locs → lv_has ls nL lv → W p l e R s m args below meth c H locs ce sl Q (F0 m pc ls st)
def kF (g : kG) (E : kE) (l : Launch) (R : Room) (cc : ByteArray) (own : String) (Ts : List Cond) (nL : Nat) : Prop := match g with
  | (p, l', _, R', s, m, args, _, _, c, D, A, nL', _) => p.tables.exec = Jvm.exec ∧ c.code = cc ∧ c.maxLocals = nL ∧ s.vm.findClass own = some m.cls ∧ (∀ w ∈ Ts, w.before args s = true) ∧ va_K E.1 vwCl (kTy E) s ∧ (∀ q, s.heap.size ≤ q → A q) ∧ nL = nL' ∧ R = R' ∧ E.1 = D ∧ l = l'
def kQ (E : kE) (A : Nat → Prop) (Pf : Option Value → va_W → Prop) : Array Value → State → Outcome → State → Prop := fun _ st oc t => (∃ (v : Option Value) (w1 : va_W), oc = .returned v ∧ Pf v w1 ∧ va_P E.1 vwCl w1 t.heap ∧ va_K E.1 vwCl (kTy E) t ∧ va_D A w1) ∧ va_F A st t
def kRet (g : kG) (E : kE) (nm : String) (ret : Option FieldType) (mc ms : Nat) (Pf : Option Value → va_W → Prop) : Prop := match g with
  | (_, _, _, _, s, _, args, below, meth, _, _, A, _, Q) => meth.sig.returnType = ret ∧ meth.locks = false ∧ meth.name = nm ∧ Q = MQ below (kQ E A Pf) args s mc ms A
def kC (l : Launch) (y : MethodName) (ws : List Cond) (rm : Room) (E : kE) (argv : List Value) (w0 : va_W) (mc ms : Nat) (Pf : Option Value → va_W → Prop) : Prop := ∀ sz : Nat, Met l y ws rm (va_Pc argv (fun U => U.heap.size = sz ∧ va_P E.1 vwCl w0 U.heap ∧ va_K E.1 vwCl (kTy E) U ∧ va_D (fun _ => True) w0)) (kQ E (va_A w0 sz) Pf) mc ms (va_A w0 sz)
theorem k_fm {α : Type} {f : Nat → Option α} : ∀ {is : List Nat} {w : List α}, is.map f = w.map some → is.filterMap f = w
  | [], [], _ => rfl
  | [], _ :: _, h => by simp at h
  | _ :: _, [], h => by simp at h
  | i :: is, a :: w, h => by
    simp only [List.map_cons, List.cons.injEq] at h
    rw [List.filterMap_cons, h.1, k_fm h.2]
theorem kC.enter {l : Launch} {y : MethodName} {ws ws' : List Cond} {rm : Room} {E : kE} {argv : List Value} {w0 : va_W} {mc ms : Nat} {Pf : Option Value → va_W → Prop} (cc : ByteArray) (maxL : Nat) (ret : Option FieldType) (lv : List (Nat × Value)) (hy : plainName y.cls = true) (hw : ws = Cond.code y cc maxL ret :: ws') (hlen : (lg_sl argv).length ≤ maxL) (hlv : lv_args 0 argv = lv)
    (body : ∀ g : kG, kF g E l rm cc y.cls ws maxL → kRet g E y.name ret mc ms Pf → kK g w0 lv 0 0 0 []) : kC l y ws rm E argv w0 mc ms Pf := by
  intro sz
  refine Met.ofW (cc := cc) (maxL := maxL) (ret := ret) hy hw ?_
  intro p e s m args below meth c s₁ B hml hv
  obtain ⟨rfl, hsz, hP, hK, hD0⟩ := hv
  have hts := atoms_spec (ws := ws) B.pre
  have hown : s.vm.findClass y.cls = some m.cls := findClass_of_methodNamed B.named
  have hin : meth.name = y.name := (name_of_methodNamed B.named B.method).1
  subst hsz
  subst hlv
  have hl := lv_entry argv (n := maxL) hlen
  rw [lg_entry_eq]
  refine body (p, l, e, rm, s, m, argv.toArray, below, meth, c, E.1, va_A w0 s.heap.size, maxL, MQ below (kQ E (va_A w0 s.heap.size) Pf) argv.toArray s mc ms (va_A w0 s.heap.size)) ⟨B.exec, B.bytes, hml, hown, hts, hK, fun q h => Or.inr h, rfl, rfl, rfl, rfl⟩ ⟨B.returns, B.notSynchronized, hin, rfl⟩ s.heap [] _ hP hD0.self va_S.rf hl

theorem hD1 {A : Nat → Prop} {ws w0 : va_W} {isC : List Nat} (hn : va_nd isC = true) (hD : va_D A ws) (hC : isC.map (fun i => ws[i]?) = w0.map some) : va_D (fun _ => True) w0 := (hD.sub isC hn hC).weaken (fun _ _ _ _ => trivial)
section KL
variable {g : kG} {E : kE} {l : Launch} {R : Room} {cc : ByteArray} {own : String} {Ts : List Cond} {nL : Nat} {ws : va_W} {lv : List (Nat × Value)} {ce sl : Nat} {st : List Value}
theorem k_iconst (F : kF g E l R cc own Ts nL) {pc : Nat} {n : Int} (v : Int32) (hd : decode cc pc = .ok (.iconst n, 1)) (hv : Int32.ofInt n = v) (kk : kK g ws lv ce sl (pc + 1) (.int v :: st)) : kK g ws lv ce sl pc (st) := by
  obtain ⟨p, l', e, R', s, m, args, below, meth, c, D, A, nL', Q⟩ := g
  obtain ⟨hx, hb, hml, hown, hts, hK, hA, rfl, rfl, rfl, rfl⟩ := F
  intro H locs ls hP hD hS hl
  exact lv_iconst hx hb hd hv (kk H locs ls hP hD hS hl)
theorem k_bipush (F : kF g E l R cc own Ts nL) {pc : Nat} {n : Int} (v : Int32) (hd : decode cc pc = .ok (.bipush n, 2)) (hv : (Int8.ofInt n).toInt32 = v) (kk : kK g ws lv ce sl (pc + 2) (.int v :: st)) : kK g ws lv ce sl pc (st) := by
  obtain ⟨p, l', e, R', s, m, args, below, meth, c, D, A, nL', Q⟩ := g
  obtain ⟨hx, hb, hml, hown, hts, hK, hA, rfl, rfl, rfl, rfl⟩ := F
  intro H locs ls hP hD hS hl
  exact lv_bipush hx hb hd hv (kk H locs ls hP hD hS hl)
theorem k_sipush (F : kF g E l R cc own Ts nL) {pc : Nat} {n : Int} (v : Int32) (hd : decode cc pc = .ok (.sipush n, 3)) (hv : (Int16.ofInt n).toInt32 = v) (kk : kK g ws lv ce sl (pc + 3) (.int v :: st)) : kK g ws lv ce sl pc (st) := by
  obtain ⟨p, l', e, R', s, m, args, below, meth, c, D, A, nL', Q⟩ := g
  obtain ⟨hx, hb, hml, hown, hts, hK, hA, rfl, rfl, rfl, rfl⟩ := F
  intro H locs ls hP hD hS hl
  exact lv_sipush hx hb hd hv (kk H locs ls hP hD hS hl)
theorem k_lconst (F : kF g E l R cc own Ts nL) {pc : Nat} {n : Fin 2} (v : Int64) (hd : decode cc pc = .ok (.lconst n, 1)) (hv : Int64.ofNat n = v) (kk : kK g ws lv ce sl (pc + 1) (.long v :: st)) : kK g ws lv ce sl pc (st) := by
  obtain ⟨p, l', e, R', s, m, args, below, meth, c, D, A, nL', Q⟩ := g
  obtain ⟨hx, hb, hml, hown, hts, hK, hA, rfl, rfl, rfl, rfl⟩ := F
  intro H locs ls hP hD hS hl
  exact lv_lconst hx hb hd hv (kk H locs ls hP hD hS hl)
theorem k_ldc2 (F : kF g E l R cc own Ts nL) {pc : Nat} {index : Nat} (v : Int64) (hd : decode cc pc = .ok (.ldc2_w index, 3)) (hc : Cond.constantLong own index v ∈ Ts) (kk : kK g ws lv ce sl (pc + 3) (.long v :: st)) : kK g ws lv ce sl pc (st) := by
  obtain ⟨p, l', e, R', s, m, args, below, meth, c, D, A, nL', Q⟩ := g
  obtain ⟨hx, hb, hml, hown, hts, hK, hA, rfl, rfl, rfl, rfl⟩ := F
  intro H locs ls hP hD hS hl
  exact lv_ldc2 hx hb hown (hts _ hc) hd (kk H locs ls hP hD hS hl)
theorem k_ldc (F : kF g E l R cc own Ts nL) {pc : Nat} {index : Nat} (v : Int32) (hd : decode cc pc = .ok (.ldc index, 2)) (hc : Cond.constant own index v ∈ Ts) (kk : kK g ws lv ce sl (pc + 2) (.int v :: st)) : kK g ws lv ce sl pc (st) := by
  obtain ⟨p, l', e, R', s, m, args, below, meth, c, D, A, nL', Q⟩ := g
  obtain ⟨hx, hb, hml, hown, hts, hK, hA, rfl, rfl, rfl, rfl⟩ := F
  intro H locs ls hP hD hS hl
  exact lv_ldc hx hb hown (hts _ hc) hd (kk H locs ls hP hD hS hl)
theorem k_iload_n (F : kF g E l R cc own Ts nL) {pc : Nat} {n : Fin 4} {i : Nat} {x : Int32} (k : Nat) (hk : lv[k]? = some (i, .int x)) (hd : decode cc pc = .ok (.iload_n n, 1)) (hi : (n : Nat) = i) (kk : kK g ws lv ce sl (pc + 1) (.int x :: st)) : kK g ws lv ce sl pc (st) := by
  obtain ⟨p, l', e, R', s, m, args, below, meth, c, D, A, nL', Q⟩ := g
  obtain ⟨hx, hb, hml, hown, hts, hK, hA, rfl, rfl, rfl, rfl⟩ := F
  intro H locs ls hP hD hS hl
  exact lv_iload_n hx hb hd hi (lv_at hl k hk) (kk H locs ls hP hD hS hl)
theorem k_iload (F : kF g E l R cc own Ts nL) {pc : Nat} {i : Nat} {x : Int32} (k : Nat) (hk : lv[k]? = some (i, .int x)) (hd : decode cc pc = .ok (.iload i, 2)) (kk : kK g ws lv ce sl (pc + 2) (.int x :: st)) : kK g ws lv ce sl pc (st) := by
  obtain ⟨p, l', e, R', s, m, args, below, meth, c, D, A, nL', Q⟩ := g
  obtain ⟨hx, hb, hml, hown, hts, hK, hA, rfl, rfl, rfl, rfl⟩ := F
  intro H locs ls hP hD hS hl
  exact lv_iload hx hb hd (lv_at hl k hk) (kk H locs ls hP hD hS hl)
theorem k_istore_n (F : kF g E l R cc own Ts nL) {pc : Nat} {n : Fin 4} {i : Nat} {x : Int32} (lv' : List (Nat × Value)) (hd : decode cc pc = .ok (.istore_n n, 1)) (hi : (n : Nat) = i) (hn : i < nL) (hl' : (i, Value.int x) :: lv.filter (fun q => !(q.1 == i) && !(q.1 + 1 == i && q.2.category == 2)) = lv') (kk : kK g ws lv' ce sl (pc + 1) (st)) : kK g ws lv ce sl pc (.int x :: st) := by
  obtain ⟨p, l', e, R', s, m, args, below, meth, c, D, A, nL', Q⟩ := g
  obtain ⟨hx, hb, hml, hown, hts, hK, hA, rfl, rfl, rfl, rfl⟩ := F
  intro H locs ls hP hD hS hl
  exact lv_istore_n hx hb hd hi hl hn hl' (fun ls' hl' => kk H locs ls' hP hD hS hl')
theorem k_istore (F : kF g E l R cc own Ts nL) {pc : Nat} {i : Nat} {x : Int32} (lv' : List (Nat × Value)) (hd : decode cc pc = .ok (.istore i, 2)) (hn : i < nL) (hl' : (i, Value.int x) :: lv.filter (fun q => !(q.1 == i) && !(q.1 + 1 == i && q.2.category == 2)) = lv') (kk : kK g ws lv' ce sl (pc + 2) (st)) : kK g ws lv ce sl pc (.int x :: st) := by
  obtain ⟨p, l', e, R', s, m, args, below, meth, c, D, A, nL', Q⟩ := g
  obtain ⟨hx, hb, hml, hown, hts, hK, hA, rfl, rfl, rfl, rfl⟩ := F
  intro H locs ls hP hD hS hl
  exact lv_istore hx hb hd hl hn hl' (fun ls' hl' => kk H locs ls' hP hD hS hl')
theorem k_lload_n (F : kF g E l R cc own Ts nL) {pc : Nat} {n : Fin 4} {i : Nat} {x : Int64} (k : Nat) (hk : lv[k]? = some (i, .long x)) (hd : decode cc pc = .ok (.lload_n n, 1)) (hi : (n : Nat) = i) (kk : kK g ws lv ce sl (pc + 1) (.long x :: st)) : kK g ws lv ce sl pc (st) := by
  obtain ⟨p, l', e, R', s, m, args, below, meth, c, D, A, nL', Q⟩ := g
  obtain ⟨hx, hb, hml, hown, hts, hK, hA, rfl, rfl, rfl, rfl⟩ := F
  intro H locs ls hP hD hS hl
  exact lv_lload_n hx hb hd hi (lv_at hl k hk) (kk H locs ls hP hD hS hl)
theorem k_lload (F : kF g E l R cc own Ts nL) {pc : Nat} {i : Nat} {x : Int64} (k : Nat) (hk : lv[k]? = some (i, .long x)) (hd : decode cc pc = .ok (.lload i, 2)) (kk : kK g ws lv ce sl (pc + 2) (.long x :: st)) : kK g ws lv ce sl pc (st) := by
  obtain ⟨p, l', e, R', s, m, args, below, meth, c, D, A, nL', Q⟩ := g
  obtain ⟨hx, hb, hml, hown, hts, hK, hA, rfl, rfl, rfl, rfl⟩ := F
  intro H locs ls hP hD hS hl
  exact lv_lload hx hb hd (lv_at hl k hk) (kk H locs ls hP hD hS hl)
theorem k_lstore_n (F : kF g E l R cc own Ts nL) {pc : Nat} {n : Fin 4} {i : Nat} {x : Int64} (lv' : List (Nat × Value)) (hd : decode cc pc = .ok (.lstore_n n, 1)) (hi : (n : Nat) = i) (hn : i + 1 < nL) (hl' : (i, Value.long x) :: lv.filter (fun q => !(q.1 == i) && (!(q.1 == i + 1) && !(q.1 + 1 == i && q.2.category == 2))) = lv') (kk : kK g ws lv' ce sl (pc + 1) (st)) : kK g ws lv ce sl pc (.long x :: st) := by
  obtain ⟨p, l', e, R', s, m, args, below, meth, c, D, A, nL', Q⟩ := g
  obtain ⟨hx, hb, hml, hown, hts, hK, hA, rfl, rfl, rfl, rfl⟩ := F
  intro H locs ls hP hD hS hl
  exact lv_lstore_n hx hb hd hi hl hn hl' (fun ls' hl' => kk H locs ls' hP hD hS hl')
theorem k_lstore (F : kF g E l R cc own Ts nL) {pc : Nat} {i : Nat} {x : Int64} (lv' : List (Nat × Value)) (hd : decode cc pc = .ok (.lstore i, 2)) (hn : i + 1 < nL) (hl' : (i, Value.long x) :: lv.filter (fun q => !(q.1 == i) && (!(q.1 == i + 1) && !(q.1 + 1 == i && q.2.category == 2))) = lv') (kk : kK g ws lv' ce sl (pc + 2) (st)) : kK g ws lv ce sl pc (.long x :: st) := by
  obtain ⟨p, l', e, R', s, m, args, below, meth, c, D, A, nL', Q⟩ := g
  obtain ⟨hx, hb, hml, hown, hts, hK, hA, rfl, rfl, rfl, rfl⟩ := F
  intro H locs ls hP hD hS hl
  exact lv_lstore hx hb hd hl hn hl' (fun ls' hl' => kk H locs ls' hP hD hS hl')
theorem k_aload_n (F : kF g E l R cc own Ts nL) {pc : Nat} {n : Fin 4} {i : Nat} {x : Nat} (k : Nat) (hk : lv[k]? = some (i, .ref x)) (hd : decode cc pc = .ok (.aload_n n, 1)) (hi : (n : Nat) = i) (kk : kK g ws lv ce sl (pc + 1) (.ref x :: st)) : kK g ws lv ce sl pc (st) := by
  obtain ⟨p, l', e, R', s, m, args, below, meth, c, D, A, nL', Q⟩ := g
  obtain ⟨hx, hb, hml, hown, hts, hK, hA, rfl, rfl, rfl, rfl⟩ := F
  intro H locs ls hP hD hS hl
  exact lv_aload_n hx hb hd hi (lv_at hl k hk) (kk H locs ls hP hD hS hl)
theorem k_aload (F : kF g E l R cc own Ts nL) {pc : Nat} {i : Nat} {x : Nat} (k : Nat) (hk : lv[k]? = some (i, .ref x)) (hd : decode cc pc = .ok (.aload i, 2)) (kk : kK g ws lv ce sl (pc + 2) (.ref x :: st)) : kK g ws lv ce sl pc (st) := by
  obtain ⟨p, l', e, R', s, m, args, below, meth, c, D, A, nL', Q⟩ := g
  obtain ⟨hx, hb, hml, hown, hts, hK, hA, rfl, rfl, rfl, rfl⟩ := F
  intro H locs ls hP hD hS hl
  exact lv_aload hx hb hd (lv_at hl k hk) (kk H locs ls hP hD hS hl)
theorem k_astore_n (F : kF g E l R cc own Ts nL) {pc : Nat} {n : Fin 4} {i : Nat} {x : Nat} (lv' : List (Nat × Value)) (hd : decode cc pc = .ok (.astore_n n, 1)) (hi : (n : Nat) = i) (hn : i < nL) (hl' : (i, Value.ref x) :: lv.filter (fun q => !(q.1 == i) && !(q.1 + 1 == i && q.2.category == 2)) = lv') (kk : kK g ws lv' ce sl (pc + 1) (st)) : kK g ws lv ce sl pc (.ref x :: st) := by
  obtain ⟨p, l', e, R', s, m, args, below, meth, c, D, A, nL', Q⟩ := g
  obtain ⟨hx, hb, hml, hown, hts, hK, hA, rfl, rfl, rfl, rfl⟩ := F
  intro H locs ls hP hD hS hl
  exact lv_astore_n hx hb hd hi hl hn hl' (fun ls' hl' => kk H locs ls' hP hD hS hl')
theorem k_astore (F : kF g E l R cc own Ts nL) {pc : Nat} {i : Nat} {x : Nat} (lv' : List (Nat × Value)) (hd : decode cc pc = .ok (.astore i, 2)) (hn : i < nL) (hl' : (i, Value.ref x) :: lv.filter (fun q => !(q.1 == i) && !(q.1 + 1 == i && q.2.category == 2)) = lv') (kk : kK g ws lv' ce sl (pc + 2) (st)) : kK g ws lv ce sl pc (.ref x :: st) := by
  obtain ⟨p, l', e, R', s, m, args, below, meth, c, D, A, nL', Q⟩ := g
  obtain ⟨hx, hb, hml, hown, hts, hK, hA, rfl, rfl, rfl, rfl⟩ := F
  intro H locs ls hP hD hS hl
  exact lv_astore hx hb hd hl hn hl' (fun ls' hl' => kk H locs ls' hP hD hS hl')
theorem k_iinc (F : kF g E l R cc own Ts nL) {pc : Nat} {i : Nat} {n : Int} {x : Int32} (k : Nat) (v : Int32) (lv' : List (Nat × Value)) (hd : decode cc pc = .ok (.iinc i n, 3)) (hk : lv[k]? = some (i, .int x)) (hv : x + Int32.ofInt n = v) (hn : i < nL) (hl' : (i, Value.int v) :: lv.filter (fun q => !(q.1 == i) && !(q.1 + 1 == i && q.2.category == 2)) = lv') (kk : kK g ws lv' ce sl (pc + 3) (st)) : kK g ws lv ce sl pc (st) := by
  obtain ⟨p, l', e, R', s, m, args, below, meth, c, D, A, nL', Q⟩ := g
  obtain ⟨hx, hb, hml, hown, hts, hK, hA, rfl, rfl, rfl, rfl⟩ := F
  intro H locs ls hP hD hS hl
  exact lv_iinc hx hb hd hl hk hv hn hl' (fun ls' hl' => kk H locs ls' hP hD hS hl')
theorem k_iadd (F : kF g E l R cc own Ts nL) {pc : Nat} {x y : Int32} (hd : decode cc pc = .ok (.iadd, 1)) (kk : kK g ws lv ce sl (pc + 1) (.int (x + y) :: st)) : kK g ws lv ce sl pc (.int y :: .int x :: st) := by
  obtain ⟨p, l', e, R', s, m, args, below, meth, c, D, A, nL', Q⟩ := g
  obtain ⟨hx, hb, hml, hown, hts, hK, hA, rfl, rfl, rfl, rfl⟩ := F
  intro H locs ls hP hD hS hl
  exact lv_iadd hx hb hd (kk H locs ls hP hD hS hl)
theorem k_isub (F : kF g E l R cc own Ts nL) {pc : Nat} {x y : Int32} (hd : decode cc pc = .ok (.isub, 1)) (kk : kK g ws lv ce sl (pc + 1) (.int (x - y) :: st)) : kK g ws lv ce sl pc (.int y :: .int x :: st) := by
  obtain ⟨p, l', e, R', s, m, args, below, meth, c, D, A, nL', Q⟩ := g
  obtain ⟨hx, hb, hml, hown, hts, hK, hA, rfl, rfl, rfl, rfl⟩ := F
  intro H locs ls hP hD hS hl
  exact lv_isub hx hb hd (kk H locs ls hP hD hS hl)
theorem k_imul (F : kF g E l R cc own Ts nL) {pc : Nat} {x y : Int32} (hd : decode cc pc = .ok (.imul, 1)) (kk : kK g ws lv ce sl (pc + 1) (.int (x * y) :: st)) : kK g ws lv ce sl pc (.int y :: .int x :: st) := by
  obtain ⟨p, l', e, R', s, m, args, below, meth, c, D, A, nL', Q⟩ := g
  obtain ⟨hx, hb, hml, hown, hts, hK, hA, rfl, rfl, rfl, rfl⟩ := F
  intro H locs ls hP hD hS hl
  exact lv_imul hx hb hd (kk H locs ls hP hD hS hl)
theorem k_iand (F : kF g E l R cc own Ts nL) {pc : Nat} {x y : Int32} (hd : decode cc pc = .ok (.iand, 1)) (kk : kK g ws lv ce sl (pc + 1) (.int (x &&& y) :: st)) : kK g ws lv ce sl pc (.int y :: .int x :: st) := by
  obtain ⟨p, l', e, R', s, m, args, below, meth, c, D, A, nL', Q⟩ := g
  obtain ⟨hx, hb, hml, hown, hts, hK, hA, rfl, rfl, rfl, rfl⟩ := F
  intro H locs ls hP hD hS hl
  exact lv_iand hx hb hd (kk H locs ls hP hD hS hl)
theorem k_ladd (F : kF g E l R cc own Ts nL) {pc : Nat} {x y : Int64} (hd : decode cc pc = .ok (.ladd, 1)) (kk : kK g ws lv ce sl (pc + 1) (.long (x + y) :: st)) : kK g ws lv ce sl pc (.long y :: .long x :: st) := by
  obtain ⟨p, l', e, R', s, m, args, below, meth, c, D, A, nL', Q⟩ := g
  obtain ⟨hx, hb, hml, hown, hts, hK, hA, rfl, rfl, rfl, rfl⟩ := F
  intro H locs ls hP hD hS hl
  exact lv_ladd hx hb hd (kk H locs ls hP hD hS hl)
theorem k_lsub (F : kF g E l R cc own Ts nL) {pc : Nat} {x y : Int64} (hd : decode cc pc = .ok (.lsub, 1)) (kk : kK g ws lv ce sl (pc + 1) (.long (x - y) :: st)) : kK g ws lv ce sl pc (.long y :: .long x :: st) := by
  obtain ⟨p, l', e, R', s, m, args, below, meth, c, D, A, nL', Q⟩ := g
  obtain ⟨hx, hb, hml, hown, hts, hK, hA, rfl, rfl, rfl, rfl⟩ := F
  intro H locs ls hP hD hS hl
  exact lv_lsub hx hb hd (kk H locs ls hP hD hS hl)
theorem k_lmul (F : kF g E l R cc own Ts nL) {pc : Nat} {x y : Int64} (hd : decode cc pc = .ok (.lmul, 1)) (kk : kK g ws lv ce sl (pc + 1) (.long (x * y) :: st)) : kK g ws lv ce sl pc (.long y :: .long x :: st) := by
  obtain ⟨p, l', e, R', s, m, args, below, meth, c, D, A, nL', Q⟩ := g
  obtain ⟨hx, hb, hml, hown, hts, hK, hA, rfl, rfl, rfl, rfl⟩ := F
  intro H locs ls hP hD hS hl
  exact lv_lmul hx hb hd (kk H locs ls hP hD hS hl)
theorem k_ldiv (F : kF g E l R cc own Ts nL) {pc : Nat} {x y : Int64} (hd : decode cc pc = .ok (.ldiv, 1)) (hne : ¬ y = 0) (kk : kK g ws lv ce sl (pc + 1) (.long (x / y) :: st)) : kK g ws lv ce sl pc (.long y :: .long x :: st) := by
  obtain ⟨p, l', e, R', s, m, args, below, meth, c, D, A, nL', Q⟩ := g
  obtain ⟨hx, hb, hml, hown, hts, hK, hA, rfl, rfl, rfl, rfl⟩ := F
  intro H locs ls hP hD hS hl
  exact lv_ldiv hx hb hd hne (kk H locs ls hP hD hS hl)
theorem k_lneg (F : kF g E l R cc own Ts nL) {pc : Nat} {x : Int64} (hd : decode cc pc = .ok (.lneg, 1)) (kk : kK g ws lv ce sl (pc + 1) (.long (-x) :: st)) : kK g ws lv ce sl pc (.long x :: st) := by
  obtain ⟨p, l', e, R', s, m, args, below, meth, c, D, A, nL', Q⟩ := g
  obtain ⟨hx, hb, hml, hown, hts, hK, hA, rfl, rfl, rfl, rfl⟩ := F
  intro H locs ls hP hD hS hl
  exact lv_lneg hx hb hd (kk H locs ls hP hD hS hl)
theorem k_lshr (F : kF g E l R cc own Ts nL) {pc : Nat} {x : Int64} {y : Int32} (v : Int64) (hd : decode cc pc = .ok (.lshr, 1)) (hv : x >>> (y.toInt64 &&& 63) = v) (kk : kK g ws lv ce sl (pc + 1) (.long v :: st)) : kK g ws lv ce sl pc (.int y :: .long x :: st) := by
  obtain ⟨p, l', e, R', s, m, args, below, meth, c, D, A, nL', Q⟩ := g
  obtain ⟨hx, hb, hml, hown, hts, hK, hA, rfl, rfl, rfl, rfl⟩ := F
  intro H locs ls hP hD hS hl
  exact lv_lshr hx hb hd hv (kk H locs ls hP hD hS hl)
theorem k_lshl (F : kF g E l R cc own Ts nL) {pc : Nat} {x : Int64} {y : Int32} (v : Int64) (hd : decode cc pc = .ok (.lshl, 1)) (hv : x <<< (y.toInt64 &&& 63) = v) (kk : kK g ws lv ce sl (pc + 1) (.long v :: st)) : kK g ws lv ce sl pc (.int y :: .long x :: st) := by
  obtain ⟨p, l', e, R', s, m, args, below, meth, c, D, A, nL', Q⟩ := g
  obtain ⟨hx, hb, hml, hown, hts, hK, hA, rfl, rfl, rfl, rfl⟩ := F
  intro H locs ls hP hD hS hl
  exact lv_lshl hx hb hd hv (kk H locs ls hP hD hS hl)
theorem k_i2l (F : kF g E l R cc own Ts nL) {pc : Nat} {x : Int32} (v : Int64) (hd : decode cc pc = .ok (.i2l, 1)) (hv : x.toInt64 = v) (kk : kK g ws lv ce sl (pc + 1) (.long v :: st)) : kK g ws lv ce sl pc (.int x :: st) := by
  obtain ⟨p, l', e, R', s, m, args, below, meth, c, D, A, nL', Q⟩ := g
  obtain ⟨hx, hb, hml, hown, hts, hK, hA, rfl, rfl, rfl, rfl⟩ := F
  intro H locs ls hP hD hS hl
  exact lv_i2l hx hb hd hv (kk H locs ls hP hD hS hl)
theorem k_l2i (F : kF g E l R cc own Ts nL) {pc : Nat} {x : Int64} (v : Int32) (hd : decode cc pc = .ok (.l2i, 1)) (hv : x.toInt32 = v) (kk : kK g ws lv ce sl (pc + 1) (.int v :: st)) : kK g ws lv ce sl pc (.long x :: st) := by
  obtain ⟨p, l', e, R', s, m, args, below, meth, c, D, A, nL', Q⟩ := g
  obtain ⟨hx, hb, hml, hown, hts, hK, hA, rfl, rfl, rfl, rfl⟩ := F
  intro H locs ls hP hD hS hl
  exact lv_l2i hx hb hd hv (kk H locs ls hP hD hS hl)
theorem k_iaddN (F : kF g E l R cc own Ts nL) {pc : Nat} {a b : Nat} (hd : decode cc pc = .ok (.iadd, 1)) (kk : kK g ws lv ce sl (pc + 1) (.int (nI (a + b)) :: st)) : kK g ws lv ce sl pc (.int (nI b) :: .int (nI a) :: st) := by
  obtain ⟨p, l', e, R', s, m, args, below, meth, c, D, A, nL', Q⟩ := g
  obtain ⟨hx, hb, hml, hown, hts, hK, hA, rfl, rfl, rfl, rfl⟩ := F
  intro H locs ls hP hD hS hl
  exact lv_iadd hx hb hd (by rw [nI_add]; exact (kk H locs ls hP hD hS hl))
theorem k_iadd0 (F : kF g E l R cc own Ts nL) {pc : Nat} {a : Nat} (hd : decode cc pc = .ok (.iadd, 1)) (kk : kK g ws lv ce sl (pc + 1) (.int (nI a) :: st)) : kK g ws lv ce sl pc (.int (nI 0) :: .int (nI a) :: st) := by
  obtain ⟨p, l', e, R', s, m, args, below, meth, c, D, A, nL', Q⟩ := g
  obtain ⟨hx, hb, hml, hown, hts, hK, hA, rfl, rfl, rfl, rfl⟩ := F
  intro H locs ls hP hD hS hl
  exact lv_iadd hx hb hd (by rw [nI_add]; exact (kk H locs ls hP hD hS hl))
theorem k_imulN (F : kF g E l R cc own Ts nL) {pc : Nat} {a b : Nat} (hd : decode cc pc = .ok (.imul, 1)) (kk : kK g ws lv ce sl (pc + 1) (.int (nI (a * b)) :: st)) : kK g ws lv ce sl pc (.int (nI b) :: .int (nI a) :: st) := by
  obtain ⟨p, l', e, R', s, m, args, below, meth, c, D, A, nL', Q⟩ := g
  obtain ⟨hx, hb, hml, hown, hts, hK, hA, rfl, rfl, rfl, rfl⟩ := F
  intro H locs ls hP hD hS hl
  exact lv_imul hx hb hd (by rw [pk_mul]; exact (kk H locs ls hP hD hS hl))
theorem k_imulC (F : kF g E l R cc own Ts nL) {pc : Nat} {a b : Nat} (hd : decode cc pc = .ok (.imul, 1)) (kk : kK g ws lv ce sl (pc + 1) (.int (nI (b * a)) :: st)) : kK g ws lv ce sl pc (.int (nI b) :: .int (nI a) :: st) := by
  obtain ⟨p, l', e, R', s, m, args, below, meth, c, D, A, nL', Q⟩ := g
  obtain ⟨hx, hb, hml, hown, hts, hK, hA, rfl, rfl, rfl, rfl⟩ := F
  intro H locs ls hP hD hS hl
  exact lv_imul hx hb hd (by rw [pk_mul, Nat.mul_comm]; exact (kk H locs ls hP hD hS hl))
theorem k_isubN (F : kF g E l R cc own Ts nL) {pc : Nat} {a b : Nat} (hd : decode cc pc = .ok (.isub, 1)) (hle : b ≤ a) (kk : kK g ws lv ce sl (pc + 1) (.int (nI (a - b)) :: st)) : kK g ws lv ce sl pc (.int (nI b) :: .int (nI a) :: st) := by
  obtain ⟨p, l', e, R', s, m, args, below, meth, c, D, A, nL', Q⟩ := g
  obtain ⟨hx, hb, hml, hown, hts, hK, hA, rfl, rfl, rfl, rfl⟩ := F
  intro H locs ls hP hD hS hl
  exact lv_isub hx hb hd (by rw [pk_sub hle]; exact (kk H locs ls hP hD hS hl))
theorem k_dup (F : kF g E l R cc own Ts nL) {pc : Nat} {v : Value} (hd : decode cc pc = .ok (.dup, 1)) (hc : v.category = 1) (kk : kK g ws lv ce sl (pc + 1) (v :: v :: st)) : kK g ws lv ce sl pc (v :: st) := by
  obtain ⟨p, l', e, R', s, m, args, below, meth, c, D, A, nL', Q⟩ := g
  obtain ⟨hx, hb, hml, hown, hts, hK, hA, rfl, rfl, rfl, rfl⟩ := F
  intro H locs ls hP hD hS hl
  exact lv_dup hx hb hd hc (kk H locs ls hP hD hS hl)
theorem k_pop (F : kF g E l R cc own Ts nL) {pc : Nat} {v : Value} (hd : decode cc pc = .ok (.pop, 1)) (hc : v.category = 1) (kk : kK g ws lv ce sl (pc + 1) (st)) : kK g ws lv ce sl pc (v :: st) := by
  obtain ⟨p, l', e, R', s, m, args, below, meth, c, D, A, nL', Q⟩ := g
  obtain ⟨hx, hb, hml, hown, hts, hK, hA, rfl, rfl, rfl, rfl⟩ := F
  intro H locs ls hP hD hS hl
  exact lv_pop hx hb hd hc (kk H locs ls hP hD hS hl)
theorem k_goto (F : kF g E l R cc own Ts nL) {pc : Nat} {off : Int} (tgt : Nat) (hd : decode cc pc = .ok (.goto off, 3)) (ht : (pc : Int) + off = (tgt : Int)) (kk : kK g ws lv ce sl tgt st) : kK g ws lv ce sl pc st := by
  obtain ⟨p, l', e, R', s, m, args, below, meth, c, D, A, nL', Q⟩ := g
  obtain ⟨hx, hb, hml, hown, hts, hK, hA, rfl, rfl, rfl, rfl⟩ := F
  intro H locs ls hP hD hS hl
  exact lv_goto hx hb hd ht (kk H locs ls hP hD hS hl)
theorem k_t0 : (0 : Int32).toInt = 0 := by decide
theorem k_eqT {x y : Int32} : x = y ↔ x.toInt = y.toInt := ⟨fun h => by rw [h], fun h => Int32.toInt_inj.mp h⟩
theorem k_icmp_eq (F : kF g E l R cc own Ts nL) {pc : Nat} {off : Int} {x y : Int32} {xi yi : Int} (tgt : Nat) (hd : decode cc pc = .ok (.if_icmp .eq off, 3)) (ht : (pc : Int) + off = (tgt : Int)) (hxi : x.toInt = xi) (hyi : y.toInt = yi) (kt : xi = yi → kK g ws lv ce sl tgt st) (kf : ¬ xi = yi → kK g ws lv ce sl (pc + 3) st) : kK g ws lv ce sl pc (.int y :: .int x :: st) := by
  obtain ⟨p, l', e, R', s, m, args, below, meth, c, D, A, nL', Q⟩ := g
  obtain ⟨hx, hb, hml, hown, hts, hK, hA, rfl, rfl, rfl, rfl⟩ := F
  intro H locs ls hP hD hS hl
  subst hxi; subst hyi
  refine lv_icmp_eq hx hb hd ht (fun h => kt ?_ H locs ls hP hD hS hl) (fun h => kf ?_ H locs ls hP hD hS hl)
  all_goals simp only [ne_eq, k_eqT, Int32.lt_iff_toInt_lt, Int32.le_iff_toInt_le] at h
  all_goals omega
theorem k_if_eq (F : kF g E l R cc own Ts nL) {pc : Nat} {off : Int} {x : Int32} {xi : Int} (tgt : Nat) (hd : decode cc pc = .ok (.ifCond .eq off, 3)) (ht : (pc : Int) + off = (tgt : Int)) (hxi : x.toInt = xi) (kt : xi = 0 → kK g ws lv ce sl tgt st) (kf : ¬ xi = 0 → kK g ws lv ce sl (pc + 3) st) : kK g ws lv ce sl pc (.int x :: st) := by
  obtain ⟨p, l', e, R', s, m, args, below, meth, c, D, A, nL', Q⟩ := g
  obtain ⟨hx, hb, hml, hown, hts, hK, hA, rfl, rfl, rfl, rfl⟩ := F
  intro H locs ls hP hD hS hl
  subst hxi
  refine lv_if_eq hx hb hd ht (fun h => kt ?_ H locs ls hP hD hS hl) (fun h => kf ?_ H locs ls hP hD hS hl)
  all_goals simp only [ne_eq, k_eqT, Int32.lt_iff_toInt_lt, Int32.le_iff_toInt_le, k_t0] at h
  all_goals omega
theorem k_icmp_ne (F : kF g E l R cc own Ts nL) {pc : Nat} {off : Int} {x y : Int32} {xi yi : Int} (tgt : Nat) (hd : decode cc pc = .ok (.if_icmp .ne off, 3)) (ht : (pc : Int) + off = (tgt : Int)) (hxi : x.toInt = xi) (hyi : y.toInt = yi) (kt : ¬ xi = yi → kK g ws lv ce sl tgt st) (kf : xi = yi → kK g ws lv ce sl (pc + 3) st) : kK g ws lv ce sl pc (.int y :: .int x :: st) := by
  obtain ⟨p, l', e, R', s, m, args, below, meth, c, D, A, nL', Q⟩ := g
  obtain ⟨hx, hb, hml, hown, hts, hK, hA, rfl, rfl, rfl, rfl⟩ := F
  intro H locs ls hP hD hS hl
  subst hxi; subst hyi
  refine lv_icmp_ne hx hb hd ht (fun h => kt ?_ H locs ls hP hD hS hl) (fun h => kf ?_ H locs ls hP hD hS hl)
  all_goals simp only [ne_eq, k_eqT, Int32.lt_iff_toInt_lt, Int32.le_iff_toInt_le] at h
  all_goals omega
theorem k_if_ne (F : kF g E l R cc own Ts nL) {pc : Nat} {off : Int} {x : Int32} {xi : Int} (tgt : Nat) (hd : decode cc pc = .ok (.ifCond .ne off, 3)) (ht : (pc : Int) + off = (tgt : Int)) (hxi : x.toInt = xi) (kt : ¬ xi = 0 → kK g ws lv ce sl tgt st) (kf : xi = 0 → kK g ws lv ce sl (pc + 3) st) : kK g ws lv ce sl pc (.int x :: st) := by
  obtain ⟨p, l', e, R', s, m, args, below, meth, c, D, A, nL', Q⟩ := g
  obtain ⟨hx, hb, hml, hown, hts, hK, hA, rfl, rfl, rfl, rfl⟩ := F
  intro H locs ls hP hD hS hl
  subst hxi
  refine lv_if_ne hx hb hd ht (fun h => kt ?_ H locs ls hP hD hS hl) (fun h => kf ?_ H locs ls hP hD hS hl)
  all_goals simp only [ne_eq, k_eqT, Int32.lt_iff_toInt_lt, Int32.le_iff_toInt_le, k_t0] at h
  all_goals omega
theorem k_icmp_lt (F : kF g E l R cc own Ts nL) {pc : Nat} {off : Int} {x y : Int32} {xi yi : Int} (tgt : Nat) (hd : decode cc pc = .ok (.if_icmp .lt off, 3)) (ht : (pc : Int) + off = (tgt : Int)) (hxi : x.toInt = xi) (hyi : y.toInt = yi) (kt : xi < yi → kK g ws lv ce sl tgt st) (kf : yi ≤ xi → kK g ws lv ce sl (pc + 3) st) : kK g ws lv ce sl pc (.int y :: .int x :: st) := by
  obtain ⟨p, l', e, R', s, m, args, below, meth, c, D, A, nL', Q⟩ := g
  obtain ⟨hx, hb, hml, hown, hts, hK, hA, rfl, rfl, rfl, rfl⟩ := F
  intro H locs ls hP hD hS hl
  subst hxi; subst hyi
  refine lv_icmp_lt hx hb hd ht (fun h => kt ?_ H locs ls hP hD hS hl) (fun h => kf ?_ H locs ls hP hD hS hl)
  all_goals simp only [ne_eq, k_eqT, Int32.lt_iff_toInt_lt, Int32.le_iff_toInt_le] at h
  all_goals omega
theorem k_if_lt (F : kF g E l R cc own Ts nL) {pc : Nat} {off : Int} {x : Int32} {xi : Int} (tgt : Nat) (hd : decode cc pc = .ok (.ifCond .lt off, 3)) (ht : (pc : Int) + off = (tgt : Int)) (hxi : x.toInt = xi) (kt : xi < 0 → kK g ws lv ce sl tgt st) (kf : 0 ≤ xi → kK g ws lv ce sl (pc + 3) st) : kK g ws lv ce sl pc (.int x :: st) := by
  obtain ⟨p, l', e, R', s, m, args, below, meth, c, D, A, nL', Q⟩ := g
  obtain ⟨hx, hb, hml, hown, hts, hK, hA, rfl, rfl, rfl, rfl⟩ := F
  intro H locs ls hP hD hS hl
  subst hxi
  refine lv_if_lt hx hb hd ht (fun h => kt ?_ H locs ls hP hD hS hl) (fun h => kf ?_ H locs ls hP hD hS hl)
  all_goals simp only [ne_eq, k_eqT, Int32.lt_iff_toInt_lt, Int32.le_iff_toInt_le, k_t0] at h
  all_goals omega
theorem k_icmp_ge (F : kF g E l R cc own Ts nL) {pc : Nat} {off : Int} {x y : Int32} {xi yi : Int} (tgt : Nat) (hd : decode cc pc = .ok (.if_icmp .ge off, 3)) (ht : (pc : Int) + off = (tgt : Int)) (hxi : x.toInt = xi) (hyi : y.toInt = yi) (kt : yi ≤ xi → kK g ws lv ce sl tgt st) (kf : xi < yi → kK g ws lv ce sl (pc + 3) st) : kK g ws lv ce sl pc (.int y :: .int x :: st) := by
  obtain ⟨p, l', e, R', s, m, args, below, meth, c, D, A, nL', Q⟩ := g
  obtain ⟨hx, hb, hml, hown, hts, hK, hA, rfl, rfl, rfl, rfl⟩ := F
  intro H locs ls hP hD hS hl
  subst hxi; subst hyi
  refine lv_icmp_ge hx hb hd ht (fun h => kt ?_ H locs ls hP hD hS hl) (fun h => kf ?_ H locs ls hP hD hS hl)
  all_goals simp only [ne_eq, k_eqT, Int32.lt_iff_toInt_lt, Int32.le_iff_toInt_le] at h
  all_goals omega
theorem k_if_ge (F : kF g E l R cc own Ts nL) {pc : Nat} {off : Int} {x : Int32} {xi : Int} (tgt : Nat) (hd : decode cc pc = .ok (.ifCond .ge off, 3)) (ht : (pc : Int) + off = (tgt : Int)) (hxi : x.toInt = xi) (kt : 0 ≤ xi → kK g ws lv ce sl tgt st) (kf : xi < 0 → kK g ws lv ce sl (pc + 3) st) : kK g ws lv ce sl pc (.int x :: st) := by
  obtain ⟨p, l', e, R', s, m, args, below, meth, c, D, A, nL', Q⟩ := g
  obtain ⟨hx, hb, hml, hown, hts, hK, hA, rfl, rfl, rfl, rfl⟩ := F
  intro H locs ls hP hD hS hl
  subst hxi
  refine lv_if_ge hx hb hd ht (fun h => kt ?_ H locs ls hP hD hS hl) (fun h => kf ?_ H locs ls hP hD hS hl)
  all_goals simp only [ne_eq, k_eqT, Int32.lt_iff_toInt_lt, Int32.le_iff_toInt_le, k_t0] at h
  all_goals omega
theorem k_icmp_gt (F : kF g E l R cc own Ts nL) {pc : Nat} {off : Int} {x y : Int32} {xi yi : Int} (tgt : Nat) (hd : decode cc pc = .ok (.if_icmp .gt off, 3)) (ht : (pc : Int) + off = (tgt : Int)) (hxi : x.toInt = xi) (hyi : y.toInt = yi) (kt : yi < xi → kK g ws lv ce sl tgt st) (kf : xi ≤ yi → kK g ws lv ce sl (pc + 3) st) : kK g ws lv ce sl pc (.int y :: .int x :: st) := by
  obtain ⟨p, l', e, R', s, m, args, below, meth, c, D, A, nL', Q⟩ := g
  obtain ⟨hx, hb, hml, hown, hts, hK, hA, rfl, rfl, rfl, rfl⟩ := F
  intro H locs ls hP hD hS hl
  subst hxi; subst hyi
  refine lv_icmp_gt hx hb hd ht (fun h => kt ?_ H locs ls hP hD hS hl) (fun h => kf ?_ H locs ls hP hD hS hl)
  all_goals simp only [ne_eq, k_eqT, Int32.lt_iff_toInt_lt, Int32.le_iff_toInt_le] at h
  all_goals omega
theorem k_if_gt (F : kF g E l R cc own Ts nL) {pc : Nat} {off : Int} {x : Int32} {xi : Int} (tgt : Nat) (hd : decode cc pc = .ok (.ifCond .gt off, 3)) (ht : (pc : Int) + off = (tgt : Int)) (hxi : x.toInt = xi) (kt : 0 < xi → kK g ws lv ce sl tgt st) (kf : xi ≤ 0 → kK g ws lv ce sl (pc + 3) st) : kK g ws lv ce sl pc (.int x :: st) := by
  obtain ⟨p, l', e, R', s, m, args, below, meth, c, D, A, nL', Q⟩ := g
  obtain ⟨hx, hb, hml, hown, hts, hK, hA, rfl, rfl, rfl, rfl⟩ := F
  intro H locs ls hP hD hS hl
  subst hxi
  refine lv_if_gt hx hb hd ht (fun h => kt ?_ H locs ls hP hD hS hl) (fun h => kf ?_ H locs ls hP hD hS hl)
  all_goals simp only [ne_eq, k_eqT, Int32.lt_iff_toInt_lt, Int32.le_iff_toInt_le, k_t0] at h
  all_goals omega
theorem k_icmp_le (F : kF g E l R cc own Ts nL) {pc : Nat} {off : Int} {x y : Int32} {xi yi : Int} (tgt : Nat) (hd : decode cc pc = .ok (.if_icmp .le off, 3)) (ht : (pc : Int) + off = (tgt : Int)) (hxi : x.toInt = xi) (hyi : y.toInt = yi) (kt : xi ≤ yi → kK g ws lv ce sl tgt st) (kf : yi < xi → kK g ws lv ce sl (pc + 3) st) : kK g ws lv ce sl pc (.int y :: .int x :: st) := by
  obtain ⟨p, l', e, R', s, m, args, below, meth, c, D, A, nL', Q⟩ := g
  obtain ⟨hx, hb, hml, hown, hts, hK, hA, rfl, rfl, rfl, rfl⟩ := F
  intro H locs ls hP hD hS hl
  subst hxi; subst hyi
  refine lv_icmp_le hx hb hd ht (fun h => kt ?_ H locs ls hP hD hS hl) (fun h => kf ?_ H locs ls hP hD hS hl)
  all_goals simp only [ne_eq, k_eqT, Int32.lt_iff_toInt_lt, Int32.le_iff_toInt_le] at h
  all_goals omega
theorem k_if_le (F : kF g E l R cc own Ts nL) {pc : Nat} {off : Int} {x : Int32} {xi : Int} (tgt : Nat) (hd : decode cc pc = .ok (.ifCond .le off, 3)) (ht : (pc : Int) + off = (tgt : Int)) (hxi : x.toInt = xi) (kt : xi ≤ 0 → kK g ws lv ce sl tgt st) (kf : 0 < xi → kK g ws lv ce sl (pc + 3) st) : kK g ws lv ce sl pc (.int x :: st) := by
  obtain ⟨p, l', e, R', s, m, args, below, meth, c, D, A, nL', Q⟩ := g
  obtain ⟨hx, hb, hml, hown, hts, hK, hA, rfl, rfl, rfl, rfl⟩ := F
  intro H locs ls hP hD hS hl
  subst hxi
  refine lv_if_le hx hb hd ht (fun h => kt ?_ H locs ls hP hD hS hl) (fun h => kf ?_ H locs ls hP hD hS hl)
  all_goals simp only [ne_eq, k_eqT, Int32.lt_iff_toInt_lt, Int32.le_iff_toInt_le, k_t0] at h
  all_goals omega
theorem k_if_eqB (F : kF g E l R cc own Ts nL) {pc : Nat} {off : Int} {b : Bool} (tgt : Nat) (hd : decode cc pc = .ok (.ifCond .eq off, 3)) (ht : (pc : Int) + off = (tgt : Int)) (kt : b = false → kK g ws lv ce sl tgt st) (kf : b = true → kK g ws lv ce sl (pc + 3) st) : kK g ws lv ce sl pc (.int (bI b) :: st) := by
  obtain ⟨p, l', e, R', s, m, args, below, meth, c, D, A, nL', Q⟩ := g
  obtain ⟨hx, hb, hml, hown, hts, hK, hA, rfl, rfl, rfl, rfl⟩ := F
  intro H locs ls hP hD hS hl
  refine lv_if_eq hx hb hd ht (fun h => kt ?_ H locs ls hP hD hS hl) (fun h => kf ?_ H locs ls hP hD hS hl)
  all_goals (cases b <;> first | rfl | (exfalso; revert h; decide))
theorem k_if_neB (F : kF g E l R cc own Ts nL) {pc : Nat} {off : Int} {b : Bool} (tgt : Nat) (hd : decode cc pc = .ok (.ifCond .ne off, 3)) (ht : (pc : Int) + off = (tgt : Int)) (kt : b = true → kK g ws lv ce sl tgt st) (kf : b = false → kK g ws lv ce sl (pc + 3) st) : kK g ws lv ce sl pc (.int (bI b) :: st) := by
  obtain ⟨p, l', e, R', s, m, args, below, meth, c, D, A, nL', Q⟩ := g
  obtain ⟨hx, hb, hml, hown, hts, hK, hA, rfl, rfl, rfl, rfl⟩ := F
  intro H locs ls hP hD hS hl
  refine lv_if_ne hx hb hd ht (fun h => kt ?_ H locs ls hP hD hS hl) (fun h => kf ?_ H locs ls hP hD hS hl)
  all_goals (cases b <;> first | rfl | (exfalso; revert h; decide))
theorem k_cmpL {x y : Int64} : (lg_cmp x y < 0 ↔ x < y) ∧ (0 ≤ lg_cmp x y ↔ ¬ x < y) ∧ (0 < lg_cmp x y ↔ y < x) ∧ (lg_cmp x y ≤ 0 ↔ ¬ y < x) ∧ (lg_cmp x y = 0 ↔ x = y) := by
  have e1 : ((1 : Int32) < 0) = False := by decide
  have e2 : ((0 : Int32) ≤ 1) = True := by decide
  have e3 : ((0 : Int32) < 1) = True := by decide
  have e4 : ((1 : Int32) ≤ 0) = False := by decide
  have e5 : ((-1 : Int32) < 0) = True := by decide
  have e6 : ((0 : Int32) ≤ -1) = False := by decide
  have e7 : ((0 : Int32) < -1) = False := by decide
  have e8 : ((-1 : Int32) ≤ 0) = True := by decide
  have e9 : ((0 : Int32) < 0) = False := by decide
  have e10 : ((0 : Int32) ≤ 0) = True := by decide
  have e11 : ((1 : Int32) = 0) = False := by decide
  have e12 : ((-1 : Int32) = 0) = False := by decide
  unfold lg_cmp
  by_cases h1 : y < x
  · have h2 : ¬ x < y := by rw [Int64.lt_iff_toInt_lt] at *; omega
    have h3 : ¬ x = y := by intro h; subst h; rw [Int64.lt_iff_toInt_lt] at h1; omega
    simp only [gt_iff_lt, h1, h2, h3, if_true, e1, e2, e3, e4, e11, not_true, not_false_iff, iff_self, and_self]
  · by_cases h2 : x = y
    · subst h2
      simp only [gt_iff_lt, h1, if_true, if_false, e9, e10, not_true, not_false_iff, iff_self, and_self]
    · have h3 : x < y := by
        have : ¬ x.toInt = y.toInt := fun h => h2 (Int64.toInt_inj.mp h)
        rw [Int64.lt_iff_toInt_lt] at *; omega
      simp only [gt_iff_lt, h1, h2, h3, if_false, e5, e6, e7, e8, e12, not_true, not_false_iff, iff_self, and_self]
theorem k_lcmp_lt (F : kF g E l R cc own Ts nL) {pc : Nat} {off : Int} {x y : Int64} (tgt : Nat) (hd : decode cc pc = .ok (.lcmp, 1)) (hd2 : decode cc (pc + 1) = .ok (.ifCond .lt off, 3)) (ht : ((pc + 1 : Nat) : Int) + off = (tgt : Int)) (kt : x < y → kK g ws lv ce sl tgt st) (kf : ¬ x < y → kK g ws lv ce sl (pc + 4) st) : kK g ws lv ce sl pc (.long y :: .long x :: st) := by
  obtain ⟨p, l', e, R', s, m, args, below, meth, c, D, A, nL', Q⟩ := g
  obtain ⟨hx, hb, hml, hown, hts, hK, hA, rfl, rfl, rfl, rfl⟩ := F
  intro H locs ls hP hD hS hl
  exact W.lcmp hx hb hd (lv_if_lt hx hb hd2 ht (fun h => kt (k_cmpL.1.mp h) H locs ls hP hD hS hl) (fun h => kf (fun q => h (k_cmpL.1.mpr q)) H locs ls hP hD hS hl))
theorem k_lcmp_ge (F : kF g E l R cc own Ts nL) {pc : Nat} {off : Int} {x y : Int64} (tgt : Nat) (hd : decode cc pc = .ok (.lcmp, 1)) (hd2 : decode cc (pc + 1) = .ok (.ifCond .ge off, 3)) (ht : ((pc + 1 : Nat) : Int) + off = (tgt : Int)) (kt : ¬ x < y → kK g ws lv ce sl tgt st) (kf : x < y → kK g ws lv ce sl (pc + 4) st) : kK g ws lv ce sl pc (.long y :: .long x :: st) := by
  obtain ⟨p, l', e, R', s, m, args, below, meth, c, D, A, nL', Q⟩ := g
  obtain ⟨hx, hb, hml, hown, hts, hK, hA, rfl, rfl, rfl, rfl⟩ := F
  intro H locs ls hP hD hS hl
  exact W.lcmp hx hb hd (lv_if_ge hx hb hd2 ht (fun h => kt (k_cmpL.2.1.mp h) H locs ls hP hD hS hl) (fun h => kf (Classical.byContradiction fun q => h (k_cmpL.2.1.mpr q)) H locs ls hP hD hS hl))
theorem k_lcmp_gt (F : kF g E l R cc own Ts nL) {pc : Nat} {off : Int} {x y : Int64} (tgt : Nat) (hd : decode cc pc = .ok (.lcmp, 1)) (hd2 : decode cc (pc + 1) = .ok (.ifCond .gt off, 3)) (ht : ((pc + 1 : Nat) : Int) + off = (tgt : Int)) (kt : y < x → kK g ws lv ce sl tgt st) (kf : ¬ y < x → kK g ws lv ce sl (pc + 4) st) : kK g ws lv ce sl pc (.long y :: .long x :: st) := by
  obtain ⟨p, l', e, R', s, m, args, below, meth, c, D, A, nL', Q⟩ := g
  obtain ⟨hx, hb, hml, hown, hts, hK, hA, rfl, rfl, rfl, rfl⟩ := F
  intro H locs ls hP hD hS hl
  exact W.lcmp hx hb hd (lv_if_gt hx hb hd2 ht (fun h => kt (k_cmpL.2.2.1.mp h) H locs ls hP hD hS hl) (fun h => kf (fun q => h (k_cmpL.2.2.1.mpr q)) H locs ls hP hD hS hl))
theorem k_lcmp_le (F : kF g E l R cc own Ts nL) {pc : Nat} {off : Int} {x y : Int64} (tgt : Nat) (hd : decode cc pc = .ok (.lcmp, 1)) (hd2 : decode cc (pc + 1) = .ok (.ifCond .le off, 3)) (ht : ((pc + 1 : Nat) : Int) + off = (tgt : Int)) (kt : ¬ y < x → kK g ws lv ce sl tgt st) (kf : y < x → kK g ws lv ce sl (pc + 4) st) : kK g ws lv ce sl pc (.long y :: .long x :: st) := by
  obtain ⟨p, l', e, R', s, m, args, below, meth, c, D, A, nL', Q⟩ := g
  obtain ⟨hx, hb, hml, hown, hts, hK, hA, rfl, rfl, rfl, rfl⟩ := F
  intro H locs ls hP hD hS hl
  exact W.lcmp hx hb hd (lv_if_le hx hb hd2 ht (fun h => kt (k_cmpL.2.2.2.1.mp h) H locs ls hP hD hS hl) (fun h => kf (Classical.byContradiction fun q => h (k_cmpL.2.2.2.1.mpr q)) H locs ls hP hD hS hl))
theorem k_lcmp_eq (F : kF g E l R cc own Ts nL) {pc : Nat} {off : Int} {x y : Int64} (tgt : Nat) (hd : decode cc pc = .ok (.lcmp, 1)) (hd2 : decode cc (pc + 1) = .ok (.ifCond .eq off, 3)) (ht : ((pc + 1 : Nat) : Int) + off = (tgt : Int)) (kt : x = y → kK g ws lv ce sl tgt st) (kf : ¬ x = y → kK g ws lv ce sl (pc + 4) st) : kK g ws lv ce sl pc (.long y :: .long x :: st) := by
  obtain ⟨p, l', e, R', s, m, args, below, meth, c, D, A, nL', Q⟩ := g
  obtain ⟨hx, hb, hml, hown, hts, hK, hA, rfl, rfl, rfl, rfl⟩ := F
  intro H locs ls hP hD hS hl
  exact W.lcmp hx hb hd (lv_if_eq hx hb hd2 ht (fun h => kt (k_cmpL.2.2.2.2.mp h) H locs ls hP hD hS hl) (fun h => kf (fun q => h (k_cmpL.2.2.2.2.mpr q)) H locs ls hP hD hS hl))
theorem k_lcmp_ne (F : kF g E l R cc own Ts nL) {pc : Nat} {off : Int} {x y : Int64} (tgt : Nat) (hd : decode cc pc = .ok (.lcmp, 1)) (hd2 : decode cc (pc + 1) = .ok (.ifCond .ne off, 3)) (ht : ((pc + 1 : Nat) : Int) + off = (tgt : Int)) (kt : ¬ x = y → kK g ws lv ce sl tgt st) (kf : x = y → kK g ws lv ce sl (pc + 4) st) : kK g ws lv ce sl pc (.long y :: .long x :: st) := by
  obtain ⟨p, l', e, R', s, m, args, below, meth, c, D, A, nL', Q⟩ := g
  obtain ⟨hx, hb, hml, hown, hts, hK, hA, rfl, rfl, rfl, rfl⟩ := F
  intro H locs ls hP hD hS hl
  exact W.lcmp hx hb hd (lv_if_ne hx hb hd2 ht (fun h => kt (fun q => h (k_cmpL.2.2.2.2.mpr q)) H locs ls hP hD hS hl) (fun h => kf (k_cmpL.2.2.2.2.mp h) H locs ls hP hD hS hl))
theorem k_tabIn (F : kF g E l R cc own Ts nL) {pc : Nat} {dflt lo hi : Int} {offs : Array Int} {len : Nat} {x : Int32} {off : Int} (k : Int) (tgt : Nat) (hd : decode cc pc = .ok (.tableswitch dflt lo hi offs, len)) (hk : x.toInt = k) (h1 : ¬ k < lo) (h2 : ¬ hi < k) (ho : offs[(k - lo).toNat]? = some off) (ht : (pc : Int) + off = (tgt : Int)) (kk : kK g ws lv ce sl tgt st) : kK g ws lv ce sl pc (.int x :: st) := by
  obtain ⟨p, l', e, R', s, m, args, below, meth, c, D, A, nL', Q⟩ := g
  obtain ⟨hx, hb, hml, hown, hts, hK, hA, rfl, rfl, rfl, rfl⟩ := F
  intro H locs ls hP hD hS hl
  subst hk
  exact lv_tableIn hx hb hd h1 h2 ho ht (kk H locs ls hP hD hS hl)
theorem k_tabOut (F : kF g E l R cc own Ts nL) {pc : Nat} {dflt lo hi : Int} {offs : Array Int} {len : Nat} {x : Int32} (tgt : Nat) (hd : decode cc pc = .ok (.tableswitch dflt lo hi offs, len)) (h : x.toInt < lo ∨ hi < x.toInt) (ht : (pc : Int) + dflt = (tgt : Int)) (kk : kK g ws lv ce sl tgt st) : kK g ws lv ce sl pc (.int x :: st) := by
  obtain ⟨p, l', e, R', s, m, args, below, meth, c, D, A, nL', Q⟩ := g
  obtain ⟨hx, hb, hml, hown, hts, hK, hA, rfl, rfl, rfl, rfl⟩ := F
  intro H locs ls hP hD hS hl
  exact lv_tableOut hx hb hd h ht (kk H locs ls hP hD hS hl)
theorem k_look (F : kF g E l R cc own Ts nL) {pc : Nat} {dflt : Int} {ps : Array (Int × Int)} {len : Nat} {x : Int32} {off : Int} (tgt : Nat) (hd : decode cc pc = .ok (.lookupswitch dflt ps, len)) (hp : (ps.toList.zip (ps.toList.drop 1)).all (fun (a, next) => a.1 < next.1) = true) (ho : Op.lookupswitch.offset ps.toList dflt x.toInt = off) (ht : (pc : Int) + off = (tgt : Int)) (kk : kK g ws lv ce sl tgt st) : kK g ws lv ce sl pc (.int x :: st) := by
  obtain ⟨p, l', e, R', s, m, args, below, meth, c, D, A, nL', Q⟩ := g
  obtain ⟨hx, hb, hml, hown, hts, hK, hA, rfl, rfl, rfl, rfl⟩ := F
  intro H locs ls hP hD hS hl
  exact lv_lookup hx hb hd hp ho ht (kk H locs ls hP hD hS hl)
theorem k_get (F : kF g E l R cc own Ts nL) {pc : Nat} {ref C : String} {T : u_T} {N ci index a : Nat} {fs : List Value} {v : Value} (q0 k : Nat) (hd : decode cc pc = .ok (.getfield index, 3)) (hin : ∀ w ∈ u_ws C T N, w ∈ Ts) (he : ws[q0]? = some (a, .inr (ci, fs))) (hc : vwCl[ci]? = some (C, T, N)) (hk : k < N) (hlink : Cond.fieldLink own index ref (T k).2.1 (T k).2.2.1 ∈ Ts) (hsame : (T k).1 = ref) (hv : fs[k]? = some v) (kk : kK g ws lv ce sl (pc + 3) (v :: st)) : kK g ws lv ce sl pc (.ref a :: st) := by
  obtain ⟨p, l', e, R', s, m, args, below, meth, c, D, A, nL', Q⟩ := g
  obtain ⟨hx, hb, hml, hown, hts, hK, hA, rfl, rfl, rfl, rfl⟩ := F
  intro H locs ls hP hD hS hl
  subst hsame
  exact va_get hx hb hts hin hown hK hP q0 he hc k hk (hts _ hlink) (fun _ h => h) hv hd (kk H locs ls hP hD hS hl)
theorem k_put (F : kF g E l R cc own Ts nL) {pc : Nat} {ref C : String} {T : u_T} {N ci index a : Nat} {fs : List Value} {v : Value} {ty : FieldType} (ty0 : Nat → FieldType) (q0 k : Nat) (ws' : va_W) (hd : decode cc pc = .ok (.putfield index, 3)) (hin : ∀ w ∈ u_ws C T N, w ∈ Ts) (hty : ∀ k, k < N → parseFieldDescriptor (T k).2.2.1 = some (ty0 k)) (hnm : ∀ a, a < N → ∀ b, b < N → a ≠ b → (T a).2.1 ≠ (T b).2.1) (he : ws[q0]? = some (a, .inr (ci, fs))) (hc : vwCl[ci]? = some (C, T, N)) (hk : k < N) (hlink : Cond.fieldLink own index ref (T k).2.1 (T k).2.2.1 ∈ Ts) (hsame : (T k).1 = ref) (hfin : (T k).2.2.2 = false) (hdt : parseFieldDescriptor (T k).2.2.1 = some ty) (hn : narrow ty v = v) (hfit : fits ty v = true) (hlf : k < fs.length) (hws : ws.set q0 (a, .inr (ci, fs.set k v)) = ws') (kk : kK g ws' lv ce sl (pc + 3) st) : kK g ws lv ce sl pc (v :: .ref a :: st) := by
  obtain ⟨p, l', e, R', s, m, args, below, meth, c, D, A, nL', Q⟩ := g
  obtain ⟨hx, hb, hml, hown, hts, hK, hA, rfl, rfl, rfl, rfl⟩ := F
  intro H locs ls hP hD hS hl
  subst hsame; subst hws
  exact va_put hx hb hts hin ty0 hty hnm hown hK hP hD hS q0 he hc k hk (hts _ hlink) (fun _ h => h) hfin hdt hn hfit hlf hd (fun H1 l1 hP hD hS => kk H1 l1 ls hP hD hS hl)
theorem k_putF (F : kF g E l R cc own Ts nL) {ret : Option FieldType} {mc ms : Nat} {Pf : Option Value → va_W → Prop} (Rr : kRet g E "<init>" ret mc ms Pf) {pc : Nat} {ref C : String} {T : u_T} {N ci index a : Nat} {fs : List Value} {v : Value} {ty : FieldType} (ty0 : Nat → FieldType) (q0 k : Nat) (ws' : va_W) (hd : decode cc pc = .ok (.putfield index, 3)) (hin : ∀ w ∈ u_ws C T N, w ∈ Ts) (hty : ∀ k, k < N → parseFieldDescriptor (T k).2.2.1 = some (ty0 k)) (hnm : ∀ a, a < N → ∀ b, b < N → a ≠ b → (T a).2.1 ≠ (T b).2.1) (he : ws[q0]? = some (a, .inr (ci, fs))) (hc : vwCl[ci]? = some (C, T, N)) (hk : k < N) (hlink : Cond.fieldLink own index ref (T k).2.1 (T k).2.2.1 ∈ Ts) (hsame : (T k).1 = ref) (hfin : (T k).2.2.2 = true) (hdecl : (T k).1 = own) (hdt : parseFieldDescriptor (T k).2.2.1 = some ty) (hn : narrow ty v = v) (hfit : fits ty v = true) (hlf : k < fs.length) (hws : ws.set q0 (a, .inr (ci, fs.set k v)) = ws') (kk : kK g ws' lv ce sl (pc + 3) st) : kK g ws lv ce sl pc (v :: .ref a :: st) := by
  obtain ⟨p, l', e, R', s, m, args, below, meth, c, D, A, nL', Q⟩ := g
  obtain ⟨hx, hb, hml, hown, hts, hK, hA, rfl, rfl, rfl, rfl⟩ := F
  intro H locs ls hP hD hS hl
  subst hsame; subst hws
  obtain ⟨hr1, hr2, hr3, hr4⟩ := Rr
  exact va_putF hx hb hts hin ty0 hty hnm hown hK hP hD hS q0 he hc k hk (hts _ hlink) (fun _ h => h) hfin hr3 hdecl hdt hn hfit hlf hd (fun H1 l1 hP hD hS => kk H1 l1 ls hP hD hS hl)
theorem k_iald (F : kF g E l R cc own Ts nL) {pc : Nat} {a n i : Nat} {f : Nat → Int32} (q0 : Nat) (hd : decode cc pc = .ok (.iaload, 1)) (he : ws[q0]? = some (cInt E a n f)) (hi : i < n) (hn : n < 2 ^ 31) (kk : kK g ws lv ce sl (pc + 1) (.int (f i) :: st)) : kK g ws lv ce sl pc (.int (nI i) :: .ref a :: st) := by
  obtain ⟨p, l', e, R', s, m, args, below, meth, c, D, A, nL', Q⟩ := g
  obtain ⟨hx, hb, hml, hown, hts, hK, hA, rfl, rfl, rfl, rfl⟩ := F
  intro H locs ls hP hD hS hl
  exact va_iald hx hb hK hP q0 0 he rfl (vp_in_nI hi hn) hd (by rw [nI_clamp (Nat.lt_trans hi hn)]; exact (kk H locs ls hP hD hS hl))
theorem k_lald (F : kF g E l R cc own Ts nL) {pc : Nat} {a n i : Nat} {f : Nat → Int64} (q0 : Nat) (hd : decode cc pc = .ok (.laload, 1)) (he : ws[q0]? = some (cLng E a n f)) (hi : i < n) (hn : n < 2 ^ 31) (kk : kK g ws lv ce sl (pc + 1) (.long (f i) :: st)) : kK g ws lv ce sl pc (.int (nI i) :: .ref a :: st) := by
  obtain ⟨p, l', e, R', s, m, args, below, meth, c, D, A, nL', Q⟩ := g
  obtain ⟨hx, hb, hml, hown, hts, hK, hA, rfl, rfl, rfl, rfl⟩ := F
  intro H locs ls hP hD hS hl
  exact va_lald hx hb hK hP q0 1 he rfl (vp_in_nI hi hn) hd (by rw [nI_clamp (Nat.lt_trans hi hn)]; exact (kk H locs ls hP hD hS hl))
theorem k_zald (F : kF g E l R cc own Ts nL) {pc : Nat} {a n i : Nat} {f : Nat → Bool} (q0 : Nat) (hd : decode cc pc = .ok (.baload, 1)) (he : ws[q0]? = some (cBoo E a n f)) (hi : i < n) (hn : n < 2 ^ 31) (kk : kK g ws lv ce sl (pc + 1) (.int (bI (f i)) :: st)) : kK g ws lv ce sl pc (.int (nI i) :: .ref a :: st) := by
  obtain ⟨p, l', e, R', s, m, args, below, meth, c, D, A, nL', Q⟩ := g
  obtain ⟨hx, hb, hml, hown, hts, hK, hA, rfl, rfl, rfl, rfl⟩ := F
  intro H locs ls hP hD hS hl
  refine va_zald hx hb hK hP q0 2 he rfl (vp_in_nI hi hn) hd ?_
  rw [nI_clamp (Nat.lt_trans hi hn)]
  exact (kk H locs ls hP hD hS hl)
theorem k_iast (F : kF g E l R cc own Ts nL) {pc : Nat} {a n i : Nat} {f : Nat → Int32} {x : Int32} (q0 : Nat) (ws' : (Nat → Int32) → va_W) (hd : decode cc pc = .ok (.iastore, 1)) (he : ws[q0]? = some (cInt E a n f)) (hi : i < n) (hn : n < 2 ^ 31) (hws : ∀ f', ws.set q0 (cInt E a n f') = ws' f') (kk : ∀ f', f' = upd f i x → kK g (ws' f') lv ce sl (pc + 1) st) : kK g ws lv ce sl pc (.int x :: .int (nI i) :: .ref a :: st) := by
  obtain ⟨p, l', e, R', s, m, args, below, meth, c, D, A, nL', Q⟩ := g
  obtain ⟨hx, hb, hml, hown, hts, hK, hA, rfl, rfl, rfl, rfl⟩ := F
  intro H locs ls hP hD hS hl
  refine va_iast hx hb hK hP hD hS q0 0 he rfl (vp_in_nI hi hn) hd ?_
  rw [nI_clamp (Nat.lt_trans hi hn)]
  have hw := hws (upd f i x)
  intro H1 l1 hP1 hD1 hS1
  exact kk _ rfl H1 l1 ls (hw ▸ hP1) (hw ▸ hD1) hS1 hl
theorem k_last (F : kF g E l R cc own Ts nL) {pc : Nat} {a n i : Nat} {f : Nat → Int64} {x : Int64} (q0 : Nat) (ws' : (Nat → Int64) → va_W) (hd : decode cc pc = .ok (.lastore, 1)) (he : ws[q0]? = some (cLng E a n f)) (hi : i < n) (hn : n < 2 ^ 31) (hws : ∀ f', ws.set q0 (cLng E a n f') = ws' f') (kk : ∀ f', f' = vp_updL f i x → kK g (ws' f') lv ce sl (pc + 1) st) : kK g ws lv ce sl pc (.long x :: .int (nI i) :: .ref a :: st) := by
  obtain ⟨p, l', e, R', s, m, args, below, meth, c, D, A, nL', Q⟩ := g
  obtain ⟨hx, hb, hml, hown, hts, hK, hA, rfl, rfl, rfl, rfl⟩ := F
  intro H locs ls hP hD hS hl
  refine va_last hx hb hK hP hD hS q0 1 he rfl (vp_in_nI hi hn) hd ?_
  rw [nI_clamp (Nat.lt_trans hi hn)]
  have hw := hws (vp_updL f i x)
  intro H1 l1 hP1 hD1 hS1
  exact kk _ rfl H1 l1 ls (hw ▸ hP1) (hw ▸ hD1) hS1 hl
theorem k_upB (f : Nat → Bool) (k : Nat) (b : Bool) : upd (fun j => bI (f j)) k (vp_nar .boolean (bI b)) = fun j => bI (upB f k b j) := by
  have e : vp_nar .boolean (bI b) = bI b := by cases b <;> decide
  rw [e]
  funext j
  by_cases h : j = k <;> simp [upd, upB, h]
theorem k_zast (F : kF g E l R cc own Ts nL) {pc : Nat} {a n i : Nat} {f : Nat → Bool} {x : Int32} (b : Bool) (q0 : Nat) (ws' : (Nat → Bool) → va_W) (hd : decode cc pc = .ok (.bastore, 1)) (hxb : x = bI b) (he : ws[q0]? = some (cBoo E a n f)) (hi : i < n) (hn : n < 2 ^ 31) (hws : ∀ f', ws.set q0 (cBoo E a n f') = ws' f') (kk : ∀ f', f' = upB f i b → kK g (ws' f') lv ce sl (pc + 1) st) : kK g ws lv ce sl pc (.int x :: .int (nI i) :: .ref a :: st) := by
  obtain ⟨p, l', e, R', s, m, args, below, meth, c, D, A, nL', Q⟩ := g
  obtain ⟨hx, hb, hml, hown, hts, hK, hA, rfl, rfl, rfl, rfl⟩ := F
  intro H locs ls hP hD hS hl
  subst hxb
  refine va_zast hx hb hK hP hD hS q0 2 he rfl (vp_in_nI hi hn) hd ?_
  rw [nI_clamp (Nat.lt_trans hi hn), k_upB]
  have hw := hws (upB f i b)
  intro H1 l1 hP1 hD1 hS1
  exact kk _ rfl H1 l1 ls (hw ▸ hP1) (hw ▸ hD1) hS1 hl
theorem k_topi {pc : Nat} {x : Int32} (y : Int32) (h : x = y) (kk : kK g ws lv ce sl pc (.int y :: st)) : kK g ws lv ce sl pc (.int x :: st) := h ▸ kk
theorem k_topl {pc : Nat} {x : Int64} (y : Int64) (h : x = y) (kk : kK g ws lv ce sl pc (.long y :: st)) : kK g ws lv ce sl pc (.long x :: st) := h ▸ kk
theorem k_perm {pc : Nat} (ws' : va_W) (is : List Nat) (hn : va_nd is = true) (hs : is.map (fun i => ws[i]?) = ws'.map some) (kk : kK g ws' lv ce sl pc st) : kK g ws lv ce sl pc st := by
  obtain ⟨p, l', e, R', s, m, args, below, meth, c, D, A, nL', Q⟩ := g
  intro H locs ls hP hD hS hl
  exact kk H locs ls (hP.sub is (k_fm hs)) (hD.sub is hn hs) hS hl
theorem k_lv {pc : Nat} (lv' : List (Nat × Value)) (is : List Nat) (hs : lv_pick lv is = lv') (kk : kK g ws lv' ce sl pc st) : kK g ws lv ce sl pc st := by
  obtain ⟨p, l', e, R', s, m, args, below, meth, c, D, A, nL', Q⟩ := g
  intro H locs ls hP hD hS hl
  exact kk H locs ls hP hD hS (lv_sub hl is hs)
theorem k_wide {pc : Nat} (ce' sl' : Nat) (h1 : ce ≤ ce') (h2 : sl ≤ sl') (kk : kK g ws lv ce' sl' pc st) : kK g ws lv ce sl pc st := by
  obtain ⟨p, l', e, R', s, m, args, below, meth, c, D, A, nL', Q⟩ := g
  intro H locs ls hP hD hS hl
  exact W.widen h1 h2 (kk H locs ls hP hD hS hl)
theorem k_iret (F : kF g E l R cc own Ts nL) {mc ms : Nat} {Pf : Option Value → va_W → Prop} {nm : String} (Rr : kRet g E nm (some .int) mc ms Pf) {pc : Nat} {v : Int32} (hd : decode cc pc = .ok (.ireturn, 1)) (hp : Pf (some (.int v)) ws) : kK g ws lv mc ms pc [.int v] := by
  obtain ⟨p, l', e, R', s, m, args, below, meth, c, D, A, nL', Q⟩ := g
  obtain ⟨hx, hb, hml, hown, hts, hK, hA, rfl, rfl, rfl, rfl⟩ := F
  obtain ⟨hr, hlocks, -, rfl⟩ := Rr
  intro H locs ls hP hD hS hl
  exact W.iret hx hb hr (fun t ht hW => ⟨⟨_, ws, rfl, hp, by rw [ht]; exact hP, va_K.moved hW.alike hK, hD⟩, hS.F ht⟩) hS.2.2 hd
theorem k_lret (F : kF g E l R cc own Ts nL) {mc ms : Nat} {Pf : Option Value → va_W → Prop} {nm : String} (Rr : kRet g E nm (some .long) mc ms Pf) {pc : Nat} {v : Int64} (hd : decode cc pc = .ok (.lreturn, 1)) (hp : Pf (some (.long v)) ws) : kK g ws lv mc ms pc [.long v] := by
  obtain ⟨p, l', e, R', s, m, args, below, meth, c, D, A, nL', Q⟩ := g
  obtain ⟨hx, hb, hml, hown, hts, hK, hA, rfl, rfl, rfl, rfl⟩ := F
  obtain ⟨hr, hlocks, -, rfl⟩ := Rr
  intro H locs ls hP hD hS hl
  exact W.lret hx hb hr (fun t ht hW => ⟨⟨_, ws, rfl, hp, by rw [ht]; exact hP, va_K.moved hW.alike hK, hD⟩, hS.F ht⟩) hS.2.2 hd
theorem k_vret (F : kF g E l R cc own Ts nL) {mc ms : Nat} {Pf : Option Value → va_W → Prop} {nm : String} (Rr : kRet g E nm none mc ms Pf) {pc : Nat} (hd : decode cc pc = .ok (.return_, 1)) (hp : Pf none ws) : kK g ws lv mc ms pc [] := by
  obtain ⟨p, l', e, R', s, m, args, below, meth, c, D, A, nL', Q⟩ := g
  obtain ⟨hx, hb, hml, hown, hts, hK, hA, rfl, rfl, rfl, rfl⟩ := F
  obtain ⟨hr, hlocks, -, rfl⟩ := Rr
  intro H locs ls hP hD hS hl
  exact W.vret hx hb hr (fun t ht hW => ⟨⟨_, ws, rfl, hp, by rw [ht]; exact hP, va_K.moved hW.alike hK, hD⟩, hS.F ht⟩) hS.2.2 hd
theorem k_zret (F : kF g E l R cc own Ts nL) {mc ms : Nat} {Pf : Option Value → va_W → Prop} {nm : String} (Rr : kRet g E nm (some .boolean) mc ms Pf) {pc : Nat} {x : Int32} (b : Bool) (hd : decode cc pc = .ok (.ireturn, 1)) (hxb : x = bI b) (hp : Pf (some (.int (bI b))) ws) : kK g ws lv mc ms pc [.int x] := by
  obtain ⟨p, l', e, R', s, m, args, below, meth, c, D, A, nL', Q⟩ := g
  obtain ⟨hx, hb, hml, hown, hts, hK, hA, rfl, rfl, rfl, rfl⟩ := F
  obtain ⟨hr, hlocks, -, rfl⟩ := Rr
  intro H locs ls hP hD hS hl
  subst hxb
  exact W.zret hx hb hr (by cases b <;> decide) (fun t ht hW => ⟨⟨_, ws, rfl, hp, by rw [ht]; exact hP, va_K.moved hW.alike hK, hD⟩, hS.F ht⟩) hS.2.2 hd
theorem k_run {p : Program} {e : Env} {s : State} {m : MethodId} {args : Array Value} {below : List Frame} {meth : Method} {c : Code} {A : Nat → Prop} {Q : State → Prop} {H : Heap} {locs : List Loc} {ls : Array Slot} {pc mc ms : Nat} {st0 rest : List Value} {w0 wr : va_W} {Pf : Option Value → va_W → Prop} {a : Array Value}
    (hr : va_Run p l e R s m args below meth c H locs ce sl mc ms (F0 m pc ls st0) rest (kQ E (va_A w0 H.size) Pf a) (va_A w0 H.size)) (hP : va_P E.1 vwCl ws H) (hD : va_D A ws) (hS : va_S A s.heap H locs) (hA : ∀ q, s.heap.size ≤ q → A q) (hl : lv_has ls nL lv)
    (isC isR : List Nat) (hC : isC.map (fun i => ws[i]?) = w0.map some) (hRr : isR.map (fun i => ws[i]?) = wr.map some) (hn : va_nd isR = true) (hdis : ∀ i ∈ isR, i ∉ isC)
    (kk : ∀ (v : Option Value) (w1 : va_W), Pf v w1 → kK (p, l, e, R, s, m, args, below, meth, c, E.1, A, nL, Q) (wr ++ w1) lv (ce + mc) (sl + ms) (pc + 3) (v.toList ++ rest)) : W p l e R s m args below meth c H locs ce sl Q (F0 m pc ls st0) := by
  intro T hT X
  obtain ⟨v, st₀, t, T', L, h0, X', hL, e1, e2, ⟨⟨v2, w1, hv, hp, hP1, hK1, hD1⟩, hz, hk⟩, st⟩ := hr T hT X
  cases hv
  rw [h0] at hz hk
  have hF := va_free hD hS hA isC hC
  rw [← e1] at hz hP1
  have hk' : ∀ q : Nat, q < H.size → ¬ va_A w0 H.size q → T'.heap[q]? = H[q]? := fun q h1 h2 => by rw [e1]; exact hk q h1 h2
  obtain ⟨hP2, hD2⟩ := va_join hP hD isC isR hC hRr hn hdis hk' hF hP1 hD1
  obtain ⟨t2, a1, b1⟩ := kk v w1 hp T'.heap (locs ++ L) ls hP2 hD2
    ⟨Nat.le_trans hS.1 hz, fun q h1 h2 => by rw [hk' q (Nat.lt_of_lt_of_le h1 hS.1) (fun z => h2 (hF q z))]; exact hS.2.1 q h1 h2, fun q hq => by
      rcases List.mem_append.mp hq with h | h
      · exact hS.2.2 q h
      · exact hF _ (hL q h)⟩ hl T' rfl X'
  exact ⟨t2, st t2 a1, b1⟩
theorem k_pc {av : List Value} {sz : Nat} {w0 : va_W} : FrameBlind (va_Pc av (fun U => U.heap.size = sz ∧ va_P E.1 vwCl w0 U.heap ∧ va_K E.1 vwCl (kTy E) U ∧ va_D (fun _ => True) w0)) := fun a U g mk q => by
  obtain ⟨q0, q1, qP, qK, qD⟩ := q
  exact ⟨q0, q1, qP, va_K.moved (u := U) (U := U.calling g mk a) (Vm.Alike.refl U.vm) qK, qD⟩
theorem k_callV (F : kF g E l R cc own Ts nL) {pc : Nat} {y : MethodName} {wsC ws'' : List Cond} {rm : Room} {b index maxL ci mc ms : Nat} {C : String} {T : u_T} {N : Nat} {bytes : ByteArray} {ret : Option FieldType} {fs : List Value} {Pf : Option Value → va_W → Prop} (As rest : List Value) (n : Nat) (w0 wr : va_W) (isC isR : List Nat) (hM : kC l y wsC rm E (.ref b :: As) w0 mc ms Pf) (hd : decode cc pc = .ok (.invokevirtual index, 3)) (hG : GoodIn Ts (wsV own index C y wsC)) (hw : wsC = Cond.code y bytes maxL ret :: ws'') (hy : y.cls = C ∧ y.cls ≠ "java/lang/invoke/MethodHandle" ∧ y.cls ≠ "java/lang/invoke/VarHandle" ∧ (parseMethodDescriptor y.desc).map (fun d => d.parameters.length) = some n) (hAs : As.length = n) (hrm : rm.cells = mc ∧ rm.slots = ms) (hR : rm.frames + 1 ≤ R.frames ∧ 8 + (maxL + 11) + rm.locals ≤ R.locals) (hst : st = As.reverse ++ .ref b :: rest) (hro : (rest.map fun v => v.category).sum ≤ 8) (hcs : ce + mc ≤ R.cells ∧ sl + ms ≤ R.slots) (hrec : w0[0]? = some (b, .inr (ci, fs))) (hcl : vwCl[ci]? = some (C, T, N)) (hC : isC.map (fun i => ws[i]?) = w0.map some) (hRr : isR.map (fun i => ws[i]?) = wr.map some) (hnC : va_nd isC = true) (hn : va_nd isR = true) (hdis : ∀ i ∈ isR, i ∉ isC)
    (kk : ∀ (v : Option Value) (w1 : va_W), Pf v w1 → kK g (wr ++ w1) lv (ce + mc) (sl + ms) (pc + 3) (v.toList ++ rest)) : kK g ws lv ce sl pc st := by
  obtain ⟨p, l', e, R', s, m, args, below, meth, c, D, A, nL', Q⟩ := g
  obtain ⟨hx, hb, hml, hown, hts, hK, hA, rfl, rfl, rfl, rfl⟩ := F
  intro H locs ls hP hD hS hl
  subst hst; subst hAs
  have hPc := hP.sub isC (k_fm hC)
  have hDc := hD1 hnC hD hC
  exact k_run (va_runV (As := As) (rest := rest) ⟨hx, hb, hml, hown, hts⟩ (hM H.size) (cwV As.length hts hG hw hrm.1 hrm.2 hy hR) ⟨k_pc, va_recv hK hPc hcl hrec, fun U hU hW => ⟨rfl, by rw [hU], by rw [hU]; exact hPc, va_K.moved hW.alike hK, hDc⟩⟩ rfl rfl hl.1 rfl (lv_room hro) hd hcs) hP hD hS hA hl isC isR hC hRr hn hdis kk

theorem k_callS (F : kF g E l R cc own Ts nL) {pc : Nat} {y : MethodName} {wsC ws'' : List Cond} {rm : Room} {index maxL mc ms : Nat} {bytes : ByteArray} {ret : Option FieldType} {Pv : Option Value → Prop} (As rest : List Value) (n : Nat) (hM : kC l y wsC rm E As [] mc ms (fun v w1 => w1 = [] ∧ Pv v)) (hd : decode cc pc = .ok (.invokestatic index, 3)) (hG : GoodIn Ts (va_wsS own index y wsC)) (hw : wsC = Cond.code y bytes maxL ret :: ws'') (hy : y.cls ≠ "java/lang/invoke/MethodHandle" ∧ y.cls ≠ "java/lang/invoke/VarHandle" ∧ (parseMethodDescriptor y.desc).map (fun d => d.parameters.length) = some n) (hAs : As.length = n) (hrm : rm.cells = mc ∧ rm.slots = ms) (hR : rm.frames + 1 ≤ R.frames ∧ 8 + (maxL + 11) + rm.locals ≤ R.locals) (hst : st = As.reverse ++ rest) (hro : (rest.map fun v => v.category).sum ≤ 8) (hcs : ce + mc ≤ R.cells ∧ sl + ms ≤ R.slots)
    (kk : ∀ (v : Option Value), Pv v → kK g ws lv (ce + mc) (sl + ms) (pc + 3) (v.toList ++ rest)) : kK g ws lv ce sl pc st := by
  obtain ⟨p, l', e, R', s, m, args, below, meth, c, D, A, nL', Q⟩ := g
  obtain ⟨hx, hb, hml, hown, hts, hK, hA, rfl, rfl, rfl, rfl⟩ := F
  intro H locs ls hP hD hS hl
  subst hst; subst hAs
  have hD0 : va_D (fun _ => True) [] := ⟨fun i j p q h => by simp at h, fun k q h => by simp at h⟩
  have hP0 : va_P E.1 vwCl [] H := fun k q h => by simp at h
  have hr := va_runS (p := p) (e := e) (below := below) (meth := meth) (locs := locs) (cells := ce) (slots := sl) (g := F0 m pc ls (As.reverse ++ rest)) (As := As) (rest := rest) ⟨hx, hb, hml, hown, hts⟩ (hM H.size) (va_cwS As.length hts hG hw hrm.1 hrm.2 hy hR) ⟨k_pc, fun U hU hW => ⟨rfl, by rw [hU], by rw [hU]; exact hP0, va_K.moved hW.alike hK, hD0⟩⟩ rfl rfl hl.1 rfl (lv_room hro) hd hcs
  intro T hT X
  obtain ⟨v, st₀, t, T', L, h0, X', hL, e1, e2, ⟨⟨v2, w1, hv, ⟨hp0, hp⟩, hP1, hK1, hD1⟩, hz, hk⟩, st⟩ := hr T hT X
  cases hv
  rw [h0] at hz hk
  have hF : ∀ q, va_A [] H.size q → A q := fun q h => by
    rcases h with ⟨k, e, h⟩ | h
    · simp at h
    · exact hA q (Nat.le_trans hS.1 h)
  rw [← e1] at hz
  have hk' : ∀ q : Nat, q < H.size → T'.heap[q]? = H[q]? := fun q h1 => by
    rw [e1]
    refine hk q h1 (fun h => ?_)
    rcases h with ⟨k, e, h⟩ | h
    · simp at h
    · omega
  obtain ⟨t2, a1, b1⟩ := kk v hp T'.heap (locs ++ L) ls (hP.kept (fun k q hq => hk' q.1 (hP k q hq).lt)) hD
    ⟨Nat.le_trans hS.1 hz, fun q h1 h2 => by rw [hk' q (Nat.lt_of_lt_of_le h1 hS.1)]; exact hS.2.1 q h1 h2, fun q hq => by
      rcases List.mem_append.mp hq with h | h
      · exact hS.2.2 q h
      · exact hF _ (hL q h)⟩ hl T' rfl X'
  exact ⟨t2, st t2 a1, b1⟩
theorem k_mmax (F : kF g E l R cc own Ts nL) {pc index : Nat} {x y : Int64} (hd : decode cc pc = .ok (.invokestatic index, 3)) (h1 : Cond.methodLink own index Lib.MathLoose.max_long.x ∈ Ts) (h2 : Cond.static Lib.MathLoose.max_long.x ∈ Ts) (h3 : Cond.initialized "java/lang/Math" ∈ Ts) (h4 : Cond.code Lib.MathLoose.max_long.x Lib.MathLoose.max_long.code 4 (some .long) ∈ Ts) (hfr : 1 ≤ R.frames) (hlo : (st.map fun v => v.category).sum + 15 ≤ R.locals) (hc : ce ≤ R.cells) (hs : sl ≤ R.slots) (kk : kK g ws lv ce sl (pc + 3) (.long (if y < x then x else y) :: st)) : kK g ws lv ce sl pc (.long y :: .long x :: st) := by
  obtain ⟨p, l', e, R', s, m, args, below, meth, c, D, A, nL', Q⟩ := g
  obtain ⟨hx, hb, hml, hown, hts, hK, hA, rfl, rfl, rfl, rfl⟩ := F
  intro H locs ls hP hD hS hl
  exact va_mmax_long hx hb (hml.trans hl.1.symm) hown (hts _ h1) (hts _ h2) (hts _ h3) (hts _ h4) hfr hlo hc hs hd (kk H locs ls hP hD hS hl)
theorem k_mmin (F : kF g E l R cc own Ts nL) {pc index : Nat} {x y : Int64} (hd : decode cc pc = .ok (.invokestatic index, 3)) (h1 : Cond.methodLink own index Lib.MathLoose.min_long.x ∈ Ts) (h2 : Cond.static Lib.MathLoose.min_long.x ∈ Ts) (h3 : Cond.initialized "java/lang/Math" ∈ Ts) (h4 : Cond.code Lib.MathLoose.min_long.x Lib.MathLoose.min_long.code 4 (some .long) ∈ Ts) (hfr : 1 ≤ R.frames) (hlo : (st.map fun v => v.category).sum + 15 ≤ R.locals) (hc : ce ≤ R.cells) (hs : sl ≤ R.slots) (kk : kK g ws lv ce sl (pc + 3) (.long (if y < x then y else x) :: st)) : kK g ws lv ce sl pc (.long y :: .long x :: st) := by
  obtain ⟨p, l', e, R', s, m, args, below, meth, c, D, A, nL', Q⟩ := g
  obtain ⟨hx, hb, hml, hown, hts, hK, hA, rfl, rfl, rfl, rfl⟩ := F
  intro H locs ls hP hD hS hl
  exact va_mmin_long hx hb (hml.trans hl.1.symm) hown (hts _ h1) (hts _ h2) (hts _ h3) (hts _ h4) hfr hlo hc hs hd (kk H locs ls hP hD hS hl)
end KL
end
section
/-! the mathematical value: what a scan is, in Int64 -/
def MINI : Int64 := -2147483648
def MAXI : Int64 := 2147483647
abbrev IV := Nat → Int64
abbrev ST := Nat → Option (IV × IV)
def upS (S : ST) (q : Nat) (x : Option (IV × IV)) : ST := fun j => if j = q then x else S j
def Rep (on : Nat → Bool) (lo hi : Nat → Int64) (S : ST) : Prop := ∀ q, q < 24 → (S q = none → on q = false) ∧ ∀ X, S q = some X → on q = true ∧ ∀ v, v < 4 → lo (4 * q + v) = X.1 v ∧ hi (4 * q + v) = X.2 v
def FRep (fs : Bool) (lf hf : Nat → Int64) (F : Option (IV × IV)) : Prop := (F = none → fs = false) ∧ ∀ X, F = some X → fs = true ∧ ∀ v, v < 4 → lf v = X.1 v ∧ hf v = X.2 v
def nlo (w : Bool) (l x : Int64) : Int64 := if x < l then (if w then MINI else x) else l
def nhi (w : Bool) (h x : Int64) : Int64 := if h < x then (if w then MAXI else x) else h
def chgV (X T : IV × IV) (v : Nat) : Bool := decide (T.1 v < X.1 v) || decide (X.2 v < T.2 v)
def chgTo (X T : IV × IV) : Nat → Bool
  | 0 => false
  | k + 1 => chgTo X T k || chgV X T k
def wid (w : Bool) (X T : IV × IV) : IV × IV := (fun v => nlo w (X.1 v) (T.1 v), fun v => nhi w (X.2 v) (T.2 v))
def arr (S : ST) (q : Nat) (F : Option (IV × IV)) (w : Bool) : Bool × ST := match F with
  | none => (false, S)
  | some T => match S q with
    | none => (true, upS S q (some T))
    | some X => (chgTo X T 4, upS S q (some (wid w X T)))
abbrev RS := Option (Int64 × Int64)
def tk (r : Int64) (o : RS) : RS := match o with
  | none => some (r, r)
  | some (a, b) => some (if r < a then r else a, if b < r then r else b)
def ex (op : Int) (x y : Int64) : Int64 := if op = 3 then x + y else if op = 4 then x - y else if op = 5 then x * y else x / y
def tk4 (op : Int) (x y f t : Int64) (o : RS) : RS := tk (ex op y t) (tk (ex op y f) (tk (ex op x t) (tk (ex op x f) o)))
def calc1 (x y f t : Int64) : RS := if f < 0 then tk4 6 x y f (if t < 0 then t else -1) none else none
def calcR (op : Int) (x y f t : Int64) : RS := if op = 6 then (if 0 < t then tk4 6 x y (if 0 < f then f else 1) t (calc1 x y f t) else calc1 x y f t) else tk4 op x y f t none
def sameW (l h : Int64) : Prop := l - l.toInt32.toInt64 = h - h.toInt32.toInt64
def putI (X : IV × IV) (a : Nat) (l h : Int64) : IV × IV := (vp_updL X.1 a l, vp_updL X.2 a h)
def mx (x y : Int64) : Int64 := if y < x then x else y
def mn (x y : Int64) : Int64 := if y < x then y else x
noncomputable def wrapP (X : IV × IV) (a : Nat) (l h : Int64) : IV × IV := if l - l.toInt32.toInt64 = h - h.toInt32.toInt64 then putI X a l.toInt32.toInt64 h.toInt32.toInt64 else putI X a MINI MAXI
noncomputable def resP (X : IV × IV) (a : Nat) (o : RS) : Option (IV × IV) := match o with
  | none => none
  | some r => some (wrapP X a r.1 r.2)
def crossed (Y : IV × IV) (a b : Nat) : Prop := Y.2 a < Y.1 a ∨ Y.2 b < Y.1 b
noncomputable def unlessX (Y : IV × IV) (a b : Nat) : Option (IV × IV) := if Y.2 a < Y.1 a ∨ Y.2 b < Y.1 b then none else some Y
def cmpN (X : IV × IV) (a b : Nat) : IV × IV := (vp_updL X.1 a (mx (X.1 a) (X.1 b)), vp_updL X.2 b (mn (X.2 b) (X.2 a)))
def cmpP (X : IV × IV) (a b : Nat) : IV × IV := (vp_updL X.1 b (mx (X.1 b) (X.1 a + 1)), vp_updL X.2 a (mn (X.2 a) (X.2 b - 1)))
noncomputable def fN (cd : Nat → Int32) (p : Nat) (X : IV × IV) : Option (IV × IV) :=
  if (cd (4 * p)).toInt = 1 then some (putI X ((cd (4 * p + 1)).toNatClampNeg) (cd (4 * p + 2)).toInt64 (cd (4 * p + 2)).toInt64)
  else if (cd (4 * p)).toInt = 2 then some (putI X ((cd (4 * p + 1)).toNatClampNeg) (X.1 ((cd (4 * p + 2)).toNatClampNeg)) (X.2 ((cd (4 * p + 2)).toNatClampNeg)))
  else if 3 ≤ (cd (4 * p)).toInt ∧ (cd (4 * p)).toInt ≤ 6 then resP X ((cd (4 * p + 1)).toNatClampNeg) (calcR ((cd (4 * p)).toInt) (X.1 ((cd (4 * p + 2)).toNatClampNeg)) (X.2 ((cd (4 * p + 2)).toNatClampNeg)) (X.1 ((cd (4 * p + 3)).toNatClampNeg)) (X.2 ((cd (4 * p + 3)).toNatClampNeg)))
  else if (cd (4 * p)).toInt = 7 then (if X.2 ((cd (4 * p + 2)).toNatClampNeg) < 0 ∨ 7 < X.1 ((cd (4 * p + 2)).toNatClampNeg) then none else some (putI X ((cd (4 * p + 1)).toNatClampNeg) MINI MAXI))
  else if (cd (4 * p)).toInt = 8 then (if X.2 ((cd (4 * p + 2)).toNatClampNeg) < 0 ∨ 7 < X.1 ((cd (4 * p + 2)).toNatClampNeg) then none else some X)
  else if (cd (4 * p)).toInt = 9 then (if (cd (4 * p + 1)).toNatClampNeg = (cd (4 * p + 2)).toNatClampNeg then some X else unlessX (cmpN X ((cd (4 * p + 1)).toNatClampNeg) ((cd (4 * p + 2)).toNatClampNeg)) ((cd (4 * p + 1)).toNatClampNeg) ((cd (4 * p + 2)).toNatClampNeg))
  else if (cd (4 * p)).toInt = 11 then some (putI X ((cd (4 * p + 1)).toNatClampNeg) MINI MAXI)
  else none
noncomputable def fP (cd : Nat → Int32) (p : Nat) (X : IV × IV) : Option (IV × IV) :=
  if (cd (4 * p)).toInt = 9 then (if (cd (4 * p + 1)).toNatClampNeg = (cd (4 * p + 2)).toNatClampNeg then none else unlessX (cmpP X ((cd (4 * p + 1)).toNatClampNeg) ((cd (4 * p + 2)).toNatClampNeg)) ((cd (4 * p + 1)).toNatClampNeg) ((cd (4 * p + 2)).toNatClampNeg))
  else if (cd (4 * p)).toInt = 10 then some X
  else none
/-- an instruction whose numbers are right -/
def okI (o a b c : Int32) : Prop := 0 ≤ o.toInt ∧ o.toInt ≤ 11 ∧ ((1 ≤ o.toInt ∧ o.toInt ≤ 9 ∨ o.toInt = 11) → 0 ≤ a.toInt ∧ a.toInt ≤ 3) ∧ (2 ≤ o.toInt ∧ o.toInt ≤ 9 → 0 ≤ b.toInt ∧ b.toInt ≤ 3) ∧ (3 ≤ o.toInt ∧ o.toInt ≤ 6 → 0 ≤ c.toInt ∧ c.toInt ≤ 3) ∧ (o.toInt = 9 ∨ o.toInt = 10 → 0 ≤ c.toInt ∧ c.toInt ≤ 23)
def okP (cd : Nat → Int32) (p : Nat) : Prop := okI (cd (4 * p)) (cd (4 * p + 1)) (cd (4 * p + 2)) (cd (4 * p + 3))
def okX (X : IV × IV) : Prop := ∀ v, v < 4 → -2147483648 ≤ (X.1 v).toInt ∧ (X.1 v).toInt ≤ (X.2 v).toInt ∧ (X.2 v).toInt ≤ 2147483647
/-- both flows of p let arrive -/
noncomputable def snd2 (cd : Nat → Int32) (p : Nat) (X : IV × IV) (w : Bool) (S : ST) : Bool × ST :=
  ((arr S (p + 1) (fN cd p X) false).1 || (arr (arr S (p + 1) (fN cd p X) false).2 ((cd (4 * p + 3)).toNatClampNeg) (fP cd p X) (w && decide ((cd (4 * p + 3)).toInt ≤ (p : Int)))).1,
   (arr (arr S (p + 1) (fN cd p X) false).2 ((cd (4 * p + 3)).toNatClampNeg) (fP cd p X) (w && decide ((cd (4 * p + 3)).toInt ≤ (p : Int)))).2)
noncomputable def rndTo (cd : Nat → Int32) (S : ST) : Nat → Bool × ST
  | 0 => (false, S)
  | k + 1 => match (rndTo cd S k).2 k with
    | none => rndTo cd S k
    | some X => ((rndTo cd S k).1 || (snd2 cd k X true (rndTo cd S k).2).1, (snd2 cd k X true (rndTo cd S k).2).2)
def S0 : ST := fun q => if q = 0 then some (fun _ => 0, fun _ => 0) else none
noncomputable def setTo (cd : Nat → Int32) (S : ST) : Nat → ST
  | 0 => S0
  | k + 1 => match S k with
    | none => setTo cd S k
    | some X => (snd2 cd k X false (setTo cd S k)).2
noncomputable def rndK (cd : Nat → Int32) (n : Nat) : Nat → ST
  | 0 => S0
  | k + 1 => (rndTo cd (rndK cd n k) n).2
def wholeP (cd : Nat → Int32) (n : Nat) : Prop := 0 < n ∧ ((cd (4 * (n - 1))).toInt = 0 ∨ (cd (4 * (n - 1))).toInt = 10) ∧ ∀ p, p < n → ((cd (4 * p)).toInt = 9 ∨ (cd (4 * p)).toInt = 10) → (cd (4 * p + 3)).toInt < (n : Int)
def RRep (em : Bool) (le gr : Int64) (o : RS) : Prop := (o = none → em = true) ∧ ∀ a b, o = some (a, b) → em = false ∧ le = a ∧ gr = b
theorem FRep.none_of {lf hf : Nat → Int64} {F : Option (IV × IV)} (h : FRep false lf hf F) : F = none := by
  cases F with
  | none => rfl
  | some X => exact absurd (h.2 X rfl).1 (by decide)
theorem FRep.some_of {lf hf : Nat → Int64} {F : Option (IV × IV)} (h : FRep true lf hf F) : ∃ X, F = some X ∧ ∀ v, v < 4 → lf v = X.1 v ∧ hf v = X.2 v := by
  cases F with
  | none => exact absurd (h.1 rfl) (by decide)
  | some X => exact ⟨X, rfl, (h.2 X rfl).2⟩
theorem Rep.off {on : Nat → Bool} {lo hi : Nat → Int64} {S : ST} (h : Rep on lo hi S) {q : Nat} (hq : q < 24) (ho : on q = false) : S q = none := by
  cases hs : S q with
  | none => rfl
  | some X => rw [((h q hq).2 X hs).1] at ho; exact absurd ho (by decide)
theorem Rep.up {on : Nat → Bool} {lo hi : Nat → Int64} {S : ST} (h : Rep on lo hi S) {q : Nat} (hq : q < 24) (ho : on q = true) : ∃ X, S q = some X ∧ ∀ v, v < 4 → lo (4 * q + v) = X.1 v ∧ hi (4 * q + v) = X.2 v := by
  cases hs : S q with
  | none => rw [(h q hq).1 hs] at ho; exact absurd ho (by decide)
  | some X => exact ⟨X, rfl, ((h q hq).2 X hs).2⟩
theorem updL_same (f : Nat → Int64) (k : Nat) : vp_updL f k (f k) = f := by
  funext j
  by_cases h : j = k <;> simp [vp_updL, h]
end
section
def wX0 (E : kE) (a : Nat) (b : Nat) (c : Nat) (fs : Bool) (lf : Nat → Int64) (hf : Nat → Int64) : va_W := [cObj a 0 [.int (bI fs), .ref b, .ref c], cLng E b 4 lf, cLng E c 4 hf]
def wX1 (E : kE) (a : Nat) (em : Bool) (le : Int64) (gr : Int64) : va_W := [cObj a 1 [.int (bI em), .long le, .long gr]]
def wX2 (E : kE) (a : Nat) (b : Nat) (c : Nat) (d : Nat) (on : Nat → Bool) (lo : Nat → Int64) (hi : Nat → Int64) : va_W := [cObj a 2 [.ref b, .ref c, .ref d], cBoo E b 24 on, cLng E c 96 lo, cLng E d 96 hi]
def wX20 (E : kE) (a : Nat) (b : Nat) (c : Nat) (d : Nat) (on : Nat → Bool) (lo : Nat → Int64) (hi : Nat → Int64) (fa : Nat) (fb : Nat) (fc : Nat) (fs : Bool) (lf : Nat → Int64) (hf : Nat → Int64) : va_W := [cObj a 2 [.ref b, .ref c, .ref d], cBoo E b 24 on, cLng E c 96 lo, cLng E d 96 hi, cObj fa 0 [.int (bI fs), .ref fb, .ref fc], cLng E fb 4 lf, cLng E fc 4 hf]
def wX3 (E : kE) (h : Nat → Nat) (cd : Nat → Int32) (n : Nat) (sc : Bool) (rt : Nat) (on : Nat → Bool) (lo : Nat → Int64) (hi : Nat → Int64) (son : Nat → Bool) (slo : Nat → Int64) (shi : Nat → Int64) (fs : Bool) (lf : Nat → Int64) (hf : Nat → Int64) (em : Bool) (le : Int64) (gr : Int64) : va_W := [cObj (h 0) 3 [.ref (h 1), .int (nI n), .int (bI sc), .int (nI rt), .ref (h 2), .ref (h 6), .ref (h 10), .ref (h 13)], cInt E (h 1) 96 cd, cObj (h 2) 2 [.ref (h 3), .ref (h 4), .ref (h 5)], cBoo E (h 3) 24 on, cLng E (h 4) 96 lo, cLng E (h 5) 96 hi, cObj (h 6) 2 [.ref (h 7), .ref (h 8), .ref (h 9)], cBoo E (h 7) 24 son, cLng E (h 8) 96 slo, cLng E (h 9) 96 shi, cObj (h 10) 0 [.int (bI fs), .ref (h 11), .ref (h 12)], cLng E (h 11) 4 lf, cLng E (h 12) 4 hf, cObj (h 13) 1 [.int (bI em), .long le, .long gr]]
def wX4 (E : kE) (h : Nat → Nat) (cd : Nat → Int32) (n : Nat) (rt : Nat) (sc : Bool) (on : Nat → Bool) (lo : Nat → Int64) (hi : Nat → Int64) (non : Nat → Bool) (nlo : Nat → Int64) (nhi : Nat → Int64) (fl : Nat → Bool) (tlo : Nat → Int64) (thi : Nat → Int64) (le : Int64) (gr : Int64) : va_W := [cObj (h 0) 4 [.ref (h 1), .int (nI n), .int (nI rt), .int (bI sc), .ref (h 2), .ref (h 3), .ref (h 4), .ref (h 5), .ref (h 6), .ref (h 7), .ref (h 8), .ref (h 9), .ref (h 10), .long le, .long gr], cInt E (h 1) 96 cd, cBoo E (h 2) 24 on, cLng E (h 3) 96 lo, cLng E (h 4) 96 hi, cBoo E (h 5) 24 non, cLng E (h 6) 96 nlo, cLng E (h 7) 96 nhi, cBoo E (h 8) 2 fl, cLng E (h 9) 8 tlo, cLng E (h 10) 8 thi]
end
section
theorem k_toN {x : Int32} {q : Nat} (h : x.toInt = (q : Int)) (hq : q < 2 ^ 31) : x = nI q := Int32.toInt_inj.mp (by rw [h, nI_toInt hq])
theorem rep_S0 {on : Nat → Bool} {lo hi : Nat → Int64} (h1 : ∀ j, j < 24 → on j = decide (j = 0)) (h2 : ∀ j, j < 4 → lo j = 0 ∧ hi j = 0) : Rep on lo hi S0 := by
  intro q hq
  refine ⟨fun h => ?_, fun X h => ?_⟩
  · rw [h1 q hq]
    by_cases h0 : q = 0
    · subst h0; simp [S0] at h
    · simp [h0]
  · by_cases h0 : q = 0
    · subst h0
      simp only [S0, if_true, Option.some.injEq] at h
      subst h
      refine ⟨by rw [h1 0 (by omega)]; rfl, fun v hv => ?_⟩
      simpa using h2 v hv
    · simp [S0, h0] at h
theorem take_step {u : Int64 → Int64 → Int64} {lo lo2 lo1 lf : Nat → Int64} {q i : Nat} (h : ∀ j, lo2 j = if 4 * q ≤ j ∧ j < 4 * q + i then u (lo j) (lf (j - 4 * q)) else lo j) (e : lo1 = vp_updL lo2 (4 * q + i) (u (lo2 (4 * q + i)) (lf i))) : ∀ j, lo1 j = if 4 * q ≤ j ∧ j < 4 * q + (i + 1) then u (lo j) (lf (j - 4 * q)) else lo j := by
  intro j
  subst e
  by_cases hj : j = 4 * q + i
  · subst hj
    have e1 : 4 * q + i - 4 * q = i := by omega
    rw [if_pos (by omega), e1]
    have e2 := h (4 * q + i)
    rw [if_neg (by omega)] at e2
    simp [vp_updL, e2]
  · simp only [vp_updL, if_neg hj, h j]
    by_cases hc : 4 * q ≤ j ∧ j < 4 * q + i
    · rw [if_pos hc, if_pos (by omega)]
    · rw [if_neg hc, if_neg (by omega)]
theorem chgTo_congr {X Y T U : IV × IV} : ∀ {k : Nat}, (∀ v, v < k → X.1 v = Y.1 v ∧ X.2 v = Y.2 v ∧ T.1 v = U.1 v ∧ T.2 v = U.2 v) → chgTo X T k = chgTo Y U k
  | 0, _ => rfl
  | k + 1, h => by
    obtain ⟨e1, e2, e3, e4⟩ := h k (by omega)
    simp only [chgTo, chgV, e1, e2, e3, e4]
    rw [chgTo_congr (fun v hv => h v (by omega))]
theorem take_chg {w : Bool} {lo hi lo2 hi2 lf hf : Nat → Int64} {q i : Nat} {r ch : Bool} (hlo : ∀ j, lo2 j = if 4 * q ≤ j ∧ j < 4 * q + i then nlo w (lo j) (lf (j - 4 * q)) else lo j) (hhi : ∀ j, hi2 j = if 4 * q ≤ j ∧ j < 4 * q + i then nhi w (hi j) (hf (j - 4 * q)) else hi j) (hr : r = (decide (lf i < lo2 (4 * q + i)) || decide (hi2 (4 * q + i) < hf i))) (hch : ch = chgTo (fun v => lo (4 * q + v), fun v => hi (4 * q + v)) (lf, hf) i) : chgTo (fun v => lo (4 * q + v), fun v => hi (4 * q + v)) (lf, hf) (i + 1) = (ch || r) := by
  have e1 := hlo (4 * q + i)
  have e2 := hhi (4 * q + i)
  rw [if_neg (by omega)] at e1 e2
  rw [hr, hch, e1, e2]
  rfl
theorem take_new {on on1 : Nat → Bool} {lo hi lo1 hi1 lf hf : Nat → Int64} {S : ST} {q : Nat} {w : Bool} {FF : Option (IV × IV)} {T : IV × IV} (hR : Rep on lo hi S) (hTv : ∀ v, v < 4 → lf v = T.1 v ∧ hf v = T.2 v) (hT : FF = some T) (hSq : S q = none) (hb : on1 = upB on q true ∧ (∀ v, v < 4 → lo1 (4 * q + v) = lf v ∧ hi1 (4 * q + v) = hf v) ∧ ∀ j, (j < 4 * q ∨ 4 * q + 4 ≤ j) → lo1 j = lo j ∧ hi1 j = hi j) : Rep on1 lo1 hi1 (arr S q FF w).2 ∧ true = (arr S q FF w).1 := by
  subst hT
  obtain ⟨rfl, hb⟩ := hb
  simp only [arr, hSq]
  refine ⟨fun p hp => ?_, trivial⟩
  by_cases h : p = q
  · subst h
    refine ⟨fun h => by simp [upS] at h, fun X hX => ?_⟩
    simp only [upS, if_true, Option.some.injEq] at hX
    subst hX
    refine ⟨by simp [upB], fun v hv => ?_⟩
    rw [(hb.1 v hv).1, (hb.1 v hv).2]
    exact hTv v hv
  · have h1 := hR p hp
    simp only [upS, if_neg h, upB]
    refine ⟨h1.1, fun X hX => ⟨(h1.2 X hX).1, fun v hv => ?_⟩⟩
    rw [(hb.2 (4 * p + v) (by omega)).1, (hb.2 (4 * p + v) (by omega)).2]
    exact (h1.2 X hX).2 v hv
theorem take_old {on : Nat → Bool} {lo hi lo2 hi2 lf hf : Nat → Int64} {S : ST} {q : Nat} {w ch : Bool} {FF : Option (IV × IV)} {T Y : IV × IV} (hR : Rep on lo hi S) (hTv : ∀ v, v < 4 → lf v = T.1 v ∧ hf v = T.2 v) (hT : FF = some T) (hY : S q = some Y) (hYv : ∀ v, v < 4 → lo (4 * q + v) = Y.1 v ∧ hi (4 * q + v) = Y.2 v) (hq : q < 24) (hlo : ∀ j, lo2 j = if 4 * q ≤ j ∧ j < 4 * q + 4 then nlo w (lo j) (lf (j - 4 * q)) else lo j) (hhi : ∀ j, hi2 j = if 4 * q ≤ j ∧ j < 4 * q + 4 then nhi w (hi j) (hf (j - 4 * q)) else hi j) (hch : ch = chgTo (fun v => lo (4 * q + v), fun v => hi (4 * q + v)) (lf, hf) 4) : Rep on lo2 hi2 (arr S q FF w).2 ∧ ch = (arr S q FF w).1 := by
  subst hT
  simp only [arr, hY]
  refine ⟨fun p hp => ?_, by rw [hch]; exact chgTo_congr (fun v hv => ⟨(hYv v hv).1, (hYv v hv).2, (hTv v hv).1, (hTv v hv).2⟩)⟩
  by_cases h : p = q
  · subst h
    refine ⟨fun h => by simp [upS] at h, fun X hX => ?_⟩
    simp only [upS, if_true, Option.some.injEq] at hX
    subst hX
    refine ⟨((hR p hp).2 Y hY).1, fun v hv => ?_⟩
    have e1 := hlo (4 * p + v)
    have e2 := hhi (4 * p + v)
    rw [if_pos (by omega), show 4 * p + v - 4 * p = v by omega] at e1 e2
    rw [e1, e2, (hYv v hv).1, (hYv v hv).2, (hTv v hv).1, (hTv v hv).2]
    exact ⟨rfl, rfl⟩
  · have h1 := hR p hp
    simp only [upS, if_neg h]
    refine ⟨h1.1, fun X hX => ⟨(h1.2 X hX).1, fun v hv => ?_⟩⟩
    have e1 := hlo (4 * p + v)
    have e2 := hhi (4 * p + v)
    rw [if_neg (by omega)] at e1 e2
    rw [e1, e2]
    exact (h1.2 X hX).2 v hv
theorem or_ff {em : Bool} {P : Prop} (h : em = false) (h2 : ¬ P) : ¬ (em = true ∨ P) := by
  rintro (h3 | h3)
  · rw [h] at h3; exact absurd h3 (by decide)
  · exact h2 h3
theorem tk_rep {em : Bool} {le gr r le1 gr1 : Int64} (h1 : le1 = if em = true ∨ r < le then r else le) (h2 : gr1 = if em = true ∨ gr < r then r else gr) : ∀ o, RRep em le gr o → RRep false le1 gr1 (tk r o) := by
  intro o ho
  rcases o with _ | ⟨a, b⟩
  · have he := ho.1 rfl
    refine ⟨fun h => by simp [tk] at h, fun a b h => ?_⟩
    simp only [tk, Option.some.injEq, Prod.mk.injEq] at h
    rw [h1, h2, if_pos (Or.inl he), if_pos (Or.inl he)]
    exact ⟨rfl, h.1, h.2⟩
  · obtain ⟨he, e1, e2⟩ := ho.2 a b rfl
    subst e1; subst e2; subst he
    refine ⟨fun h => by simp [tk] at h, fun a b h => ?_⟩
    simp only [tk, Option.some.injEq, Prod.mk.injEq] at h
    refine ⟨rfl, ?_, ?_⟩
    · rw [h1, ← h.1]; simp
    · rw [h2, ← h.2]; simp
theorem upB_step {P : Nat → Bool} {f f' : Nat → Bool} {i : Nat} {b : Bool} (e : f' = upB f i b) (h : ∀ j, j < i → f j = P j) (hb : b = P i) : ∀ j, j < i + 1 → f' j = P j := by
  intro j hj
  subst e
  by_cases hji : j = i
  · subst hji; simp [upB, hb]
  · simp only [upB, if_neg hji]; exact h j (by omega)
end
section
theorem k_ff {r : Bool} {P : Prop} (h : r = true ↔ P) (hr : r = false) : ¬ P := fun p => by rw [h.mpr p] at hr; exact absurd hr (by decide)
theorem k_nCi {x : Int32} (h : 0 ≤ x.toInt) : (x.toNatClampNeg : Int) = x.toInt := by
  have e : x.toNatClampNeg = x.toInt.toNat := rfl
  rw [e]; omega
theorem k_nC {x : Int32} (h : 0 ≤ x.toInt) : x = nI x.toNatClampNeg := by
  refine k_toN (k_nCi h).symm ?_
  have h1 := k_nCi h
  have h2 := x.toInt_lt
  omega
def upd4 (cd : Nat → Int32) (n : Nat) (o a b c : Int32) : Nat → Int32 := upd (upd (upd (upd cd (4 * n) o) (4 * n + 1) a) (4 * n + 2) b) (4 * n + 3) c
def addP (cd : Nat → Int32) (n : Nat) (sc : Bool) (rt : Nat) (o a b c : Int32) (r : Int32) (cd1 : Nat → Int32) (n1 : Nat) (sc1 : Bool) (rt1 : Nat) : Prop :=
  (¬ okI o a b c ∧ r = -1 ∧ cd1 = cd ∧ n1 = n ∧ sc1 = sc ∧ rt1 = rt) ∨ (okI o a b c ∧ n = 24 ∧ r = -2 ∧ cd1 = cd ∧ n1 = n ∧ sc1 = sc ∧ rt1 = rt) ∨ (okI o a b c ∧ n < 24 ∧ r = nI n ∧ cd1 = upd4 cd n o a b c ∧ n1 = n + 1 ∧ sc1 = false ∧ rt1 = 0)
def codeV (cd : Nat → Int32) (n : Nat) (p f : Int32) : Int32 := if (0 ≤ p.toInt ∧ p.toInt < (n : Int)) ∧ 0 ≤ f.toInt ∧ f.toInt ≤ 3 then cd (4 * p.toNatClampNeg + f.toNatClampNeg) else -9
def rchV (sc : Bool) (n : Nat) (on : Nat → Bool) (p : Int32) : Int32 := if sc = true ∧ 0 ≤ p.toInt ∧ p.toInt < (n : Int) then bI (on p.toNatClampNeg) else -1
def bndV (sc : Bool) (n : Nat) (on : Nat → Bool) (lo : Nat → Int64) (p v : Int32) : Int64 := if rchV sc n on p = 1 ∧ 0 ≤ v.toInt ∧ v.toInt ≤ 3 then lo (4 * p.toNatClampNeg + v.toNatClampNeg) else 4294967296
def almV (cd : Nat → Int32) (sc : Bool) (n : Nat) (on : Nat → Bool) (lo hi : Nat → Int64) (p : Int32) : Int32 :=
  if rchV sc n on p = 1 then
    (if (cd (4 * p.toNatClampNeg)).toInt = 6 then (if ¬ 0 < lo (4 * p.toNatClampNeg + (cd (4 * p.toNatClampNeg + 3)).toNatClampNeg) ∧ ¬ hi (4 * p.toNatClampNeg + (cd (4 * p.toNatClampNeg + 3)).toNatClampNeg) < 0 then 1 else 0)
     else if (cd (4 * p.toNatClampNeg)).toInt = 7 ∨ (cd (4 * p.toNatClampNeg)).toInt = 8 then (if lo (4 * p.toNatClampNeg + (cd (4 * p.toNatClampNeg + 2)).toNatClampNeg) < 0 ∨ 7 < hi (4 * p.toNatClampNeg + (cd (4 * p.toNatClampNeg + 2)).toNatClampNeg) then 2 else 0) else 0)
  else 0
def cntV (cd : Nat → Int32) (sc : Bool) (n : Nat) (on : Nat → Bool) (lo hi : Nat → Int64) : Nat → Nat
  | 0 => 0
  | k + 1 => if (almV cd sc n on lo hi (nI k)).toInt = 0 then cntV cd sc n on lo hi k else cntV cd sc n on lo hi k + 1
theorem cntV_le (cd : Nat → Int32) (sc : Bool) (n : Nat) (on : Nat → Bool) (lo hi : Nat → Int64) : ∀ k, cntV cd sc n on lo hi k ≤ k
  | 0 => Nat.le_refl _
  | k + 1 => by
    have := cntV_le cd sc n on lo hi k
    simp only [cntV]
    split <;> omega
theorem rchV_f1 {sc : Bool} {n : Nat} {on : Nat → Bool} {p : Int32} (h : sc = false) : rchV sc n on p = -1 := by
  rw [rchV, if_neg]; rintro ⟨h1, -⟩; rw [h] at h1; exact absurd h1 (by decide)
theorem rchV_f2 {sc : Bool} {n : Nat} {on : Nat → Bool} {p : Int32} (h : ¬ (0 ≤ p.toInt ∧ p.toInt < (n : Int))) : rchV sc n on p = -1 := by
  rw [rchV, if_neg]; rintro ⟨-, h1⟩; exact h h1
theorem rchV_t {sc : Bool} {n : Nat} {on : Nat → Bool} {p : Int32} (h1 : sc = true) (h2 : 0 ≤ p.toInt ∧ p.toInt < (n : Int)) : rchV sc n on p = bI (on p.toNatClampNeg) := by
  rw [rchV, if_pos ⟨h1, h2⟩]
theorem rchV_1 {sc : Bool} {n : Nat} {on : Nat → Bool} {p r : Int32} (h : r = rchV sc n on p) (h1 : r.toInt = 1) : rchV sc n on p = 1 ∧ sc = true ∧ 0 ≤ p.toInt ∧ p.toInt < (n : Int) ∧ on p.toNatClampNeg = true := by
  have e : rchV sc n on p = 1 := by rw [← h]; exact Int32.toInt_inj.mp (by rw [h1]; decide)
  refine ⟨e, ?_⟩
  by_cases hc : sc = true ∧ 0 ≤ p.toInt ∧ p.toInt < (n : Int)
  · refine ⟨hc.1, hc.2.1, hc.2.2, ?_⟩
    rw [rchV, if_pos hc] at e
    cases ho : on p.toNatClampNeg with
    | true => rfl
    | false => rw [ho] at e; exact absurd e (by decide)
  · rw [rchV, if_neg hc] at e
    exact absurd e (by decide)
theorem rchV_n1 {sc : Bool} {n : Nat} {on : Nat → Bool} {p r : Int32} (h : r = rchV sc n on p) (h1 : ¬ r.toInt = 1) : ¬ rchV sc n on p = 1 := fun e => h1 (by rw [h, e]; decide)
theorem okP_a {cd : Nat → Int32} {p : Nat} (h : okP cd p) (ho : (1 ≤ (cd (4 * p)).toInt ∧ (cd (4 * p)).toInt ≤ 9) ∨ (cd (4 * p)).toInt = 11) : cd (4 * p + 1) = nI ((cd (4 * p + 1)).toNatClampNeg) ∧ (cd (4 * p + 1)).toNatClampNeg < 4 := by
  have h1 := h.2.2.1 ho
  refine ⟨k_nC h1.1, ?_⟩
  have := k_nCi h1.1
  omega
theorem okP_b {cd : Nat → Int32} {p : Nat} (h : okP cd p) (ho : 2 ≤ (cd (4 * p)).toInt ∧ (cd (4 * p)).toInt ≤ 9) : cd (4 * p + 2) = nI ((cd (4 * p + 2)).toNatClampNeg) ∧ (cd (4 * p + 2)).toNatClampNeg < 4 := by
  have h1 := h.2.2.2.1 ho
  refine ⟨k_nC h1.1, ?_⟩
  have := k_nCi h1.1
  omega
theorem okP_c {cd : Nat → Int32} {p : Nat} (h : okP cd p) (ho : 3 ≤ (cd (4 * p)).toInt ∧ (cd (4 * p)).toInt ≤ 6) : cd (4 * p + 3) = nI ((cd (4 * p + 3)).toNatClampNeg) ∧ (cd (4 * p + 3)).toNatClampNeg < 4 := by
  have h1 := h.2.2.2.2.1 ho
  refine ⟨k_nC h1.1, ?_⟩
  have := k_nCi h1.1
  omega
theorem okP_q {cd : Nat → Int32} {p : Nat} (h : okP cd p) (ho : (cd (4 * p)).toInt = 9 ∨ (cd (4 * p)).toInt = 10) : cd (4 * p + 3) = nI ((cd (4 * p + 3)).toNatClampNeg) ∧ (cd (4 * p + 3)).toNatClampNeg < 24 ∧ (cd (4 * p + 3)).toInt = ((cd (4 * p + 3)).toNatClampNeg : Int) := by
  have h1 := h.2.2.2.2.2 ho
  refine ⟨k_nC h1.1, ?_, (k_nCi h1.1).symm⟩
  have := k_nCi h1.1
  omega
theorem whole_fin {cd : Nat → Int32} {n : Nat} (h0 : 0 < n) (hok : ∀ p, p < n → okP cd p) {b r : Bool} (hall : r = true ↔ ∀ p, p < n → ((cd (4 * p)).toInt = 9 ∨ (cd (4 * p)).toInt = 10) → 0 ≤ (cd (4 * p + 3)).toInt ∧ (cd (4 * p + 3)).toInt < (n : Int)) (hb : b = true ↔ ((cd (4 * (n - 1))).toInt = 0 ∨ (cd (4 * (n - 1))).toInt = 10) ∧ r = true) : b = true ↔ wholeP cd n := by
  rw [hb, hall, wholeP]
  constructor
  · rintro ⟨h1, h2⟩
    exact ⟨h0, h1, fun p hp ho => (h2 p hp ho).2⟩
  · rintro ⟨-, h1, h2⟩
    exact ⟨h1, fun p hp ho => ⟨((hok p hp).2.2.2.2.2 ho).1, h2 p hp ho⟩⟩
theorem whole_no {cd : Nat → Int32} {n : Nat} (h : ¬ ((cd (4 * (n - 1))).toInt = 0 ∨ (cd (4 * (n - 1))).toInt = 10)) : false = true ↔ wholeP cd n := ⟨fun h => absurd h (by decide), fun h1 => absurd h1.2.1 h⟩
end
section
theorem exr_f {o : Int32} {f t : Int64} (h : t < f ∨ o.toInt = 3 ∨ o.toInt = 4 ∨ o.toInt = 5 ∨ (¬ f = 0 ∧ ¬ t = 0)) (hn : ¬ t < f) : o.toInt = 3 ∨ o.toInt = 4 ∨ o.toInt = 5 ∨ ¬ f = 0 := by
  rcases h with h | h | h | h | h
  · exact absurd h hn
  · exact Or.inl h
  · exact Or.inr (Or.inl h)
  · exact Or.inr (Or.inr (Or.inl h))
  · exact Or.inr (Or.inr (Or.inr h.1))
theorem exr_t {o : Int32} {f t : Int64} (h : t < f ∨ o.toInt = 3 ∨ o.toInt = 4 ∨ o.toInt = 5 ∨ (¬ f = 0 ∧ ¬ t = 0)) (hn : ¬ t < f) : o.toInt = 3 ∨ o.toInt = 4 ∨ o.toInt = 5 ∨ ¬ t = 0 := by
  rcases h with h | h | h | h | h
  · exact absurd h hn
  · exact Or.inl h
  · exact Or.inr (Or.inl h)
  · exact Or.inr (Or.inr (Or.inl h))
  · exact Or.inr (Or.inr (Or.inr h.2))
theorem L_eqT {x y : Int64} : x = y ↔ x.toInt = y.toInt := ⟨fun h => by rw [h], fun h => Int64.toInt_inj.mp h⟩
theorem L_m1 : (-1 : Int64).toInt = -1 := by decide
theorem L_0 : (0 : Int64).toInt = 0 := by decide
theorem L_1 : (1 : Int64).toInt = 1 := by decide
theorem neg_part {o : Int32} {f t : Int64} : (if -1 < t then -1 else t) < f ∨ o.toInt = 3 ∨ o.toInt = 4 ∨ o.toInt = 5 ∨ (¬ f = 0 ∧ ¬ (if -1 < t then -1 else t) = 0) := by
  by_cases h : (if -1 < t then -1 else t) < f
  · exact Or.inl h
  · refine Or.inr (Or.inr (Or.inr (Or.inr ?_)))
    revert h
    simp only [L_eqT, Int64.lt_iff_toInt_lt, L_m1, L_0]
    by_cases h1 : -1 < t.toInt
    · simp only [h1, if_true, L_m1]; omega
    · simp only [h1, if_false]; omega
theorem pos_part {o : Int32} {f t : Int64} : t < (if 1 < f then f else 1) ∨ o.toInt = 3 ∨ o.toInt = 4 ∨ o.toInt = 5 ∨ (¬ (if 1 < f then f else 1) = 0 ∧ ¬ t = 0) := by
  by_cases h : t < (if 1 < f then f else 1)
  · exact Or.inl h
  · refine Or.inr (Or.inr (Or.inr (Or.inr ?_)))
    revert h
    simp only [L_eqT, Int64.lt_iff_toInt_lt, L_1, L_0]
    by_cases h1 : 1 < f.toInt
    · simp only [h1, if_true]; omega
    · simp only [h1, if_false, L_1]; omega
theorem calc6 {x y f t : Int64} (h : f.toInt ≤ t.toInt) : (if t < (if 1 < f then f else 1) then (if (if -1 < t then -1 else t) < f then none else tk4 6 x y f (if -1 < t then -1 else t) none) else tk4 6 x y (if 1 < f then f else 1) t (if (if -1 < t then -1 else t) < f then none else tk4 6 x y f (if -1 < t then -1 else t) none)) = calcR 6 x y f t := by
  have e1 : (if -1 < t then -1 else t) = (if t < 0 then t else (-1 : Int64)) := by
    simp only [Int64.lt_iff_toInt_lt, L_m1, L_0]
    by_cases h1 : -1 < t.toInt
    · rw [if_pos h1, if_neg (by omega)]
    · rw [if_neg h1, if_pos (by omega)]
  have e2 : ((if t < 0 then t else (-1 : Int64)) < f) ↔ ¬ f < 0 := by
    simp only [Int64.lt_iff_toInt_lt, L_0]
    by_cases h1 : t.toInt < 0
    · simp only [h1, if_true]; omega
    · simp only [h1, if_false, L_m1]; omega
  have e3 : (if 1 < f then f else (1 : Int64)) = (if 0 < f then f else 1) := by
    simp only [Int64.lt_iff_toInt_lt, L_0, L_1]
    by_cases h1 : 1 < f.toInt
    · rw [if_pos h1, if_pos (by omega)]
    · by_cases h2 : 0 < f.toInt
      · rw [if_neg h1, if_pos h2]; rw [L_eqT, L_1]; omega
      · rw [if_neg h1, if_neg h2]
  have e4 : (t < (if 0 < f then f else (1 : Int64))) ↔ ¬ 0 < t := by
    simp only [Int64.lt_iff_toInt_lt, L_0]
    by_cases h1 : 0 < f.toInt
    · simp only [h1, if_true]; omega
    · simp only [h1, if_false, L_1]; omega
  rw [e1, e3, calcR, if_pos rfl]
  have e5 : (if (if t < 0 then t else (-1 : Int64)) < f then none else tk4 6 x y f (if t < 0 then t else -1) none) = calc1 x y f t := by
    unfold calc1
    by_cases h1 : f < 0
    · rw [if_neg (fun h => (e2.mp h) h1), if_pos h1]
    · rw [if_pos (e2.mpr h1), if_neg h1]
  rw [e5]
  by_cases h1 : 0 < t
  · rw [if_neg (fun h => (e4.mp h) h1), if_pos h1]
  · rw [if_pos (e4.mpr h1), if_neg h1]
theorem RRep.none_of {le gr : Int64} {o : RS} (h : RRep true le gr o) : o = none := by
  rcases o with _ | ⟨a, b⟩
  · rfl
  · exact absurd (h.2 a b rfl).1 (by decide)
theorem RRep.some_of {le gr : Int64} {o : RS} (h : RRep false le gr o) : o = some (le, gr) := by
  rcases o with _ | ⟨a, b⟩
  · exact absurd (h.1 rfl) (by decide)
  · rw [(h.2 a b rfl).2.1, (h.2 a b rfl).2.2]
theorem frep_none {lf hf : Nat → Int64} : FRep false lf hf none := ⟨fun _ => rfl, fun X h => by cases h⟩
theorem FRep.put {fs : Bool} {lf hf : Nat → Int64} {X : IV × IV} (h : FRep fs lf hf (some X)) (a : Nat) (l r : Int64) : FRep fs (vp_updL lf a l) (vp_updL hf a r) (some (putI X a l r)) := by
  refine ⟨fun h => (by cases h), fun Y hY => ?_⟩
  cases hY
  refine ⟨(h.2 X rfl).1, fun v hv => ?_⟩
  by_cases hva : v = a
  · subst hva; simp [putI, vp_updL]
  · simp only [putI, vp_updL, if_neg hva]; exact (h.2 X rfl).2 v hv
theorem putRes_w {fs : Bool} {lf hf : Nat → Int64} {le gr : Int64} {a : Nat} (hw : le - le.toInt32.toInt64 = gr - gr.toInt32.toInt64) : ∀ X, FRep fs lf hf (some X) → FRep fs (vp_updL lf a le.toInt32.toInt64) (vp_updL hf a gr.toInt32.toInt64) (resP X a (some (le, gr))) := fun X h => by
  simp only [resP, wrapP, if_pos hw]; exact h.put a _ _
theorem putRes_n {fs : Bool} {lf hf : Nat → Int64} {le gr : Int64} {a : Nat} (hw : ¬ le - le.toInt32.toInt64 = gr - gr.toInt32.toInt64) : ∀ X, FRep fs lf hf (some X) → FRep fs (vp_updL lf a (-2147483648)) (vp_updL hf a 2147483647) (resP X a (some (le, gr))) := fun X h => by
  simp only [resP, wrapP, if_neg hw]; exact h.put a _ _
theorem keepN_fin {fs fs1 fs2 : Bool} {lf hf : Nat → Int64} {a b : Nat} (ha : a < 4) (hb : b < 4) (hab : ¬ a = b) (h1 : fs1 = true ↔ fs = true ∧ ¬ hf a < mx (lf a) (lf b)) (h2 : fs2 = true ↔ fs1 = true ∧ ¬ mn (hf b) (hf a) < vp_updL lf a (mx (lf a) (lf b)) b) : ∀ X, FRep fs lf hf (some X) → FRep fs2 (vp_updL lf a (mx (lf a) (lf b))) (vp_updL hf b (mn (hf b) (hf a))) (unlessX (cmpN X a b) a b) := by
  intro X hX
  obtain ⟨hfs, hv⟩ := hX.2 X rfl
  obtain ⟨ea, ea'⟩ := hv a ha
  obtain ⟨eb, eb'⟩ := hv b hb
  have hba : ¬ b = a := fun h => hab h.symm
  simp only [vp_updL, if_neg hba] at h2
  rw [h1] at h2
  by_cases hc : (cmpN X a b).2 a < (cmpN X a b).1 a ∨ (cmpN X a b).2 b < (cmpN X a b).1 b
  · rw [unlessX, if_pos hc]
    refine ⟨fun _ => ?_, fun Y h => by cases h⟩
    simp only [cmpN, vp_updL, if_true, if_neg hab, if_neg hba, ← ea, ← ea', ← eb, ← eb'] at hc
    cases h : fs2 with
    | false => rfl
    | true =>
      exfalso
      obtain ⟨⟨-, q1⟩, q2⟩ := h2.mp h
      rcases hc with hc | hc
      · exact q1 hc
      · exact q2 hc
  · rw [unlessX, if_neg hc]
    refine ⟨fun h => (by cases h), fun Y hY => ?_⟩
    cases hY
    refine ⟨h2.mpr ⟨⟨hfs, fun q => hc (Or.inl ?_)⟩, fun q => hc (Or.inr ?_)⟩, fun v hv4 => ?_⟩
    · simp only [cmpN, vp_updL, if_true, if_neg hab, ← ea, ← ea', ← eb, ← eb']; exact q
    · simp only [cmpN, vp_updL, if_true, if_neg hba, ← ea, ← ea', ← eb, ← eb']; exact q
    · simp only [cmpN, vp_updL, ← ea, ← ea', ← eb, ← eb']
      refine ⟨?_, ?_⟩
      · by_cases h : v = a
        · rw [if_pos h, if_pos h]
        · rw [if_neg h, if_neg h]; exact (hv v hv4).1
      · by_cases h : v = b
        · rw [if_pos h, if_pos h]
        · rw [if_neg h, if_neg h]; exact (hv v hv4).2
theorem keepL_fin {fs fs1 fs2 : Bool} {lf hf : Nat → Int64} {a b : Nat} (ha : a < 4) (hb : b < 4) (hab : ¬ a = b) (h1 : fs1 = true ↔ fs = true ∧ ¬ mn (hf a) (hf b - 1) < lf a) (h2 : fs2 = true ↔ fs1 = true ∧ ¬ vp_updL hf a (mn (hf a) (hf b - 1)) b < mx (lf b) (lf a + 1)) : ∀ X, FRep fs lf hf (some X) → FRep fs2 (vp_updL lf b (mx (lf b) (lf a + 1))) (vp_updL hf a (mn (hf a) (hf b - 1))) (unlessX (cmpP X a b) a b) := by
  intro X hX
  obtain ⟨hfs, hv⟩ := hX.2 X rfl
  obtain ⟨ea, ea'⟩ := hv a ha
  obtain ⟨eb, eb'⟩ := hv b hb
  have hba : ¬ b = a := fun h => hab h.symm
  simp only [vp_updL, if_neg hba] at h2
  rw [h1] at h2
  by_cases hc : (cmpP X a b).2 a < (cmpP X a b).1 a ∨ (cmpP X a b).2 b < (cmpP X a b).1 b
  · rw [unlessX, if_pos hc]
    refine ⟨fun _ => ?_, fun Y h => by cases h⟩
    simp only [cmpP, vp_updL, if_true, if_neg hab, if_neg hba, ← ea, ← ea', ← eb, ← eb'] at hc
    cases h : fs2 with
    | false => rfl
    | true =>
      exfalso
      obtain ⟨⟨-, q1⟩, q2⟩ := h2.mp h
      rcases hc with hc | hc
      · exact q1 hc
      · exact q2 hc
  · rw [unlessX, if_neg hc]
    refine ⟨fun h => (by cases h), fun Y hY => ?_⟩
    cases hY
    refine ⟨h2.mpr ⟨⟨hfs, fun q => hc (Or.inl ?_)⟩, fun q => hc (Or.inr ?_)⟩, fun v hv4 => ?_⟩
    · simp only [cmpP, vp_updL, if_true, if_neg hab, ← ea, ← ea', ← eb, ← eb']; exact q
    · simp only [cmpP, vp_updL, if_true, if_neg hba, ← ea, ← ea', ← eb, ← eb']; exact q
    · simp only [cmpP, vp_updL, ← ea, ← ea', ← eb, ← eb']
      refine ⟨?_, ?_⟩
      · by_cases h : v = b
        · rw [if_pos h, if_pos h]
        · rw [if_neg h, if_neg h]; exact (hv v hv4).1
      · by_cases h : v = a
        · rw [if_pos h, if_pos h]
        · rw [if_neg h, if_neg h]; exact (hv v hv4).2
theorem fN_1 {cd : Nat → Int32} {p : Nat} {X : IV × IV} (h : (cd (4 * p)).toInt = 1) : fN cd p X = some (putI X ((cd (4 * p + 1)).toNatClampNeg) (cd (4 * p + 2)).toInt64 (cd (4 * p + 2)).toInt64) := by rw [fN, if_pos h]
theorem fN_2 {cd : Nat → Int32} {p : Nat} {X : IV × IV} (h : (cd (4 * p)).toInt = 2) : fN cd p X = some (putI X ((cd (4 * p + 1)).toNatClampNeg) (X.1 ((cd (4 * p + 2)).toNatClampNeg)) (X.2 ((cd (4 * p + 2)).toNatClampNeg))) := by rw [fN, if_neg (by omega), if_pos h]
theorem fN_3 {cd : Nat → Int32} {p : Nat} {X : IV × IV} (h : 3 ≤ (cd (4 * p)).toInt ∧ (cd (4 * p)).toInt ≤ 6) : fN cd p X = resP X ((cd (4 * p + 1)).toNatClampNeg) (calcR ((cd (4 * p)).toInt) (X.1 ((cd (4 * p + 2)).toNatClampNeg)) (X.2 ((cd (4 * p + 2)).toNatClampNeg)) (X.1 ((cd (4 * p + 3)).toNatClampNeg)) (X.2 ((cd (4 * p + 3)).toNatClampNeg))) := by rw [fN, if_neg (by omega), if_neg (by omega), if_pos h]
theorem fN_7 {cd : Nat → Int32} {p : Nat} {X : IV × IV} (h : (cd (4 * p)).toInt = 7) : fN cd p X = if X.2 ((cd (4 * p + 2)).toNatClampNeg) < 0 ∨ 7 < X.1 ((cd (4 * p + 2)).toNatClampNeg) then none else some (putI X ((cd (4 * p + 1)).toNatClampNeg) MINI MAXI) := by rw [fN, if_neg (by omega), if_neg (by omega), if_neg (by omega), if_pos h]
theorem fN_8 {cd : Nat → Int32} {p : Nat} {X : IV × IV} (h : (cd (4 * p)).toInt = 8) : fN cd p X = if X.2 ((cd (4 * p + 2)).toNatClampNeg) < 0 ∨ 7 < X.1 ((cd (4 * p + 2)).toNatClampNeg) then none else some X := by rw [fN, if_neg (by omega), if_neg (by omega), if_neg (by omega), if_neg (by omega), if_pos h]
theorem fN_9 {cd : Nat → Int32} {p : Nat} {X : IV × IV} (h : (cd (4 * p)).toInt = 9) : fN cd p X = if (cd (4 * p + 1)).toNatClampNeg = (cd (4 * p + 2)).toNatClampNeg then some X else unlessX (cmpN X ((cd (4 * p + 1)).toNatClampNeg) ((cd (4 * p + 2)).toNatClampNeg)) ((cd (4 * p + 1)).toNatClampNeg) ((cd (4 * p + 2)).toNatClampNeg) := by rw [fN, if_neg (by omega), if_neg (by omega), if_neg (by omega), if_neg (by omega), if_neg (by omega), if_pos h]
theorem fN_11 {cd : Nat → Int32} {p : Nat} {X : IV × IV} (h : (cd (4 * p)).toInt = 11) : fN cd p X = some (putI X ((cd (4 * p + 1)).toNatClampNeg) MINI MAXI) := by rw [fN, if_neg (by omega), if_neg (by omega), if_neg (by omega), if_neg (by omega), if_neg (by omega), if_neg (by omega), if_pos h]
theorem fN_no {cd : Nat → Int32} {p : Nat} {X : IV × IV} (h : (cd (4 * p)).toInt = 0 ∨ (cd (4 * p)).toInt = 10) : fN cd p X = none := by rw [fN, if_neg (by omega), if_neg (by omega), if_neg (by omega), if_neg (by omega), if_neg (by omega), if_neg (by omega), if_neg (by omega)]
theorem fP_9 {cd : Nat → Int32} {p : Nat} {X : IV × IV} (h : (cd (4 * p)).toInt = 9) : fP cd p X = if (cd (4 * p + 1)).toNatClampNeg = (cd (4 * p + 2)).toNatClampNeg then none else unlessX (cmpP X ((cd (4 * p + 1)).toNatClampNeg) ((cd (4 * p + 2)).toNatClampNeg)) ((cd (4 * p + 1)).toNatClampNeg) ((cd (4 * p + 2)).toNatClampNeg) := by rw [fP, if_pos h]
theorem fP_10 {cd : Nat → Int32} {p : Nat} {X : IV × IV} (h : (cd (4 * p)).toInt = 10) : fP cd p X = some X := by rw [fP, if_neg (by omega), if_pos h]
theorem fP_no {cd : Nat → Int32} {p : Nat} {X : IV × IV} (h1 : ¬ (cd (4 * p)).toInt = 9) (h2 : ¬ (cd (4 * p)).toInt = 10) : fP cd p X = none := by rw [fP, if_neg h1, if_neg h2]
theorem cp_rep {lf hf : Nat → Int64} {lo hi : Nat → Int64} {p : Nat} {X : IV × IV} (h : ∀ v, v < 4 → lf v = lo (4 * p + v) ∧ hf v = hi (4 * p + v)) (hR : ∀ v, v < 4 → lo (4 * p + v) = X.1 v ∧ hi (4 * p + v) = X.2 v) : FRep true lf hf (some X) := ⟨fun h => (by cases h), fun Y hY => by cases hY; exact ⟨rfl, fun v hv => ⟨(h v hv).1.trans (hR v hv).1, (h v hv).2.trans (hR v hv).2⟩⟩⟩
theorem next_2 {cd : Nat → Int32} {p : Nat} {X : IV × IV} {fs : Bool} {lf hf : Nat → Int64} (h : FRep fs lf hf (some X)) (ho : (cd (4 * p)).toInt = 2) (hb : (cd (4 * p + 2)).toNatClampNeg < 4) : FRep fs (vp_updL lf ((cd (4 * p + 1)).toNatClampNeg) (lf ((cd (4 * p + 2)).toNatClampNeg))) (vp_updL hf ((cd (4 * p + 1)).toNatClampNeg) (hf ((cd (4 * p + 2)).toNatClampNeg))) (fN cd p X) := by
  rw [fN_2 ho, ← ((h.2 X rfl).2 _ hb).1, ← ((h.2 X rfl).2 _ hb).2]; exact h.put _ _ _
theorem next_3 {cd : Nat → Int32} {p : Nat} {X : IV × IV} {fs fs1 : Bool} {lf hf lf1 hf1 : Nat → Int64} (h : FRep fs lf hf (some X)) (ho : 3 ≤ (cd (4 * p)).toInt ∧ (cd (4 * p)).toInt ≤ 6) (hb : (cd (4 * p + 2)).toNatClampNeg < 4) (hc : (cd (4 * p + 3)).toNatClampNeg < 4) (hq : ∀ X, FRep fs lf hf (some X) → FRep fs1 lf1 hf1 (resP X ((cd (4 * p + 1)).toNatClampNeg) (calcR ((cd (4 * p)).toInt) (lf ((cd (4 * p + 2)).toNatClampNeg)) (hf ((cd (4 * p + 2)).toNatClampNeg)) (lf ((cd (4 * p + 3)).toNatClampNeg)) (hf ((cd (4 * p + 3)).toNatClampNeg))))) : FRep fs1 lf1 hf1 (fN cd p X) := by
  have := hq X h
  rw [((h.2 X rfl).2 _ hb).1, ((h.2 X rfl).2 _ hb).2, ((h.2 X rfl).2 _ hc).1, ((h.2 X rfl).2 _ hc).2] at this
  rw [fN_3 ho]; exact this
theorem next_7 {cd : Nat → Int32} {p : Nat} {X : IV × IV} {fs fs1 : Bool} {lf hf : Nat → Int64} (h : FRep fs lf hf (some X)) (ho : (cd (4 * p)).toInt = 7) (hb : (cd (4 * p + 2)).toNatClampNeg < 4) (hq : (hf ((cd (4 * p + 2)).toNatClampNeg) < 0 ∨ 7 < lf ((cd (4 * p + 2)).toNatClampNeg) → fs1 = false) ∧ (¬ (hf ((cd (4 * p + 2)).toNatClampNeg) < 0 ∨ 7 < lf ((cd (4 * p + 2)).toNatClampNeg)) → fs1 = fs)) : FRep fs1 (vp_updL lf ((cd (4 * p + 1)).toNatClampNeg) (-2147483648)) (vp_updL hf ((cd (4 * p + 1)).toNatClampNeg) 2147483647) (fN cd p X) := by
  rw [((h.2 X rfl).2 _ hb).1, ((h.2 X rfl).2 _ hb).2] at hq
  rw [fN_7 ho]
  by_cases hc : X.2 ((cd (4 * p + 2)).toNatClampNeg) < 0 ∨ 7 < X.1 ((cd (4 * p + 2)).toNatClampNeg)
  · rw [if_pos hc, hq.1 hc]; exact frep_none
  · rw [if_neg hc, hq.2 hc]; exact h.put _ _ _
theorem next_8 {cd : Nat → Int32} {p : Nat} {X : IV × IV} {fs fs1 : Bool} {lf hf : Nat → Int64} (h : FRep fs lf hf (some X)) (ho : (cd (4 * p)).toInt = 8) (hb : (cd (4 * p + 2)).toNatClampNeg < 4) (hq : (hf ((cd (4 * p + 2)).toNatClampNeg) < 0 ∨ 7 < lf ((cd (4 * p + 2)).toNatClampNeg) → fs1 = false) ∧ (¬ (hf ((cd (4 * p + 2)).toNatClampNeg) < 0 ∨ 7 < lf ((cd (4 * p + 2)).toNatClampNeg)) → fs1 = fs)) : FRep fs1 lf hf (fN cd p X) := by
  rw [((h.2 X rfl).2 _ hb).1, ((h.2 X rfl).2 _ hb).2] at hq
  rw [fN_8 ho]
  by_cases hc : X.2 ((cd (4 * p + 2)).toNatClampNeg) < 0 ∨ 7 < X.1 ((cd (4 * p + 2)).toNatClampNeg)
  · rw [if_pos hc, hq.1 hc]; exact frep_none
  · rw [if_neg hc, hq.2 hc]; exact h
end
section
theorem arr_other {S : ST} {q p : Nat} {F : Option (IV × IV)} {w : Bool} (h : ¬ p = q) : (arr S q F w).2 p = S p := by
  unfold arr
  cases F with
  | none => rfl
  | some T => cases hS : S q <;> simp [upS, h]
def okS (S : ST) : Prop := ∀ q X, S q = some X → okX X
/-- what flows to p + 1 flows inside a whole program -/
theorem fN_in {cd : Nat → Int32} {n p : Nat} {X : IV × IV} (hn : n ≤ 24) (hw : wholeP cd n) (hp : p < n) (h : fN cd p X ≠ none) : p + 1 < n := by
  by_cases hq : p + 1 < n
  · exact hq
  · exfalso
    have e : p = n - 1 := by omega
    subst e
    exact h (fN_no hw.2.1)
theorem fP_op {cd : Nat → Int32} {p : Nat} {X : IV × IV} (h : fP cd p X ≠ none) : (cd (4 * p)).toInt = 9 ∨ (cd (4 * p)).toInt = 10 := by
  by_cases h1 : (cd (4 * p)).toInt = 9
  · exact Or.inl h1
  · by_cases h2 : (cd (4 * p)).toInt = 10
    · exact Or.inr h2
    · exact absurd (fP_no h1 h2) h
theorem fP_in {cd : Nat → Int32} {p : Nat} {X : IV × IV} (hok : okP cd p) (h : fP cd p X ≠ none) : (cd (4 * p + 3)).toInt = ((cd (4 * p + 3)).toNatClampNeg : Int) ∧ (cd (4 * p + 3)).toNatClampNeg < 24 := by
  have := okP_q hok (fP_op h)
  exact ⟨this.2.2, this.2.1⟩
def isK (cd : Nat → Int32) (n K : Nat) : Prop := 1 ≤ K ∧ K ≤ 10000 ∧ (∀ j, j + 1 < K → (rndTo cd (rndK cd n j) n).1 = true) ∧ (rndTo cd (rndK cd n (K - 1)) n).1 = false
theorem wb_eq {w : Bool} {x p : Int} : (w && decide (x ≤ p)) = true ↔ w = true ∧ x ≤ p := by simp
theorem rnd_none {cd : Nat → Int32} {S : ST} {k : Nat} (h : (rndTo cd S k).2 k = none) : rndTo cd S (k + 1) = rndTo cd S k := by simp only [rndTo, h]
theorem rnd_some {cd : Nat → Int32} {S : ST} {k : Nat} {X : IV × IV} (h : (rndTo cd S k).2 k = some X) : rndTo cd S (k + 1) = ((rndTo cd S k).1 || (snd2 cd k X true (rndTo cd S k).2).1, (snd2 cd k X true (rndTo cd S k).2).2) := by simp only [rndTo, h]
theorem set_none {cd : Nat → Int32} {S : ST} {k : Nat} (h : S k = none) : setTo cd S (k + 1) = setTo cd S k := by simp only [setTo, h]
theorem set_some {cd : Nat → Int32} {S : ST} {k : Nat} {X : IV × IV} (h : S k = some X) : setTo cd S (k + 1) = (snd2 cd k X false (setTo cd S k)).2 := by simp only [setTo, h]
theorem scan_ch {cd : Nat → Int32} {n K k : Nat} {r : Bool} (hK : isK cd n K) (h1 : 1 ≤ k) (h2 : k ≤ K) (hr : r = (rndTo cd (rndK cd n (k - 1)) n).1) : r = true ↔ k + 1 ≤ K := by
  by_cases h : k + 1 ≤ K
  · rw [hr, hK.2.2.1 (k - 1) (by omega)]; simp [h]
  · rw [hr, show k - 1 = K - 1 by omega, hK.2.2.2]; simp [h]
theorem rnd_ch {cd : Nat → Int32} {S : ST} {k : Nat} {X : IV × IV} {r ch : Bool} (h : (rndTo cd S k).2 k = some X) (hr : r = (snd2 cd k X true (rndTo cd S k).2).1) (hch : ch = (rndTo cd S k).1) : (rndTo cd S (k + 1)).1 = (ch || r) := by
  rw [rnd_some h, hr, hch]
end
section
theorem zm_X0_start_f9 : (Cond.fieldLink RX0 9 RX0 "something" "Z" : Cond) ∈ wsX0_start := by decide +kernel
theorem zin_X0_start_X0 : ∀ w ∈ u_ws RX0 TX0 3, w ∈ wsX0_start := by decide +kernel
set_option maxHeartbeats 4000000 in
set_option maxRecDepth 100000 in
theorem m_X0_start (l : Launch) (E : kE) (a : Nat) (b : Nat) (c : Nat) (fs : Bool) (lf : Nat → Int64) (hf : Nat → Int64)  : kC l yX0_start wsX0_start ({ frames := 0, cells := 0, slots := 0, locals := 0 } : Room) E [.ref a] (wX0 E a b c fs lf hf) 0 0 (fun v_ w_ => v_ = none ∧ w_ = (wX0 E a b c true lf hf)) := by
  refine kC.enter cX0_start 1 none [(0, .ref a)] (by decide) rfl (Nat.le_of_ble_eq_true rfl) rfl ?_
  intro g F Rr
  refine k_aload_n F (pc := 0) 0 rfl dX0_start_0 rfl ?_
  refine k_iconst F (pc := 1) ((nI 1)) dX0_start_1 (by decide) ?_
  refine k_put F (pc := 2) (ref := RX0) (C := RX0) (T := TX0) (N := 3) (ci := 0) (ty := .boolean) (v := .int (bI true)) tyX0 0 0 (wX0 E a b c true lf hf) dX0_start_2 zin_X0_start_X0 tyX0_ok nmX0 rfl rfl (by decide) zm_X0_start_f9 rfl rfl (by decide +kernel) rfl rfl (Nat.le_of_ble_eq_true rfl) rfl ?_
  exact k_vret F Rr (pc := 5) dX0_start_5 ⟨rfl, rfl⟩
theorem zm_X0_stop_f9 : (Cond.fieldLink RX0 9 RX0 "something" "Z" : Cond) ∈ wsX0_stop := by decide +kernel
theorem zin_X0_stop_X0 : ∀ w ∈ u_ws RX0 TX0 3, w ∈ wsX0_stop := by decide +kernel
set_option maxHeartbeats 4000000 in
set_option maxRecDepth 100000 in
theorem m_X0_stop (l : Launch) (E : kE) (a : Nat) (b : Nat) (c : Nat) (fs : Bool) (lf : Nat → Int64) (hf : Nat → Int64)  : kC l yX0_stop wsX0_stop ({ frames := 0, cells := 0, slots := 0, locals := 0 } : Room) E [.ref a] (wX0 E a b c fs lf hf) 0 0 (fun v_ w_ => v_ = none ∧ w_ = (wX0 E a b c false lf hf)) := by
  refine kC.enter cX0_stop 1 none [(0, .ref a)] (by decide) rfl (Nat.le_of_ble_eq_true rfl) rfl ?_
  intro g F Rr
  refine k_aload_n F (pc := 0) 0 rfl dX0_stop_0 rfl ?_
  refine k_iconst F (pc := 1) ((nI 0)) dX0_stop_1 (by decide) ?_
  refine k_put F (pc := 2) (ref := RX0) (C := RX0) (T := TX0) (N := 3) (ci := 0) (ty := .boolean) (v := .int (bI false)) tyX0 0 0 (wX0 E a b c false lf hf) dX0_stop_2 zin_X0_stop_X0 tyX0_ok nmX0 rfl rfl (by decide) zm_X0_stop_f9 rfl rfl (by decide +kernel) rfl rfl (Nat.le_of_ble_eq_true rfl) rfl ?_
  exact k_vret F Rr (pc := 5) dX0_stop_5 ⟨rfl, rfl⟩
theorem zm_X0_isSomething_f9 : (Cond.fieldLink RX0 9 RX0 "something" "Z" : Cond) ∈ wsX0_isSomething := by decide +kernel
theorem zin_X0_isSomething_X0 : ∀ w ∈ u_ws RX0 TX0 3, w ∈ wsX0_isSomething := by decide +kernel
set_option maxHeartbeats 4000000 in
set_option maxRecDepth 100000 in
theorem m_X0_isSomething (l : Launch) (E : kE) (a : Nat) (b : Nat) (c : Nat) (fs : Bool) (lf : Nat → Int64) (hf : Nat → Int64)  : kC l yX0_isSomething wsX0_isSomething ({ frames := 0, cells := 0, slots := 0, locals := 0 } : Room) E [.ref a] (wX0 E a b c fs lf hf) 0 0 (fun v_ w_ => v_ = some (.int (bI fs)) ∧ w_ = (wX0 E a b c fs lf hf)) := by
  refine kC.enter cX0_isSomething 1 (some .boolean) [(0, .ref a)] (by decide) rfl (Nat.le_of_ble_eq_true rfl) rfl ?_
  intro g F Rr
  refine k_aload_n F (pc := 0) 0 rfl dX0_isSomething_0 rfl ?_
  refine k_get F (pc := 1) (ref := RX0) (C := RX0) (T := TX0) (N := 3) (ci := 0) 0 0 dX0_isSomething_1 zin_X0_isSomething_X0 rfl rfl (by decide) zm_X0_isSomething_f9 rfl rfl ?_
  exact k_zret F Rr (pc := 4) fs dX0_isSomething_4 rfl ⟨rfl, rfl⟩
theorem zm_X0_lowOf_f15 : (Cond.fieldLink RX0 15 RX0 "lows" "[J" : Cond) ∈ wsX0_lowOf := by decide +kernel
theorem zin_X0_lowOf_X0 : ∀ w ∈ u_ws RX0 TX0 3, w ∈ wsX0_lowOf := by decide +kernel
set_option maxHeartbeats 4000000 in
set_option maxRecDepth 100000 in
theorem m_X0_lowOf (l : Launch) (E : kE) (a : Nat) (b : Nat) (c : Nat) (fs : Bool) (lf : Nat → Int64) (hf : Nat → Int64) (v : Nat) (hv : v < 4) : kC l yX0_lowOf wsX0_lowOf ({ frames := 0, cells := 0, slots := 0, locals := 0 } : Room) E [.ref a, .int (nI v)] (wX0 E a b c fs lf hf) 0 0 (fun v_ w_ => v_ = some (.long (lf v)) ∧ w_ = (wX0 E a b c fs lf hf)) := by
  refine kC.enter cX0_lowOf 2 (some .long) [(0, .ref a), (1, .int (nI v))] (by decide) rfl (Nat.le_of_ble_eq_true rfl) rfl ?_
  intro g F Rr
  refine k_aload_n F (pc := 0) 0 rfl dX0_lowOf_0 rfl ?_
  refine k_get F (pc := 1) (ref := RX0) (C := RX0) (T := TX0) (N := 3) (ci := 0) 0 1 dX0_lowOf_1 zin_X0_lowOf_X0 rfl rfl (by decide) zm_X0_lowOf_f15 rfl rfl ?_
  refine k_iload_n F (pc := 4) 1 rfl dX0_lowOf_4 rfl ?_
  refine k_lald F (pc := 5) 1 dX0_lowOf_5 rfl (by omega) (by decide) ?_
  exact k_lret F Rr (pc := 6) dX0_lowOf_6 ⟨rfl, rfl⟩
theorem zm_X0_highOf_f19 : (Cond.fieldLink RX0 19 RX0 "highs" "[J" : Cond) ∈ wsX0_highOf := by decide +kernel
theorem zin_X0_highOf_X0 : ∀ w ∈ u_ws RX0 TX0 3, w ∈ wsX0_highOf := by decide +kernel
set_option maxHeartbeats 4000000 in
set_option maxRecDepth 100000 in
theorem m_X0_highOf (l : Launch) (E : kE) (a : Nat) (b : Nat) (c : Nat) (fs : Bool) (lf : Nat → Int64) (hf : Nat → Int64) (v : Nat) (hv : v < 4) : kC l yX0_highOf wsX0_highOf ({ frames := 0, cells := 0, slots := 0, locals := 0 } : Room) E [.ref a, .int (nI v)] (wX0 E a b c fs lf hf) 0 0 (fun v_ w_ => v_ = some (.long (hf v)) ∧ w_ = (wX0 E a b c fs lf hf)) := by
  refine kC.enter cX0_highOf 2 (some .long) [(0, .ref a), (1, .int (nI v))] (by decide) rfl (Nat.le_of_ble_eq_true rfl) rfl ?_
  intro g F Rr
  refine k_aload_n F (pc := 0) 0 rfl dX0_highOf_0 rfl ?_
  refine k_get F (pc := 1) (ref := RX0) (C := RX0) (T := TX0) (N := 3) (ci := 0) 0 2 dX0_highOf_1 zin_X0_highOf_X0 rfl rfl (by decide) zm_X0_highOf_f19 rfl rfl ?_
  refine k_iload_n F (pc := 4) 1 rfl dX0_highOf_4 rfl ?_
  refine k_lald F (pc := 5) 2 dX0_highOf_5 rfl (by omega) (by decide) ?_
  exact k_lret F Rr (pc := 6) dX0_highOf_6 ⟨rfl, rfl⟩
theorem zm_X0_put_f15 : (Cond.fieldLink RX0 15 RX0 "lows" "[J" : Cond) ∈ wsX0_put := by decide +kernel
theorem zin_X0_put_X0 : ∀ w ∈ u_ws RX0 TX0 3, w ∈ wsX0_put := by decide +kernel
theorem zm_X0_put_f19 : (Cond.fieldLink RX0 19 RX0 "highs" "[J" : Cond) ∈ wsX0_put := by decide +kernel
set_option maxHeartbeats 4000000 in
set_option maxRecDepth 100000 in
theorem m_X0_put (l : Launch) (E : kE) (a : Nat) (b : Nat) (c : Nat) (fs : Bool) (lf : Nat → Int64) (hf : Nat → Int64) (v : Nat) (x : Int64) (y : Int64) (hv : v < 4) : kC l yX0_put wsX0_put ({ frames := 0, cells := 0, slots := 0, locals := 0 } : Room) E [.ref a, .int (nI v), .long x, .long y] (wX0 E a b c fs lf hf) 0 0 (fun v_ w_ => v_ = none ∧ w_ = (wX0 E a b c fs (vp_updL lf v x) (vp_updL hf v y))) := by
  refine kC.enter cX0_put 6 none [(0, .ref a), (1, .int (nI v)), (2, .long x), (4, .long y)] (by decide) rfl (Nat.le_of_ble_eq_true rfl) rfl ?_
  intro g F Rr
  refine k_aload_n F (pc := 0) 0 rfl dX0_put_0 rfl ?_
  refine k_get F (pc := 1) (ref := RX0) (C := RX0) (T := TX0) (N := 3) (ci := 0) 0 1 dX0_put_1 zin_X0_put_X0 rfl rfl (by decide) zm_X0_put_f15 rfl rfl ?_
  refine k_iload_n F (pc := 4) 1 rfl dX0_put_4 rfl ?_
  refine k_lload_n F (pc := 5) 2 rfl dX0_put_5 rfl ?_
  refine k_last F (pc := 6) 1 (fun lf_1 => (wX0 E a b c fs lf_1 hf)) dX0_put_6 rfl (by omega) (by decide) (fun _ => rfl) (fun lf_1 elf_1 => ?_)
  refine k_aload_n F (pc := 7) 0 rfl dX0_put_7 rfl ?_
  refine k_get F (pc := 8) (ref := RX0) (C := RX0) (T := TX0) (N := 3) (ci := 0) 0 2 dX0_put_8 zin_X0_put_X0 rfl rfl (by decide) zm_X0_put_f19 rfl rfl ?_
  refine k_iload_n F (pc := 11) 1 rfl dX0_put_11 rfl ?_
  refine k_lload F (pc := 12) 3 rfl dX0_put_12 ?_
  refine k_last F (pc := 14) 2 (fun hf_2 => (wX0 E a b c fs lf_1 hf_2)) dX0_put_14 rfl (by omega) (by decide) (fun _ => rfl) (fun hf_2 ehf_2 => ?_)
  subst ehf_2
  subst elf_1
  exact k_vret F Rr (pc := 15) dX0_put_15 ⟨rfl, rfl⟩
theorem zm_X0_stopIfCrossed_f15 : (Cond.fieldLink RX0 15 RX0 "lows" "[J" : Cond) ∈ wsX0_stopIfCrossed := by decide +kernel
theorem zin_X0_stopIfCrossed_X0 : ∀ w ∈ u_ws RX0 TX0 3, w ∈ wsX0_stopIfCrossed := by decide +kernel
theorem zm_X0_stopIfCrossed_f19 : (Cond.fieldLink RX0 19 RX0 "highs" "[J" : Cond) ∈ wsX0_stopIfCrossed := by decide +kernel
theorem zm_X0_stopIfCrossed_f9 : (Cond.fieldLink RX0 9 RX0 "something" "Z" : Cond) ∈ wsX0_stopIfCrossed := by decide +kernel
set_option maxHeartbeats 4000000 in
set_option maxRecDepth 100000 in
theorem m_X0_stopIfCrossed (l : Launch) (E : kE) (a : Nat) (b : Nat) (c : Nat) (fs : Bool) (lf : Nat → Int64) (hf : Nat → Int64) (v : Nat) (hv : v < 4) : kC l yX0_stopIfCrossed wsX0_stopIfCrossed ({ frames := 0, cells := 0, slots := 0, locals := 0 } : Room) E [.ref a, .int (nI v)] (wX0 E a b c fs lf hf) 0 0 (fun v_ w_ => ∃ (fs1 : Bool), v_ = none ∧ w_ = (wX0 E a b c fs1 lf hf) ∧ (fs1 = true ↔ fs = true ∧ ¬ hf v < lf v)) := by
  refine kC.enter cX0_stopIfCrossed 2 none [(0, .ref a), (1, .int (nI v))] (by decide) rfl (Nat.le_of_ble_eq_true rfl) rfl ?_
  intro g F Rr
  refine k_aload_n F (pc := 0) 0 rfl dX0_stopIfCrossed_0 rfl ?_
  refine k_get F (pc := 1) (ref := RX0) (C := RX0) (T := TX0) (N := 3) (ci := 0) 0 1 dX0_stopIfCrossed_1 zin_X0_stopIfCrossed_X0 rfl rfl (by decide) zm_X0_stopIfCrossed_f15 rfl rfl ?_
  refine k_iload_n F (pc := 4) 1 rfl dX0_stopIfCrossed_4 rfl ?_
  refine k_lald F (pc := 5) 1 dX0_stopIfCrossed_5 rfl (by omega) (by decide) ?_
  refine k_aload_n F (pc := 6) 0 rfl dX0_stopIfCrossed_6 rfl ?_
  refine k_get F (pc := 7) (ref := RX0) (C := RX0) (T := TX0) (N := 3) (ci := 0) 0 2 dX0_stopIfCrossed_7 zin_X0_stopIfCrossed_X0 rfl rfl (by decide) zm_X0_stopIfCrossed_f19 rfl rfl ?_
  refine k_iload_n F (pc := 10) 1 rfl dX0_stopIfCrossed_10 rfl ?_
  refine k_lald F (pc := 11) 2 dX0_stopIfCrossed_11 rfl (by omega) (by decide) ?_
  refine k_lcmp_le F (pc := 12) 21 dX0_stopIfCrossed_12 dX0_stopIfCrossed_13 (by decide) (fun c_1 => ?_) (fun c_1 => ?_)
  · skip
    refine k_vret F Rr (pc := 21) dX0_stopIfCrossed_21 ⟨fs, rfl, rfl, ?_⟩
    simp_all
  · skip
    refine k_aload_n F (pc := 16) 0 rfl dX0_stopIfCrossed_16 rfl ?_
    refine k_iconst F (pc := 17) ((nI 0)) dX0_stopIfCrossed_17 (by decide) ?_
    refine k_put F (pc := 18) (ref := RX0) (C := RX0) (T := TX0) (N := 3) (ci := 0) (ty := .boolean) (v := .int (bI false)) tyX0 0 0 (wX0 E a b c false lf hf) dX0_stopIfCrossed_18 zin_X0_stopIfCrossed_X0 tyX0_ok nmX0 rfl rfl (by decide) zm_X0_stopIfCrossed_f9 rfl rfl (by decide +kernel) rfl rfl (Nat.le_of_ble_eq_true rfl) rfl ?_
    refine k_vret F Rr (pc := 21) dX0_stopIfCrossed_21 ⟨false, rfl, rfl, ?_⟩
    simp_all
theorem zm_X0_raiseLow_f15 : (Cond.fieldLink RX0 15 RX0 "lows" "[J" : Cond) ∈ wsX0_raiseLow := by decide +kernel
theorem zin_X0_raiseLow_X0 : ∀ w ∈ u_ws RX0 TX0 3, w ∈ wsX0_raiseLow := by decide +kernel
theorem zm_X0_raiseLow_max22a : (Cond.methodLink RX0 22 Lib.MathLoose.max_long.x : Cond) ∈ wsX0_raiseLow := by decide +kernel
theorem zm_X0_raiseLow_maxb : (Cond.static Lib.MathLoose.max_long.x : Cond) ∈ wsX0_raiseLow := by decide +kernel
theorem zm_X0_raiseLow_mathc : (Cond.initialized "java/lang/Math" : Cond) ∈ wsX0_raiseLow := by decide +kernel
theorem zm_X0_raiseLow_maxd : (Cond.code Lib.MathLoose.max_long.x Lib.MathLoose.max_long.code 4 (some .long) : Cond) ∈ wsX0_raiseLow := by decide +kernel
set_option maxHeartbeats 4000000 in
set_option maxRecDepth 100000 in
theorem m_X0_raiseLow (l : Launch) (E : kE) (a : Nat) (b : Nat) (c : Nat) (fs : Bool) (lf : Nat → Int64) (hf : Nat → Int64) (v : Nat) (x : Int64) (hv : v < 4) : kC l yX0_raiseLow wsX0_raiseLow ({ frames := 1, cells := 0, slots := 0, locals := 21 } : Room) E [.ref a, .int (nI v), .long x] (wX0 E a b c fs lf hf) 0 0 (fun v_ w_ => ∃ (fs1 : Bool), v_ = none ∧ w_ = (wX0 E a b c fs1 (vp_updL lf v (mx (lf v) x)) hf) ∧ (fs1 = true ↔ fs = true ∧ ¬ hf v < mx (lf v) x)) := by
  refine kC.enter cX0_raiseLow 4 none [(0, .ref a), (1, .int (nI v)), (2, .long x)] (by decide) rfl (Nat.le_of_ble_eq_true rfl) rfl ?_
  intro g F Rr
  refine k_aload_n F (pc := 0) 0 rfl dX0_raiseLow_0 rfl ?_
  refine k_get F (pc := 1) (ref := RX0) (C := RX0) (T := TX0) (N := 3) (ci := 0) 0 1 dX0_raiseLow_1 zin_X0_raiseLow_X0 rfl rfl (by decide) zm_X0_raiseLow_f15 rfl rfl ?_
  refine k_iload_n F (pc := 4) 1 rfl dX0_raiseLow_4 rfl ?_
  refine k_aload_n F (pc := 5) 0 rfl dX0_raiseLow_5 rfl ?_
  refine k_get F (pc := 6) (ref := RX0) (C := RX0) (T := TX0) (N := 3) (ci := 0) 0 1 dX0_raiseLow_6 zin_X0_raiseLow_X0 rfl rfl (by decide) zm_X0_raiseLow_f15 rfl rfl ?_
  refine k_iload_n F (pc := 9) 1 rfl dX0_raiseLow_9 rfl ?_
  refine k_lald F (pc := 10) 1 dX0_raiseLow_10 rfl (by omega) (by decide) ?_
  refine k_lload_n F (pc := 11) 2 rfl dX0_raiseLow_11 rfl ?_
  refine k_mmax F (pc := 12) dX0_raiseLow_12 zm_X0_raiseLow_max22a zm_X0_raiseLow_maxb zm_X0_raiseLow_mathc zm_X0_raiseLow_maxd (by decide) (Nat.le_of_ble_eq_true rfl) (by decide) (by decide) ?_
  refine k_last F (pc := 15) 1 (fun lf_1 => (wX0 E a b c fs lf_1 hf)) dX0_raiseLow_15 rfl (by omega) (by decide) (fun _ => rfl) (fun lf_1 elf_1 => ?_)
  refine k_aload_n F (pc := 16) 0 rfl dX0_raiseLow_16 rfl ?_
  refine k_iload_n F (pc := 17) 1 rfl dX0_raiseLow_17 rfl ?_
  refine k_callV F (pc := 18) (C := RX0) (T := TX0) (N := 3) (ci := 0) [.int (nI v)] [] 1 (wX0 E a b c fs lf_1 hf) [] [0, 1, 2] [] (m_X0_stopIfCrossed l E a b c fs lf_1 hf v (by omega)) dX0_raiseLow_18 gX0_raiseLow_X0_stopIfCrossed rfl (by decide +kernel) rfl ⟨rfl, rfl⟩ (by decide) rfl (Nat.le_of_ble_eq_true rfl) (by decide) rfl rfl rfl rfl (by decide) (by decide) (by decide) ?_
  rintro v_3 w_4 ⟨fs1_2, rfl, rfl, hq⟩
  refine k_perm (wX0 E a b c fs1_2 lf_1 hf) [0, 1, 2] (by decide) rfl ?_
  show kK g (wX0 E a b c fs1_2 lf_1 hf) [(0, .ref a), (1, .int (nI v)), (2, .long x)] 0 0 21 []
  subst elf_1
  refine k_vret F Rr (pc := 21) dX0_raiseLow_21 ⟨_, rfl, rfl, ?_⟩
  simpa [vp_updL, mx] using hq
theorem zm_X0_lowerHigh_f19 : (Cond.fieldLink RX0 19 RX0 "highs" "[J" : Cond) ∈ wsX0_lowerHigh := by decide +kernel
theorem zin_X0_lowerHigh_X0 : ∀ w ∈ u_ws RX0 TX0 3, w ∈ wsX0_lowerHigh := by decide +kernel
theorem zm_X0_lowerHigh_min32a : (Cond.methodLink RX0 32 Lib.MathLoose.min_long.x : Cond) ∈ wsX0_lowerHigh := by decide +kernel
theorem zm_X0_lowerHigh_minb : (Cond.static Lib.MathLoose.min_long.x : Cond) ∈ wsX0_lowerHigh := by decide +kernel
theorem zm_X0_lowerHigh_mathc : (Cond.initialized "java/lang/Math" : Cond) ∈ wsX0_lowerHigh := by decide +kernel
theorem zm_X0_lowerHigh_mind : (Cond.code Lib.MathLoose.min_long.x Lib.MathLoose.min_long.code 4 (some .long) : Cond) ∈ wsX0_lowerHigh := by decide +kernel
set_option maxHeartbeats 4000000 in
set_option maxRecDepth 100000 in
theorem m_X0_lowerHigh (l : Launch) (E : kE) (a : Nat) (b : Nat) (c : Nat) (fs : Bool) (lf : Nat → Int64) (hf : Nat → Int64) (v : Nat) (x : Int64) (hv : v < 4) : kC l yX0_lowerHigh wsX0_lowerHigh ({ frames := 1, cells := 0, slots := 0, locals := 21 } : Room) E [.ref a, .int (nI v), .long x] (wX0 E a b c fs lf hf) 0 0 (fun v_ w_ => ∃ (fs1 : Bool), v_ = none ∧ w_ = (wX0 E a b c fs1 lf (vp_updL hf v (mn (hf v) x))) ∧ (fs1 = true ↔ fs = true ∧ ¬ mn (hf v) x < lf v)) := by
  refine kC.enter cX0_lowerHigh 4 none [(0, .ref a), (1, .int (nI v)), (2, .long x)] (by decide) rfl (Nat.le_of_ble_eq_true rfl) rfl ?_
  intro g F Rr
  refine k_aload_n F (pc := 0) 0 rfl dX0_lowerHigh_0 rfl ?_
  refine k_get F (pc := 1) (ref := RX0) (C := RX0) (T := TX0) (N := 3) (ci := 0) 0 2 dX0_lowerHigh_1 zin_X0_lowerHigh_X0 rfl rfl (by decide) zm_X0_lowerHigh_f19 rfl rfl ?_
  refine k_iload_n F (pc := 4) 1 rfl dX0_lowerHigh_4 rfl ?_
  refine k_aload_n F (pc := 5) 0 rfl dX0_lowerHigh_5 rfl ?_
  refine k_get F (pc := 6) (ref := RX0) (C := RX0) (T := TX0) (N := 3) (ci := 0) 0 2 dX0_lowerHigh_6 zin_X0_lowerHigh_X0 rfl rfl (by decide) zm_X0_lowerHigh_f19 rfl rfl ?_
  refine k_iload_n F (pc := 9) 1 rfl dX0_lowerHigh_9 rfl ?_
  refine k_lald F (pc := 10) 2 dX0_lowerHigh_10 rfl (by omega) (by decide) ?_
  refine k_lload_n F (pc := 11) 2 rfl dX0_lowerHigh_11 rfl ?_
  refine k_mmin F (pc := 12) dX0_lowerHigh_12 zm_X0_lowerHigh_min32a zm_X0_lowerHigh_minb zm_X0_lowerHigh_mathc zm_X0_lowerHigh_mind (by decide) (Nat.le_of_ble_eq_true rfl) (by decide) (by decide) ?_
  refine k_last F (pc := 15) 2 (fun hf_1 => (wX0 E a b c fs lf hf_1)) dX0_lowerHigh_15 rfl (by omega) (by decide) (fun _ => rfl) (fun hf_1 ehf_1 => ?_)
  refine k_aload_n F (pc := 16) 0 rfl dX0_lowerHigh_16 rfl ?_
  refine k_iload_n F (pc := 17) 1 rfl dX0_lowerHigh_17 rfl ?_
  refine k_callV F (pc := 18) (C := RX0) (T := TX0) (N := 3) (ci := 0) [.int (nI v)] [] 1 (wX0 E a b c fs lf hf_1) [] [0, 1, 2] [] (m_X0_stopIfCrossed l E a b c fs lf hf_1 v (by omega)) dX0_lowerHigh_18 gX0_lowerHigh_X0_stopIfCrossed rfl (by decide +kernel) rfl ⟨rfl, rfl⟩ (by decide) rfl (Nat.le_of_ble_eq_true rfl) (by decide) rfl rfl rfl rfl (by decide) (by decide) (by decide) ?_
  rintro v_3 w_4 ⟨fs1_2, rfl, rfl, hq⟩
  refine k_perm (wX0 E a b c fs1_2 lf hf_1) [0, 1, 2] (by decide) rfl ?_
  show kK g (wX0 E a b c fs1_2 lf hf_1) [(0, .ref a), (1, .int (nI v)), (2, .long x)] 0 0 21 []
  subst ehf_1
  refine k_vret F Rr (pc := 21) dX0_lowerHigh_21 ⟨_, rfl, rfl, ?_⟩
  simpa [vp_updL, mn] using hq
end
section
theorem zm_X1_forget_f7 : (Cond.fieldLink RX1 7 RX1 "empty" "Z" : Cond) ∈ wsX1_forget := by decide +kernel
theorem zin_X1_forget_X1 : ∀ w ∈ u_ws RX1 TX1 3, w ∈ wsX1_forget := by decide +kernel
set_option maxHeartbeats 4000000 in
set_option maxRecDepth 100000 in
theorem m_X1_forget (l : Launch) (E : kE) (a : Nat) (em : Bool) (le : Int64) (gr : Int64)  : kC l yX1_forget wsX1_forget ({ frames := 0, cells := 0, slots := 0, locals := 0 } : Room) E [.ref a] (wX1 E a em le gr) 0 0 (fun v_ w_ => v_ = none ∧ w_ = (wX1 E a true le gr)) := by
  refine kC.enter cX1_forget 1 none [(0, .ref a)] (by decide) rfl (Nat.le_of_ble_eq_true rfl) rfl ?_
  intro g F Rr
  refine k_aload_n F (pc := 0) 0 rfl dX1_forget_0 rfl ?_
  refine k_iconst F (pc := 1) ((nI 1)) dX1_forget_1 (by decide) ?_
  refine k_put F (pc := 2) (ref := RX1) (C := RX1) (T := TX1) (N := 3) (ci := 1) (ty := .boolean) (v := .int (bI true)) tyX1 0 0 (wX1 E a true le gr) dX1_forget_2 zin_X1_forget_X1 tyX1_ok nmX1 rfl rfl (by decide) zm_X1_forget_f7 rfl rfl (by decide +kernel) rfl rfl (Nat.le_of_ble_eq_true rfl) rfl ?_
  exact k_vret F Rr (pc := 5) dX1_forget_5 ⟨rfl, rfl⟩
theorem zm_X1_isEmpty_f7 : (Cond.fieldLink RX1 7 RX1 "empty" "Z" : Cond) ∈ wsX1_isEmpty := by decide +kernel
theorem zin_X1_isEmpty_X1 : ∀ w ∈ u_ws RX1 TX1 3, w ∈ wsX1_isEmpty := by decide +kernel
set_option maxHeartbeats 4000000 in
set_option maxRecDepth 100000 in
theorem m_X1_isEmpty (l : Launch) (E : kE) (a : Nat) (em : Bool) (le : Int64) (gr : Int64)  : kC l yX1_isEmpty wsX1_isEmpty ({ frames := 0, cells := 0, slots := 0, locals := 0 } : Room) E [.ref a] (wX1 E a em le gr) 0 0 (fun v_ w_ => v_ = some (.int (bI em)) ∧ w_ = (wX1 E a em le gr)) := by
  refine kC.enter cX1_isEmpty 1 (some .boolean) [(0, .ref a)] (by decide) rfl (Nat.le_of_ble_eq_true rfl) rfl ?_
  intro g F Rr
  refine k_aload_n F (pc := 0) 0 rfl dX1_isEmpty_0 rfl ?_
  refine k_get F (pc := 1) (ref := RX1) (C := RX1) (T := TX1) (N := 3) (ci := 1) 0 0 dX1_isEmpty_1 zin_X1_isEmpty_X1 rfl rfl (by decide) zm_X1_isEmpty_f7 rfl rfl ?_
  exact k_zret F Rr (pc := 4) em dX1_isEmpty_4 rfl ⟨rfl, rfl⟩
theorem zm_X1_take_f7 : (Cond.fieldLink RX1 7 RX1 "empty" "Z" : Cond) ∈ wsX1_take := by decide +kernel
theorem zin_X1_take_X1 : ∀ w ∈ u_ws RX1 TX1 3, w ∈ wsX1_take := by decide +kernel
theorem zm_X1_take_f13 : (Cond.fieldLink RX1 13 RX1 "least" "J" : Cond) ∈ wsX1_take := by decide +kernel
theorem zm_X1_take_f17 : (Cond.fieldLink RX1 17 RX1 "greatest" "J" : Cond) ∈ wsX1_take := by decide +kernel
set_option maxHeartbeats 4000000 in
set_option maxRecDepth 100000 in
theorem m_X1_take (l : Launch) (E : kE) (a : Nat) (em : Bool) (le : Int64) (gr : Int64) (r : Int64)  : kC l yX1_take wsX1_take ({ frames := 0, cells := 0, slots := 0, locals := 0 } : Room) E [.ref a, .long r] (wX1 E a em le gr) 0 0 (fun v_ w_ => ∃ (le1 : Int64) (gr1 : Int64), v_ = none ∧ w_ = (wX1 E a false le1 gr1) ∧ (∀ o, RRep em le gr o → RRep false le1 gr1 (tk r o))) := by
  refine kC.enter cX1_take 3 none [(0, .ref a), (1, .long r)] (by decide) rfl (Nat.le_of_ble_eq_true rfl) rfl ?_
  intro g F Rr
  refine k_aload_n F (pc := 0) 0 rfl dX1_take_0 rfl ?_
  refine k_get F (pc := 1) (ref := RX1) (C := RX1) (T := TX1) (N := 3) (ci := 1) 0 0 dX1_take_1 zin_X1_take_X1 rfl rfl (by decide) zm_X1_take_f7 rfl rfl ?_
  refine k_if_neB F (pc := 4) 16 dX1_take_4 (by decide) (fun c_1 => ?_) (fun c_1 => ?_)
  · skip
    refine k_aload_n F (pc := 16) 0 rfl dX1_take_16 rfl ?_
    refine k_lload_n F (pc := 17) 1 rfl dX1_take_17 rfl ?_
    refine k_put F (pc := 18) (ref := RX1) (C := RX1) (T := TX1) (N := 3) (ci := 1) (ty := .long) (v := .long r) tyX1 0 1 (wX1 E a em r gr) dX1_take_18 zin_X1_take_X1 tyX1_ok nmX1 rfl rfl (by decide) zm_X1_take_f13 rfl rfl (by decide +kernel) rfl rfl (Nat.le_of_ble_eq_true rfl) rfl ?_
    refine k_aload_n F (pc := 21) 0 rfl dX1_take_21 rfl ?_
    refine k_get F (pc := 22) (ref := RX1) (C := RX1) (T := TX1) (N := 3) (ci := 1) 0 0 dX1_take_22 zin_X1_take_X1 rfl rfl (by decide) zm_X1_take_f7 rfl rfl ?_
    refine k_if_neB F (pc := 25) 37 dX1_take_25 (by decide) (fun c_2 => ?_) (fun c_2 => ?_)
    · skip
      refine k_aload_n F (pc := 37) 0 rfl dX1_take_37 rfl ?_
      refine k_lload_n F (pc := 38) 1 rfl dX1_take_38 rfl ?_
      refine k_put F (pc := 39) (ref := RX1) (C := RX1) (T := TX1) (N := 3) (ci := 1) (ty := .long) (v := .long r) tyX1 0 2 (wX1 E a em r r) dX1_take_39 zin_X1_take_X1 tyX1_ok nmX1 rfl rfl (by decide) zm_X1_take_f17 rfl rfl (by decide +kernel) rfl rfl (Nat.le_of_ble_eq_true rfl) rfl ?_
      refine k_aload_n F (pc := 42) 0 rfl dX1_take_42 rfl ?_
      refine k_iconst F (pc := 43) ((nI 0)) dX1_take_43 (by decide) ?_
      refine k_put F (pc := 44) (ref := RX1) (C := RX1) (T := TX1) (N := 3) (ci := 1) (ty := .boolean) (v := .int (bI false)) tyX1 0 0 (wX1 E a false r r) dX1_take_44 zin_X1_take_X1 tyX1_ok nmX1 rfl rfl (by decide) zm_X1_take_f7 rfl rfl (by decide +kernel) rfl rfl (Nat.le_of_ble_eq_true rfl) rfl ?_
      refine k_vret F Rr (pc := 47) dX1_take_47 ⟨r, r, rfl, rfl, ?_⟩
      refine tk_rep ?_ ?_ <;> first | exact (if_pos (Or.inl (by assumption))).symm | exact (if_pos (Or.inr (by assumption))).symm | exact (if_neg (or_ff (by assumption) (by assumption))).symm
    · skip
      refine k_lload_n F (pc := 28) 1 rfl dX1_take_28 rfl ?_
      refine k_aload_n F (pc := 29) 0 rfl dX1_take_29 rfl ?_
      refine k_get F (pc := 30) (ref := RX1) (C := RX1) (T := TX1) (N := 3) (ci := 1) 0 2 dX1_take_30 zin_X1_take_X1 rfl rfl (by decide) zm_X1_take_f17 rfl rfl ?_
      refine k_lcmp_le F (pc := 33) 42 dX1_take_33 dX1_take_34 (by decide) (fun c_3 => ?_) (fun c_3 => ?_)
      · skip
        refine k_aload_n F (pc := 42) 0 rfl dX1_take_42 rfl ?_
        refine k_iconst F (pc := 43) ((nI 0)) dX1_take_43 (by decide) ?_
        refine k_put F (pc := 44) (ref := RX1) (C := RX1) (T := TX1) (N := 3) (ci := 1) (ty := .boolean) (v := .int (bI false)) tyX1 0 0 (wX1 E a false r gr) dX1_take_44 zin_X1_take_X1 tyX1_ok nmX1 rfl rfl (by decide) zm_X1_take_f7 rfl rfl (by decide +kernel) rfl rfl (Nat.le_of_ble_eq_true rfl) rfl ?_
        refine k_vret F Rr (pc := 47) dX1_take_47 ⟨r, gr, rfl, rfl, ?_⟩
        refine tk_rep ?_ ?_ <;> first | exact (if_pos (Or.inl (by assumption))).symm | exact (if_pos (Or.inr (by assumption))).symm | exact (if_neg (or_ff (by assumption) (by assumption))).symm
      · skip
        refine k_aload_n F (pc := 37) 0 rfl dX1_take_37 rfl ?_
        refine k_lload_n F (pc := 38) 1 rfl dX1_take_38 rfl ?_
        refine k_put F (pc := 39) (ref := RX1) (C := RX1) (T := TX1) (N := 3) (ci := 1) (ty := .long) (v := .long r) tyX1 0 2 (wX1 E a em r r) dX1_take_39 zin_X1_take_X1 tyX1_ok nmX1 rfl rfl (by decide) zm_X1_take_f17 rfl rfl (by decide +kernel) rfl rfl (Nat.le_of_ble_eq_true rfl) rfl ?_
        refine k_aload_n F (pc := 42) 0 rfl dX1_take_42 rfl ?_
        refine k_iconst F (pc := 43) ((nI 0)) dX1_take_43 (by decide) ?_
        refine k_put F (pc := 44) (ref := RX1) (C := RX1) (T := TX1) (N := 3) (ci := 1) (ty := .boolean) (v := .int (bI false)) tyX1 0 0 (wX1 E a false r r) dX1_take_44 zin_X1_take_X1 tyX1_ok nmX1 rfl rfl (by decide) zm_X1_take_f7 rfl rfl (by decide +kernel) rfl rfl (Nat.le_of_ble_eq_true rfl) rfl ?_
        refine k_vret F Rr (pc := 47) dX1_take_47 ⟨r, r, rfl, rfl, ?_⟩
        refine tk_rep ?_ ?_ <;> first | exact (if_pos (Or.inl (by assumption))).symm | exact (if_pos (Or.inr (by assumption))).symm | exact (if_neg (or_ff (by assumption) (by assumption))).symm
  · skip
    refine k_lload_n F (pc := 7) 1 rfl dX1_take_7 rfl ?_
    refine k_aload_n F (pc := 8) 0 rfl dX1_take_8 rfl ?_
    refine k_get F (pc := 9) (ref := RX1) (C := RX1) (T := TX1) (N := 3) (ci := 1) 0 1 dX1_take_9 zin_X1_take_X1 rfl rfl (by decide) zm_X1_take_f13 rfl rfl ?_
    refine k_lcmp_ge F (pc := 12) 21 dX1_take_12 dX1_take_13 (by decide) (fun c_4 => ?_) (fun c_4 => ?_)
    · skip
      refine k_aload_n F (pc := 21) 0 rfl dX1_take_21 rfl ?_
      refine k_get F (pc := 22) (ref := RX1) (C := RX1) (T := TX1) (N := 3) (ci := 1) 0 0 dX1_take_22 zin_X1_take_X1 rfl rfl (by decide) zm_X1_take_f7 rfl rfl ?_
      refine k_if_neB F (pc := 25) 37 dX1_take_25 (by decide) (fun c_5 => ?_) (fun c_5 => ?_)
      · skip
        refine k_aload_n F (pc := 37) 0 rfl dX1_take_37 rfl ?_
        refine k_lload_n F (pc := 38) 1 rfl dX1_take_38 rfl ?_
        refine k_put F (pc := 39) (ref := RX1) (C := RX1) (T := TX1) (N := 3) (ci := 1) (ty := .long) (v := .long r) tyX1 0 2 (wX1 E a em le r) dX1_take_39 zin_X1_take_X1 tyX1_ok nmX1 rfl rfl (by decide) zm_X1_take_f17 rfl rfl (by decide +kernel) rfl rfl (Nat.le_of_ble_eq_true rfl) rfl ?_
        refine k_aload_n F (pc := 42) 0 rfl dX1_take_42 rfl ?_
        refine k_iconst F (pc := 43) ((nI 0)) dX1_take_43 (by decide) ?_
        refine k_put F (pc := 44) (ref := RX1) (C := RX1) (T := TX1) (N := 3) (ci := 1) (ty := .boolean) (v := .int (bI false)) tyX1 0 0 (wX1 E a false le r) dX1_take_44 zin_X1_take_X1 tyX1_ok nmX1 rfl rfl (by decide) zm_X1_take_f7 rfl rfl (by decide +kernel) rfl rfl (Nat.le_of_ble_eq_true rfl) rfl ?_
        refine k_vret F Rr (pc := 47) dX1_take_47 ⟨le, r, rfl, rfl, ?_⟩
        refine tk_rep ?_ ?_ <;> first | exact (if_pos (Or.inl (by assumption))).symm | exact (if_pos (Or.inr (by assumption))).symm | exact (if_neg (or_ff (by assumption) (by assumption))).symm
      · skip
        refine k_lload_n F (pc := 28) 1 rfl dX1_take_28 rfl ?_
        refine k_aload_n F (pc := 29) 0 rfl dX1_take_29 rfl ?_
        refine k_get F (pc := 30) (ref := RX1) (C := RX1) (T := TX1) (N := 3) (ci := 1) 0 2 dX1_take_30 zin_X1_take_X1 rfl rfl (by decide) zm_X1_take_f17 rfl rfl ?_
        refine k_lcmp_le F (pc := 33) 42 dX1_take_33 dX1_take_34 (by decide) (fun c_6 => ?_) (fun c_6 => ?_)
        · skip
          refine k_aload_n F (pc := 42) 0 rfl dX1_take_42 rfl ?_
          refine k_iconst F (pc := 43) ((nI 0)) dX1_take_43 (by decide) ?_
          refine k_put F (pc := 44) (ref := RX1) (C := RX1) (T := TX1) (N := 3) (ci := 1) (ty := .boolean) (v := .int (bI false)) tyX1 0 0 (wX1 E a false le gr) dX1_take_44 zin_X1_take_X1 tyX1_ok nmX1 rfl rfl (by decide) zm_X1_take_f7 rfl rfl (by decide +kernel) rfl rfl (Nat.le_of_ble_eq_true rfl) rfl ?_
          refine k_vret F Rr (pc := 47) dX1_take_47 ⟨le, gr, rfl, rfl, ?_⟩
          refine tk_rep ?_ ?_ <;> first | exact (if_pos (Or.inl (by assumption))).symm | exact (if_pos (Or.inr (by assumption))).symm | exact (if_neg (or_ff (by assumption) (by assumption))).symm
        · skip
          refine k_aload_n F (pc := 37) 0 rfl dX1_take_37 rfl ?_
          refine k_lload_n F (pc := 38) 1 rfl dX1_take_38 rfl ?_
          refine k_put F (pc := 39) (ref := RX1) (C := RX1) (T := TX1) (N := 3) (ci := 1) (ty := .long) (v := .long r) tyX1 0 2 (wX1 E a em le r) dX1_take_39 zin_X1_take_X1 tyX1_ok nmX1 rfl rfl (by decide) zm_X1_take_f17 rfl rfl (by decide +kernel) rfl rfl (Nat.le_of_ble_eq_true rfl) rfl ?_
          refine k_aload_n F (pc := 42) 0 rfl dX1_take_42 rfl ?_
          refine k_iconst F (pc := 43) ((nI 0)) dX1_take_43 (by decide) ?_
          refine k_put F (pc := 44) (ref := RX1) (C := RX1) (T := TX1) (N := 3) (ci := 1) (ty := .boolean) (v := .int (bI false)) tyX1 0 0 (wX1 E a false le r) dX1_take_44 zin_X1_take_X1 tyX1_ok nmX1 rfl rfl (by decide) zm_X1_take_f7 rfl rfl (by decide +kernel) rfl rfl (Nat.le_of_ble_eq_true rfl) rfl ?_
          refine k_vret F Rr (pc := 47) dX1_take_47 ⟨le, r, rfl, rfl, ?_⟩
          refine tk_rep ?_ ?_ <;> first | exact (if_pos (Or.inl (by assumption))).symm | exact (if_pos (Or.inr (by assumption))).symm | exact (if_neg (or_ff (by assumption) (by assumption))).symm
    · skip
      refine k_aload_n F (pc := 16) 0 rfl dX1_take_16 rfl ?_
      refine k_lload_n F (pc := 17) 1 rfl dX1_take_17 rfl ?_
      refine k_put F (pc := 18) (ref := RX1) (C := RX1) (T := TX1) (N := 3) (ci := 1) (ty := .long) (v := .long r) tyX1 0 1 (wX1 E a em r gr) dX1_take_18 zin_X1_take_X1 tyX1_ok nmX1 rfl rfl (by decide) zm_X1_take_f13 rfl rfl (by decide +kernel) rfl rfl (Nat.le_of_ble_eq_true rfl) rfl ?_
      refine k_aload_n F (pc := 21) 0 rfl dX1_take_21 rfl ?_
      refine k_get F (pc := 22) (ref := RX1) (C := RX1) (T := TX1) (N := 3) (ci := 1) 0 0 dX1_take_22 zin_X1_take_X1 rfl rfl (by decide) zm_X1_take_f7 rfl rfl ?_
      refine k_if_neB F (pc := 25) 37 dX1_take_25 (by decide) (fun c_7 => ?_) (fun c_7 => ?_)
      · skip
        refine k_aload_n F (pc := 37) 0 rfl dX1_take_37 rfl ?_
        refine k_lload_n F (pc := 38) 1 rfl dX1_take_38 rfl ?_
        refine k_put F (pc := 39) (ref := RX1) (C := RX1) (T := TX1) (N := 3) (ci := 1) (ty := .long) (v := .long r) tyX1 0 2 (wX1 E a em r r) dX1_take_39 zin_X1_take_X1 tyX1_ok nmX1 rfl rfl (by decide) zm_X1_take_f17 rfl rfl (by decide +kernel) rfl rfl (Nat.le_of_ble_eq_true rfl) rfl ?_
        refine k_aload_n F (pc := 42) 0 rfl dX1_take_42 rfl ?_
        refine k_iconst F (pc := 43) ((nI 0)) dX1_take_43 (by decide) ?_
        refine k_put F (pc := 44) (ref := RX1) (C := RX1) (T := TX1) (N := 3) (ci := 1) (ty := .boolean) (v := .int (bI false)) tyX1 0 0 (wX1 E a false r r) dX1_take_44 zin_X1_take_X1 tyX1_ok nmX1 rfl rfl (by decide) zm_X1_take_f7 rfl rfl (by decide +kernel) rfl rfl (Nat.le_of_ble_eq_true rfl) rfl ?_
        refine k_vret F Rr (pc := 47) dX1_take_47 ⟨r, r, rfl, rfl, ?_⟩
        refine tk_rep ?_ ?_ <;> first | exact (if_pos (Or.inl (by assumption))).symm | exact (if_pos (Or.inr (by assumption))).symm | exact (if_neg (or_ff (by assumption) (by assumption))).symm
      · skip
        refine k_lload_n F (pc := 28) 1 rfl dX1_take_28 rfl ?_
        refine k_aload_n F (pc := 29) 0 rfl dX1_take_29 rfl ?_
        refine k_get F (pc := 30) (ref := RX1) (C := RX1) (T := TX1) (N := 3) (ci := 1) 0 2 dX1_take_30 zin_X1_take_X1 rfl rfl (by decide) zm_X1_take_f17 rfl rfl ?_
        refine k_lcmp_le F (pc := 33) 42 dX1_take_33 dX1_take_34 (by decide) (fun c_8 => ?_) (fun c_8 => ?_)
        · skip
          refine k_aload_n F (pc := 42) 0 rfl dX1_take_42 rfl ?_
          refine k_iconst F (pc := 43) ((nI 0)) dX1_take_43 (by decide) ?_
          refine k_put F (pc := 44) (ref := RX1) (C := RX1) (T := TX1) (N := 3) (ci := 1) (ty := .boolean) (v := .int (bI false)) tyX1 0 0 (wX1 E a false r gr) dX1_take_44 zin_X1_take_X1 tyX1_ok nmX1 rfl rfl (by decide) zm_X1_take_f7 rfl rfl (by decide +kernel) rfl rfl (Nat.le_of_ble_eq_true rfl) rfl ?_
          refine k_vret F Rr (pc := 47) dX1_take_47 ⟨r, gr, rfl, rfl, ?_⟩
          refine tk_rep ?_ ?_ <;> first | exact (if_pos (Or.inl (by assumption))).symm | exact (if_pos (Or.inr (by assumption))).symm | exact (if_neg (or_ff (by assumption) (by assumption))).symm
        · skip
          refine k_aload_n F (pc := 37) 0 rfl dX1_take_37 rfl ?_
          refine k_lload_n F (pc := 38) 1 rfl dX1_take_38 rfl ?_
          refine k_put F (pc := 39) (ref := RX1) (C := RX1) (T := TX1) (N := 3) (ci := 1) (ty := .long) (v := .long r) tyX1 0 2 (wX1 E a em r r) dX1_take_39 zin_X1_take_X1 tyX1_ok nmX1 rfl rfl (by decide) zm_X1_take_f17 rfl rfl (by decide +kernel) rfl rfl (Nat.le_of_ble_eq_true rfl) rfl ?_
          refine k_aload_n F (pc := 42) 0 rfl dX1_take_42 rfl ?_
          refine k_iconst F (pc := 43) ((nI 0)) dX1_take_43 (by decide) ?_
          refine k_put F (pc := 44) (ref := RX1) (C := RX1) (T := TX1) (N := 3) (ci := 1) (ty := .boolean) (v := .int (bI false)) tyX1 0 0 (wX1 E a false r r) dX1_take_44 zin_X1_take_X1 tyX1_ok nmX1 rfl rfl (by decide) zm_X1_take_f7 rfl rfl (by decide +kernel) rfl rfl (Nat.le_of_ble_eq_true rfl) rfl ?_
          refine k_vret F Rr (pc := 47) dX1_take_47 ⟨r, r, rfl, rfl, ?_⟩
          refine tk_rep ?_ ?_ <;> first | exact (if_pos (Or.inl (by assumption))).symm | exact (if_pos (Or.inr (by assumption))).symm | exact (if_neg (or_ff (by assumption) (by assumption))).symm
theorem zm_X1_wrappedLeast_f13 : (Cond.fieldLink RX1 13 RX1 "least" "J" : Cond) ∈ wsX1_wrappedLeast := by decide +kernel
theorem zin_X1_wrappedLeast_X1 : ∀ w ∈ u_ws RX1 TX1 3, w ∈ wsX1_wrappedLeast := by decide +kernel
set_option maxHeartbeats 4000000 in
set_option maxRecDepth 100000 in
theorem m_X1_wrappedLeast (l : Launch) (E : kE) (a : Nat) (em : Bool) (le : Int64) (gr : Int64)  : kC l yX1_wrappedLeast wsX1_wrappedLeast ({ frames := 0, cells := 0, slots := 0, locals := 0 } : Room) E [.ref a] (wX1 E a em le gr) 0 0 (fun v_ w_ => v_ = some (.long le.toInt32.toInt64) ∧ w_ = (wX1 E a em le gr)) := by
  refine kC.enter cX1_wrappedLeast 1 (some .long) [(0, .ref a)] (by decide) rfl (Nat.le_of_ble_eq_true rfl) rfl ?_
  intro g F Rr
  refine k_aload_n F (pc := 0) 0 rfl dX1_wrappedLeast_0 rfl ?_
  refine k_get F (pc := 1) (ref := RX1) (C := RX1) (T := TX1) (N := 3) (ci := 1) 0 1 dX1_wrappedLeast_1 zin_X1_wrappedLeast_X1 rfl rfl (by decide) zm_X1_wrappedLeast_f13 rfl rfl ?_
  refine k_l2i F (pc := 4) (le.toInt32) dX1_wrappedLeast_4 rfl ?_
  refine k_i2l F (pc := 5) (le.toInt32.toInt64) dX1_wrappedLeast_5 rfl ?_
  exact k_lret F Rr (pc := 6) dX1_wrappedLeast_6 ⟨rfl, rfl⟩
theorem zm_X1_wrappedGreatest_f17 : (Cond.fieldLink RX1 17 RX1 "greatest" "J" : Cond) ∈ wsX1_wrappedGreatest := by decide +kernel
theorem zin_X1_wrappedGreatest_X1 : ∀ w ∈ u_ws RX1 TX1 3, w ∈ wsX1_wrappedGreatest := by decide +kernel
set_option maxHeartbeats 4000000 in
set_option maxRecDepth 100000 in
theorem m_X1_wrappedGreatest (l : Launch) (E : kE) (a : Nat) (em : Bool) (le : Int64) (gr : Int64)  : kC l yX1_wrappedGreatest wsX1_wrappedGreatest ({ frames := 0, cells := 0, slots := 0, locals := 0 } : Room) E [.ref a] (wX1 E a em le gr) 0 0 (fun v_ w_ => v_ = some (.long gr.toInt32.toInt64) ∧ w_ = (wX1 E a em le gr)) := by
  refine kC.enter cX1_wrappedGreatest 1 (some .long) [(0, .ref a)] (by decide) rfl (Nat.le_of_ble_eq_true rfl) rfl ?_
  intro g F Rr
  refine k_aload_n F (pc := 0) 0 rfl dX1_wrappedGreatest_0 rfl ?_
  refine k_get F (pc := 1) (ref := RX1) (C := RX1) (T := TX1) (N := 3) (ci := 1) 0 2 dX1_wrappedGreatest_1 zin_X1_wrappedGreatest_X1 rfl rfl (by decide) zm_X1_wrappedGreatest_f17 rfl rfl ?_
  refine k_l2i F (pc := 4) (gr.toInt32) dX1_wrappedGreatest_4 rfl ?_
  refine k_i2l F (pc := 5) (gr.toInt32.toInt64) dX1_wrappedGreatest_5 rfl ?_
  exact k_lret F Rr (pc := 6) dX1_wrappedGreatest_6 ⟨rfl, rfl⟩
theorem zm_X1_wrapTogether_f13 : (Cond.fieldLink RX1 13 RX1 "least" "J" : Cond) ∈ wsX1_wrapTogether := by decide +kernel
theorem zin_X1_wrapTogether_X1 : ∀ w ∈ u_ws RX1 TX1 3, w ∈ wsX1_wrapTogether := by decide +kernel
theorem zm_X1_wrapTogether_f17 : (Cond.fieldLink RX1 17 RX1 "greatest" "J" : Cond) ∈ wsX1_wrapTogether := by decide +kernel
set_option maxHeartbeats 4000000 in
set_option maxRecDepth 100000 in
theorem m_X1_wrapTogether (l : Launch) (E : kE) (a : Nat) (em : Bool) (le : Int64) (gr : Int64)  : kC l yX1_wrapTogether wsX1_wrapTogether ({ frames := 1, cells := 0, slots := 0, locals := 20 } : Room) E [.ref a] (wX1 E a em le gr) 0 0 (fun v_ w_ => ∃ (r : Bool), v_ = some (.int (bI r)) ∧ w_ = (wX1 E a em le gr) ∧ (r = true ↔ le - le.toInt32.toInt64 = gr - gr.toInt32.toInt64)) := by
  refine kC.enter cX1_wrapTogether 1 (some .boolean) [(0, .ref a)] (by decide) rfl (Nat.le_of_ble_eq_true rfl) rfl ?_
  intro g F Rr
  refine k_aload_n F (pc := 0) 0 rfl dX1_wrapTogether_0 rfl ?_
  refine k_get F (pc := 1) (ref := RX1) (C := RX1) (T := TX1) (N := 3) (ci := 1) 0 1 dX1_wrapTogether_1 zin_X1_wrapTogether_X1 rfl rfl (by decide) zm_X1_wrapTogether_f13 rfl rfl ?_
  refine k_aload_n F (pc := 4) 0 rfl dX1_wrapTogether_4 rfl ?_
  refine k_callV F (pc := 5) (C := RX1) (T := TX1) (N := 3) (ci := 1) [] [.long le] 0 (wX1 E a em le gr) [] [0] [] (m_X1_wrappedLeast l E a em le gr) dX1_wrapTogether_5 gX1_wrapTogether_X1_wrappedLeast rfl (by decide +kernel) rfl ⟨rfl, rfl⟩ (by decide) rfl (Nat.le_of_ble_eq_true rfl) (by decide) rfl rfl rfl rfl (by decide) (by decide) (by decide) ?_
  rintro v_1 w_2 ⟨rfl, rfl⟩
  refine k_perm (wX1 E a em le gr) [0] (by decide) rfl ?_
  show kK g (wX1 E a em le gr) [(0, .ref a)] 0 0 8 [.long le.toInt32.toInt64, .long le]
  refine k_lsub F (pc := 8) dX1_wrapTogether_8 ?_
  refine k_aload_n F (pc := 9) 0 rfl dX1_wrapTogether_9 rfl ?_
  refine k_get F (pc := 10) (ref := RX1) (C := RX1) (T := TX1) (N := 3) (ci := 1) 0 2 dX1_wrapTogether_10 zin_X1_wrapTogether_X1 rfl rfl (by decide) zm_X1_wrapTogether_f17 rfl rfl ?_
  refine k_aload_n F (pc := 13) 0 rfl dX1_wrapTogether_13 rfl ?_
  refine k_callV F (pc := 14) (C := RX1) (T := TX1) (N := 3) (ci := 1) [] [.long gr, .long (le - le.toInt32.toInt64)] 0 (wX1 E a em le gr) [] [0] [] (m_X1_wrappedGreatest l E a em le gr) dX1_wrapTogether_14 gX1_wrapTogether_X1_wrappedGreatest rfl (by decide +kernel) rfl ⟨rfl, rfl⟩ (by decide) rfl (Nat.le_of_ble_eq_true rfl) (by decide) rfl rfl rfl rfl (by decide) (by decide) (by decide) ?_
  rintro v_3 w_4 ⟨rfl, rfl⟩
  refine k_perm (wX1 E a em le gr) [0] (by decide) rfl ?_
  show kK g (wX1 E a em le gr) [(0, .ref a)] 0 0 17 [.long gr.toInt32.toInt64, .long gr, .long (le - le.toInt32.toInt64)]
  refine k_lsub F (pc := 17) dX1_wrapTogether_17 ?_
  refine k_lcmp_ne F (pc := 18) 26 dX1_wrapTogether_18 dX1_wrapTogether_19 (by decide) (fun c_5 => ?_) (fun c_5 => ?_)
  · skip
    refine k_iconst F (pc := 26) ((nI 0)) dX1_wrapTogether_26 (by decide) ?_
    refine k_zret F Rr (pc := 27) false dX1_wrapTogether_27 rfl ⟨false, rfl, rfl, ?_⟩
    simp_all
  · skip
    refine k_iconst F (pc := 22) ((nI 1)) dX1_wrapTogether_22 (by decide) ?_
    refine k_goto F (pc := 23) 27 dX1_wrapTogether_23 (by decide) ?_
    refine k_zret F Rr (pc := 27) true dX1_wrapTogether_27 rfl ⟨true, rfl, rfl, ?_⟩
    simp_all
end
section
theorem zm_X2_isSomewhere_f9 : (Cond.fieldLink RX2 9 RX2 "somewhere" "[Z" : Cond) ∈ wsX2_isSomewhere := by decide +kernel
theorem zin_X2_isSomewhere_X2 : ∀ w ∈ u_ws RX2 TX2 3, w ∈ wsX2_isSomewhere := by decide +kernel
set_option maxHeartbeats 4000000 in
set_option maxRecDepth 100000 in
theorem m_X2_isSomewhere (l : Launch) (E : kE) (a : Nat) (b : Nat) (c : Nat) (d : Nat) (on : Nat → Bool) (lo : Nat → Int64) (hi : Nat → Int64) (p : Nat) (hp : p < 24) : kC l yX2_isSomewhere wsX2_isSomewhere ({ frames := 0, cells := 0, slots := 0, locals := 0 } : Room) E [.ref a, .int (nI p)] (wX2 E a b c d on lo hi) 0 0 (fun v_ w_ => v_ = some (.int (bI (on p))) ∧ w_ = (wX2 E a b c d on lo hi)) := by
  refine kC.enter cX2_isSomewhere 2 (some .boolean) [(0, .ref a), (1, .int (nI p))] (by decide) rfl (Nat.le_of_ble_eq_true rfl) rfl ?_
  intro g F Rr
  refine k_aload_n F (pc := 0) 0 rfl dX2_isSomewhere_0 rfl ?_
  refine k_get F (pc := 1) (ref := RX2) (C := RX2) (T := TX2) (N := 3) (ci := 2) 0 0 dX2_isSomewhere_1 zin_X2_isSomewhere_X2 rfl rfl (by decide) zm_X2_isSomewhere_f9 rfl rfl ?_
  refine k_iload_n F (pc := 4) 1 rfl dX2_isSomewhere_4 rfl ?_
  refine k_zald F (pc := 5) 1 dX2_isSomewhere_5 rfl (by omega) (by decide) ?_
  exact k_zret F Rr (pc := 6) (on p) dX2_isSomewhere_6 rfl ⟨rfl, rfl⟩
theorem zm_X2_lowOf_f15 : (Cond.fieldLink RX2 15 RX2 "lows" "[J" : Cond) ∈ wsX2_lowOf := by decide +kernel
theorem zin_X2_lowOf_X2 : ∀ w ∈ u_ws RX2 TX2 3, w ∈ wsX2_lowOf := by decide +kernel
set_option maxHeartbeats 4000000 in
set_option maxRecDepth 100000 in
theorem m_X2_lowOf (l : Launch) (E : kE) (a : Nat) (b : Nat) (c : Nat) (d : Nat) (on : Nat → Bool) (lo : Nat → Int64) (hi : Nat → Int64) (p : Nat) (v : Nat) (hp : p < 24) (hv : v < 4) : kC l yX2_lowOf wsX2_lowOf ({ frames := 0, cells := 0, slots := 0, locals := 0 } : Room) E [.ref a, .int (nI p), .int (nI v)] (wX2 E a b c d on lo hi) 0 0 (fun v_ w_ => v_ = some (.long (lo (4 * p + v))) ∧ w_ = (wX2 E a b c d on lo hi)) := by
  refine kC.enter cX2_lowOf 3 (some .long) [(0, .ref a), (1, .int (nI p)), (2, .int (nI v))] (by decide) rfl (Nat.le_of_ble_eq_true rfl) rfl ?_
  intro g F Rr
  refine k_aload_n F (pc := 0) 0 rfl dX2_lowOf_0 rfl ?_
  refine k_get F (pc := 1) (ref := RX2) (C := RX2) (T := TX2) (N := 3) (ci := 2) 0 1 dX2_lowOf_1 zin_X2_lowOf_X2 rfl rfl (by decide) zm_X2_lowOf_f15 rfl rfl ?_
  refine k_iload_n F (pc := 4) 1 rfl dX2_lowOf_4 rfl ?_
  refine k_iconst F (pc := 5) ((nI 4)) dX2_lowOf_5 (by decide) ?_
  refine k_imulC F (pc := 6) dX2_lowOf_6 ?_
  refine k_iload_n F (pc := 7) 2 rfl dX2_lowOf_7 rfl ?_
  refine k_iaddN F (pc := 8) dX2_lowOf_8 ?_
  refine k_lald F (pc := 9) 2 dX2_lowOf_9 rfl (by omega) (by decide) ?_
  exact k_lret F Rr (pc := 10) dX2_lowOf_10 ⟨rfl, rfl⟩
theorem zm_X2_highOf_f19 : (Cond.fieldLink RX2 19 RX2 "highs" "[J" : Cond) ∈ wsX2_highOf := by decide +kernel
theorem zin_X2_highOf_X2 : ∀ w ∈ u_ws RX2 TX2 3, w ∈ wsX2_highOf := by decide +kernel
set_option maxHeartbeats 4000000 in
set_option maxRecDepth 100000 in
theorem m_X2_highOf (l : Launch) (E : kE) (a : Nat) (b : Nat) (c : Nat) (d : Nat) (on : Nat → Bool) (lo : Nat → Int64) (hi : Nat → Int64) (p : Nat) (v : Nat) (hp : p < 24) (hv : v < 4) : kC l yX2_highOf wsX2_highOf ({ frames := 0, cells := 0, slots := 0, locals := 0 } : Room) E [.ref a, .int (nI p), .int (nI v)] (wX2 E a b c d on lo hi) 0 0 (fun v_ w_ => v_ = some (.long (hi (4 * p + v))) ∧ w_ = (wX2 E a b c d on lo hi)) := by
  refine kC.enter cX2_highOf 3 (some .long) [(0, .ref a), (1, .int (nI p)), (2, .int (nI v))] (by decide) rfl (Nat.le_of_ble_eq_true rfl) rfl ?_
  intro g F Rr
  refine k_aload_n F (pc := 0) 0 rfl dX2_highOf_0 rfl ?_
  refine k_get F (pc := 1) (ref := RX2) (C := RX2) (T := TX2) (N := 3) (ci := 2) 0 2 dX2_highOf_1 zin_X2_highOf_X2 rfl rfl (by decide) zm_X2_highOf_f19 rfl rfl ?_
  refine k_iload_n F (pc := 4) 1 rfl dX2_highOf_4 rfl ?_
  refine k_iconst F (pc := 5) ((nI 4)) dX2_highOf_5 (by decide) ?_
  refine k_imulC F (pc := 6) dX2_highOf_6 ?_
  refine k_iload_n F (pc := 7) 2 rfl dX2_highOf_7 rfl ?_
  refine k_iaddN F (pc := 8) dX2_highOf_8 ?_
  refine k_lald F (pc := 9) 3 dX2_highOf_9 rfl (by omega) (by decide) ?_
  exact k_lret F Rr (pc := 10) dX2_highOf_10 ⟨rfl, rfl⟩
theorem zm_X2_begin_f15 : (Cond.fieldLink RX2 15 RX2 "lows" "[J" : Cond) ∈ wsX2_begin := by decide +kernel
theorem zin_X2_begin_X2 : ∀ w ∈ u_ws RX2 TX2 3, w ∈ wsX2_begin := by decide +kernel
theorem zm_X2_begin_f19 : (Cond.fieldLink RX2 19 RX2 "highs" "[J" : Cond) ∈ wsX2_begin := by decide +kernel
theorem zm_X2_begin_f9 : (Cond.fieldLink RX2 9 RX2 "somewhere" "[Z" : Cond) ∈ wsX2_begin := by decide +kernel
set_option maxHeartbeats 4000000 in
set_option maxRecDepth 100000 in
theorem m_X2_begin (l : Launch) (E : kE) (a : Nat) (b : Nat) (c : Nat) (d : Nat) (on : Nat → Bool) (lo : Nat → Int64) (hi : Nat → Int64)  : kC l yX2_begin wsX2_begin ({ frames := 0, cells := 0, slots := 0, locals := 0 } : Room) E [.ref a] (wX2 E a b c d on lo hi) 0 0 (fun v_ w_ => ∃ (on1 : Nat → Bool) (lo1 : Nat → Int64) (hi1 : Nat → Int64), v_ = none ∧ w_ = (wX2 E a b c d on1 lo1 hi1) ∧ (Rep on1 lo1 hi1 S0)) := by
  refine kC.enter cX2_begin 2 none [(0, .ref a)] (by decide) rfl (Nat.le_of_ble_eq_true rfl) rfl ?_
  intro g F Rr
  refine k_iconst F (pc := 0) ((nI 0)) dX2_begin_0 (by decide) ?_
  refine k_istore_n F (pc := 1) [(1, .int (nI 0)), (0, .ref a)] dX2_begin_1 rfl (by decide) rfl ?_
  have L2 : ∀ (d_ : Nat) (i : Nat) (on2 : Nat → Bool), 24 - i < d_ → (i ≤ 24) → (∀ j, j < i → on2 j = decide (j = 0)) → kK g (wX2 E a b c d on2 lo hi) [(0, .ref a), (1, .int (nI i))] 0 0 2 [] := by
    intro d_
    induction d_ with
    | zero => intro i on2 hm; exact absurd hm (Nat.not_lt_zero _)
    | succ d_ ih2 =>
      intro i on2 hm2 hi24 hon
      refine k_iload_n F (pc := 2) 1 rfl dX2_begin_2 rfl ?_
      refine k_bipush F (pc := 3) ((nI 24)) dX2_begin_3 (by decide) ?_
      refine k_icmp_ge F (pc := 5) 29 dX2_begin_5 (by decide) (nI_toInt (by omega)) (show (nI 24 : Int32).toInt = 24 by decide) (fun c_1 => ?_) (fun c_1 => ?_)
      · skip
        refine k_iconst F (pc := 29) ((nI 0)) dX2_begin_29 (by decide) ?_
        refine k_istore_n F (pc := 30) [(1, .int (nI 0)), (0, .ref a)] dX2_begin_30 rfl (by decide) rfl ?_
        have L31 : ∀ (d_ : Nat) (i : Nat) (lo2 : Nat → Int64) (hi2 : Nat → Int64), 4 - i < d_ → (i ≤ 4) → (∀ j, j < i → lo2 j = 0 ∧ hi2 j = 0) → kK g (wX2 E a b c d on2 lo2 hi2) [(0, .ref a), (1, .int (nI i))] 0 0 31 [] := by
          intro d_
          induction d_ with
          | zero => intro i lo2 hi2 hm; exact absurd hm (Nat.not_lt_zero _)
          | succ d_ ih31 =>
            intro i lo2 hi2 hm31 hi4 hlo
            refine k_iload_n F (pc := 31) 1 rfl dX2_begin_31 rfl ?_
            refine k_iconst F (pc := 32) ((nI 4)) dX2_begin_32 (by decide) ?_
            refine k_icmp_ge F (pc := 33) 56 dX2_begin_33 (by decide) (nI_toInt (by omega)) (show (nI 4 : Int32).toInt = 4 by decide) (fun c_2 => ?_) (fun c_2 => ?_)
            · skip
              refine k_vret F Rr (pc := 56) dX2_begin_56 ⟨on2, lo2, hi2, rfl, rfl, ?_⟩
              refine rep_S0 (fun j hj => hon j (by omega)) (fun j hj => hlo j (by omega))
            · skip
              refine k_aload_n F (pc := 36) 0 rfl dX2_begin_36 rfl ?_
              refine k_get F (pc := 37) (ref := RX2) (C := RX2) (T := TX2) (N := 3) (ci := 2) 0 1 dX2_begin_37 zin_X2_begin_X2 rfl rfl (by decide) zm_X2_begin_f15 rfl rfl ?_
              refine k_iload_n F (pc := 40) 1 rfl dX2_begin_40 rfl ?_
              refine k_lconst F (pc := 41) 0 dX2_begin_41 (by decide) ?_
              refine k_last F (pc := 42) 2 (fun lo_3 => (wX2 E a b c d on2 lo_3 hi2)) dX2_begin_42 rfl (by omega) (by decide) (fun _ => rfl) (fun lo_3 elo_3 => ?_)
              refine k_aload_n F (pc := 43) 0 rfl dX2_begin_43 rfl ?_
              refine k_get F (pc := 44) (ref := RX2) (C := RX2) (T := TX2) (N := 3) (ci := 2) 0 2 dX2_begin_44 zin_X2_begin_X2 rfl rfl (by decide) zm_X2_begin_f19 rfl rfl ?_
              refine k_iload_n F (pc := 47) 1 rfl dX2_begin_47 rfl ?_
              refine k_lconst F (pc := 48) 0 dX2_begin_48 (by decide) ?_
              refine k_last F (pc := 49) 3 (fun hi_4 => (wX2 E a b c d on2 lo_3 hi_4)) dX2_begin_49 rfl (by omega) (by decide) (fun _ => rfl) (fun hi_4 ehi_4 => ?_)
              refine k_iinc F (pc := 50) 1 ((nI (i + 1))) [(1, .int (nI (i + 1))), (0, .ref a)] dX2_begin_50 rfl (nI_1 i) (by decide) rfl ?_
              refine k_goto F (pc := 53) 31 dX2_begin_53 (by decide) ?_
              refine k_lv [(0, .ref a), (1, .int (nI (i + 1)))] [1, 0] rfl ?_
              exact ih31 (i + 1) lo_3 hi_4 (by omega) (by omega) (by (try subst_vars); intro j hj; by_cases h : j = i <;> simp_all [vp_updL] <;> (apply hlo; omega))
        refine k_lv [(0, .ref a), (1, .int (nI 0))] [1, 0] rfl ?_
        exact L31 (4 - 0 + 1) 0 lo hi (Nat.lt_succ_self _) (by omega) (by intro j hj; omega)
      · skip
        refine k_aload_n F (pc := 8) 0 rfl dX2_begin_8 rfl ?_
        refine k_get F (pc := 9) (ref := RX2) (C := RX2) (T := TX2) (N := 3) (ci := 2) 0 0 dX2_begin_9 zin_X2_begin_X2 rfl rfl (by decide) zm_X2_begin_f9 rfl rfl ?_
        refine k_iload_n F (pc := 12) 1 rfl dX2_begin_12 rfl ?_
        refine k_iload_n F (pc := 13) 1 rfl dX2_begin_13 rfl ?_
        refine k_if_ne F (pc := 14) 21 dX2_begin_14 (by decide) (nI_toInt (by omega)) (fun c_5 => ?_) (fun c_5 => ?_)
        · skip
          refine k_iconst F (pc := 21) ((nI 0)) dX2_begin_21 (by decide) ?_
          refine k_zast F (pc := 22) false 1 (fun on_6 => (wX2 E a b c d on_6 lo hi)) dX2_begin_22 rfl rfl (by omega) (by decide) (fun _ => rfl) (fun on_6 eon_6 => ?_)
          refine k_iinc F (pc := 23) 1 ((nI (i + 1))) [(1, .int (nI (i + 1))), (0, .ref a)] dX2_begin_23 rfl (nI_1 i) (by decide) rfl ?_
          refine k_goto F (pc := 26) 2 dX2_begin_26 (by decide) ?_
          refine k_lv [(0, .ref a), (1, .int (nI (i + 1)))] [1, 0] rfl ?_
          exact ih2 (i + 1) on_6 (by omega) (by omega) (by exact upB_step (P := fun j => decide (j = 0)) (by assumption) hon (by first | (rw [eq_comm, decide_eq_true_iff]; omega) | (rw [eq_comm, decide_eq_false_iff_not]; omega)))
        · skip
          refine k_iconst F (pc := 17) ((nI 1)) dX2_begin_17 (by decide) ?_
          refine k_goto F (pc := 18) 22 dX2_begin_18 (by decide) ?_
          refine k_zast F (pc := 22) true 1 (fun on_7 => (wX2 E a b c d on_7 lo hi)) dX2_begin_22 rfl rfl (by omega) (by decide) (fun _ => rfl) (fun on_7 eon_7 => ?_)
          refine k_iinc F (pc := 23) 1 ((nI (i + 1))) [(1, .int (nI (i + 1))), (0, .ref a)] dX2_begin_23 rfl (nI_1 i) (by decide) rfl ?_
          refine k_goto F (pc := 26) 2 dX2_begin_26 (by decide) ?_
          refine k_lv [(0, .ref a), (1, .int (nI (i + 1)))] [1, 0] rfl ?_
          exact ih2 (i + 1) on_7 (by omega) (by omega) (by exact upB_step (P := fun j => decide (j = 0)) (by assumption) hon (by first | (rw [eq_comm, decide_eq_true_iff]; omega) | (rw [eq_comm, decide_eq_false_iff_not]; omega)))
  refine k_lv [(0, .ref a), (1, .int (nI 0))] [1, 0] rfl ?_
  exact L2 (24 - 0 + 1) 0 on (Nat.lt_succ_self _) (by omega) (by intro j hj; omega)
set_option maxHeartbeats 4000000 in
set_option maxRecDepth 100000 in
theorem m_X2_copyTo (l : Launch) (E : kE) (a : Nat) (b : Nat) (c : Nat) (d : Nat) (on : Nat → Bool) (lo : Nat → Int64) (hi : Nat → Int64) (fa : Nat) (fb : Nat) (fc : Nat) (fs : Bool) (lf : Nat → Int64) (hf : Nat → Int64) (p : Nat) (hp : p < 24) : kC l yX2_copyTo wsX2_copyTo ({ frames := 1, cells := 0, slots := 0, locals := 25 } : Room) E [.ref a, .ref fa, .int (nI p)] (wX20 E a b c d on lo hi fa fb fc fs lf hf) 0 0 (fun v_ w_ => ∃ (lf1 : Nat → Int64) (hf1 : Nat → Int64), v_ = none ∧ w_ = (wX20 E a b c d on lo hi fa fb fc true lf1 hf1) ∧ (∀ v, v < 4 → lf1 v = lo (4 * p + v) ∧ hf1 v = hi (4 * p + v))) := by
  refine kC.enter cX2_copyTo 4 none [(0, .ref a), (1, .ref fa), (2, .int (nI p))] (by decide) rfl (Nat.le_of_ble_eq_true rfl) rfl ?_
  intro g F Rr
  refine k_aload_n F (pc := 0) 1 rfl dX2_copyTo_0 rfl ?_
  refine k_callV F (pc := 1) (C := RX0) (T := TX0) (N := 3) (ci := 0) [] [] 0 (wX0 E fa fb fc fs lf hf) [cObj a 2 [.ref b, .ref c, .ref d], cBoo E b 24 on, cLng E c 96 lo, cLng E d 96 hi] [4, 5, 6] [0, 1, 2, 3] (m_X0_start l E fa fb fc fs lf hf) dX2_copyTo_1 gX2_copyTo_X0_start rfl (by decide +kernel) rfl ⟨rfl, rfl⟩ (by decide) rfl (Nat.le_of_ble_eq_true rfl) (by decide) rfl rfl rfl rfl (by decide) (by decide) (by decide) ?_
  rintro v_1 w_2 ⟨rfl, rfl⟩
  refine k_perm (wX20 E a b c d on lo hi fa fb fc true lf hf) [0, 1, 2, 3, 4, 5, 6] (by decide) rfl ?_
  show kK g (wX20 E a b c d on lo hi fa fb fc true lf hf) [(0, .ref a), (1, .ref fa), (2, .int (nI p))] 0 0 4 []
  refine k_iconst F (pc := 4) ((nI 0)) dX2_copyTo_4 (by decide) ?_
  refine k_istore_n F (pc := 5) [(3, .int (nI 0)), (0, .ref a), (1, .ref fa), (2, .int (nI p))] dX2_copyTo_5 rfl (by decide) rfl ?_
  have L6 : ∀ (d_ : Nat) (i : Nat) (lf2 : Nat → Int64) (hf2 : Nat → Int64), 4 - i < d_ → (i ≤ 4) → (∀ j, j < i → lf2 j = lo (4 * p + j) ∧ hf2 j = hi (4 * p + j)) → kK g (wX20 E a b c d on lo hi fa fb fc true lf2 hf2) [(0, .ref a), (1, .ref fa), (2, .int (nI p)), (3, .int (nI i))] 0 0 6 [] := by
    intro d_
    induction d_ with
    | zero => intro i lf2 hf2 hm; exact absurd hm (Nat.not_lt_zero _)
    | succ d_ ih6 =>
      intro i lf2 hf2 hm6 hi4 hlf
      refine k_iload_n F (pc := 6) 3 rfl dX2_copyTo_6 rfl ?_
      refine k_iconst F (pc := 7) ((nI 4)) dX2_copyTo_7 (by decide) ?_
      refine k_icmp_ge F (pc := 8) 34 dX2_copyTo_8 (by decide) (nI_toInt (by omega)) (show (nI 4 : Int32).toInt = 4 by decide) (fun c_3 => ?_) (fun c_3 => ?_)
      · skip
        refine k_vret F Rr (pc := 34) dX2_copyTo_34 ⟨lf2, hf2, rfl, rfl, ?_⟩
        intro v hv; exact hlf v (by omega)
      · skip
        refine k_aload_n F (pc := 11) 1 rfl dX2_copyTo_11 rfl ?_
        refine k_iload_n F (pc := 12) 3 rfl dX2_copyTo_12 rfl ?_
        refine k_aload_n F (pc := 13) 0 rfl dX2_copyTo_13 rfl ?_
        refine k_iload_n F (pc := 14) 2 rfl dX2_copyTo_14 rfl ?_
        refine k_iload_n F (pc := 15) 3 rfl dX2_copyTo_15 rfl ?_
        refine k_callV F (pc := 16) (C := RX2) (T := TX2) (N := 3) (ci := 2) [.int (nI p), .int (nI i)] [.int (nI i), .ref fa] 2 (wX2 E a b c d on lo hi) [cObj fa 0 [.int (bI true), .ref fb, .ref fc], cLng E fb 4 lf2, cLng E fc 4 hf2] [0, 1, 2, 3] [4, 5, 6] (m_X2_lowOf l E a b c d on lo hi p i (by omega) (by omega)) dX2_copyTo_16 gX2_copyTo_X2_lowOf rfl (by decide +kernel) rfl ⟨rfl, rfl⟩ (by decide) rfl (Nat.le_of_ble_eq_true rfl) (by decide) rfl rfl rfl rfl (by decide) (by decide) (by decide) ?_
        rintro v_4 w_5 ⟨rfl, rfl⟩
        refine k_perm (wX20 E a b c d on lo hi fa fb fc true lf2 hf2) [3, 4, 5, 6, 0, 1, 2] (by decide) rfl ?_
        show kK g (wX20 E a b c d on lo hi fa fb fc true lf2 hf2) [(0, .ref a), (1, .ref fa), (2, .int (nI p)), (3, .int (nI i))] 0 0 19 [.long (lo (4 * p + i)), .int (nI i), .ref fa]
        refine k_aload_n F (pc := 19) 0 rfl dX2_copyTo_19 rfl ?_
        refine k_iload_n F (pc := 20) 2 rfl dX2_copyTo_20 rfl ?_
        refine k_iload_n F (pc := 21) 3 rfl dX2_copyTo_21 rfl ?_
        refine k_callV F (pc := 22) (C := RX2) (T := TX2) (N := 3) (ci := 2) [.int (nI p), .int (nI i)] [.long (lo (4 * p + i)), .int (nI i), .ref fa] 2 (wX2 E a b c d on lo hi) [cObj fa 0 [.int (bI true), .ref fb, .ref fc], cLng E fb 4 lf2, cLng E fc 4 hf2] [0, 1, 2, 3] [4, 5, 6] (m_X2_highOf l E a b c d on lo hi p i (by omega) (by omega)) dX2_copyTo_22 gX2_copyTo_X2_highOf rfl (by decide +kernel) rfl ⟨rfl, rfl⟩ (by decide) rfl (Nat.le_of_ble_eq_true rfl) (by decide) rfl rfl rfl rfl (by decide) (by decide) (by decide) ?_
        rintro v_6 w_7 ⟨rfl, rfl⟩
        refine k_perm (wX20 E a b c d on lo hi fa fb fc true lf2 hf2) [3, 4, 5, 6, 0, 1, 2] (by decide) rfl ?_
        show kK g (wX20 E a b c d on lo hi fa fb fc true lf2 hf2) [(0, .ref a), (1, .ref fa), (2, .int (nI p)), (3, .int (nI i))] 0 0 25 [.long (hi (4 * p + i)), .long (lo (4 * p + i)), .int (nI i), .ref fa]
        refine k_callV F (pc := 25) (C := RX0) (T := TX0) (N := 3) (ci := 0) [.int (nI i), .long (lo (4 * p + i)), .long (hi (4 * p + i))] [] 3 (wX0 E fa fb fc true lf2 hf2) [cObj a 2 [.ref b, .ref c, .ref d], cBoo E b 24 on, cLng E c 96 lo, cLng E d 96 hi] [4, 5, 6] [0, 1, 2, 3] (m_X0_put l E fa fb fc true lf2 hf2 i (lo (4 * p + i)) (hi (4 * p + i)) (by omega)) dX2_copyTo_25 gX2_copyTo_X0_put rfl (by decide +kernel) rfl ⟨rfl, rfl⟩ (by decide) rfl (Nat.le_of_ble_eq_true rfl) (by decide) rfl rfl rfl rfl (by decide) (by decide) (by decide) ?_
        rintro v_8 w_9 ⟨rfl, rfl⟩
        refine k_perm (wX20 E a b c d on lo hi fa fb fc true (vp_updL lf2 i (lo (4 * p + i))) (vp_updL hf2 i (hi (4 * p + i)))) [0, 1, 2, 3, 4, 5, 6] (by decide) rfl ?_
        show kK g (wX20 E a b c d on lo hi fa fb fc true (vp_updL lf2 i (lo (4 * p + i))) (vp_updL hf2 i (hi (4 * p + i)))) [(0, .ref a), (1, .ref fa), (2, .int (nI p)), (3, .int (nI i))] 0 0 28 []
        refine k_iinc F (pc := 28) 3 ((nI (i + 1))) [(3, .int (nI (i + 1))), (0, .ref a), (1, .ref fa), (2, .int (nI p))] dX2_copyTo_28 rfl (nI_1 i) (by decide) rfl ?_
        refine k_goto F (pc := 31) 6 dX2_copyTo_31 (by decide) ?_
        refine k_lv [(0, .ref a), (1, .ref fa), (2, .int (nI p)), (3, .int (nI (i + 1)))] [1, 2, 3, 0] rfl ?_
        exact ih6 (i + 1) (vp_updL lf2 i (lo (4 * p + i))) (vp_updL hf2 i (hi (4 * p + i))) (by omega) (by omega) (by intro j hj; by_cases h : j = i <;> simp_all [vp_updL] <;> (apply hlf; omega))
  refine k_lv [(0, .ref a), (1, .ref fa), (2, .int (nI p)), (3, .int (nI 0))] [1, 2, 3, 0] rfl ?_
  exact L6 (4 - 0 + 1) 0 lf hf (Nat.lt_succ_self _) (by omega) (by intro j hj; omega)
theorem zm_X2_become_f9 : (Cond.fieldLink RX2 9 RX2 "somewhere" "[Z" : Cond) ∈ wsX2_become := by decide +kernel
theorem zin_X2_become_X2 : ∀ w ∈ u_ws RX2 TX2 3, w ∈ wsX2_become := by decide +kernel
theorem zm_X2_become_f15 : (Cond.fieldLink RX2 15 RX2 "lows" "[J" : Cond) ∈ wsX2_become := by decide +kernel
theorem zm_X2_become_f19 : (Cond.fieldLink RX2 19 RX2 "highs" "[J" : Cond) ∈ wsX2_become := by decide +kernel
set_option maxHeartbeats 4000000 in
set_option maxRecDepth 100000 in
theorem m_X2_become (l : Launch) (E : kE) (a : Nat) (b : Nat) (c : Nat) (d : Nat) (on : Nat → Bool) (lo : Nat → Int64) (hi : Nat → Int64) (fa : Nat) (fb : Nat) (fc : Nat) (fs : Bool) (lf : Nat → Int64) (hf : Nat → Int64) (q : Nat) (hq : q < 24) : kC l yX2_become wsX2_become ({ frames := 1, cells := 0, slots := 0, locals := 21 } : Room) E [.ref a, .int (nI q), .ref fa] (wX20 E a b c d on lo hi fa fb fc fs lf hf) 0 0 (fun v_ w_ => ∃ (on1 : Nat → Bool) (lo1 : Nat → Int64) (hi1 : Nat → Int64), v_ = none ∧ w_ = (wX20 E a b c d on1 lo1 hi1 fa fb fc fs lf hf) ∧ (on1 = upB on q true ∧ (∀ v, v < 4 → lo1 (4 * q + v) = lf v ∧ hi1 (4 * q + v) = hf v) ∧ ∀ j, (j < 4 * q ∨ 4 * q + 4 ≤ j) → lo1 j = lo j ∧ hi1 j = hi j)) := by
  refine kC.enter cX2_become 4 none [(0, .ref a), (1, .int (nI q)), (2, .ref fa)] (by decide) rfl (Nat.le_of_ble_eq_true rfl) rfl ?_
  intro g F Rr
  refine k_aload_n F (pc := 0) 0 rfl dX2_become_0 rfl ?_
  refine k_get F (pc := 1) (ref := RX2) (C := RX2) (T := TX2) (N := 3) (ci := 2) 0 0 dX2_become_1 zin_X2_become_X2 rfl rfl (by decide) zm_X2_become_f9 rfl rfl ?_
  refine k_iload_n F (pc := 4) 1 rfl dX2_become_4 rfl ?_
  refine k_iconst F (pc := 5) ((nI 1)) dX2_become_5 (by decide) ?_
  refine k_zast F (pc := 6) true 1 (fun on_1 => (wX20 E a b c d on_1 lo hi fa fb fc fs lf hf)) dX2_become_6 rfl rfl (by omega) (by decide) (fun _ => rfl) (fun on_1 eon_1 => ?_)
  refine k_iconst F (pc := 7) ((nI 0)) dX2_become_7 (by decide) ?_
  refine k_istore_n F (pc := 8) [(3, .int (nI 0)), (0, .ref a), (1, .int (nI q)), (2, .ref fa)] dX2_become_8 rfl (by decide) rfl ?_
  have L9 : ∀ (d_ : Nat) (i : Nat) (lo2 : Nat → Int64) (hi2 : Nat → Int64), 4 - i < d_ → (i ≤ 4) → (∀ j, j < i → lo2 (4 * q + j) = lf j ∧ hi2 (4 * q + j) = hf j) → (∀ j, (j < 4 * q ∨ 4 * q + 4 ≤ j) → lo2 j = lo j ∧ hi2 j = hi j) → kK g (wX20 E a b c d on_1 lo2 hi2 fa fb fc fs lf hf) [(0, .ref a), (1, .int (nI q)), (2, .ref fa), (3, .int (nI i))] 0 0 9 [] := by
    intro d_
    induction d_ with
    | zero => intro i lo2 hi2 hm; exact absurd hm (Nat.not_lt_zero _)
    | succ d_ ih9 =>
      intro i lo2 hi2 hm9 hi4 hlo hot
      refine k_iload_n F (pc := 9) 3 rfl dX2_become_9 rfl ?_
      refine k_iconst F (pc := 10) ((nI 4)) dX2_become_10 (by decide) ?_
      refine k_icmp_ge F (pc := 11) 50 dX2_become_11 (by decide) (nI_toInt (by omega)) (show (nI 4 : Int32).toInt = 4 by decide) (fun c_2 => ?_) (fun c_2 => ?_)
      · skip
        refine k_vret F Rr (pc := 50) dX2_become_50 ⟨on_1, lo2, hi2, rfl, rfl, ?_⟩
        exact ⟨eon_1, fun v hv => hlo v (by omega), hot⟩
      · skip
        refine k_aload_n F (pc := 14) 0 rfl dX2_become_14 rfl ?_
        refine k_get F (pc := 15) (ref := RX2) (C := RX2) (T := TX2) (N := 3) (ci := 2) 0 1 dX2_become_15 zin_X2_become_X2 rfl rfl (by decide) zm_X2_become_f15 rfl rfl ?_
        refine k_iload_n F (pc := 18) 1 rfl dX2_become_18 rfl ?_
        refine k_iconst F (pc := 19) ((nI 4)) dX2_become_19 (by decide) ?_
        refine k_imulC F (pc := 20) dX2_become_20 ?_
        refine k_iload_n F (pc := 21) 3 rfl dX2_become_21 rfl ?_
        refine k_iaddN F (pc := 22) dX2_become_22 ?_
        refine k_aload_n F (pc := 23) 2 rfl dX2_become_23 rfl ?_
        refine k_iload_n F (pc := 24) 3 rfl dX2_become_24 rfl ?_
        refine k_callV F (pc := 25) (C := RX0) (T := TX0) (N := 3) (ci := 0) [.int (nI i)] [.int (nI (4 * q + i)), .ref c] 1 (wX0 E fa fb fc fs lf hf) [cObj a 2 [.ref b, .ref c, .ref d], cBoo E b 24 on_1, cLng E c 96 lo2, cLng E d 96 hi2] [4, 5, 6] [0, 1, 2, 3] (m_X0_lowOf l E fa fb fc fs lf hf i (by omega)) dX2_become_25 gX2_become_X0_lowOf rfl (by decide +kernel) rfl ⟨rfl, rfl⟩ (by decide) rfl (Nat.le_of_ble_eq_true rfl) (by decide) rfl rfl rfl rfl (by decide) (by decide) (by decide) ?_
        rintro v_3 w_4 ⟨rfl, rfl⟩
        refine k_perm (wX20 E a b c d on_1 lo2 hi2 fa fb fc fs lf hf) [0, 1, 2, 3, 4, 5, 6] (by decide) rfl ?_
        show kK g (wX20 E a b c d on_1 lo2 hi2 fa fb fc fs lf hf) [(0, .ref a), (1, .int (nI q)), (2, .ref fa), (3, .int (nI i))] 0 0 28 [.long (lf i), .int (nI (4 * q + i)), .ref c]
        refine k_last F (pc := 28) 2 (fun lo_5 => (wX20 E a b c d on_1 lo_5 hi2 fa fb fc fs lf hf)) dX2_become_28 rfl (by omega) (by decide) (fun _ => rfl) (fun lo_5 elo_5 => ?_)
        refine k_aload_n F (pc := 29) 0 rfl dX2_become_29 rfl ?_
        refine k_get F (pc := 30) (ref := RX2) (C := RX2) (T := TX2) (N := 3) (ci := 2) 0 2 dX2_become_30 zin_X2_become_X2 rfl rfl (by decide) zm_X2_become_f19 rfl rfl ?_
        refine k_iload_n F (pc := 33) 1 rfl dX2_become_33 rfl ?_
        refine k_iconst F (pc := 34) ((nI 4)) dX2_become_34 (by decide) ?_
        refine k_imulC F (pc := 35) dX2_become_35 ?_
        refine k_iload_n F (pc := 36) 3 rfl dX2_become_36 rfl ?_
        refine k_iaddN F (pc := 37) dX2_become_37 ?_
        refine k_aload_n F (pc := 38) 2 rfl dX2_become_38 rfl ?_
        refine k_iload_n F (pc := 39) 3 rfl dX2_become_39 rfl ?_
        refine k_callV F (pc := 40) (C := RX0) (T := TX0) (N := 3) (ci := 0) [.int (nI i)] [.int (nI (4 * q + i)), .ref d] 1 (wX0 E fa fb fc fs lf hf) [cObj a 2 [.ref b, .ref c, .ref d], cBoo E b 24 on_1, cLng E c 96 lo_5, cLng E d 96 hi2] [4, 5, 6] [0, 1, 2, 3] (m_X0_highOf l E fa fb fc fs lf hf i (by omega)) dX2_become_40 gX2_become_X0_highOf rfl (by decide +kernel) rfl ⟨rfl, rfl⟩ (by decide) rfl (Nat.le_of_ble_eq_true rfl) (by decide) rfl rfl rfl rfl (by decide) (by decide) (by decide) ?_
        rintro v_6 w_7 ⟨rfl, rfl⟩
        refine k_perm (wX20 E a b c d on_1 lo_5 hi2 fa fb fc fs lf hf) [0, 1, 2, 3, 4, 5, 6] (by decide) rfl ?_
        show kK g (wX20 E a b c d on_1 lo_5 hi2 fa fb fc fs lf hf) [(0, .ref a), (1, .int (nI q)), (2, .ref fa), (3, .int (nI i))] 0 0 43 [.long (hf i), .int (nI (4 * q + i)), .ref d]
        refine k_last F (pc := 43) 3 (fun hi_8 => (wX20 E a b c d on_1 lo_5 hi_8 fa fb fc fs lf hf)) dX2_become_43 rfl (by omega) (by decide) (fun _ => rfl) (fun hi_8 ehi_8 => ?_)
        refine k_iinc F (pc := 44) 3 ((nI (i + 1))) [(3, .int (nI (i + 1))), (0, .ref a), (1, .int (nI q)), (2, .ref fa)] dX2_become_44 rfl (nI_1 i) (by decide) rfl ?_
        refine k_goto F (pc := 47) 9 dX2_become_47 (by decide) ?_
        refine k_lv [(0, .ref a), (1, .int (nI q)), (2, .ref fa), (3, .int (nI (i + 1)))] [1, 2, 3, 0] rfl ?_
        exact ih9 (i + 1) lo_5 hi_8 (by omega) (by omega) (by (try subst_vars); intro j hj; by_cases h : j = i <;> simp_all [vp_updL] <;> (apply hlo; omega)) (by (try subst_vars); intro j hj; have h1 : ¬ j = 4 * q + i := (by omega); simp [vp_updL, h1]; exact hot j hj)
  refine k_lv [(0, .ref a), (1, .int (nI q)), (2, .ref fa), (3, .int (nI 0))] [1, 2, 3, 0] rfl ?_
  exact L9 (4 - 0 + 1) 0 lo hi (Nat.lt_succ_self _) (by omega) (by intro j hj; omega) (by intro j hj; exact ⟨rfl, rfl⟩)
theorem zm_X2_stretch_f15 : (Cond.fieldLink RX2 15 RX2 "lows" "[J" : Cond) ∈ wsX2_stretch := by decide +kernel
theorem zin_X2_stretch_X2 : ∀ w ∈ u_ws RX2 TX2 3, w ∈ wsX2_stretch := by decide +kernel
theorem zm_X2_stretch_f19 : (Cond.fieldLink RX2 19 RX2 "highs" "[J" : Cond) ∈ wsX2_stretch := by decide +kernel
theorem zm_X2_stretch_c57 : (Cond.constantLong RX2 57 (2147483647) : Cond) ∈ wsX2_stretch := by decide +kernel
theorem zm_X2_stretch_c55 : (Cond.constantLong RX2 55 (-2147483648) : Cond) ∈ wsX2_stretch := by decide +kernel
set_option maxHeartbeats 4000000 in
set_option maxRecDepth 100000 in
theorem m_X2_stretch (l : Launch) (E : kE) (a : Nat) (b : Nat) (c : Nat) (d : Nat) (on : Nat → Bool) (lo : Nat → Int64) (hi : Nat → Int64) (fa : Nat) (fb : Nat) (fc : Nat) (fs : Bool) (lf : Nat → Int64) (hf : Nat → Int64) (q : Nat) (v : Nat) (w : Bool) (hq : q < 24) (hv : v < 4) : kC l yX2_stretch wsX2_stretch ({ frames := 1, cells := 0, slots := 0, locals := 21 } : Room) E [.ref a, .int (nI q), .int (nI v), .ref fa, .int (bI w)] (wX20 E a b c d on lo hi fa fb fc fs lf hf) 0 0 (fun v_ w_ => ∃ (lo1 : Nat → Int64) (hi1 : Nat → Int64) (r : Bool), v_ = some (.int (bI r)) ∧ w_ = (wX20 E a b c d on lo1 hi1 fa fb fc fs lf hf) ∧ (lo1 = vp_updL lo (4 * q + v) (nlo w (lo (4 * q + v)) (lf v)) ∧ hi1 = vp_updL hi (4 * q + v) (nhi w (hi (4 * q + v)) (hf v)) ∧ r = (decide (lf v < lo (4 * q + v)) || decide (hi (4 * q + v) < hf v)))) := by
  refine kC.enter cX2_stretch 7 (some .boolean) [(0, .ref a), (1, .int (nI q)), (2, .int (nI v)), (3, .ref fa), (4, .int (bI w))] (by decide) rfl (Nat.le_of_ble_eq_true rfl) rfl ?_
  intro g F Rr
  refine k_iload_n F (pc := 0) 1 rfl dX2_stretch_0 rfl ?_
  refine k_iconst F (pc := 1) ((nI 4)) dX2_stretch_1 (by decide) ?_
  refine k_imulC F (pc := 2) dX2_stretch_2 ?_
  refine k_iload_n F (pc := 3) 2 rfl dX2_stretch_3 rfl ?_
  refine k_iaddN F (pc := 4) dX2_stretch_4 ?_
  refine k_istore F (pc := 5) [(5, .int (nI (4 * q + v))), (0, .ref a), (1, .int (nI q)), (2, .int (nI v)), (3, .ref fa), (4, .int (bI w))] dX2_stretch_5 (by decide) rfl ?_
  refine k_iconst F (pc := 7) ((nI 0)) dX2_stretch_7 (by decide) ?_
  refine k_istore F (pc := 8) [(6, .int (nI 0)), (5, .int (nI (4 * q + v))), (0, .ref a), (1, .int (nI q)), (2, .int (nI v)), (3, .ref fa), (4, .int (bI w))] dX2_stretch_8 (by decide) rfl ?_
  refine k_aload_n F (pc := 10) 5 rfl dX2_stretch_10 rfl ?_
  refine k_iload_n F (pc := 11) 4 rfl dX2_stretch_11 rfl ?_
  refine k_callV F (pc := 12) (C := RX0) (T := TX0) (N := 3) (ci := 0) [.int (nI v)] [] 1 (wX0 E fa fb fc fs lf hf) [cObj a 2 [.ref b, .ref c, .ref d], cBoo E b 24 on, cLng E c 96 lo, cLng E d 96 hi] [4, 5, 6] [0, 1, 2, 3] (m_X0_lowOf l E fa fb fc fs lf hf v (by omega)) dX2_stretch_12 gX2_stretch_X0_lowOf rfl (by decide +kernel) rfl ⟨rfl, rfl⟩ (by decide) rfl (Nat.le_of_ble_eq_true rfl) (by decide) rfl rfl rfl rfl (by decide) (by decide) (by decide) ?_
  rintro v_1 w_2 ⟨rfl, rfl⟩
  refine k_perm (wX20 E a b c d on lo hi fa fb fc fs lf hf) [0, 1, 2, 3, 4, 5, 6] (by decide) rfl ?_
  show kK g (wX20 E a b c d on lo hi fa fb fc fs lf hf) [(6, .int (nI 0)), (5, .int (nI (4 * q + v))), (0, .ref a), (1, .int (nI q)), (2, .int (nI v)), (3, .ref fa), (4, .int (bI w))] 0 0 15 [.long (lf v)]
  refine k_aload_n F (pc := 15) 2 rfl dX2_stretch_15 rfl ?_
  refine k_get F (pc := 16) (ref := RX2) (C := RX2) (T := TX2) (N := 3) (ci := 2) 0 1 dX2_stretch_16 zin_X2_stretch_X2 rfl rfl (by decide) zm_X2_stretch_f15 rfl rfl ?_
  refine k_iload F (pc := 19) 1 rfl dX2_stretch_19 ?_
  refine k_lald F (pc := 21) 2 dX2_stretch_21 rfl (by omega) (by decide) ?_
  refine k_lcmp_ge F (pc := 22) 52 dX2_stretch_22 dX2_stretch_23 (by decide) (fun c_3 => ?_) (fun c_3 => ?_)
  · skip
    refine k_aload_n F (pc := 52) 5 rfl dX2_stretch_52 rfl ?_
    refine k_iload_n F (pc := 53) 4 rfl dX2_stretch_53 rfl ?_
    refine k_callV F (pc := 54) (C := RX0) (T := TX0) (N := 3) (ci := 0) [.int (nI v)] [] 1 (wX0 E fa fb fc fs lf hf) [cObj a 2 [.ref b, .ref c, .ref d], cBoo E b 24 on, cLng E c 96 lo, cLng E d 96 hi] [4, 5, 6] [0, 1, 2, 3] (m_X0_highOf l E fa fb fc fs lf hf v (by omega)) dX2_stretch_54 gX2_stretch_X0_highOf rfl (by decide +kernel) rfl ⟨rfl, rfl⟩ (by decide) rfl (Nat.le_of_ble_eq_true rfl) (by decide) rfl rfl rfl rfl (by decide) (by decide) (by decide) ?_
    rintro v_4 w_5 ⟨rfl, rfl⟩
    refine k_perm (wX20 E a b c d on lo hi fa fb fc fs lf hf) [0, 1, 2, 3, 4, 5, 6] (by decide) rfl ?_
    show kK g (wX20 E a b c d on lo hi fa fb fc fs lf hf) [(6, .int (nI 0)), (5, .int (nI (4 * q + v))), (0, .ref a), (1, .int (nI q)), (2, .int (nI v)), (3, .ref fa), (4, .int (bI w))] 0 0 57 [.long (hf v)]
    refine k_aload_n F (pc := 57) 2 rfl dX2_stretch_57 rfl ?_
    refine k_get F (pc := 58) (ref := RX2) (C := RX2) (T := TX2) (N := 3) (ci := 2) 0 2 dX2_stretch_58 zin_X2_stretch_X2 rfl rfl (by decide) zm_X2_stretch_f19 rfl rfl ?_
    refine k_iload F (pc := 61) 1 rfl dX2_stretch_61 ?_
    refine k_lald F (pc := 63) 3 dX2_stretch_63 rfl (by omega) (by decide) ?_
    refine k_lcmp_le F (pc := 64) 94 dX2_stretch_64 dX2_stretch_65 (by decide) (fun c_6 => ?_) (fun c_6 => ?_)
    · skip
      refine k_iload F (pc := 94) 0 rfl dX2_stretch_94 ?_
      refine k_zret F Rr (pc := 96) false dX2_stretch_96 rfl ⟨lo, hi, false, rfl, rfl, ?_⟩
      clear F Rr
      refine ⟨?_, ?_, ?_⟩ <;> first | (simp only [nlo, nhi, MINI, MAXI, *, if_true, if_false, Bool.false_eq_true, updL_same, decide_true, decide_false, Bool.or_false, Bool.or_true, Bool.false_or, Bool.true_or, Bool.or_self]; done) | (simp_all; done)
    · skip
      refine k_aload_n F (pc := 68) 2 rfl dX2_stretch_68 rfl ?_
      refine k_get F (pc := 69) (ref := RX2) (C := RX2) (T := TX2) (N := 3) (ci := 2) 0 2 dX2_stretch_69 zin_X2_stretch_X2 rfl rfl (by decide) zm_X2_stretch_f19 rfl rfl ?_
      refine k_iload F (pc := 72) 1 rfl dX2_stretch_72 ?_
      refine k_iload F (pc := 74) 6 rfl dX2_stretch_74 ?_
      refine k_if_eqB F (pc := 76) 85 dX2_stretch_76 (by decide) (fun c_7 => ?_) (fun c_7 => ?_)
      · skip
        refine k_aload_n F (pc := 85) 5 rfl dX2_stretch_85 rfl ?_
        refine k_iload_n F (pc := 86) 4 rfl dX2_stretch_86 rfl ?_
        refine k_callV F (pc := 87) (C := RX0) (T := TX0) (N := 3) (ci := 0) [.int (nI v)] [.int (nI (4 * q + v)), .ref d] 1 (wX0 E fa fb fc fs lf hf) [cObj a 2 [.ref b, .ref c, .ref d], cBoo E b 24 on, cLng E c 96 lo, cLng E d 96 hi] [4, 5, 6] [0, 1, 2, 3] (m_X0_highOf l E fa fb fc fs lf hf v (by omega)) dX2_stretch_87 gX2_stretch_X0_highOf rfl (by decide +kernel) rfl ⟨rfl, rfl⟩ (by decide) rfl (Nat.le_of_ble_eq_true rfl) (by decide) rfl rfl rfl rfl (by decide) (by decide) (by decide) ?_
        rintro v_8 w_9 ⟨rfl, rfl⟩
        refine k_perm (wX20 E a b c d on lo hi fa fb fc fs lf hf) [0, 1, 2, 3, 4, 5, 6] (by decide) rfl ?_
        show kK g (wX20 E a b c d on lo hi fa fb fc fs lf hf) [(6, .int (nI 0)), (5, .int (nI (4 * q + v))), (0, .ref a), (1, .int (nI q)), (2, .int (nI v)), (3, .ref fa), (4, .int (bI w))] 0 0 90 [.long (hf v), .int (nI (4 * q + v)), .ref d]
        refine k_last F (pc := 90) 3 (fun hi_10 => (wX20 E a b c d on lo hi_10 fa fb fc fs lf hf)) dX2_stretch_90 rfl (by omega) (by decide) (fun _ => rfl) (fun hi_10 ehi_10 => ?_)
        refine k_iconst F (pc := 91) ((nI 1)) dX2_stretch_91 (by decide) ?_
        refine k_istore F (pc := 92) [(6, .int (nI 1)), (5, .int (nI (4 * q + v))), (0, .ref a), (1, .int (nI q)), (2, .int (nI v)), (3, .ref fa), (4, .int (bI w))] dX2_stretch_92 (by decide) rfl ?_
        refine k_iload F (pc := 94) 0 rfl dX2_stretch_94 ?_
        subst ehi_10
        refine k_zret F Rr (pc := 96) true dX2_stretch_96 rfl ⟨_, _, true, rfl, rfl, ?_⟩
        clear F Rr
        refine ⟨?_, ?_, ?_⟩ <;> first | (simp only [nlo, nhi, MINI, MAXI, *, if_true, if_false, Bool.false_eq_true, updL_same, decide_true, decide_false, Bool.or_false, Bool.or_true, Bool.false_or, Bool.true_or, Bool.or_self]; done) | (simp_all; done)
      · skip
        refine k_ldc2 F (pc := 79) (2147483647) dX2_stretch_79 zm_X2_stretch_c57 ?_
        refine k_goto F (pc := 82) 90 dX2_stretch_82 (by decide) ?_
        refine k_last F (pc := 90) 3 (fun hi_11 => (wX20 E a b c d on lo hi_11 fa fb fc fs lf hf)) dX2_stretch_90 rfl (by omega) (by decide) (fun _ => rfl) (fun hi_11 ehi_11 => ?_)
        refine k_iconst F (pc := 91) ((nI 1)) dX2_stretch_91 (by decide) ?_
        refine k_istore F (pc := 92) [(6, .int (nI 1)), (5, .int (nI (4 * q + v))), (0, .ref a), (1, .int (nI q)), (2, .int (nI v)), (3, .ref fa), (4, .int (bI w))] dX2_stretch_92 (by decide) rfl ?_
        refine k_iload F (pc := 94) 0 rfl dX2_stretch_94 ?_
        subst ehi_11
        refine k_zret F Rr (pc := 96) true dX2_stretch_96 rfl ⟨_, _, true, rfl, rfl, ?_⟩
        clear F Rr
        refine ⟨?_, ?_, ?_⟩ <;> first | (simp only [nlo, nhi, MINI, MAXI, *, if_true, if_false, Bool.false_eq_true, updL_same, decide_true, decide_false, Bool.or_false, Bool.or_true, Bool.false_or, Bool.true_or, Bool.or_self]; done) | (simp_all; done)
  · skip
    refine k_aload_n F (pc := 26) 2 rfl dX2_stretch_26 rfl ?_
    refine k_get F (pc := 27) (ref := RX2) (C := RX2) (T := TX2) (N := 3) (ci := 2) 0 1 dX2_stretch_27 zin_X2_stretch_X2 rfl rfl (by decide) zm_X2_stretch_f15 rfl rfl ?_
    refine k_iload F (pc := 30) 1 rfl dX2_stretch_30 ?_
    refine k_iload F (pc := 32) 6 rfl dX2_stretch_32 ?_
    refine k_if_eqB F (pc := 34) 43 dX2_stretch_34 (by decide) (fun c_12 => ?_) (fun c_12 => ?_)
    · skip
      refine k_aload_n F (pc := 43) 5 rfl dX2_stretch_43 rfl ?_
      refine k_iload_n F (pc := 44) 4 rfl dX2_stretch_44 rfl ?_
      refine k_callV F (pc := 45) (C := RX0) (T := TX0) (N := 3) (ci := 0) [.int (nI v)] [.int (nI (4 * q + v)), .ref c] 1 (wX0 E fa fb fc fs lf hf) [cObj a 2 [.ref b, .ref c, .ref d], cBoo E b 24 on, cLng E c 96 lo, cLng E d 96 hi] [4, 5, 6] [0, 1, 2, 3] (m_X0_lowOf l E fa fb fc fs lf hf v (by omega)) dX2_stretch_45 gX2_stretch_X0_lowOf rfl (by decide +kernel) rfl ⟨rfl, rfl⟩ (by decide) rfl (Nat.le_of_ble_eq_true rfl) (by decide) rfl rfl rfl rfl (by decide) (by decide) (by decide) ?_
      rintro v_13 w_14 ⟨rfl, rfl⟩
      refine k_perm (wX20 E a b c d on lo hi fa fb fc fs lf hf) [0, 1, 2, 3, 4, 5, 6] (by decide) rfl ?_
      show kK g (wX20 E a b c d on lo hi fa fb fc fs lf hf) [(6, .int (nI 0)), (5, .int (nI (4 * q + v))), (0, .ref a), (1, .int (nI q)), (2, .int (nI v)), (3, .ref fa), (4, .int (bI w))] 0 0 48 [.long (lf v), .int (nI (4 * q + v)), .ref c]
      refine k_last F (pc := 48) 2 (fun lo_15 => (wX20 E a b c d on lo_15 hi fa fb fc fs lf hf)) dX2_stretch_48 rfl (by omega) (by decide) (fun _ => rfl) (fun lo_15 elo_15 => ?_)
      refine k_iconst F (pc := 49) ((nI 1)) dX2_stretch_49 (by decide) ?_
      refine k_istore F (pc := 50) [(6, .int (nI 1)), (5, .int (nI (4 * q + v))), (0, .ref a), (1, .int (nI q)), (2, .int (nI v)), (3, .ref fa), (4, .int (bI w))] dX2_stretch_50 (by decide) rfl ?_
      refine k_aload_n F (pc := 52) 5 rfl dX2_stretch_52 rfl ?_
      refine k_iload_n F (pc := 53) 4 rfl dX2_stretch_53 rfl ?_
      refine k_callV F (pc := 54) (C := RX0) (T := TX0) (N := 3) (ci := 0) [.int (nI v)] [] 1 (wX0 E fa fb fc fs lf hf) [cObj a 2 [.ref b, .ref c, .ref d], cBoo E b 24 on, cLng E c 96 lo_15, cLng E d 96 hi] [4, 5, 6] [0, 1, 2, 3] (m_X0_highOf l E fa fb fc fs lf hf v (by omega)) dX2_stretch_54 gX2_stretch_X0_highOf rfl (by decide +kernel) rfl ⟨rfl, rfl⟩ (by decide) rfl (Nat.le_of_ble_eq_true rfl) (by decide) rfl rfl rfl rfl (by decide) (by decide) (by decide) ?_
      rintro v_16 w_17 ⟨rfl, rfl⟩
      refine k_perm (wX20 E a b c d on lo_15 hi fa fb fc fs lf hf) [0, 1, 2, 3, 4, 5, 6] (by decide) rfl ?_
      show kK g (wX20 E a b c d on lo_15 hi fa fb fc fs lf hf) [(6, .int (nI 1)), (5, .int (nI (4 * q + v))), (0, .ref a), (1, .int (nI q)), (2, .int (nI v)), (3, .ref fa), (4, .int (bI w))] 0 0 57 [.long (hf v)]
      refine k_aload_n F (pc := 57) 2 rfl dX2_stretch_57 rfl ?_
      refine k_get F (pc := 58) (ref := RX2) (C := RX2) (T := TX2) (N := 3) (ci := 2) 0 2 dX2_stretch_58 zin_X2_stretch_X2 rfl rfl (by decide) zm_X2_stretch_f19 rfl rfl ?_
      refine k_iload F (pc := 61) 1 rfl dX2_stretch_61 ?_
      refine k_lald F (pc := 63) 3 dX2_stretch_63 rfl (by omega) (by decide) ?_
      refine k_lcmp_le F (pc := 64) 94 dX2_stretch_64 dX2_stretch_65 (by decide) (fun c_18 => ?_) (fun c_18 => ?_)
      · skip
        refine k_iload F (pc := 94) 0 rfl dX2_stretch_94 ?_
        subst elo_15
        refine k_zret F Rr (pc := 96) true dX2_stretch_96 rfl ⟨_, _, true, rfl, rfl, ?_⟩
        clear F Rr
        refine ⟨?_, ?_, ?_⟩ <;> first | (simp only [nlo, nhi, MINI, MAXI, *, if_true, if_false, Bool.false_eq_true, updL_same, decide_true, decide_false, Bool.or_false, Bool.or_true, Bool.false_or, Bool.true_or, Bool.or_self]; done) | (simp_all; done)
      · skip
        refine k_aload_n F (pc := 68) 2 rfl dX2_stretch_68 rfl ?_
        refine k_get F (pc := 69) (ref := RX2) (C := RX2) (T := TX2) (N := 3) (ci := 2) 0 2 dX2_stretch_69 zin_X2_stretch_X2 rfl rfl (by decide) zm_X2_stretch_f19 rfl rfl ?_
        refine k_iload F (pc := 72) 1 rfl dX2_stretch_72 ?_
        refine k_iload F (pc := 74) 6 rfl dX2_stretch_74 ?_
        refine k_if_eqB F (pc := 76) 85 dX2_stretch_76 (by decide) (fun c_19 => ?_) (fun c_19 => ?_)
        · skip
          refine k_aload_n F (pc := 85) 5 rfl dX2_stretch_85 rfl ?_
          refine k_iload_n F (pc := 86) 4 rfl dX2_stretch_86 rfl ?_
          refine k_callV F (pc := 87) (C := RX0) (T := TX0) (N := 3) (ci := 0) [.int (nI v)] [.int (nI (4 * q + v)), .ref d] 1 (wX0 E fa fb fc fs lf hf) [cObj a 2 [.ref b, .ref c, .ref d], cBoo E b 24 on, cLng E c 96 lo_15, cLng E d 96 hi] [4, 5, 6] [0, 1, 2, 3] (m_X0_highOf l E fa fb fc fs lf hf v (by omega)) dX2_stretch_87 gX2_stretch_X0_highOf rfl (by decide +kernel) rfl ⟨rfl, rfl⟩ (by decide) rfl (Nat.le_of_ble_eq_true rfl) (by decide) rfl rfl rfl rfl (by decide) (by decide) (by decide) ?_
          rintro v_20 w_21 ⟨rfl, rfl⟩
          refine k_perm (wX20 E a b c d on lo_15 hi fa fb fc fs lf hf) [0, 1, 2, 3, 4, 5, 6] (by decide) rfl ?_
          show kK g (wX20 E a b c d on lo_15 hi fa fb fc fs lf hf) [(6, .int (nI 1)), (5, .int (nI (4 * q + v))), (0, .ref a), (1, .int (nI q)), (2, .int (nI v)), (3, .ref fa), (4, .int (bI w))] 0 0 90 [.long (hf v), .int (nI (4 * q + v)), .ref d]
          refine k_last F (pc := 90) 3 (fun hi_22 => (wX20 E a b c d on lo_15 hi_22 fa fb fc fs lf hf)) dX2_stretch_90 rfl (by omega) (by decide) (fun _ => rfl) (fun hi_22 ehi_22 => ?_)
          refine k_iconst F (pc := 91) ((nI 1)) dX2_stretch_91 (by decide) ?_
          refine k_istore F (pc := 92) [(6, .int (nI 1)), (5, .int (nI (4 * q + v))), (0, .ref a), (1, .int (nI q)), (2, .int (nI v)), (3, .ref fa), (4, .int (bI w))] dX2_stretch_92 (by decide) rfl ?_
          refine k_iload F (pc := 94) 0 rfl dX2_stretch_94 ?_
          subst ehi_22
          subst elo_15
          refine k_zret F Rr (pc := 96) true dX2_stretch_96 rfl ⟨_, _, true, rfl, rfl, ?_⟩
          clear F Rr
          refine ⟨?_, ?_, ?_⟩ <;> first | (simp only [nlo, nhi, MINI, MAXI, *, if_true, if_false, Bool.false_eq_true, updL_same, decide_true, decide_false, Bool.or_false, Bool.or_true, Bool.false_or, Bool.true_or, Bool.or_self]; done) | (simp_all; done)
        · skip
          refine k_ldc2 F (pc := 79) (2147483647) dX2_stretch_79 zm_X2_stretch_c57 ?_
          refine k_goto F (pc := 82) 90 dX2_stretch_82 (by decide) ?_
          refine k_last F (pc := 90) 3 (fun hi_23 => (wX20 E a b c d on lo_15 hi_23 fa fb fc fs lf hf)) dX2_stretch_90 rfl (by omega) (by decide) (fun _ => rfl) (fun hi_23 ehi_23 => ?_)
          refine k_iconst F (pc := 91) ((nI 1)) dX2_stretch_91 (by decide) ?_
          refine k_istore F (pc := 92) [(6, .int (nI 1)), (5, .int (nI (4 * q + v))), (0, .ref a), (1, .int (nI q)), (2, .int (nI v)), (3, .ref fa), (4, .int (bI w))] dX2_stretch_92 (by decide) rfl ?_
          refine k_iload F (pc := 94) 0 rfl dX2_stretch_94 ?_
          subst ehi_23
          subst elo_15
          refine k_zret F Rr (pc := 96) true dX2_stretch_96 rfl ⟨_, _, true, rfl, rfl, ?_⟩
          clear F Rr
          refine ⟨?_, ?_, ?_⟩ <;> first | (simp only [nlo, nhi, MINI, MAXI, *, if_true, if_false, Bool.false_eq_true, updL_same, decide_true, decide_false, Bool.or_false, Bool.or_true, Bool.false_or, Bool.true_or, Bool.or_self]; done) | (simp_all; done)
    · skip
      refine k_ldc2 F (pc := 37) (-2147483648) dX2_stretch_37 zm_X2_stretch_c55 ?_
      refine k_goto F (pc := 40) 48 dX2_stretch_40 (by decide) ?_
      refine k_last F (pc := 48) 2 (fun lo_24 => (wX20 E a b c d on lo_24 hi fa fb fc fs lf hf)) dX2_stretch_48 rfl (by omega) (by decide) (fun _ => rfl) (fun lo_24 elo_24 => ?_)
      refine k_iconst F (pc := 49) ((nI 1)) dX2_stretch_49 (by decide) ?_
      refine k_istore F (pc := 50) [(6, .int (nI 1)), (5, .int (nI (4 * q + v))), (0, .ref a), (1, .int (nI q)), (2, .int (nI v)), (3, .ref fa), (4, .int (bI w))] dX2_stretch_50 (by decide) rfl ?_
      refine k_aload_n F (pc := 52) 5 rfl dX2_stretch_52 rfl ?_
      refine k_iload_n F (pc := 53) 4 rfl dX2_stretch_53 rfl ?_
      refine k_callV F (pc := 54) (C := RX0) (T := TX0) (N := 3) (ci := 0) [.int (nI v)] [] 1 (wX0 E fa fb fc fs lf hf) [cObj a 2 [.ref b, .ref c, .ref d], cBoo E b 24 on, cLng E c 96 lo_24, cLng E d 96 hi] [4, 5, 6] [0, 1, 2, 3] (m_X0_highOf l E fa fb fc fs lf hf v (by omega)) dX2_stretch_54 gX2_stretch_X0_highOf rfl (by decide +kernel) rfl ⟨rfl, rfl⟩ (by decide) rfl (Nat.le_of_ble_eq_true rfl) (by decide) rfl rfl rfl rfl (by decide) (by decide) (by decide) ?_
      rintro v_25 w_26 ⟨rfl, rfl⟩
      refine k_perm (wX20 E a b c d on lo_24 hi fa fb fc fs lf hf) [0, 1, 2, 3, 4, 5, 6] (by decide) rfl ?_
      show kK g (wX20 E a b c d on lo_24 hi fa fb fc fs lf hf) [(6, .int (nI 1)), (5, .int (nI (4 * q + v))), (0, .ref a), (1, .int (nI q)), (2, .int (nI v)), (3, .ref fa), (4, .int (bI w))] 0 0 57 [.long (hf v)]
      refine k_aload_n F (pc := 57) 2 rfl dX2_stretch_57 rfl ?_
      refine k_get F (pc := 58) (ref := RX2) (C := RX2) (T := TX2) (N := 3) (ci := 2) 0 2 dX2_stretch_58 zin_X2_stretch_X2 rfl rfl (by decide) zm_X2_stretch_f19 rfl rfl ?_
      refine k_iload F (pc := 61) 1 rfl dX2_stretch_61 ?_
      refine k_lald F (pc := 63) 3 dX2_stretch_63 rfl (by omega) (by decide) ?_
      refine k_lcmp_le F (pc := 64) 94 dX2_stretch_64 dX2_stretch_65 (by decide) (fun c_27 => ?_) (fun c_27 => ?_)
      · skip
        refine k_iload F (pc := 94) 0 rfl dX2_stretch_94 ?_
        subst elo_24
        refine k_zret F Rr (pc := 96) true dX2_stretch_96 rfl ⟨_, _, true, rfl, rfl, ?_⟩
        clear F Rr
        refine ⟨?_, ?_, ?_⟩ <;> first | (simp only [nlo, nhi, MINI, MAXI, *, if_true, if_false, Bool.false_eq_true, updL_same, decide_true, decide_false, Bool.or_false, Bool.or_true, Bool.false_or, Bool.true_or, Bool.or_self]; done) | (simp_all; done)
      · skip
        refine k_aload_n F (pc := 68) 2 rfl dX2_stretch_68 rfl ?_
        refine k_get F (pc := 69) (ref := RX2) (C := RX2) (T := TX2) (N := 3) (ci := 2) 0 2 dX2_stretch_69 zin_X2_stretch_X2 rfl rfl (by decide) zm_X2_stretch_f19 rfl rfl ?_
        refine k_iload F (pc := 72) 1 rfl dX2_stretch_72 ?_
        refine k_iload F (pc := 74) 6 rfl dX2_stretch_74 ?_
        refine k_if_eqB F (pc := 76) 85 dX2_stretch_76 (by decide) (fun c_28 => ?_) (fun c_28 => ?_)
        · skip
          refine k_aload_n F (pc := 85) 5 rfl dX2_stretch_85 rfl ?_
          refine k_iload_n F (pc := 86) 4 rfl dX2_stretch_86 rfl ?_
          refine k_callV F (pc := 87) (C := RX0) (T := TX0) (N := 3) (ci := 0) [.int (nI v)] [.int (nI (4 * q + v)), .ref d] 1 (wX0 E fa fb fc fs lf hf) [cObj a 2 [.ref b, .ref c, .ref d], cBoo E b 24 on, cLng E c 96 lo_24, cLng E d 96 hi] [4, 5, 6] [0, 1, 2, 3] (m_X0_highOf l E fa fb fc fs lf hf v (by omega)) dX2_stretch_87 gX2_stretch_X0_highOf rfl (by decide +kernel) rfl ⟨rfl, rfl⟩ (by decide) rfl (Nat.le_of_ble_eq_true rfl) (by decide) rfl rfl rfl rfl (by decide) (by decide) (by decide) ?_
          rintro v_29 w_30 ⟨rfl, rfl⟩
          refine k_perm (wX20 E a b c d on lo_24 hi fa fb fc fs lf hf) [0, 1, 2, 3, 4, 5, 6] (by decide) rfl ?_
          show kK g (wX20 E a b c d on lo_24 hi fa fb fc fs lf hf) [(6, .int (nI 1)), (5, .int (nI (4 * q + v))), (0, .ref a), (1, .int (nI q)), (2, .int (nI v)), (3, .ref fa), (4, .int (bI w))] 0 0 90 [.long (hf v), .int (nI (4 * q + v)), .ref d]
          refine k_last F (pc := 90) 3 (fun hi_31 => (wX20 E a b c d on lo_24 hi_31 fa fb fc fs lf hf)) dX2_stretch_90 rfl (by omega) (by decide) (fun _ => rfl) (fun hi_31 ehi_31 => ?_)
          refine k_iconst F (pc := 91) ((nI 1)) dX2_stretch_91 (by decide) ?_
          refine k_istore F (pc := 92) [(6, .int (nI 1)), (5, .int (nI (4 * q + v))), (0, .ref a), (1, .int (nI q)), (2, .int (nI v)), (3, .ref fa), (4, .int (bI w))] dX2_stretch_92 (by decide) rfl ?_
          refine k_iload F (pc := 94) 0 rfl dX2_stretch_94 ?_
          subst ehi_31
          subst elo_24
          refine k_zret F Rr (pc := 96) true dX2_stretch_96 rfl ⟨_, _, true, rfl, rfl, ?_⟩
          clear F Rr
          refine ⟨?_, ?_, ?_⟩ <;> first | (simp only [nlo, nhi, MINI, MAXI, *, if_true, if_false, Bool.false_eq_true, updL_same, decide_true, decide_false, Bool.or_false, Bool.or_true, Bool.false_or, Bool.true_or, Bool.or_self]; done) | (simp_all; done)
        · skip
          refine k_ldc2 F (pc := 79) (2147483647) dX2_stretch_79 zm_X2_stretch_c57 ?_
          refine k_goto F (pc := 82) 90 dX2_stretch_82 (by decide) ?_
          refine k_last F (pc := 90) 3 (fun hi_32 => (wX20 E a b c d on lo_24 hi_32 fa fb fc fs lf hf)) dX2_stretch_90 rfl (by omega) (by decide) (fun _ => rfl) (fun hi_32 ehi_32 => ?_)
          refine k_iconst F (pc := 91) ((nI 1)) dX2_stretch_91 (by decide) ?_
          refine k_istore F (pc := 92) [(6, .int (nI 1)), (5, .int (nI (4 * q + v))), (0, .ref a), (1, .int (nI q)), (2, .int (nI v)), (3, .ref fa), (4, .int (bI w))] dX2_stretch_92 (by decide) rfl ?_
          refine k_iload F (pc := 94) 0 rfl dX2_stretch_94 ?_
          subst ehi_32
          subst elo_24
          refine k_zret F Rr (pc := 96) true dX2_stretch_96 rfl ⟨_, _, true, rfl, rfl, ?_⟩
          clear F Rr
          refine ⟨?_, ?_, ?_⟩ <;> first | (simp only [nlo, nhi, MINI, MAXI, *, if_true, if_false, Bool.false_eq_true, updL_same, decide_true, decide_false, Bool.or_false, Bool.or_true, Bool.false_or, Bool.true_or, Bool.or_self]; done) | (simp_all; done)
theorem zm_X2_take_f9 : (Cond.fieldLink RX2 9 RX2 "somewhere" "[Z" : Cond) ∈ wsX2_take := by decide +kernel
theorem zin_X2_take_X2 : ∀ w ∈ u_ws RX2 TX2 3, w ∈ wsX2_take := by decide +kernel
set_option maxHeartbeats 4000000 in
set_option maxRecDepth 100000 in
theorem m_X2_take (l : Launch) (E : kE) (a : Nat) (b : Nat) (c : Nat) (d : Nat) (on : Nat → Bool) (lo : Nat → Int64) (hi : Nat → Int64) (fa : Nat) (fb : Nat) (fc : Nat) (fs : Bool) (lf : Nat → Int64) (hf : Nat → Int64) (x : Int32) (q : Nat) (w : Bool) (S : ST) (FF : Option (IV × IV)) (hR : Rep on lo hi S) (hF : FRep fs lf hf FF) (hq : FF ≠ none → x.toInt = q ∧ q < 24) : kC l yX2_take wsX2_take ({ frames := 2, cells := 0, slots := 0, locals := 47 } : Room) E [.ref a, .int x, .ref fa, .int (bI w)] (wX20 E a b c d on lo hi fa fb fc fs lf hf) 0 0 (fun v_ w_ => ∃ (on1 : Nat → Bool) (lo1 : Nat → Int64) (hi1 : Nat → Int64) (r : Bool), v_ = some (.int (bI r)) ∧ w_ = (wX20 E a b c d on1 lo1 hi1 fa fb fc fs lf hf) ∧ (Rep on1 lo1 hi1 (arr S q FF w).2 ∧ r = (arr S q FF w).1)) := by
  refine kC.enter cX2_take 6 (some .boolean) [(0, .ref a), (1, .int x), (2, .ref fa), (3, .int (bI w))] (by decide) rfl (Nat.le_of_ble_eq_true rfl) rfl ?_
  intro g F Rr
  refine k_aload_n F (pc := 0) 2 rfl dX2_take_0 rfl ?_
  refine k_callV F (pc := 1) (C := RX0) (T := TX0) (N := 3) (ci := 0) [] [] 0 (wX0 E fa fb fc fs lf hf) [cObj a 2 [.ref b, .ref c, .ref d], cBoo E b 24 on, cLng E c 96 lo, cLng E d 96 hi] [4, 5, 6] [0, 1, 2, 3] (m_X0_isSomething l E fa fb fc fs lf hf) dX2_take_1 gX2_take_X0_isSomething rfl (by decide +kernel) rfl ⟨rfl, rfl⟩ (by decide) rfl (Nat.le_of_ble_eq_true rfl) (by decide) rfl rfl rfl rfl (by decide) (by decide) (by decide) ?_
  rintro v_1 w_2 ⟨rfl, rfl⟩
  refine k_perm (wX20 E a b c d on lo hi fa fb fc fs lf hf) [0, 1, 2, 3, 4, 5, 6] (by decide) rfl ?_
  show kK g (wX20 E a b c d on lo hi fa fb fc fs lf hf) [(0, .ref a), (1, .int x), (2, .ref fa), (3, .int (bI w))] 0 0 4 [.int (bI fs)]
  refine k_if_eqB F (pc := 4) 17 dX2_take_4 (by decide) (fun c_3 => ?_) (fun c_3 => ?_)
  · skip
    rw [c_3] at hF
    have hN := hF.none_of
    refine k_iconst F (pc := 17) ((nI 0)) dX2_take_17 (by decide) ?_
    refine k_zret F Rr (pc := 18) false dX2_take_18 rfl ⟨on, lo, hi, false, rfl, rfl, ?_⟩
    first
    | (rw [hN]; exact ⟨hR, rfl⟩)
    | (exfalso; omega)
  · skip
    rw [c_3] at hF
    obtain ⟨T, hT, hTv⟩ := hF.some_of
    have hxq := hq (by rw [hT]; simp)
    have hxN : x = nI q := k_toN hxq.1 (by omega)
    refine k_iload_n F (pc := 7) 1 rfl dX2_take_7 rfl ?_
    refine k_topi (nI q) hxN ?_
    refine k_if_lt F (pc := 8) 17 dX2_take_8 (by decide) (nI_toInt (by omega)) (fun c_4 => ?_) (fun c_4 => ?_)
    · skip
      refine k_iconst F (pc := 17) ((nI 0)) dX2_take_17 (by decide) ?_
      refine k_zret F Rr (pc := 18) false dX2_take_18 rfl ⟨on, lo, hi, false, rfl, rfl, ?_⟩
      first
      | (rw [hN]; exact ⟨hR, rfl⟩)
      | (exfalso; omega)
    · skip
      refine k_iload_n F (pc := 11) 1 rfl dX2_take_11 rfl ?_
      refine k_topi (nI q) hxN ?_
      refine k_bipush F (pc := 12) ((nI 24)) dX2_take_12 (by decide) ?_
      refine k_icmp_lt F (pc := 14) 19 dX2_take_14 (by decide) (nI_toInt (by omega)) (show (nI 24 : Int32).toInt = 24 by decide) (fun c_5 => ?_) (fun c_5 => ?_)
      · skip
        refine k_aload_n F (pc := 19) 0 rfl dX2_take_19 rfl ?_
        refine k_get F (pc := 20) (ref := RX2) (C := RX2) (T := TX2) (N := 3) (ci := 2) 0 0 dX2_take_20 zin_X2_take_X2 rfl rfl (by decide) zm_X2_take_f9 rfl rfl ?_
        refine k_iload_n F (pc := 23) 1 rfl dX2_take_23 rfl ?_
        refine k_topi (nI q) hxN ?_
        refine k_zald F (pc := 24) 1 dX2_take_24 rfl (by omega) (by decide) ?_
        refine k_if_neB F (pc := 25) 36 dX2_take_25 (by decide) (fun c_6 => ?_) (fun c_6 => ?_)
        · skip
          obtain ⟨Y, hY, hYv⟩ := hR.up hxq.2 c_6
          refine k_iconst F (pc := 36) ((nI 0)) dX2_take_36 (by decide) ?_
          refine k_istore F (pc := 37) [(4, .int (nI 0)), (0, .ref a), (1, .int x), (2, .ref fa), (3, .int (bI w))] dX2_take_37 (by decide) rfl ?_
          refine k_iconst F (pc := 39) ((nI 0)) dX2_take_39 (by decide) ?_
          refine k_istore F (pc := 40) [(5, .int (nI 0)), (4, .int (nI 0)), (0, .ref a), (1, .int x), (2, .ref fa), (3, .int (bI w))] dX2_take_40 (by decide) rfl ?_
          have L42 : ∀ (d_ : Nat) (i : Nat) (ch : Bool) (lo2 : Nat → Int64) (hi2 : Nat → Int64), 4 - i < d_ → (i ≤ 4) → (∀ j, lo2 j = if 4 * q ≤ j ∧ j < 4 * q + i then nlo w (lo j) (lf (j - 4 * q)) else lo j) → (∀ j, hi2 j = if 4 * q ≤ j ∧ j < 4 * q + i then nhi w (hi j) (hf (j - 4 * q)) else hi j) → (ch = chgTo (fun v => lo (4 * q + v), fun v => hi (4 * q + v)) (lf, hf) i) → kK g (wX20 E a b c d on lo2 hi2 fa fb fc fs lf hf) [(0, .ref a), (1, .int x), (2, .ref fa), (3, .int (bI w)), (4, .int (bI ch)), (5, .int (nI i))] 0 0 42 [] := by
            intro d_
            induction d_ with
            | zero => intro i ch lo2 hi2 hm; exact absurd hm (Nat.not_lt_zero _)
            | succ d_ ih42 =>
              intro i ch lo2 hi2 hm42 hi4 hlo hhi hch
              refine k_iload F (pc := 42) 5 rfl dX2_take_42 ?_
              refine k_iconst F (pc := 44) ((nI 4)) dX2_take_44 (by decide) ?_
              refine k_icmp_ge F (pc := 45) 69 dX2_take_45 (by decide) (nI_toInt (by omega)) (show (nI 4 : Int32).toInt = 4 by decide) (fun c_7 => ?_) (fun c_7 => ?_)
              · skip
                refine k_iload F (pc := 69) 4 rfl dX2_take_69 ?_
                refine k_zret F Rr (pc := 71) ch dX2_take_71 rfl ⟨on, lo2, hi2, ch, rfl, rfl, ?_⟩
                exact take_old hR hTv hT hY hYv hxq.2 (by rw [show i = 4 by omega] at hlo; exact hlo) (by rw [show i = 4 by omega] at hhi; exact hhi) (by rw [show i = 4 by omega] at hch; exact hch)
              · skip
                refine k_aload_n F (pc := 48) 0 rfl dX2_take_48 rfl ?_
                refine k_iload_n F (pc := 49) 1 rfl dX2_take_49 rfl ?_
                refine k_topi (nI q) hxN ?_
                refine k_iload F (pc := 50) 5 rfl dX2_take_50 ?_
                refine k_aload_n F (pc := 52) 2 rfl dX2_take_52 rfl ?_
                refine k_iload_n F (pc := 53) 3 rfl dX2_take_53 rfl ?_
                refine k_callV F (pc := 54) (C := RX2) (T := TX2) (N := 3) (ci := 2) [.int (nI q), .int (nI i), .ref fa, .int (bI w)] [] 4 (wX20 E a b c d on lo2 hi2 fa fb fc fs lf hf) [] [0, 1, 2, 3, 4, 5, 6] [] (m_X2_stretch l E a b c d on lo2 hi2 fa fb fc fs lf hf q i w (by omega) (by omega)) dX2_take_54 gX2_take_X2_stretch rfl (by decide +kernel) rfl ⟨rfl, rfl⟩ (by decide) rfl (Nat.le_of_ble_eq_true rfl) (by decide) rfl rfl rfl rfl (by decide) (by decide) (by decide) ?_
                rintro v_11 w_12 ⟨lo1_8, hi1_9, r_10, rfl, rfl, hst⟩
                refine k_perm (wX20 E a b c d on lo1_8 hi1_9 fa fb fc fs lf hf) [0, 1, 2, 3, 4, 5, 6] (by decide) rfl ?_
                show kK g (wX20 E a b c d on lo1_8 hi1_9 fa fb fc fs lf hf) [(0, .ref a), (1, .int x), (2, .ref fa), (3, .int (bI w)), (4, .int (bI ch)), (5, .int (nI i))] 0 0 57 [.int (bI r_10)]
                refine k_if_eqB F (pc := 57) 63 dX2_take_57 (by decide) (fun c_13 => ?_) (fun c_13 => ?_)
                · skip
                  refine k_iinc F (pc := 63) 5 ((nI (i + 1))) [(5, .int (nI (i + 1))), (0, .ref a), (1, .int x), (2, .ref fa), (3, .int (bI w)), (4, .int (bI ch))] dX2_take_63 rfl (nI_1 i) (by decide) rfl ?_
                  refine k_goto F (pc := 66) 42 dX2_take_66 (by decide) ?_
                  refine k_lv [(0, .ref a), (1, .int x), (2, .ref fa), (3, .int (bI w)), (4, .int (bI ch)), (5, .int (nI (i + 1)))] [1, 2, 3, 4, 5, 0] rfl ?_
                  exact ih42 (i + 1) ch lo1_8 hi1_9 (by omega) (by omega) (by exact take_step (u := nlo w) hlo hst.1) (by exact take_step (u := nhi w) hhi hst.2.1) (by rw [take_chg hlo hhi hst.2.2 hch]; simp_all)
                · skip
                  refine k_iconst F (pc := 60) ((nI 1)) dX2_take_60 (by decide) ?_
                  refine k_istore F (pc := 61) [(4, .int (nI 1)), (0, .ref a), (1, .int x), (2, .ref fa), (3, .int (bI w)), (5, .int (nI i))] dX2_take_61 (by decide) rfl ?_
                  refine k_iinc F (pc := 63) 5 ((nI (i + 1))) [(5, .int (nI (i + 1))), (4, .int (nI 1)), (0, .ref a), (1, .int x), (2, .ref fa), (3, .int (bI w))] dX2_take_63 rfl (nI_1 i) (by decide) rfl ?_
                  refine k_goto F (pc := 66) 42 dX2_take_66 (by decide) ?_
                  refine k_lv [(0, .ref a), (1, .int x), (2, .ref fa), (3, .int (bI w)), (4, .int (nI 1)), (5, .int (nI (i + 1)))] [2, 3, 4, 5, 1, 0] rfl ?_
                  exact ih42 (i + 1) true lo1_8 hi1_9 (by omega) (by omega) (by exact take_step (u := nlo w) hlo hst.1) (by exact take_step (u := nhi w) hhi hst.2.1) (by rw [take_chg hlo hhi hst.2.2 hch]; simp_all)
          refine k_lv [(0, .ref a), (1, .int x), (2, .ref fa), (3, .int (bI w)), (4, .int (nI 0)), (5, .int (nI 0))] [2, 3, 4, 5, 1, 0] rfl ?_
          exact L42 (4 - 0 + 1) 0 false lo hi (Nat.lt_succ_self _) (by omega) (by intro j; rw [if_neg (by omega)]) (by intro j; rw [if_neg (by omega)]) (by rfl)
        · skip
          have hSq := hR.off hxq.2 c_6
          refine k_aload_n F (pc := 28) 0 rfl dX2_take_28 rfl ?_
          refine k_iload_n F (pc := 29) 1 rfl dX2_take_29 rfl ?_
          refine k_topi (nI q) hxN ?_
          refine k_aload_n F (pc := 30) 2 rfl dX2_take_30 rfl ?_
          refine k_callV F (pc := 31) (C := RX2) (T := TX2) (N := 3) (ci := 2) [.int (nI q), .ref fa] [] 2 (wX20 E a b c d on lo hi fa fb fc fs lf hf) [] [0, 1, 2, 3, 4, 5, 6] [] (m_X2_become l E a b c d on lo hi fa fb fc fs lf hf q (by omega)) dX2_take_31 gX2_take_X2_become rfl (by decide +kernel) rfl ⟨rfl, rfl⟩ (by decide) rfl (Nat.le_of_ble_eq_true rfl) (by decide) rfl rfl rfl rfl (by decide) (by decide) (by decide) ?_
          rintro v_17 w_18 ⟨on1_14, lo1_15, hi1_16, rfl, rfl, hbc⟩
          refine k_perm (wX20 E a b c d on1_14 lo1_15 hi1_16 fa fb fc fs lf hf) [0, 1, 2, 3, 4, 5, 6] (by decide) rfl ?_
          show kK g (wX20 E a b c d on1_14 lo1_15 hi1_16 fa fb fc fs lf hf) [(0, .ref a), (1, .int x), (2, .ref fa), (3, .int (bI w))] 0 0 34 []
          refine k_iconst F (pc := 34) ((nI 1)) dX2_take_34 (by decide) ?_
          refine k_zret F Rr (pc := 35) true dX2_take_35 rfl ⟨on1_14, lo1_15, hi1_16, true, rfl, rfl, ?_⟩
          exact take_new hR hTv hT hSq hbc
      · skip
        refine k_iconst F (pc := 17) ((nI 0)) dX2_take_17 (by decide) ?_
        refine k_zret F Rr (pc := 18) false dX2_take_18 rfl ⟨on, lo, hi, false, rfl, rfl, ?_⟩
        first
        | (rw [hN]; exact ⟨hR, rfl⟩)
        | (exfalso; omega)
end
section
set_option maxHeartbeats 4000000 in
set_option maxRecDepth 100000 in
theorem m_X3_isVariable (l : Launch) (E : kE) (x : Int32)  : kC l yX3_isVariable wsX3_isVariable ({ frames := 0, cells := 0, slots := 0, locals := 0 } : Room) E [.int x] [] 0 0 (fun v_ w_ => w_ = [] ∧ ∃ (r : Bool), v_ = some (.int (bI r)) ∧ (r = true ↔ 0 ≤ x.toInt ∧ x.toInt ≤ 3)) := by
  refine kC.enter cX3_isVariable 1 (some .boolean) [(0, .int x)] (by decide) rfl (Nat.le_of_ble_eq_true rfl) rfl ?_
  intro g F Rr
  refine k_iload_n F (pc := 0) 0 rfl dX3_isVariable_0 rfl ?_
  refine k_if_lt F (pc := 1) 13 dX3_isVariable_1 (by decide) rfl (fun c_1 => ?_) (fun c_1 => ?_)
  · skip
    refine k_iconst F (pc := 13) ((nI 0)) dX3_isVariable_13 (by decide) ?_
    refine k_zret F Rr (pc := 14) false dX3_isVariable_14 rfl ⟨rfl, false, rfl, ?_⟩
    first
    | exact ⟨fun _ => by omega, fun _ => rfl⟩
    | exact ⟨fun h => absurd h (by decide), fun h => by exfalso; omega⟩
  · skip
    refine k_iload_n F (pc := 4) 0 rfl dX3_isVariable_4 rfl ?_
    refine k_iconst F (pc := 5) ((nI 4)) dX3_isVariable_5 (by decide) ?_
    refine k_icmp_ge F (pc := 6) 13 dX3_isVariable_6 (by decide) rfl (show (nI 4 : Int32).toInt = 4 by decide) (fun c_2 => ?_) (fun c_2 => ?_)
    · skip
      refine k_iconst F (pc := 13) ((nI 0)) dX3_isVariable_13 (by decide) ?_
      refine k_zret F Rr (pc := 14) false dX3_isVariable_14 rfl ⟨rfl, false, rfl, ?_⟩
      first
      | exact ⟨fun _ => by omega, fun _ => rfl⟩
      | exact ⟨fun h => absurd h (by decide), fun h => by exfalso; omega⟩
    · skip
      refine k_iconst F (pc := 9) ((nI 1)) dX3_isVariable_9 (by decide) ?_
      refine k_goto F (pc := 10) 14 dX3_isVariable_10 (by decide) ?_
      refine k_zret F Rr (pc := 14) true dX3_isVariable_14 rfl ⟨rfl, true, rfl, ?_⟩
      first
      | exact ⟨fun _ => by omega, fun _ => rfl⟩
      | exact ⟨fun h => absurd h (by decide), fun h => by exfalso; omega⟩
set_option maxHeartbeats 4000000 in
set_option maxRecDepth 100000 in
theorem m_X3_goesOnAtC (l : Launch) (E : kE) (o : Int32)  : kC l yX3_goesOnAtC wsX3_goesOnAtC ({ frames := 0, cells := 0, slots := 0, locals := 0 } : Room) E [.int o] [] 0 0 (fun v_ w_ => w_ = [] ∧ ∃ (r : Bool), v_ = some (.int (bI r)) ∧ (r = true ↔ o.toInt = 9 ∨ o.toInt = 10)) := by
  refine kC.enter cX3_goesOnAtC 1 (some .boolean) [(0, .int o)] (by decide) rfl (Nat.le_of_ble_eq_true rfl) rfl ?_
  intro g F Rr
  refine k_iload_n F (pc := 0) 0 rfl dX3_goesOnAtC_0 rfl ?_
  refine k_bipush F (pc := 1) ((nI 9)) dX3_goesOnAtC_1 (by decide) ?_
  refine k_icmp_eq F (pc := 3) 12 dX3_goesOnAtC_3 (by decide) rfl (show (nI 9 : Int32).toInt = 9 by decide) (fun c_1 => ?_) (fun c_1 => ?_)
  · skip
    refine k_iconst F (pc := 12) ((nI 1)) dX3_goesOnAtC_12 (by decide) ?_
    refine k_goto F (pc := 13) 17 dX3_goesOnAtC_13 (by decide) ?_
    refine k_zret F Rr (pc := 17) true dX3_goesOnAtC_17 rfl ⟨rfl, true, rfl, ?_⟩
    first
    | exact ⟨fun _ => by omega, fun _ => rfl⟩
    | exact ⟨fun h => absurd h (by decide), fun h => by exfalso; omega⟩
  · skip
    refine k_iload_n F (pc := 6) 0 rfl dX3_goesOnAtC_6 rfl ?_
    refine k_bipush F (pc := 7) ((nI 10)) dX3_goesOnAtC_7 (by decide) ?_
    refine k_icmp_ne F (pc := 9) 16 dX3_goesOnAtC_9 (by decide) rfl (show (nI 10 : Int32).toInt = 10 by decide) (fun c_2 => ?_) (fun c_2 => ?_)
    · skip
      refine k_iconst F (pc := 16) ((nI 0)) dX3_goesOnAtC_16 (by decide) ?_
      refine k_zret F Rr (pc := 17) false dX3_goesOnAtC_17 rfl ⟨rfl, false, rfl, ?_⟩
      first
      | exact ⟨fun _ => by omega, fun _ => rfl⟩
      | exact ⟨fun h => absurd h (by decide), fun h => by exfalso; omega⟩
    · skip
      refine k_iconst F (pc := 12) ((nI 1)) dX3_goesOnAtC_12 (by decide) ?_
      refine k_goto F (pc := 13) 17 dX3_goesOnAtC_13 (by decide) ?_
      refine k_zret F Rr (pc := 17) true dX3_goesOnAtC_17 rfl ⟨rfl, true, rfl, ?_⟩
      first
      | exact ⟨fun _ => by omega, fun _ => rfl⟩
      | exact ⟨fun h => absurd h (by decide), fun h => by exfalso; omega⟩
set_option maxHeartbeats 4000000 in
set_option maxRecDepth 100000 in
theorem m_X3_isPlaceRight (l : Launch) (E : kE) (o : Int32) (c : Int32)  : kC l yX3_isPlaceRight wsX3_isPlaceRight ({ frames := 1, cells := 0, slots := 0, locals := 20 } : Room) E [.int o, .int c] [] 0 0 (fun v_ w_ => w_ = [] ∧ ∃ (r : Bool), v_ = some (.int (bI r)) ∧ (r = true ↔ (o.toInt = 9 ∨ o.toInt = 10 → 0 ≤ c.toInt ∧ c.toInt ≤ 23))) := by
  refine kC.enter cX3_isPlaceRight 2 (some .boolean) [(0, .int o), (1, .int c)] (by decide) rfl (Nat.le_of_ble_eq_true rfl) rfl ?_
  intro g F Rr
  refine k_iload_n F (pc := 0) 0 rfl dX3_isPlaceRight_0 rfl ?_
  refine k_callS F (pc := 1) [.int o] [] 1 (m_X3_goesOnAtC l E o) dX3_isPlaceRight_1 gX3_isPlaceRight_X3_goesOnAtC rfl (by decide +kernel) rfl ⟨rfl, rfl⟩ (by decide) rfl (Nat.le_of_ble_eq_true rfl) (by decide) ?_
  rintro v_3 ⟨r_1, rfl, hc_2⟩
  show kK g [] [(0, .int o), (1, .int c)] 0 0 4 [.int (bI r_1)]
  refine k_if_eqB F (pc := 4) 17 dX3_isPlaceRight_4 (by decide) (fun c_5 => ?_) (fun c_5 => ?_)
  · skip
    have hb_6 := k_ff hc_2 c_5
    refine k_iconst F (pc := 17) ((nI 1)) dX3_isPlaceRight_17 (by decide) ?_
    refine k_goto F (pc := 18) 22 dX3_isPlaceRight_18 (by decide) ?_
    refine k_zret F Rr (pc := 22) true dX3_isPlaceRight_22 rfl ⟨rfl, true, rfl, ?_⟩
    first
    | exact ⟨fun _ => by omega, fun _ => rfl⟩
    | exact ⟨fun h => absurd h (by decide), fun h => by exfalso; omega⟩
  · skip
    have hb_7 := hc_2.mp c_5
    refine k_iload_n F (pc := 7) 1 rfl dX3_isPlaceRight_7 rfl ?_
    refine k_if_lt F (pc := 8) 21 dX3_isPlaceRight_8 (by decide) rfl (fun c_8 => ?_) (fun c_8 => ?_)
    · skip
      refine k_iconst F (pc := 21) ((nI 0)) dX3_isPlaceRight_21 (by decide) ?_
      refine k_zret F Rr (pc := 22) false dX3_isPlaceRight_22 rfl ⟨rfl, false, rfl, ?_⟩
      first
      | exact ⟨fun _ => by omega, fun _ => rfl⟩
      | exact ⟨fun h => absurd h (by decide), fun h => by exfalso; omega⟩
    · skip
      refine k_iload_n F (pc := 11) 1 rfl dX3_isPlaceRight_11 rfl ?_
      refine k_bipush F (pc := 12) ((nI 24)) dX3_isPlaceRight_12 (by decide) ?_
      refine k_icmp_ge F (pc := 14) 21 dX3_isPlaceRight_14 (by decide) rfl (show (nI 24 : Int32).toInt = 24 by decide) (fun c_9 => ?_) (fun c_9 => ?_)
      · skip
        refine k_iconst F (pc := 21) ((nI 0)) dX3_isPlaceRight_21 (by decide) ?_
        refine k_zret F Rr (pc := 22) false dX3_isPlaceRight_22 rfl ⟨rfl, false, rfl, ?_⟩
        first
        | exact ⟨fun _ => by omega, fun _ => rfl⟩
        | exact ⟨fun h => absurd h (by decide), fun h => by exfalso; omega⟩
      · skip
        refine k_iconst F (pc := 17) ((nI 1)) dX3_isPlaceRight_17 (by decide) ?_
        refine k_goto F (pc := 18) 22 dX3_isPlaceRight_18 (by decide) ?_
        refine k_zret F Rr (pc := 22) true dX3_isPlaceRight_22 rfl ⟨rfl, true, rfl, ?_⟩
        first
        | exact ⟨fun _ => by omega, fun _ => rfl⟩
        | exact ⟨fun h => absurd h (by decide), fun h => by exfalso; omega⟩
set_option maxHeartbeats 4000000 in
set_option maxRecDepth 100000 in
theorem m_X3_areVariablesRight (l : Launch) (E : kE) (o : Int32) (a : Int32) (b : Int32) (c : Int32)  : kC l yX3_areVariablesRight wsX3_areVariablesRight ({ frames := 1, cells := 0, slots := 0, locals := 20 } : Room) E [.int o, .int a, .int b, .int c] [] 0 0 (fun v_ w_ => w_ = [] ∧ ∃ (r : Bool), v_ = some (.int (bI r)) ∧ (r = true ↔ (((1 ≤ o.toInt ∧ o.toInt ≤ 9 ∨ o.toInt = 11) → 0 ≤ a.toInt ∧ a.toInt ≤ 3) ∧ (2 ≤ o.toInt ∧ o.toInt ≤ 9 → 0 ≤ b.toInt ∧ b.toInt ≤ 3) ∧ (3 ≤ o.toInt ∧ o.toInt ≤ 6 → 0 ≤ c.toInt ∧ c.toInt ≤ 3)))) := by
  refine kC.enter cX3_areVariablesRight 7 (some .boolean) [(0, .int o), (1, .int a), (2, .int b), (3, .int c)] (by decide) rfl (Nat.le_of_ble_eq_true rfl) rfl ?_
  intro g F Rr
  have J22 : ∀ (uA : Bool), (uA = true ↔ (1 ≤ o.toInt ∧ o.toInt ≤ 9 ∨ o.toInt = 11)) → kK g [] [(0, .int o), (1, .int a), (2, .int b), (3, .int c)] 0 0 22 [.int (bI uA)] := by
    intro uA huA
    refine k_istore F (pc := 22) [(4, .int (bI uA)), (0, .int o), (1, .int a), (2, .int b), (3, .int c)] dX3_areVariablesRight_22 (by decide) rfl ?_
    have J40 : ∀ (uB : Bool), (uB = true ↔ (2 ≤ o.toInt ∧ o.toInt ≤ 9)) → kK g [] [(0, .int o), (1, .int a), (2, .int b), (3, .int c), (4, .int (bI uA))] 0 0 40 [.int (bI uB)] := by
      intro uB huB
      refine k_istore F (pc := 40) [(5, .int (bI uB)), (0, .int o), (1, .int a), (2, .int b), (3, .int c), (4, .int (bI uA))] dX3_areVariablesRight_40 (by decide) rfl ?_
      have J58 : ∀ (uC : Bool), (uC = true ↔ (3 ≤ o.toInt ∧ o.toInt ≤ 6)) → kK g [] [(0, .int o), (1, .int a), (2, .int b), (3, .int c), (4, .int (bI uA)), (5, .int (bI uB))] 0 0 58 [.int (bI uC)] := by
        intro uC huC
        refine k_istore F (pc := 58) [(6, .int (bI uC)), (0, .int o), (1, .int a), (2, .int b), (3, .int c), (4, .int (bI uA)), (5, .int (bI uB))] dX3_areVariablesRight_58 (by decide) rfl ?_
        refine k_iload F (pc := 60) 5 rfl dX3_areVariablesRight_60 ?_
        refine k_if_eqB F (pc := 62) 72 dX3_areVariablesRight_62 (by decide) (fun c_1 => ?_) (fun c_1 => ?_)
        · skip
          have hb_2 := k_ff huA c_1
          refine k_iload F (pc := 72) 6 rfl dX3_areVariablesRight_72 ?_
          refine k_if_eqB F (pc := 74) 84 dX3_areVariablesRight_74 (by decide) (fun c_3 => ?_) (fun c_3 => ?_)
          · skip
            have hb_4 := k_ff huB c_3
            refine k_iload F (pc := 84) 0 rfl dX3_areVariablesRight_84 ?_
            refine k_if_eqB F (pc := 86) 96 dX3_areVariablesRight_86 (by decide) (fun c_5 => ?_) (fun c_5 => ?_)
            · skip
              have hb_6 := k_ff huC c_5
              refine k_iconst F (pc := 96) ((nI 1)) dX3_areVariablesRight_96 (by decide) ?_
              refine k_goto F (pc := 97) 101 dX3_areVariablesRight_97 (by decide) ?_
              refine k_zret F Rr (pc := 101) true dX3_areVariablesRight_101 rfl ⟨rfl, true, rfl, ?_⟩
              first
              | exact ⟨fun _ => by omega, fun _ => rfl⟩
              | exact ⟨fun h => absurd h (by decide), fun h => by exfalso; omega⟩
            · skip
              have hb_7 := huC.mp c_5
              refine k_iload_n F (pc := 89) 4 rfl dX3_areVariablesRight_89 rfl ?_
              refine k_callS F (pc := 90) [.int c] [] 1 (m_X3_isVariable l E c) dX3_areVariablesRight_90 gX3_areVariablesRight_X3_isVariable rfl (by decide +kernel) rfl ⟨rfl, rfl⟩ (by decide) rfl (Nat.le_of_ble_eq_true rfl) (by decide) ?_
              rintro v_10 ⟨r_8, rfl, hc_9⟩
              show kK g [] [(6, .int (bI uC)), (0, .int o), (1, .int a), (2, .int b), (3, .int c), (4, .int (bI uA)), (5, .int (bI uB))] 0 0 93 [.int (bI r_8)]
              refine k_if_eqB F (pc := 93) 100 dX3_areVariablesRight_93 (by decide) (fun c_12 => ?_) (fun c_12 => ?_)
              · skip
                have hb_13 := k_ff hc_9 c_12
                refine k_iconst F (pc := 100) ((nI 0)) dX3_areVariablesRight_100 (by decide) ?_
                refine k_zret F Rr (pc := 101) false dX3_areVariablesRight_101 rfl ⟨rfl, false, rfl, ?_⟩
                first
                | exact ⟨fun _ => by omega, fun _ => rfl⟩
                | exact ⟨fun h => absurd h (by decide), fun h => by exfalso; omega⟩
              · skip
                have hb_14 := hc_9.mp c_12
                refine k_iconst F (pc := 96) ((nI 1)) dX3_areVariablesRight_96 (by decide) ?_
                refine k_goto F (pc := 97) 101 dX3_areVariablesRight_97 (by decide) ?_
                refine k_zret F Rr (pc := 101) true dX3_areVariablesRight_101 rfl ⟨rfl, true, rfl, ?_⟩
                first
                | exact ⟨fun _ => by omega, fun _ => rfl⟩
                | exact ⟨fun h => absurd h (by decide), fun h => by exfalso; omega⟩
          · skip
            have hb_15 := huB.mp c_3
            refine k_iload_n F (pc := 77) 3 rfl dX3_areVariablesRight_77 rfl ?_
            refine k_callS F (pc := 78) [.int b] [] 1 (m_X3_isVariable l E b) dX3_areVariablesRight_78 gX3_areVariablesRight_X3_isVariable rfl (by decide +kernel) rfl ⟨rfl, rfl⟩ (by decide) rfl (Nat.le_of_ble_eq_true rfl) (by decide) ?_
            rintro v_18 ⟨r_16, rfl, hc_17⟩
            show kK g [] [(6, .int (bI uC)), (0, .int o), (1, .int a), (2, .int b), (3, .int c), (4, .int (bI uA)), (5, .int (bI uB))] 0 0 81 [.int (bI r_16)]
            refine k_if_eqB F (pc := 81) 100 dX3_areVariablesRight_81 (by decide) (fun c_20 => ?_) (fun c_20 => ?_)
            · skip
              have hb_21 := k_ff hc_17 c_20
              refine k_iconst F (pc := 100) ((nI 0)) dX3_areVariablesRight_100 (by decide) ?_
              refine k_zret F Rr (pc := 101) false dX3_areVariablesRight_101 rfl ⟨rfl, false, rfl, ?_⟩
              first
              | exact ⟨fun _ => by omega, fun _ => rfl⟩
              | exact ⟨fun h => absurd h (by decide), fun h => by exfalso; omega⟩
            · skip
              have hb_22 := hc_17.mp c_20
              refine k_iload F (pc := 84) 0 rfl dX3_areVariablesRight_84 ?_
              refine k_if_eqB F (pc := 86) 96 dX3_areVariablesRight_86 (by decide) (fun c_23 => ?_) (fun c_23 => ?_)
              · skip
                have hb_24 := k_ff huC c_23
                refine k_iconst F (pc := 96) ((nI 1)) dX3_areVariablesRight_96 (by decide) ?_
                refine k_goto F (pc := 97) 101 dX3_areVariablesRight_97 (by decide) ?_
                refine k_zret F Rr (pc := 101) true dX3_areVariablesRight_101 rfl ⟨rfl, true, rfl, ?_⟩
                first
                | exact ⟨fun _ => by omega, fun _ => rfl⟩
                | exact ⟨fun h => absurd h (by decide), fun h => by exfalso; omega⟩
              · skip
                have hb_25 := huC.mp c_23
                refine k_iload_n F (pc := 89) 4 rfl dX3_areVariablesRight_89 rfl ?_
                refine k_callS F (pc := 90) [.int c] [] 1 (m_X3_isVariable l E c) dX3_areVariablesRight_90 gX3_areVariablesRight_X3_isVariable rfl (by decide +kernel) rfl ⟨rfl, rfl⟩ (by decide) rfl (Nat.le_of_ble_eq_true rfl) (by decide) ?_
                rintro v_28 ⟨r_26, rfl, hc_27⟩
                show kK g [] [(6, .int (bI uC)), (0, .int o), (1, .int a), (2, .int b), (3, .int c), (4, .int (bI uA)), (5, .int (bI uB))] 0 0 93 [.int (bI r_26)]
                refine k_if_eqB F (pc := 93) 100 dX3_areVariablesRight_93 (by decide) (fun c_30 => ?_) (fun c_30 => ?_)
                · skip
                  have hb_31 := k_ff hc_27 c_30
                  refine k_iconst F (pc := 100) ((nI 0)) dX3_areVariablesRight_100 (by decide) ?_
                  refine k_zret F Rr (pc := 101) false dX3_areVariablesRight_101 rfl ⟨rfl, false, rfl, ?_⟩
                  first
                  | exact ⟨fun _ => by omega, fun _ => rfl⟩
                  | exact ⟨fun h => absurd h (by decide), fun h => by exfalso; omega⟩
                · skip
                  have hb_32 := hc_27.mp c_30
                  refine k_iconst F (pc := 96) ((nI 1)) dX3_areVariablesRight_96 (by decide) ?_
                  refine k_goto F (pc := 97) 101 dX3_areVariablesRight_97 (by decide) ?_
                  refine k_zret F Rr (pc := 101) true dX3_areVariablesRight_101 rfl ⟨rfl, true, rfl, ?_⟩
                  first
                  | exact ⟨fun _ => by omega, fun _ => rfl⟩
                  | exact ⟨fun h => absurd h (by decide), fun h => by exfalso; omega⟩
        · skip
          have hb_33 := huA.mp c_1
          refine k_iload_n F (pc := 65) 2 rfl dX3_areVariablesRight_65 rfl ?_
          refine k_callS F (pc := 66) [.int a] [] 1 (m_X3_isVariable l E a) dX3_areVariablesRight_66 gX3_areVariablesRight_X3_isVariable rfl (by decide +kernel) rfl ⟨rfl, rfl⟩ (by decide) rfl (Nat.le_of_ble_eq_true rfl) (by decide) ?_
          rintro v_36 ⟨r_34, rfl, hc_35⟩
          show kK g [] [(6, .int (bI uC)), (0, .int o), (1, .int a), (2, .int b), (3, .int c), (4, .int (bI uA)), (5, .int (bI uB))] 0 0 69 [.int (bI r_34)]
          refine k_if_eqB F (pc := 69) 100 dX3_areVariablesRight_69 (by decide) (fun c_38 => ?_) (fun c_38 => ?_)
          · skip
            have hb_39 := k_ff hc_35 c_38
            refine k_iconst F (pc := 100) ((nI 0)) dX3_areVariablesRight_100 (by decide) ?_
            refine k_zret F Rr (pc := 101) false dX3_areVariablesRight_101 rfl ⟨rfl, false, rfl, ?_⟩
            first
            | exact ⟨fun _ => by omega, fun _ => rfl⟩
            | exact ⟨fun h => absurd h (by decide), fun h => by exfalso; omega⟩
          · skip
            have hb_40 := hc_35.mp c_38
            refine k_iload F (pc := 72) 6 rfl dX3_areVariablesRight_72 ?_
            refine k_if_eqB F (pc := 74) 84 dX3_areVariablesRight_74 (by decide) (fun c_41 => ?_) (fun c_41 => ?_)
            · skip
              have hb_42 := k_ff huB c_41
              refine k_iload F (pc := 84) 0 rfl dX3_areVariablesRight_84 ?_
              refine k_if_eqB F (pc := 86) 96 dX3_areVariablesRight_86 (by decide) (fun c_43 => ?_) (fun c_43 => ?_)
              · skip
                have hb_44 := k_ff huC c_43
                refine k_iconst F (pc := 96) ((nI 1)) dX3_areVariablesRight_96 (by decide) ?_
                refine k_goto F (pc := 97) 101 dX3_areVariablesRight_97 (by decide) ?_
                refine k_zret F Rr (pc := 101) true dX3_areVariablesRight_101 rfl ⟨rfl, true, rfl, ?_⟩
                first
                | exact ⟨fun _ => by omega, fun _ => rfl⟩
                | exact ⟨fun h => absurd h (by decide), fun h => by exfalso; omega⟩
              · skip
                have hb_45 := huC.mp c_43
                refine k_iload_n F (pc := 89) 4 rfl dX3_areVariablesRight_89 rfl ?_
                refine k_callS F (pc := 90) [.int c] [] 1 (m_X3_isVariable l E c) dX3_areVariablesRight_90 gX3_areVariablesRight_X3_isVariable rfl (by decide +kernel) rfl ⟨rfl, rfl⟩ (by decide) rfl (Nat.le_of_ble_eq_true rfl) (by decide) ?_
                rintro v_48 ⟨r_46, rfl, hc_47⟩
                show kK g [] [(6, .int (bI uC)), (0, .int o), (1, .int a), (2, .int b), (3, .int c), (4, .int (bI uA)), (5, .int (bI uB))] 0 0 93 [.int (bI r_46)]
                refine k_if_eqB F (pc := 93) 100 dX3_areVariablesRight_93 (by decide) (fun c_50 => ?_) (fun c_50 => ?_)
                · skip
                  have hb_51 := k_ff hc_47 c_50
                  refine k_iconst F (pc := 100) ((nI 0)) dX3_areVariablesRight_100 (by decide) ?_
                  refine k_zret F Rr (pc := 101) false dX3_areVariablesRight_101 rfl ⟨rfl, false, rfl, ?_⟩
                  first
                  | exact ⟨fun _ => by omega, fun _ => rfl⟩
                  | exact ⟨fun h => absurd h (by decide), fun h => by exfalso; omega⟩
                · skip
                  have hb_52 := hc_47.mp c_50
                  refine k_iconst F (pc := 96) ((nI 1)) dX3_areVariablesRight_96 (by decide) ?_
                  refine k_goto F (pc := 97) 101 dX3_areVariablesRight_97 (by decide) ?_
                  refine k_zret F Rr (pc := 101) true dX3_areVariablesRight_101 rfl ⟨rfl, true, rfl, ?_⟩
                  first
                  | exact ⟨fun _ => by omega, fun _ => rfl⟩
                  | exact ⟨fun h => absurd h (by decide), fun h => by exfalso; omega⟩
            · skip
              have hb_53 := huB.mp c_41
              refine k_iload_n F (pc := 77) 3 rfl dX3_areVariablesRight_77 rfl ?_
              refine k_callS F (pc := 78) [.int b] [] 1 (m_X3_isVariable l E b) dX3_areVariablesRight_78 gX3_areVariablesRight_X3_isVariable rfl (by decide +kernel) rfl ⟨rfl, rfl⟩ (by decide) rfl (Nat.le_of_ble_eq_true rfl) (by decide) ?_
              rintro v_56 ⟨r_54, rfl, hc_55⟩
              show kK g [] [(6, .int (bI uC)), (0, .int o), (1, .int a), (2, .int b), (3, .int c), (4, .int (bI uA)), (5, .int (bI uB))] 0 0 81 [.int (bI r_54)]
              refine k_if_eqB F (pc := 81) 100 dX3_areVariablesRight_81 (by decide) (fun c_58 => ?_) (fun c_58 => ?_)
              · skip
                have hb_59 := k_ff hc_55 c_58
                refine k_iconst F (pc := 100) ((nI 0)) dX3_areVariablesRight_100 (by decide) ?_
                refine k_zret F Rr (pc := 101) false dX3_areVariablesRight_101 rfl ⟨rfl, false, rfl, ?_⟩
                first
                | exact ⟨fun _ => by omega, fun _ => rfl⟩
                | exact ⟨fun h => absurd h (by decide), fun h => by exfalso; omega⟩
              · skip
                have hb_60 := hc_55.mp c_58
                refine k_iload F (pc := 84) 0 rfl dX3_areVariablesRight_84 ?_
                refine k_if_eqB F (pc := 86) 96 dX3_areVariablesRight_86 (by decide) (fun c_61 => ?_) (fun c_61 => ?_)
                · skip
                  have hb_62 := k_ff huC c_61
                  refine k_iconst F (pc := 96) ((nI 1)) dX3_areVariablesRight_96 (by decide) ?_
                  refine k_goto F (pc := 97) 101 dX3_areVariablesRight_97 (by decide) ?_
                  refine k_zret F Rr (pc := 101) true dX3_areVariablesRight_101 rfl ⟨rfl, true, rfl, ?_⟩
                  first
                  | exact ⟨fun _ => by omega, fun _ => rfl⟩
                  | exact ⟨fun h => absurd h (by decide), fun h => by exfalso; omega⟩
                · skip
                  have hb_63 := huC.mp c_61
                  refine k_iload_n F (pc := 89) 4 rfl dX3_areVariablesRight_89 rfl ?_
                  refine k_callS F (pc := 90) [.int c] [] 1 (m_X3_isVariable l E c) dX3_areVariablesRight_90 gX3_areVariablesRight_X3_isVariable rfl (by decide +kernel) rfl ⟨rfl, rfl⟩ (by decide) rfl (Nat.le_of_ble_eq_true rfl) (by decide) ?_
                  rintro v_66 ⟨r_64, rfl, hc_65⟩
                  show kK g [] [(6, .int (bI uC)), (0, .int o), (1, .int a), (2, .int b), (3, .int c), (4, .int (bI uA)), (5, .int (bI uB))] 0 0 93 [.int (bI r_64)]
                  refine k_if_eqB F (pc := 93) 100 dX3_areVariablesRight_93 (by decide) (fun c_68 => ?_) (fun c_68 => ?_)
                  · skip
                    have hb_69 := k_ff hc_65 c_68
                    refine k_iconst F (pc := 100) ((nI 0)) dX3_areVariablesRight_100 (by decide) ?_
                    refine k_zret F Rr (pc := 101) false dX3_areVariablesRight_101 rfl ⟨rfl, false, rfl, ?_⟩
                    first
                    | exact ⟨fun _ => by omega, fun _ => rfl⟩
                    | exact ⟨fun h => absurd h (by decide), fun h => by exfalso; omega⟩
                  · skip
                    have hb_70 := hc_65.mp c_68
                    refine k_iconst F (pc := 96) ((nI 1)) dX3_areVariablesRight_96 (by decide) ?_
                    refine k_goto F (pc := 97) 101 dX3_areVariablesRight_97 (by decide) ?_
                    refine k_zret F Rr (pc := 101) true dX3_areVariablesRight_101 rfl ⟨rfl, true, rfl, ?_⟩
                    first
                    | exact ⟨fun _ => by omega, fun _ => rfl⟩
                    | exact ⟨fun h => absurd h (by decide), fun h => by exfalso; omega⟩
      refine k_iload_n F (pc := 42) 1 rfl dX3_areVariablesRight_42 rfl ?_
      refine k_iconst F (pc := 43) ((nI 3)) dX3_areVariablesRight_43 (by decide) ?_
      refine k_icmp_lt F (pc := 44) 57 dX3_areVariablesRight_44 (by decide) rfl (show (nI 3 : Int32).toInt = 3 by decide) (fun c_71 => ?_) (fun c_71 => ?_)
      · skip
        refine k_iconst F (pc := 57) ((nI 0)) dX3_areVariablesRight_57 (by decide) ?_
        refine k_lv [(0, .int o), (1, .int a), (2, .int b), (3, .int c), (4, .int (bI uA)), (5, .int (bI uB))] [1, 2, 3, 4, 5, 0] rfl ?_
        exact J58 false (by first | exact ⟨fun _ => by omega, fun _ => rfl⟩ | exact ⟨fun h => absurd h (by decide), fun h => by exfalso; omega⟩)
      · skip
        refine k_iload_n F (pc := 47) 1 rfl dX3_areVariablesRight_47 rfl ?_
        refine k_bipush F (pc := 48) ((nI 6)) dX3_areVariablesRight_48 (by decide) ?_
        refine k_icmp_gt F (pc := 50) 57 dX3_areVariablesRight_50 (by decide) rfl (show (nI 6 : Int32).toInt = 6 by decide) (fun c_72 => ?_) (fun c_72 => ?_)
        · skip
          refine k_iconst F (pc := 57) ((nI 0)) dX3_areVariablesRight_57 (by decide) ?_
          refine k_lv [(0, .int o), (1, .int a), (2, .int b), (3, .int c), (4, .int (bI uA)), (5, .int (bI uB))] [1, 2, 3, 4, 5, 0] rfl ?_
          exact J58 false (by first | exact ⟨fun _ => by omega, fun _ => rfl⟩ | exact ⟨fun h => absurd h (by decide), fun h => by exfalso; omega⟩)
        · skip
          refine k_iconst F (pc := 53) ((nI 1)) dX3_areVariablesRight_53 (by decide) ?_
          refine k_goto F (pc := 54) 58 dX3_areVariablesRight_54 (by decide) ?_
          refine k_lv [(0, .int o), (1, .int a), (2, .int b), (3, .int c), (4, .int (bI uA)), (5, .int (bI uB))] [1, 2, 3, 4, 5, 0] rfl ?_
          exact J58 true (by first | exact ⟨fun _ => by omega, fun _ => rfl⟩ | exact ⟨fun h => absurd h (by decide), fun h => by exfalso; omega⟩)
    refine k_iload_n F (pc := 24) 1 rfl dX3_areVariablesRight_24 rfl ?_
    refine k_iconst F (pc := 25) ((nI 2)) dX3_areVariablesRight_25 (by decide) ?_
    refine k_icmp_lt F (pc := 26) 39 dX3_areVariablesRight_26 (by decide) rfl (show (nI 2 : Int32).toInt = 2 by decide) (fun c_73 => ?_) (fun c_73 => ?_)
    · skip
      refine k_iconst F (pc := 39) ((nI 0)) dX3_areVariablesRight_39 (by decide) ?_
      refine k_lv [(0, .int o), (1, .int a), (2, .int b), (3, .int c), (4, .int (bI uA))] [1, 2, 3, 4, 0] rfl ?_
      exact J40 false (by first | exact ⟨fun _ => by omega, fun _ => rfl⟩ | exact ⟨fun h => absurd h (by decide), fun h => by exfalso; omega⟩)
    · skip
      refine k_iload_n F (pc := 29) 1 rfl dX3_areVariablesRight_29 rfl ?_
      refine k_bipush F (pc := 30) ((nI 9)) dX3_areVariablesRight_30 (by decide) ?_
      refine k_icmp_gt F (pc := 32) 39 dX3_areVariablesRight_32 (by decide) rfl (show (nI 9 : Int32).toInt = 9 by decide) (fun c_74 => ?_) (fun c_74 => ?_)
      · skip
        refine k_iconst F (pc := 39) ((nI 0)) dX3_areVariablesRight_39 (by decide) ?_
        refine k_lv [(0, .int o), (1, .int a), (2, .int b), (3, .int c), (4, .int (bI uA))] [1, 2, 3, 4, 0] rfl ?_
        exact J40 false (by first | exact ⟨fun _ => by omega, fun _ => rfl⟩ | exact ⟨fun h => absurd h (by decide), fun h => by exfalso; omega⟩)
      · skip
        refine k_iconst F (pc := 35) ((nI 1)) dX3_areVariablesRight_35 (by decide) ?_
        refine k_goto F (pc := 36) 40 dX3_areVariablesRight_36 (by decide) ?_
        refine k_lv [(0, .int o), (1, .int a), (2, .int b), (3, .int c), (4, .int (bI uA))] [1, 2, 3, 4, 0] rfl ?_
        exact J40 true (by first | exact ⟨fun _ => by omega, fun _ => rfl⟩ | exact ⟨fun h => absurd h (by decide), fun h => by exfalso; omega⟩)
  refine k_iload_n F (pc := 0) 0 rfl dX3_areVariablesRight_0 rfl ?_
  refine k_iconst F (pc := 1) ((nI 1)) dX3_areVariablesRight_1 (by decide) ?_
  refine k_icmp_lt F (pc := 2) 11 dX3_areVariablesRight_2 (by decide) rfl (show (nI 1 : Int32).toInt = 1 by decide) (fun c_75 => ?_) (fun c_75 => ?_)
  · skip
    refine k_iload_n F (pc := 11) 0 rfl dX3_areVariablesRight_11 rfl ?_
    refine k_bipush F (pc := 12) ((nI 11)) dX3_areVariablesRight_12 (by decide) ?_
    refine k_icmp_ne F (pc := 14) 21 dX3_areVariablesRight_14 (by decide) rfl (show (nI 11 : Int32).toInt = 11 by decide) (fun c_76 => ?_) (fun c_76 => ?_)
    · skip
      refine k_iconst F (pc := 21) ((nI 0)) dX3_areVariablesRight_21 (by decide) ?_
      refine k_lv [(0, .int o), (1, .int a), (2, .int b), (3, .int c)] [0, 1, 2, 3] rfl ?_
      exact J22 false (by first | exact ⟨fun _ => by omega, fun _ => rfl⟩ | exact ⟨fun h => absurd h (by decide), fun h => by exfalso; omega⟩)
    · skip
      refine k_iconst F (pc := 17) ((nI 1)) dX3_areVariablesRight_17 (by decide) ?_
      refine k_goto F (pc := 18) 22 dX3_areVariablesRight_18 (by decide) ?_
      refine k_lv [(0, .int o), (1, .int a), (2, .int b), (3, .int c)] [0, 1, 2, 3] rfl ?_
      exact J22 true (by first | exact ⟨fun _ => by omega, fun _ => rfl⟩ | exact ⟨fun h => absurd h (by decide), fun h => by exfalso; omega⟩)
  · skip
    refine k_iload_n F (pc := 5) 0 rfl dX3_areVariablesRight_5 rfl ?_
    refine k_bipush F (pc := 6) ((nI 9)) dX3_areVariablesRight_6 (by decide) ?_
    refine k_icmp_le F (pc := 8) 17 dX3_areVariablesRight_8 (by decide) rfl (show (nI 9 : Int32).toInt = 9 by decide) (fun c_77 => ?_) (fun c_77 => ?_)
    · skip
      refine k_iconst F (pc := 17) ((nI 1)) dX3_areVariablesRight_17 (by decide) ?_
      refine k_goto F (pc := 18) 22 dX3_areVariablesRight_18 (by decide) ?_
      refine k_lv [(0, .int o), (1, .int a), (2, .int b), (3, .int c)] [0, 1, 2, 3] rfl ?_
      exact J22 true (by first | exact ⟨fun _ => by omega, fun _ => rfl⟩ | exact ⟨fun h => absurd h (by decide), fun h => by exfalso; omega⟩)
    · skip
      refine k_iload_n F (pc := 11) 0 rfl dX3_areVariablesRight_11 rfl ?_
      refine k_bipush F (pc := 12) ((nI 11)) dX3_areVariablesRight_12 (by decide) ?_
      refine k_icmp_ne F (pc := 14) 21 dX3_areVariablesRight_14 (by decide) rfl (show (nI 11 : Int32).toInt = 11 by decide) (fun c_78 => ?_) (fun c_78 => ?_)
      · skip
        refine k_iconst F (pc := 21) ((nI 0)) dX3_areVariablesRight_21 (by decide) ?_
        refine k_lv [(0, .int o), (1, .int a), (2, .int b), (3, .int c)] [0, 1, 2, 3] rfl ?_
        exact J22 false (by first | exact ⟨fun _ => by omega, fun _ => rfl⟩ | exact ⟨fun h => absurd h (by decide), fun h => by exfalso; omega⟩)
      · skip
        refine k_iconst F (pc := 17) ((nI 1)) dX3_areVariablesRight_17 (by decide) ?_
        refine k_goto F (pc := 18) 22 dX3_areVariablesRight_18 (by decide) ?_
        refine k_lv [(0, .int o), (1, .int a), (2, .int b), (3, .int c)] [0, 1, 2, 3] rfl ?_
        exact J22 true (by first | exact ⟨fun _ => by omega, fun _ => rfl⟩ | exact ⟨fun h => absurd h (by decide), fun h => by exfalso; omega⟩)
theorem zm_X3_isInstruction_f13 : (Cond.fieldLink RX3 13 RX3 "count" "I" : Cond) ∈ wsX3_isInstruction := by decide +kernel
theorem zin_X3_isInstruction_X3 : ∀ w ∈ u_ws RX3 TX3 8, w ∈ wsX3_isInstruction := by decide +kernel
set_option maxHeartbeats 4000000 in
set_option maxRecDepth 100000 in
theorem m_X3_isInstruction (l : Launch) (E : kE) (h : Nat → Nat) (cd : Nat → Int32) (n : Nat) (sc : Bool) (rt : Nat) (on : Nat → Bool) (lo : Nat → Int64) (hi : Nat → Int64) (son : Nat → Bool) (slo : Nat → Int64) (shi : Nat → Int64) (fs : Bool) (lf : Nat → Int64) (hf : Nat → Int64) (em : Bool) (le : Int64) (gr : Int64) (x : Int32) (hn : n ≤ 24) : kC l yX3_isInstruction wsX3_isInstruction ({ frames := 0, cells := 0, slots := 0, locals := 0 } : Room) E [.ref (h 0), .int x] (wX3 E h cd n sc rt on lo hi son slo shi fs lf hf em le gr) 0 0 (fun v_ w_ => ∃ (r : Bool), v_ = some (.int (bI r)) ∧ w_ = (wX3 E h cd n sc rt on lo hi son slo shi fs lf hf em le gr) ∧ (r = true ↔ 0 ≤ x.toInt ∧ x.toInt < (n : Int))) := by
  refine kC.enter cX3_isInstruction 2 (some .boolean) [(0, .ref (h 0)), (1, .int x)] (by decide) rfl (Nat.le_of_ble_eq_true rfl) rfl ?_
  intro g F Rr
  refine k_iload_n F (pc := 0) 1 rfl dX3_isInstruction_0 rfl ?_
  refine k_if_lt F (pc := 1) 16 dX3_isInstruction_1 (by decide) rfl (fun c_1 => ?_) (fun c_1 => ?_)
  · skip
    refine k_iconst F (pc := 16) ((nI 0)) dX3_isInstruction_16 (by decide) ?_
    refine k_zret F Rr (pc := 17) false dX3_isInstruction_17 rfl ⟨false, rfl, rfl, ?_⟩
    first
    | exact ⟨fun _ => by omega, fun _ => rfl⟩
    | exact ⟨fun h => absurd h (by decide), fun h => by exfalso; omega⟩
  · skip
    refine k_iload_n F (pc := 4) 1 rfl dX3_isInstruction_4 rfl ?_
    refine k_aload_n F (pc := 5) 0 rfl dX3_isInstruction_5 rfl ?_
    refine k_get F (pc := 6) (ref := RX3) (C := RX3) (T := TX3) (N := 8) (ci := 3) 0 1 dX3_isInstruction_6 zin_X3_isInstruction_X3 rfl rfl (by decide) zm_X3_isInstruction_f13 rfl rfl ?_
    refine k_icmp_ge F (pc := 9) 16 dX3_isInstruction_9 (by decide) rfl (nI_toInt (by omega)) (fun c_2 => ?_) (fun c_2 => ?_)
    · skip
      refine k_iconst F (pc := 16) ((nI 0)) dX3_isInstruction_16 (by decide) ?_
      refine k_zret F Rr (pc := 17) false dX3_isInstruction_17 rfl ⟨false, rfl, rfl, ?_⟩
      first
      | exact ⟨fun _ => by omega, fun _ => rfl⟩
      | exact ⟨fun h => absurd h (by decide), fun h => by exfalso; omega⟩
    · skip
      refine k_iconst F (pc := 12) ((nI 1)) dX3_isInstruction_12 (by decide) ?_
      refine k_goto F (pc := 13) 17 dX3_isInstruction_13 (by decide) ?_
      refine k_zret F Rr (pc := 17) true dX3_isInstruction_17 rfl ⟨true, rfl, rfl, ?_⟩
      first
      | exact ⟨fun _ => by omega, fun _ => rfl⟩
      | exact ⟨fun h => absurd h (by decide), fun h => by exfalso; omega⟩
theorem zm_X3_forgetScan_f17 : (Cond.fieldLink RX3 17 RX3 "scanned" "Z" : Cond) ∈ wsX3_forgetScan := by decide +kernel
theorem zin_X3_forgetScan_X3 : ∀ w ∈ u_ws RX3 TX3 8, w ∈ wsX3_forgetScan := by decide +kernel
theorem zm_X3_forgetScan_f21 : (Cond.fieldLink RX3 21 RX3 "roundsTaken" "I" : Cond) ∈ wsX3_forgetScan := by decide +kernel
set_option maxHeartbeats 4000000 in
set_option maxRecDepth 100000 in
theorem m_X3_forgetScan (l : Launch) (E : kE) (h : Nat → Nat) (cd : Nat → Int32) (n : Nat) (sc : Bool) (rt : Nat) (on : Nat → Bool) (lo : Nat → Int64) (hi : Nat → Int64) (son : Nat → Bool) (slo : Nat → Int64) (shi : Nat → Int64) (fs : Bool) (lf : Nat → Int64) (hf : Nat → Int64) (em : Bool) (le : Int64) (gr : Int64)  : kC l yX3_forgetScan wsX3_forgetScan ({ frames := 0, cells := 0, slots := 0, locals := 0 } : Room) E [.ref (h 0)] (wX3 E h cd n sc rt on lo hi son slo shi fs lf hf em le gr) 0 0 (fun v_ w_ => v_ = none ∧ w_ = (wX3 E h cd n false 0 on lo hi son slo shi fs lf hf em le gr)) := by
  refine kC.enter cX3_forgetScan 1 none [(0, .ref (h 0))] (by decide) rfl (Nat.le_of_ble_eq_true rfl) rfl ?_
  intro g F Rr
  refine k_aload_n F (pc := 0) 0 rfl dX3_forgetScan_0 rfl ?_
  refine k_iconst F (pc := 1) ((nI 0)) dX3_forgetScan_1 (by decide) ?_
  refine k_put F (pc := 2) (ref := RX3) (C := RX3) (T := TX3) (N := 8) (ci := 3) (ty := .boolean) (v := .int (bI false)) tyX3 0 2 (wX3 E h cd n false rt on lo hi son slo shi fs lf hf em le gr) dX3_forgetScan_2 zin_X3_forgetScan_X3 tyX3_ok nmX3 rfl rfl (by decide) zm_X3_forgetScan_f17 rfl rfl (by decide +kernel) rfl rfl (Nat.le_of_ble_eq_true rfl) rfl ?_
  refine k_aload_n F (pc := 5) 0 rfl dX3_forgetScan_5 rfl ?_
  refine k_iconst F (pc := 6) ((nI 0)) dX3_forgetScan_6 (by decide) ?_
  refine k_put F (pc := 7) (ref := RX3) (C := RX3) (T := TX3) (N := 8) (ci := 3) (ty := .int) (v := .int (nI 0)) tyX3 0 3 (wX3 E h cd n false 0 on lo hi son slo shi fs lf hf em le gr) dX3_forgetScan_7 zin_X3_forgetScan_X3 tyX3_ok nmX3 rfl rfl (by decide) zm_X3_forgetScan_f21 rfl rfl (by decide +kernel) rfl rfl (Nat.le_of_ble_eq_true rfl) rfl ?_
  exact k_vret F Rr (pc := 10) dX3_forgetScan_10 ⟨rfl, rfl⟩
theorem zm_X3_clear_f13 : (Cond.fieldLink RX3 13 RX3 "count" "I" : Cond) ∈ wsX3_clear := by decide +kernel
theorem zin_X3_clear_X3 : ∀ w ∈ u_ws RX3 TX3 8, w ∈ wsX3_clear := by decide +kernel
set_option maxHeartbeats 4000000 in
set_option maxRecDepth 100000 in
theorem m_X3_clear (l : Launch) (E : kE) (h : Nat → Nat) (cd : Nat → Int32) (n : Nat) (sc : Bool) (rt : Nat) (on : Nat → Bool) (lo : Nat → Int64) (hi : Nat → Int64) (son : Nat → Bool) (slo : Nat → Int64) (shi : Nat → Int64) (fs : Bool) (lf : Nat → Int64) (hf : Nat → Int64) (em : Bool) (le : Int64) (gr : Int64)  : kC l yX3_clear wsX3_clear ({ frames := 1, cells := 0, slots := 0, locals := 20 } : Room) E [.ref (h 0)] (wX3 E h cd n sc rt on lo hi son slo shi fs lf hf em le gr) 0 0 (fun v_ w_ => v_ = none ∧ w_ = (wX3 E h cd 0 false 0 on lo hi son slo shi fs lf hf em le gr)) := by
  refine kC.enter cX3_clear 1 none [(0, .ref (h 0))] (by decide) rfl (Nat.le_of_ble_eq_true rfl) rfl ?_
  intro g F Rr
  refine k_aload_n F (pc := 0) 0 rfl dX3_clear_0 rfl ?_
  refine k_iconst F (pc := 1) ((nI 0)) dX3_clear_1 (by decide) ?_
  refine k_put F (pc := 2) (ref := RX3) (C := RX3) (T := TX3) (N := 8) (ci := 3) (ty := .int) (v := .int (nI 0)) tyX3 0 1 (wX3 E h cd 0 sc rt on lo hi son slo shi fs lf hf em le gr) dX3_clear_2 zin_X3_clear_X3 tyX3_ok nmX3 rfl rfl (by decide) zm_X3_clear_f13 rfl rfl (by decide +kernel) rfl rfl (Nat.le_of_ble_eq_true rfl) rfl ?_
  refine k_aload_n F (pc := 5) 0 rfl dX3_clear_5 rfl ?_
  refine k_callV F (pc := 6) (C := RX3) (T := TX3) (N := 8) (ci := 3) [] [] 0 (wX3 E h cd 0 sc rt on lo hi son slo shi fs lf hf em le gr) [] [0, 1, 2, 3, 4, 5, 6, 7, 8, 9, 10, 11, 12, 13] [] (m_X3_forgetScan l E h cd 0 sc rt on lo hi son slo shi fs lf hf em le gr) dX3_clear_6 gX3_clear_X3_forgetScan rfl (by decide +kernel) rfl ⟨rfl, rfl⟩ (by decide) rfl (Nat.le_of_ble_eq_true rfl) (by decide) rfl rfl rfl rfl (by decide) (by decide) (by decide) ?_
  rintro v_1 w_2 ⟨rfl, rfl⟩
  refine k_perm (wX3 E h cd 0 false 0 on lo hi son slo shi fs lf hf em le gr) [0, 1, 2, 3, 4, 5, 6, 7, 8, 9, 10, 11, 12, 13] (by decide) rfl ?_
  show kK g (wX3 E h cd 0 false 0 on lo hi son slo shi fs lf hf em le gr) [(0, .ref (h 0))] 0 0 9 []
  exact k_vret F Rr (pc := 9) dX3_clear_9 ⟨rfl, rfl⟩
theorem zm_X3_size_f13 : (Cond.fieldLink RX3 13 RX3 "count" "I" : Cond) ∈ wsX3_size := by decide +kernel
theorem zin_X3_size_X3 : ∀ w ∈ u_ws RX3 TX3 8, w ∈ wsX3_size := by decide +kernel
set_option maxHeartbeats 4000000 in
set_option maxRecDepth 100000 in
theorem m_X3_size (l : Launch) (E : kE) (h : Nat → Nat) (cd : Nat → Int32) (n : Nat) (sc : Bool) (rt : Nat) (on : Nat → Bool) (lo : Nat → Int64) (hi : Nat → Int64) (son : Nat → Bool) (slo : Nat → Int64) (shi : Nat → Int64) (fs : Bool) (lf : Nat → Int64) (hf : Nat → Int64) (em : Bool) (le : Int64) (gr : Int64)  : kC l yX3_size wsX3_size ({ frames := 0, cells := 0, slots := 0, locals := 0 } : Room) E [.ref (h 0)] (wX3 E h cd n sc rt on lo hi son slo shi fs lf hf em le gr) 0 0 (fun v_ w_ => v_ = some (.int (nI n)) ∧ w_ = (wX3 E h cd n sc rt on lo hi son slo shi fs lf hf em le gr)) := by
  refine kC.enter cX3_size 1 (some .int) [(0, .ref (h 0))] (by decide) rfl (Nat.le_of_ble_eq_true rfl) rfl ?_
  intro g F Rr
  refine k_aload_n F (pc := 0) 0 rfl dX3_size_0 rfl ?_
  refine k_get F (pc := 1) (ref := RX3) (C := RX3) (T := TX3) (N := 8) (ci := 3) 0 1 dX3_size_1 zin_X3_size_X3 rfl rfl (by decide) zm_X3_size_f13 rfl rfl ?_
  exact k_iret F Rr (pc := 4) dX3_size_4 ⟨rfl, rfl⟩
theorem zm_X3_rounds_f21 : (Cond.fieldLink RX3 21 RX3 "roundsTaken" "I" : Cond) ∈ wsX3_rounds := by decide +kernel
theorem zin_X3_rounds_X3 : ∀ w ∈ u_ws RX3 TX3 8, w ∈ wsX3_rounds := by decide +kernel
set_option maxHeartbeats 4000000 in
set_option maxRecDepth 100000 in
theorem m_X3_rounds (l : Launch) (E : kE) (h : Nat → Nat) (cd : Nat → Int32) (n : Nat) (sc : Bool) (rt : Nat) (on : Nat → Bool) (lo : Nat → Int64) (hi : Nat → Int64) (son : Nat → Bool) (slo : Nat → Int64) (shi : Nat → Int64) (fs : Bool) (lf : Nat → Int64) (hf : Nat → Int64) (em : Bool) (le : Int64) (gr : Int64)  : kC l yX3_rounds wsX3_rounds ({ frames := 0, cells := 0, slots := 0, locals := 0 } : Room) E [.ref (h 0)] (wX3 E h cd n sc rt on lo hi son slo shi fs lf hf em le gr) 0 0 (fun v_ w_ => v_ = some (.int (nI rt)) ∧ w_ = (wX3 E h cd n sc rt on lo hi son slo shi fs lf hf em le gr)) := by
  refine kC.enter cX3_rounds 1 (some .int) [(0, .ref (h 0))] (by decide) rfl (Nat.le_of_ble_eq_true rfl) rfl ?_
  intro g F Rr
  refine k_aload_n F (pc := 0) 0 rfl dX3_rounds_0 rfl ?_
  refine k_get F (pc := 1) (ref := RX3) (C := RX3) (T := TX3) (N := 8) (ci := 3) 0 3 dX3_rounds_1 zin_X3_rounds_X3 rfl rfl (by decide) zm_X3_rounds_f21 rfl rfl ?_
  exact k_iret F Rr (pc := 4) dX3_rounds_4 ⟨rfl, rfl⟩
theorem zm_X3_add_f13 : (Cond.fieldLink RX3 13 RX3 "count" "I" : Cond) ∈ wsX3_add := by decide +kernel
theorem zin_X3_add_X3 : ∀ w ∈ u_ws RX3 TX3 8, w ∈ wsX3_add := by decide +kernel
theorem zm_X3_add_f9 : (Cond.fieldLink RX3 9 RX3 "codes" "[I" : Cond) ∈ wsX3_add := by decide +kernel
set_option maxHeartbeats 4000000 in
set_option maxRecDepth 100000 in
theorem m_X3_add (l : Launch) (E : kE) (h : Nat → Nat) (cd : Nat → Int32) (n : Nat) (sc : Bool) (rt : Nat) (on : Nat → Bool) (lo : Nat → Int64) (hi : Nat → Int64) (son : Nat → Bool) (slo : Nat → Int64) (shi : Nat → Int64) (fs : Bool) (lf : Nat → Int64) (hf : Nat → Int64) (em : Bool) (le : Int64) (gr : Int64) (o : Int32) (a : Int32) (b : Int32) (c : Int32) (hn : n ≤ 24) : kC l yX3_add wsX3_add ({ frames := 2, cells := 0, slots := 0, locals := 46 } : Room) E [.ref (h 0), .int o, .int a, .int b, .int c] (wX3 E h cd n sc rt on lo hi son slo shi fs lf hf em le gr) 0 0 (fun v_ w_ => ∃ (r : Int32) (cd1 : Nat → Int32) (n1 : Nat) (sc1 : Bool) (rt1 : Nat), v_ = some (.int r) ∧ w_ = (wX3 E h cd1 n1 sc1 rt1 on lo hi son slo shi fs lf hf em le gr) ∧ (addP cd n sc rt o a b c r cd1 n1 sc1 rt1)) := by
  refine kC.enter cX3_add 6 (some .int) [(0, .ref (h 0)), (1, .int o), (2, .int a), (3, .int b), (4, .int c)] (by decide) rfl (Nat.le_of_ble_eq_true rfl) rfl ?_
  intro g F Rr
  refine k_iload_n F (pc := 0) 1 rfl dX3_add_0 rfl ?_
  refine k_if_lt F (pc := 1) 30 dX3_add_1 (by decide) rfl (fun c_1 => ?_) (fun c_1 => ?_)
  · skip
    refine k_iconst F (pc := 30) ((-1)) dX3_add_30 (by decide) ?_
    refine k_iret F Rr (pc := 31) dX3_add_31 ⟨(-1), cd, n, sc, rt, rfl, rfl, ?_⟩
    exact Or.inl ⟨by unfold okI; omega, rfl, rfl, rfl, rfl, rfl⟩
  · skip
    refine k_iload_n F (pc := 4) 1 rfl dX3_add_4 rfl ?_
    refine k_bipush F (pc := 5) ((nI 11)) dX3_add_5 (by decide) ?_
    refine k_icmp_gt F (pc := 7) 30 dX3_add_7 (by decide) rfl (show (nI 11 : Int32).toInt = 11 by decide) (fun c_2 => ?_) (fun c_2 => ?_)
    · skip
      refine k_iconst F (pc := 30) ((-1)) dX3_add_30 (by decide) ?_
      refine k_iret F Rr (pc := 31) dX3_add_31 ⟨(-1), cd, n, sc, rt, rfl, rfl, ?_⟩
      exact Or.inl ⟨by unfold okI; omega, rfl, rfl, rfl, rfl, rfl⟩
    · skip
      refine k_iload_n F (pc := 10) 1 rfl dX3_add_10 rfl ?_
      refine k_iload_n F (pc := 11) 2 rfl dX3_add_11 rfl ?_
      refine k_iload_n F (pc := 12) 3 rfl dX3_add_12 rfl ?_
      refine k_iload F (pc := 13) 4 rfl dX3_add_13 ?_
      refine k_callS F (pc := 15) [.int o, .int a, .int b, .int c] [] 4 (m_X3_areVariablesRight l E o a b c) dX3_add_15 gX3_add_X3_areVariablesRight rfl (by decide +kernel) rfl ⟨rfl, rfl⟩ (by decide) rfl (Nat.le_of_ble_eq_true rfl) (by decide) ?_
      rintro v_5 ⟨r_3, rfl, hc_4⟩
      show kK g (wX3 E h cd n sc rt on lo hi son slo shi fs lf hf em le gr) [(0, .ref (h 0)), (1, .int o), (2, .int a), (3, .int b), (4, .int c)] 0 0 18 [.int (bI r_3)]
      refine k_if_eqB F (pc := 18) 30 dX3_add_18 (by decide) (fun c_7 => ?_) (fun c_7 => ?_)
      · skip
        have hb_8 := k_ff hc_4 c_7
        refine k_iconst F (pc := 30) ((-1)) dX3_add_30 (by decide) ?_
        refine k_iret F Rr (pc := 31) dX3_add_31 ⟨(-1), cd, n, sc, rt, rfl, rfl, ?_⟩
        exact Or.inl ⟨by unfold okI; omega, rfl, rfl, rfl, rfl, rfl⟩
      · skip
        have hb_9 := hc_4.mp c_7
        refine k_iload_n F (pc := 21) 1 rfl dX3_add_21 rfl ?_
        refine k_iload F (pc := 22) 4 rfl dX3_add_22 ?_
        refine k_callS F (pc := 24) [.int o, .int c] [] 2 (m_X3_isPlaceRight l E o c) dX3_add_24 gX3_add_X3_isPlaceRight rfl (by decide +kernel) rfl ⟨rfl, rfl⟩ (by decide) rfl (Nat.le_of_ble_eq_true rfl) (by decide) ?_
        rintro v_12 ⟨r_10, rfl, hc_11⟩
        show kK g (wX3 E h cd n sc rt on lo hi son slo shi fs lf hf em le gr) [(0, .ref (h 0)), (1, .int o), (2, .int a), (3, .int b), (4, .int c)] 0 0 27 [.int (bI r_10)]
        refine k_if_neB F (pc := 27) 32 dX3_add_27 (by decide) (fun c_14 => ?_) (fun c_14 => ?_)
        · skip
          have hb_15 := hc_11.mp c_14
          refine k_aload_n F (pc := 32) 0 rfl dX3_add_32 rfl ?_
          refine k_get F (pc := 33) (ref := RX3) (C := RX3) (T := TX3) (N := 8) (ci := 3) 0 1 dX3_add_33 zin_X3_add_X3 rfl rfl (by decide) zm_X3_add_f13 rfl rfl ?_
          refine k_bipush F (pc := 36) ((nI 24)) dX3_add_36 (by decide) ?_
          refine k_icmp_lt F (pc := 38) 44 dX3_add_38 (by decide) (nI_toInt (by omega)) (show (nI 24 : Int32).toInt = 24 by decide) (fun c_16 => ?_) (fun c_16 => ?_)
          · skip
            refine k_aload_n F (pc := 44) 0 rfl dX3_add_44 rfl ?_
            refine k_get F (pc := 45) (ref := RX3) (C := RX3) (T := TX3) (N := 8) (ci := 3) 0 1 dX3_add_45 zin_X3_add_X3 rfl rfl (by decide) zm_X3_add_f13 rfl rfl ?_
            refine k_iconst F (pc := 48) ((nI 4)) dX3_add_48 (by decide) ?_
            refine k_imulC F (pc := 49) dX3_add_49 ?_
            refine k_istore F (pc := 50) [(5, .int (nI (4 * n))), (0, .ref (h 0)), (1, .int o), (2, .int a), (3, .int b), (4, .int c)] dX3_add_50 (by decide) rfl ?_
            refine k_aload_n F (pc := 52) 1 rfl dX3_add_52 rfl ?_
            refine k_get F (pc := 53) (ref := RX3) (C := RX3) (T := TX3) (N := 8) (ci := 3) 0 0 dX3_add_53 zin_X3_add_X3 rfl rfl (by decide) zm_X3_add_f9 rfl rfl ?_
            refine k_iload F (pc := 56) 0 rfl dX3_add_56 ?_
            refine k_iconst F (pc := 58) ((nI 0)) dX3_add_58 (by decide) ?_
            refine k_iadd0 F (pc := 59) dX3_add_59 ?_
            refine k_iload_n F (pc := 60) 2 rfl dX3_add_60 rfl ?_
            refine k_iast F (pc := 61) 1 (fun cd_17 => (wX3 E h cd_17 n sc rt on lo hi son slo shi fs lf hf em le gr)) dX3_add_61 rfl (by omega) (by decide) (fun _ => rfl) (fun cd_17 ecd_17 => ?_)
            refine k_aload_n F (pc := 62) 1 rfl dX3_add_62 rfl ?_
            refine k_get F (pc := 63) (ref := RX3) (C := RX3) (T := TX3) (N := 8) (ci := 3) 0 0 dX3_add_63 zin_X3_add_X3 rfl rfl (by decide) zm_X3_add_f9 rfl rfl ?_
            refine k_iload F (pc := 66) 0 rfl dX3_add_66 ?_
            refine k_iconst F (pc := 68) ((nI 1)) dX3_add_68 (by decide) ?_
            refine k_iaddN F (pc := 69) dX3_add_69 ?_
            refine k_iload_n F (pc := 70) 3 rfl dX3_add_70 rfl ?_
            refine k_iast F (pc := 71) 1 (fun cd_18 => (wX3 E h cd_18 n sc rt on lo hi son slo shi fs lf hf em le gr)) dX3_add_71 rfl (by omega) (by decide) (fun _ => rfl) (fun cd_18 ecd_18 => ?_)
            refine k_aload_n F (pc := 72) 1 rfl dX3_add_72 rfl ?_
            refine k_get F (pc := 73) (ref := RX3) (C := RX3) (T := TX3) (N := 8) (ci := 3) 0 0 dX3_add_73 zin_X3_add_X3 rfl rfl (by decide) zm_X3_add_f9 rfl rfl ?_
            refine k_iload F (pc := 76) 0 rfl dX3_add_76 ?_
            refine k_iconst F (pc := 78) ((nI 2)) dX3_add_78 (by decide) ?_
            refine k_iaddN F (pc := 79) dX3_add_79 ?_
            refine k_iload_n F (pc := 80) 4 rfl dX3_add_80 rfl ?_
            refine k_iast F (pc := 81) 1 (fun cd_19 => (wX3 E h cd_19 n sc rt on lo hi son slo shi fs lf hf em le gr)) dX3_add_81 rfl (by omega) (by decide) (fun _ => rfl) (fun cd_19 ecd_19 => ?_)
            refine k_aload_n F (pc := 82) 1 rfl dX3_add_82 rfl ?_
            refine k_get F (pc := 83) (ref := RX3) (C := RX3) (T := TX3) (N := 8) (ci := 3) 0 0 dX3_add_83 zin_X3_add_X3 rfl rfl (by decide) zm_X3_add_f9 rfl rfl ?_
            refine k_iload F (pc := 86) 0 rfl dX3_add_86 ?_
            refine k_iconst F (pc := 88) ((nI 3)) dX3_add_88 (by decide) ?_
            refine k_iaddN F (pc := 89) dX3_add_89 ?_
            refine k_iload F (pc := 90) 5 rfl dX3_add_90 ?_
            refine k_iast F (pc := 92) 1 (fun cd_20 => (wX3 E h cd_20 n sc rt on lo hi son slo shi fs lf hf em le gr)) dX3_add_92 rfl (by omega) (by decide) (fun _ => rfl) (fun cd_20 ecd_20 => ?_)
            refine k_aload_n F (pc := 93) 1 rfl dX3_add_93 rfl ?_
            refine k_dup F (pc := 94) dX3_add_94 rfl ?_
            refine k_get F (pc := 95) (ref := RX3) (C := RX3) (T := TX3) (N := 8) (ci := 3) 0 1 dX3_add_95 zin_X3_add_X3 rfl rfl (by decide) zm_X3_add_f13 rfl rfl ?_
            refine k_iconst F (pc := 98) ((nI 1)) dX3_add_98 (by decide) ?_
            refine k_iaddN F (pc := 99) dX3_add_99 ?_
            refine k_put F (pc := 100) (ref := RX3) (C := RX3) (T := TX3) (N := 8) (ci := 3) (ty := .int) (v := .int (nI (n + 1))) tyX3 0 1 (wX3 E h cd_20 (n + 1) sc rt on lo hi son slo shi fs lf hf em le gr) dX3_add_100 zin_X3_add_X3 tyX3_ok nmX3 rfl rfl (by decide) zm_X3_add_f13 rfl rfl (by decide +kernel) rfl rfl (Nat.le_of_ble_eq_true rfl) rfl ?_
            refine k_aload_n F (pc := 103) 1 rfl dX3_add_103 rfl ?_
            refine k_callV F (pc := 104) (C := RX3) (T := TX3) (N := 8) (ci := 3) [] [] 0 (wX3 E h cd_20 (n + 1) sc rt on lo hi son slo shi fs lf hf em le gr) [] [0, 1, 2, 3, 4, 5, 6, 7, 8, 9, 10, 11, 12, 13] [] (m_X3_forgetScan l E h cd_20 (n + 1) sc rt on lo hi son slo shi fs lf hf em le gr) dX3_add_104 gX3_add_X3_forgetScan rfl (by decide +kernel) rfl ⟨rfl, rfl⟩ (by decide) rfl (Nat.le_of_ble_eq_true rfl) (by decide) rfl rfl rfl rfl (by decide) (by decide) (by decide) ?_
            rintro v_21 w_22 ⟨rfl, rfl⟩
            refine k_perm (wX3 E h cd_20 (n + 1) false 0 on lo hi son slo shi fs lf hf em le gr) [0, 1, 2, 3, 4, 5, 6, 7, 8, 9, 10, 11, 12, 13] (by decide) rfl ?_
            show kK g (wX3 E h cd_20 (n + 1) false 0 on lo hi son slo shi fs lf hf em le gr) [(5, .int (nI (4 * n))), (0, .ref (h 0)), (1, .int o), (2, .int a), (3, .int b), (4, .int c)] 0 0 107 []
            refine k_aload_n F (pc := 107) 1 rfl dX3_add_107 rfl ?_
            refine k_get F (pc := 108) (ref := RX3) (C := RX3) (T := TX3) (N := 8) (ci := 3) 0 1 dX3_add_108 zin_X3_add_X3 rfl rfl (by decide) zm_X3_add_f13 rfl rfl ?_
            refine k_iconst F (pc := 111) ((nI 1)) dX3_add_111 (by decide) ?_
            refine k_isubN F (pc := 112) dX3_add_112 (by omega) ?_
            subst ecd_20
            subst ecd_19
            subst ecd_18
            subst ecd_17
            refine k_iret F Rr (pc := 113) dX3_add_113 ⟨(nI ((n + 1) - 1)), _, _, _, _, rfl, rfl, ?_⟩
            exact Or.inr (Or.inr ⟨by unfold okI; omega, by omega, rfl, rfl, rfl, rfl, rfl⟩)
          · skip
            refine k_bipush F (pc := 41) ((-2)) dX3_add_41 (by decide) ?_
            refine k_iret F Rr (pc := 43) dX3_add_43 ⟨(-2), cd, n, sc, rt, rfl, rfl, ?_⟩
            exact Or.inr (Or.inl ⟨by unfold okI; omega, by omega, rfl, rfl, rfl, rfl, rfl⟩)
        · skip
          have hb_23 := k_ff hc_11 c_14
          refine k_iconst F (pc := 30) ((-1)) dX3_add_30 (by decide) ?_
          refine k_iret F Rr (pc := 31) dX3_add_31 ⟨(-1), cd, n, sc, rt, rfl, rfl, ?_⟩
          exact Or.inl ⟨by unfold okI; omega, rfl, rfl, rfl, rfl, rfl⟩
theorem zm_X3_code_f9 : (Cond.fieldLink RX3 9 RX3 "codes" "[I" : Cond) ∈ wsX3_code := by decide +kernel
theorem zin_X3_code_X3 : ∀ w ∈ u_ws RX3 TX3 8, w ∈ wsX3_code := by decide +kernel
set_option maxHeartbeats 4000000 in
set_option maxRecDepth 100000 in
theorem m_X3_code (l : Launch) (E : kE) (h : Nat → Nat) (cd : Nat → Int32) (n : Nat) (sc : Bool) (rt : Nat) (on : Nat → Bool) (lo : Nat → Int64) (hi : Nat → Int64) (son : Nat → Bool) (slo : Nat → Int64) (shi : Nat → Int64) (fs : Bool) (lf : Nat → Int64) (hf : Nat → Int64) (em : Bool) (le : Int64) (gr : Int64) (p : Int32) (f : Int32) (hn : n ≤ 24) : kC l yX3_code wsX3_code ({ frames := 1, cells := 0, slots := 0, locals := 21 } : Room) E [.ref (h 0), .int p, .int f] (wX3 E h cd n sc rt on lo hi son slo shi fs lf hf em le gr) 0 0 (fun v_ w_ => ∃ (r : Int32), v_ = some (.int r) ∧ w_ = (wX3 E h cd n sc rt on lo hi son slo shi fs lf hf em le gr) ∧ (r = codeV cd n p f)) := by
  refine kC.enter cX3_code 3 (some .int) [(0, .ref (h 0)), (1, .int p), (2, .int f)] (by decide) rfl (Nat.le_of_ble_eq_true rfl) rfl ?_
  intro g F Rr
  refine k_aload_n F (pc := 0) 0 rfl dX3_code_0 rfl ?_
  refine k_iload_n F (pc := 1) 1 rfl dX3_code_1 rfl ?_
  refine k_callV F (pc := 2) (C := RX3) (T := TX3) (N := 8) (ci := 3) [.int p] [] 1 (wX3 E h cd n sc rt on lo hi son slo shi fs lf hf em le gr) [] [0, 1, 2, 3, 4, 5, 6, 7, 8, 9, 10, 11, 12, 13] [] (m_X3_isInstruction l E h cd n sc rt on lo hi son slo shi fs lf hf em le gr p (by omega)) dX3_code_2 gX3_code_X3_isInstruction rfl (by decide +kernel) rfl ⟨rfl, rfl⟩ (by decide) rfl (Nat.le_of_ble_eq_true rfl) (by decide) rfl rfl rfl rfl (by decide) (by decide) (by decide) ?_
  rintro v_3 w_4 ⟨r_1, rfl, rfl, hc_2⟩
  refine k_perm (wX3 E h cd n sc rt on lo hi son slo shi fs lf hf em le gr) [0, 1, 2, 3, 4, 5, 6, 7, 8, 9, 10, 11, 12, 13] (by decide) rfl ?_
  show kK g (wX3 E h cd n sc rt on lo hi son slo shi fs lf hf em le gr) [(0, .ref (h 0)), (1, .int p), (2, .int f)] 0 0 5 [.int (bI r_1)]
  refine k_if_eqB F (pc := 5) 17 dX3_code_5 (by decide) (fun c_5 => ?_) (fun c_5 => ?_)
  · skip
    have hb_6 := k_ff hc_2 c_5
    refine k_bipush F (pc := 17) ((-9)) dX3_code_17 (by decide) ?_
    refine k_iret F Rr (pc := 19) dX3_code_19 ⟨(-9), rfl, rfl, ?_⟩
    rw [codeV, if_neg (by omega)]
  · skip
    have hb_7 := hc_2.mp c_5
    refine k_iload_n F (pc := 8) 2 rfl dX3_code_8 rfl ?_
    refine k_if_lt F (pc := 9) 17 dX3_code_9 (by decide) rfl (fun c_8 => ?_) (fun c_8 => ?_)
    · skip
      refine k_bipush F (pc := 17) ((-9)) dX3_code_17 (by decide) ?_
      refine k_iret F Rr (pc := 19) dX3_code_19 ⟨(-9), rfl, rfl, ?_⟩
      rw [codeV, if_neg (by omega)]
    · skip
      refine k_iload_n F (pc := 12) 2 rfl dX3_code_12 rfl ?_
      refine k_iconst F (pc := 13) ((nI 3)) dX3_code_13 (by decide) ?_
      refine k_icmp_le F (pc := 14) 20 dX3_code_14 (by decide) rfl (show (nI 3 : Int32).toInt = 3 by decide) (fun c_9 => ?_) (fun c_9 => ?_)
      · skip
        have hz_10 : p = nI p.toNatClampNeg := k_nC (by omega)
        have hz_10i := k_nCi (x := p) (by omega)
        have hz_11 : f = nI f.toNatClampNeg := k_nC (by omega)
        have hz_11i := k_nCi (x := f) (by omega)
        refine k_aload_n F (pc := 20) 0 rfl dX3_code_20 rfl ?_
        refine k_get F (pc := 21) (ref := RX3) (C := RX3) (T := TX3) (N := 8) (ci := 3) 0 0 dX3_code_21 zin_X3_code_X3 rfl rfl (by decide) zm_X3_code_f9 rfl rfl ?_
        refine k_iload_n F (pc := 24) 1 rfl dX3_code_24 rfl ?_
        refine k_topi (nI p.toNatClampNeg) hz_10 ?_
        refine k_iconst F (pc := 25) ((nI 4)) dX3_code_25 (by decide) ?_
        refine k_imulC F (pc := 26) dX3_code_26 ?_
        refine k_iload_n F (pc := 27) 2 rfl dX3_code_27 rfl ?_
        refine k_topi (nI f.toNatClampNeg) hz_11 ?_
        refine k_iaddN F (pc := 28) dX3_code_28 ?_
        refine k_iald F (pc := 29) 1 dX3_code_29 rfl (by omega) (by decide) ?_
        refine k_iret F Rr (pc := 30) dX3_code_30 ⟨(cd (4 * p.toNatClampNeg + f.toNatClampNeg)), rfl, rfl, ?_⟩
        rw [codeV, if_pos (by omega)]
      · skip
        refine k_bipush F (pc := 17) ((-9)) dX3_code_17 (by decide) ?_
        refine k_iret F Rr (pc := 19) dX3_code_19 ⟨(-9), rfl, rfl, ?_⟩
        rw [codeV, if_neg (by omega)]
theorem zm_X3_areAllPlacesInside_f13 : (Cond.fieldLink RX3 13 RX3 "count" "I" : Cond) ∈ wsX3_areAllPlacesInside := by decide +kernel
theorem zin_X3_areAllPlacesInside_X3 : ∀ w ∈ u_ws RX3 TX3 8, w ∈ wsX3_areAllPlacesInside := by decide +kernel
theorem zm_X3_areAllPlacesInside_f9 : (Cond.fieldLink RX3 9 RX3 "codes" "[I" : Cond) ∈ wsX3_areAllPlacesInside := by decide +kernel
set_option maxHeartbeats 4000000 in
set_option maxRecDepth 100000 in
theorem m_X3_areAllPlacesInside (l : Launch) (E : kE) (h : Nat → Nat) (cd : Nat → Int32) (n : Nat) (sc : Bool) (rt : Nat) (on : Nat → Bool) (lo : Nat → Int64) (hi : Nat → Int64) (son : Nat → Bool) (slo : Nat → Int64) (shi : Nat → Int64) (fs : Bool) (lf : Nat → Int64) (hf : Nat → Int64) (em : Bool) (le : Int64) (gr : Int64) (hn : n ≤ 24) : kC l yX3_areAllPlacesInside wsX3_areAllPlacesInside ({ frames := 1, cells := 0, slots := 0, locals := 21 } : Room) E [.ref (h 0)] (wX3 E h cd n sc rt on lo hi son slo shi fs lf hf em le gr) 0 0 (fun v_ w_ => ∃ (r : Bool), v_ = some (.int (bI r)) ∧ w_ = (wX3 E h cd n sc rt on lo hi son slo shi fs lf hf em le gr) ∧ (r = true ↔ ∀ p, p < n → ((cd (4 * p)).toInt = 9 ∨ (cd (4 * p)).toInt = 10) → 0 ≤ (cd (4 * p + 3)).toInt ∧ (cd (4 * p + 3)).toInt < (n : Int))) := by
  refine kC.enter cX3_areAllPlacesInside 3 (some .boolean) [(0, .ref (h 0))] (by decide) rfl (Nat.le_of_ble_eq_true rfl) rfl ?_
  intro g F Rr
  refine k_iconst F (pc := 0) ((nI 0)) dX3_areAllPlacesInside_0 (by decide) ?_
  refine k_istore_n F (pc := 1) [(1, .int (nI 0)), (0, .ref (h 0))] dX3_areAllPlacesInside_1 rfl (by decide) rfl ?_
  have L2 : ∀ (d_ : Nat) (i : Nat), n - i < d_ → (i ≤ n) → (∀ p, p < i → ((cd (4 * p)).toInt = 9 ∨ (cd (4 * p)).toInt = 10) → 0 ≤ (cd (4 * p + 3)).toInt ∧ (cd (4 * p + 3)).toInt < (n : Int)) → kK g (wX3 E h cd n sc rt on lo hi son slo shi fs lf hf em le gr) [(0, .ref (h 0)), (1, .int (nI i))] 0 0 2 [] := by
    intro d_
    induction d_ with
    | zero => intro i hm; exact absurd hm (Nat.not_lt_zero _)
    | succ d_ ih2 =>
      intro i hm2 hin hal
      refine k_iload_n F (pc := 2) 1 rfl dX3_areAllPlacesInside_2 rfl ?_
      refine k_aload_n F (pc := 3) 0 rfl dX3_areAllPlacesInside_3 rfl ?_
      refine k_get F (pc := 4) (ref := RX3) (C := RX3) (T := TX3) (N := 8) (ci := 3) 0 1 dX3_areAllPlacesInside_4 zin_X3_areAllPlacesInside_X3 rfl rfl (by decide) zm_X3_areAllPlacesInside_f13 rfl rfl ?_
      refine k_icmp_ge F (pc := 7) 51 dX3_areAllPlacesInside_7 (by decide) (nI_toInt (by omega)) (nI_toInt (by omega)) (fun c_1 => ?_) (fun c_1 => ?_)
      · skip
        refine k_iconst F (pc := 51) ((nI 1)) dX3_areAllPlacesInside_51 (by decide) ?_
        refine k_zret F Rr (pc := 52) true dX3_areAllPlacesInside_52 rfl ⟨true, rfl, rfl, ?_⟩
        exact ⟨fun _ p hp => hal p (by omega), fun _ => rfl⟩
      · skip
        refine k_iload_n F (pc := 10) 1 rfl dX3_areAllPlacesInside_10 rfl ?_
        refine k_iconst F (pc := 11) ((nI 4)) dX3_areAllPlacesInside_11 (by decide) ?_
        refine k_imulC F (pc := 12) dX3_areAllPlacesInside_12 ?_
        refine k_istore_n F (pc := 13) [(2, .int (nI (4 * i))), (0, .ref (h 0)), (1, .int (nI i))] dX3_areAllPlacesInside_13 rfl (by decide) rfl ?_
        refine k_aload_n F (pc := 14) 1 rfl dX3_areAllPlacesInside_14 rfl ?_
        refine k_get F (pc := 15) (ref := RX3) (C := RX3) (T := TX3) (N := 8) (ci := 3) 0 0 dX3_areAllPlacesInside_15 zin_X3_areAllPlacesInside_X3 rfl rfl (by decide) zm_X3_areAllPlacesInside_f9 rfl rfl ?_
        refine k_iload_n F (pc := 18) 0 rfl dX3_areAllPlacesInside_18 rfl ?_
        refine k_iconst F (pc := 19) ((nI 0)) dX3_areAllPlacesInside_19 (by decide) ?_
        refine k_iadd0 F (pc := 20) dX3_areAllPlacesInside_20 ?_
        refine k_iald F (pc := 21) 1 dX3_areAllPlacesInside_21 rfl (by omega) (by decide) ?_
        refine k_callS F (pc := 22) [.int (cd (4 * i))] [] 1 (m_X3_goesOnAtC l E (cd (4 * i))) dX3_areAllPlacesInside_22 gX3_areAllPlacesInside_X3_goesOnAtC rfl (by decide +kernel) rfl ⟨rfl, rfl⟩ (by decide) rfl (Nat.le_of_ble_eq_true rfl) (by decide) ?_
        rintro v_4 ⟨r_2, rfl, hc_3⟩
        show kK g (wX3 E h cd n sc rt on lo hi son slo shi fs lf hf em le gr) [(2, .int (nI (4 * i))), (0, .ref (h 0)), (1, .int (nI i))] 0 0 25 [.int (bI r_2)]
        refine k_if_eqB F (pc := 25) 45 dX3_areAllPlacesInside_25 (by decide) (fun c_6 => ?_) (fun c_6 => ?_)
        · skip
          have hb_7 := k_ff hc_3 c_6
          refine k_iinc F (pc := 45) 2 ((nI (i + 1))) [(1, .int (nI (i + 1))), (2, .int (nI (4 * i))), (0, .ref (h 0))] dX3_areAllPlacesInside_45 rfl (nI_1 i) (by decide) rfl ?_
          refine k_goto F (pc := 48) 2 dX3_areAllPlacesInside_48 (by decide) ?_
          refine k_lv [(0, .ref (h 0)), (1, .int (nI (i + 1)))] [2, 0] rfl ?_
          exact ih2 (i + 1) (by omega) (by omega) (by exact lt_s hal (by intro ho; first | assumption | (exfalso; exact absurd ho (by assumption)) | omega))
        · skip
          have hb_8 := hc_3.mp c_6
          refine k_aload_n F (pc := 28) 1 rfl dX3_areAllPlacesInside_28 rfl ?_
          refine k_aload_n F (pc := 29) 1 rfl dX3_areAllPlacesInside_29 rfl ?_
          refine k_get F (pc := 30) (ref := RX3) (C := RX3) (T := TX3) (N := 8) (ci := 3) 0 0 dX3_areAllPlacesInside_30 zin_X3_areAllPlacesInside_X3 rfl rfl (by decide) zm_X3_areAllPlacesInside_f9 rfl rfl ?_
          refine k_iload_n F (pc := 33) 0 rfl dX3_areAllPlacesInside_33 rfl ?_
          refine k_iconst F (pc := 34) ((nI 3)) dX3_areAllPlacesInside_34 (by decide) ?_
          refine k_iaddN F (pc := 35) dX3_areAllPlacesInside_35 ?_
          refine k_iald F (pc := 36) 1 dX3_areAllPlacesInside_36 rfl (by omega) (by decide) ?_
          refine k_callV F (pc := 37) (C := RX3) (T := TX3) (N := 8) (ci := 3) [.int (cd (4 * i + 3))] [] 1 (wX3 E h cd n sc rt on lo hi son slo shi fs lf hf em le gr) [] [0, 1, 2, 3, 4, 5, 6, 7, 8, 9, 10, 11, 12, 13] [] (m_X3_isInstruction l E h cd n sc rt on lo hi son slo shi fs lf hf em le gr (cd (4 * i + 3)) (by omega)) dX3_areAllPlacesInside_37 gX3_areAllPlacesInside_X3_isInstruction rfl (by decide +kernel) rfl ⟨rfl, rfl⟩ (by decide) rfl (Nat.le_of_ble_eq_true rfl) (by decide) rfl rfl rfl rfl (by decide) (by decide) (by decide) ?_
          rintro v_11 w_12 ⟨r_9, rfl, rfl, hc_10⟩
          refine k_perm (wX3 E h cd n sc rt on lo hi son slo shi fs lf hf em le gr) [0, 1, 2, 3, 4, 5, 6, 7, 8, 9, 10, 11, 12, 13] (by decide) rfl ?_
          show kK g (wX3 E h cd n sc rt on lo hi son slo shi fs lf hf em le gr) [(2, .int (nI (4 * i))), (0, .ref (h 0)), (1, .int (nI i))] 0 0 40 [.int (bI r_9)]
          refine k_if_neB F (pc := 40) 45 dX3_areAllPlacesInside_40 (by decide) (fun c_13 => ?_) (fun c_13 => ?_)
          · skip
            have hb_14 := hc_10.mp c_13
            refine k_iinc F (pc := 45) 2 ((nI (i + 1))) [(1, .int (nI (i + 1))), (2, .int (nI (4 * i))), (0, .ref (h 0))] dX3_areAllPlacesInside_45 rfl (nI_1 i) (by decide) rfl ?_
            refine k_goto F (pc := 48) 2 dX3_areAllPlacesInside_48 (by decide) ?_
            refine k_lv [(0, .ref (h 0)), (1, .int (nI (i + 1)))] [2, 0] rfl ?_
            exact ih2 (i + 1) (by omega) (by omega) (by exact lt_s hal (by intro ho; first | assumption | (exfalso; exact absurd ho (by assumption)) | omega))
          · skip
            have hb_15 := k_ff hc_10 c_13
            refine k_iconst F (pc := 43) ((nI 0)) dX3_areAllPlacesInside_43 (by decide) ?_
            refine k_zret F Rr (pc := 44) false dX3_areAllPlacesInside_44 rfl ⟨false, rfl, rfl, ?_⟩
            exact ⟨fun h => absurd h (by decide), fun h => absurd (h i (by omega) (by assumption)) (by assumption)⟩
  refine k_lv [(0, .ref (h 0)), (1, .int (nI 0))] [1, 0] rfl ?_
  exact L2 (n - 0 + 1) 0 (Nat.lt_succ_self _) (by omega) (by intro p hp; omega)
theorem zm_X3_isWhole_f13 : (Cond.fieldLink RX3 13 RX3 "count" "I" : Cond) ∈ wsX3_isWhole := by decide +kernel
theorem zin_X3_isWhole_X3 : ∀ w ∈ u_ws RX3 TX3 8, w ∈ wsX3_isWhole := by decide +kernel
theorem zm_X3_isWhole_f9 : (Cond.fieldLink RX3 9 RX3 "codes" "[I" : Cond) ∈ wsX3_isWhole := by decide +kernel
set_option maxHeartbeats 4000000 in
set_option maxRecDepth 100000 in
theorem m_X3_isWhole (l : Launch) (E : kE) (h : Nat → Nat) (cd : Nat → Int32) (n : Nat) (sc : Bool) (rt : Nat) (on : Nat → Bool) (lo : Nat → Int64) (hi : Nat → Int64) (son : Nat → Bool) (slo : Nat → Int64) (shi : Nat → Int64) (fs : Bool) (lf : Nat → Int64) (hf : Nat → Int64) (em : Bool) (le : Int64) (gr : Int64) (hn : n ≤ 24) (hok : ∀ p, p < n → okP cd p) : kC l yX3_isWhole wsX3_isWhole ({ frames := 2, cells := 0, slots := 0, locals := 43 } : Room) E [.ref (h 0)] (wX3 E h cd n sc rt on lo hi son slo shi fs lf hf em le gr) 0 0 (fun v_ w_ => ∃ (r : Bool), v_ = some (.int (bI r)) ∧ w_ = (wX3 E h cd n sc rt on lo hi son slo shi fs lf hf em le gr) ∧ (r = true ↔ wholeP cd n)) := by
  refine kC.enter cX3_isWhole 2 (some .boolean) [(0, .ref (h 0))] (by decide) rfl (Nat.le_of_ble_eq_true rfl) rfl ?_
  intro g F Rr
  refine k_aload_n F (pc := 0) 0 rfl dX3_isWhole_0 rfl ?_
  refine k_get F (pc := 1) (ref := RX3) (C := RX3) (T := TX3) (N := 8) (ci := 3) 0 1 dX3_isWhole_1 zin_X3_isWhole_X3 rfl rfl (by decide) zm_X3_isWhole_f13 rfl rfl ?_
  refine k_if_ne F (pc := 4) 9 dX3_isWhole_4 (by decide) (nI_toInt (by omega)) (fun c_1 => ?_) (fun c_1 => ?_)
  · skip
    refine k_aload_n F (pc := 9) 0 rfl dX3_isWhole_9 rfl ?_
    refine k_get F (pc := 10) (ref := RX3) (C := RX3) (T := TX3) (N := 8) (ci := 3) 0 0 dX3_isWhole_10 zin_X3_isWhole_X3 rfl rfl (by decide) zm_X3_isWhole_f9 rfl rfl ?_
    refine k_aload_n F (pc := 13) 0 rfl dX3_isWhole_13 rfl ?_
    refine k_get F (pc := 14) (ref := RX3) (C := RX3) (T := TX3) (N := 8) (ci := 3) 0 1 dX3_isWhole_14 zin_X3_isWhole_X3 rfl rfl (by decide) zm_X3_isWhole_f13 rfl rfl ?_
    refine k_iconst F (pc := 17) ((nI 1)) dX3_isWhole_17 (by decide) ?_
    refine k_isubN F (pc := 18) dX3_isWhole_18 (by omega) ?_
    refine k_iconst F (pc := 19) ((nI 4)) dX3_isWhole_19 (by decide) ?_
    refine k_imulC F (pc := 20) dX3_isWhole_20 ?_
    refine k_iconst F (pc := 21) ((nI 0)) dX3_isWhole_21 (by decide) ?_
    refine k_iadd0 F (pc := 22) dX3_isWhole_22 ?_
    refine k_iald F (pc := 23) 1 dX3_isWhole_23 rfl (by omega) (by decide) ?_
    refine k_istore_n F (pc := 24) [(1, .int (cd (4 * (n - 1)))), (0, .ref (h 0))] dX3_isWhole_24 rfl (by decide) rfl ?_
    refine k_iload_n F (pc := 25) 0 rfl dX3_isWhole_25 rfl ?_
    refine k_if_eq F (pc := 26) 35 dX3_isWhole_26 (by decide) rfl (fun c_2 => ?_) (fun c_2 => ?_)
    · skip
      refine k_aload_n F (pc := 35) 1 rfl dX3_isWhole_35 rfl ?_
      refine k_callV F (pc := 36) (C := RX3) (T := TX3) (N := 8) (ci := 3) [] [] 0 (wX3 E h cd n sc rt on lo hi son slo shi fs lf hf em le gr) [] [0, 1, 2, 3, 4, 5, 6, 7, 8, 9, 10, 11, 12, 13] [] (m_X3_areAllPlacesInside l E h cd n sc rt on lo hi son slo shi fs lf hf em le gr (by omega)) dX3_isWhole_36 gX3_isWhole_X3_areAllPlacesInside rfl (by decide +kernel) rfl ⟨rfl, rfl⟩ (by decide) rfl (Nat.le_of_ble_eq_true rfl) (by decide) rfl rfl rfl rfl (by decide) (by decide) (by decide) ?_
      rintro v_4 w_5 ⟨r_3, rfl, rfl, hall⟩
      refine k_perm (wX3 E h cd n sc rt on lo hi son slo shi fs lf hf em le gr) [0, 1, 2, 3, 4, 5, 6, 7, 8, 9, 10, 11, 12, 13] (by decide) rfl ?_
      show kK g (wX3 E h cd n sc rt on lo hi son slo shi fs lf hf em le gr) [(1, .int (cd (4 * (n - 1)))), (0, .ref (h 0))] 0 0 39 [.int (bI r_3)]
      refine k_if_eqB F (pc := 39) 46 dX3_isWhole_39 (by decide) (fun c_6 => ?_) (fun c_6 => ?_)
      · skip
        have hb_7 := k_ff hall c_6
        refine k_iconst F (pc := 46) ((nI 0)) dX3_isWhole_46 (by decide) ?_
        refine k_zret F Rr (pc := 47) false dX3_isWhole_47 rfl ⟨false, rfl, rfl, ?_⟩
        first
        | exact whole_no (by omega)
        | exact whole_fin (by omega) hok hall (by simp only [*]; first | omega | simp)
      · skip
        have hb_8 := hall.mp c_6
        refine k_iconst F (pc := 42) ((nI 1)) dX3_isWhole_42 (by decide) ?_
        refine k_goto F (pc := 43) 47 dX3_isWhole_43 (by decide) ?_
        refine k_zret F Rr (pc := 47) true dX3_isWhole_47 rfl ⟨true, rfl, rfl, ?_⟩
        first
        | exact whole_no (by omega)
        | exact whole_fin (by omega) hok hall (by simp only [*]; first | omega | simp)
    · skip
      refine k_iload_n F (pc := 29) 0 rfl dX3_isWhole_29 rfl ?_
      refine k_bipush F (pc := 30) ((nI 10)) dX3_isWhole_30 (by decide) ?_
      refine k_icmp_ne F (pc := 32) 46 dX3_isWhole_32 (by decide) rfl (show (nI 10 : Int32).toInt = 10 by decide) (fun c_9 => ?_) (fun c_9 => ?_)
      · skip
        refine k_iconst F (pc := 46) ((nI 0)) dX3_isWhole_46 (by decide) ?_
        refine k_zret F Rr (pc := 47) false dX3_isWhole_47 rfl ⟨false, rfl, rfl, ?_⟩
        first
        | exact whole_no (by omega)
        | exact whole_fin (by omega) hok hall (by simp only [*]; first | omega | simp)
      · skip
        refine k_aload_n F (pc := 35) 1 rfl dX3_isWhole_35 rfl ?_
        refine k_callV F (pc := 36) (C := RX3) (T := TX3) (N := 8) (ci := 3) [] [] 0 (wX3 E h cd n sc rt on lo hi son slo shi fs lf hf em le gr) [] [0, 1, 2, 3, 4, 5, 6, 7, 8, 9, 10, 11, 12, 13] [] (m_X3_areAllPlacesInside l E h cd n sc rt on lo hi son slo shi fs lf hf em le gr (by omega)) dX3_isWhole_36 gX3_isWhole_X3_areAllPlacesInside rfl (by decide +kernel) rfl ⟨rfl, rfl⟩ (by decide) rfl (Nat.le_of_ble_eq_true rfl) (by decide) rfl rfl rfl rfl (by decide) (by decide) (by decide) ?_
        rintro v_11 w_12 ⟨r_10, rfl, rfl, hall⟩
        refine k_perm (wX3 E h cd n sc rt on lo hi son slo shi fs lf hf em le gr) [0, 1, 2, 3, 4, 5, 6, 7, 8, 9, 10, 11, 12, 13] (by decide) rfl ?_
        show kK g (wX3 E h cd n sc rt on lo hi son slo shi fs lf hf em le gr) [(1, .int (cd (4 * (n - 1)))), (0, .ref (h 0))] 0 0 39 [.int (bI r_10)]
        refine k_if_eqB F (pc := 39) 46 dX3_isWhole_39 (by decide) (fun c_13 => ?_) (fun c_13 => ?_)
        · skip
          have hb_14 := k_ff hall c_13
          refine k_iconst F (pc := 46) ((nI 0)) dX3_isWhole_46 (by decide) ?_
          refine k_zret F Rr (pc := 47) false dX3_isWhole_47 rfl ⟨false, rfl, rfl, ?_⟩
          first
          | exact whole_no (by omega)
          | exact whole_fin (by omega) hok hall (by simp only [*]; first | omega | simp)
        · skip
          have hb_15 := hall.mp c_13
          refine k_iconst F (pc := 42) ((nI 1)) dX3_isWhole_42 (by decide) ?_
          refine k_goto F (pc := 43) 47 dX3_isWhole_43 (by decide) ?_
          refine k_zret F Rr (pc := 47) true dX3_isWhole_47 rfl ⟨true, rfl, rfl, ?_⟩
          first
          | exact whole_no (by omega)
          | exact whole_fin (by omega) hok hall (by simp only [*]; first | omega | simp)
  · skip
    refine k_iconst F (pc := 7) ((nI 0)) dX3_isWhole_7 (by decide) ?_
    refine k_zret F Rr (pc := 8) false dX3_isWhole_8 rfl ⟨false, rfl, rfl, ?_⟩
    exact ⟨fun h => absurd h (by decide), fun h => by exfalso; have := h.1; omega⟩
end
section
theorem zm_X3_reached_f17 : (Cond.fieldLink RX3 17 RX3 "scanned" "Z" : Cond) ∈ wsX3_reached := by decide +kernel
theorem zin_X3_reached_X3 : ∀ w ∈ u_ws RX3 TX3 8, w ∈ wsX3_reached := by decide +kernel
theorem zm_X3_reached_f31 : (Cond.fieldLink RX3 31 RX3 "settled" "LRangeScan$States;" : Cond) ∈ wsX3_reached := by decide +kernel
set_option maxHeartbeats 4000000 in
set_option maxRecDepth 100000 in
theorem m_X3_reached (l : Launch) (E : kE) (h : Nat → Nat) (cd : Nat → Int32) (n : Nat) (sc : Bool) (rt : Nat) (on : Nat → Bool) (lo : Nat → Int64) (hi : Nat → Int64) (son : Nat → Bool) (slo : Nat → Int64) (shi : Nat → Int64) (fs : Bool) (lf : Nat → Int64) (hf : Nat → Int64) (em : Bool) (le : Int64) (gr : Int64) (p : Int32) (hn : n ≤ 24) : kC l yX3_reached wsX3_reached ({ frames := 1, cells := 0, slots := 0, locals := 21 } : Room) E [.ref (h 0), .int p] (wX3 E h cd n sc rt on lo hi son slo shi fs lf hf em le gr) 0 0 (fun v_ w_ => ∃ (r : Int32), v_ = some (.int r) ∧ w_ = (wX3 E h cd n sc rt on lo hi son slo shi fs lf hf em le gr) ∧ (r = rchV sc n son p)) := by
  refine kC.enter cX3_reached 2 (some .int) [(0, .ref (h 0)), (1, .int p)] (by decide) rfl (Nat.le_of_ble_eq_true rfl) rfl ?_
  intro g F Rr
  refine k_aload_n F (pc := 0) 0 rfl dX3_reached_0 rfl ?_
  refine k_get F (pc := 1) (ref := RX3) (C := RX3) (T := TX3) (N := 8) (ci := 3) 0 2 dX3_reached_1 zin_X3_reached_X3 rfl rfl (by decide) zm_X3_reached_f17 rfl rfl ?_
  refine k_if_eqB F (pc := 4) 15 dX3_reached_4 (by decide) (fun c_1 => ?_) (fun c_1 => ?_)
  · skip
    refine k_iconst F (pc := 15) ((-1)) dX3_reached_15 (by decide) ?_
    refine k_iret F Rr (pc := 16) dX3_reached_16 ⟨(-1), rfl, rfl, ?_⟩
    first
    | exact (rchV_f1 (by assumption)).symm
    | exact (rchV_f2 (by assumption)).symm
  · skip
    refine k_aload_n F (pc := 7) 0 rfl dX3_reached_7 rfl ?_
    refine k_iload_n F (pc := 8) 1 rfl dX3_reached_8 rfl ?_
    refine k_callV F (pc := 9) (C := RX3) (T := TX3) (N := 8) (ci := 3) [.int p] [] 1 (wX3 E h cd n sc rt on lo hi son slo shi fs lf hf em le gr) [] [0, 1, 2, 3, 4, 5, 6, 7, 8, 9, 10, 11, 12, 13] [] (m_X3_isInstruction l E h cd n sc rt on lo hi son slo shi fs lf hf em le gr p (by omega)) dX3_reached_9 gX3_reached_X3_isInstruction rfl (by decide +kernel) rfl ⟨rfl, rfl⟩ (by decide) rfl (Nat.le_of_ble_eq_true rfl) (by decide) rfl rfl rfl rfl (by decide) (by decide) (by decide) ?_
    rintro v_4 w_5 ⟨r_2, rfl, rfl, hc_3⟩
    refine k_perm (wX3 E h cd n sc rt on lo hi son slo shi fs lf hf em le gr) [0, 1, 2, 3, 4, 5, 6, 7, 8, 9, 10, 11, 12, 13] (by decide) rfl ?_
    show kK g (wX3 E h cd n sc rt on lo hi son slo shi fs lf hf em le gr) [(0, .ref (h 0)), (1, .int p)] 0 0 12 [.int (bI r_2)]
    refine k_if_neB F (pc := 12) 17 dX3_reached_12 (by decide) (fun c_6 => ?_) (fun c_6 => ?_)
    · skip
      have hb_7 := hc_3.mp c_6
      have hz_8 : p = nI p.toNatClampNeg := k_nC (by omega)
      have hz_8i := k_nCi (x := p) (by omega)
      refine k_aload_n F (pc := 17) 0 rfl dX3_reached_17 rfl ?_
      refine k_get F (pc := 18) (ref := RX3) (C := RX3) (T := TX3) (N := 8) (ci := 3) 0 5 dX3_reached_18 zin_X3_reached_X3 rfl rfl (by decide) zm_X3_reached_f31 rfl rfl ?_
      refine k_iload_n F (pc := 21) 1 rfl dX3_reached_21 rfl ?_
      refine k_topi (nI p.toNatClampNeg) hz_8 ?_
      refine k_callV F (pc := 22) (C := RX2) (T := TX2) (N := 3) (ci := 2) [.int (nI p.toNatClampNeg)] [] 1 (wX2 E (h 6) (h 7) (h 8) (h 9) son slo shi) [cObj (h 0) 3 [.ref (h 1), .int (nI n), .int (bI sc), .int (nI rt), .ref (h 2), .ref (h 6), .ref (h 10), .ref (h 13)], cInt E (h 1) 96 cd, cObj (h 2) 2 [.ref (h 3), .ref (h 4), .ref (h 5)], cBoo E (h 3) 24 on, cLng E (h 4) 96 lo, cLng E (h 5) 96 hi, cObj (h 10) 0 [.int (bI fs), .ref (h 11), .ref (h 12)], cLng E (h 11) 4 lf, cLng E (h 12) 4 hf, cObj (h 13) 1 [.int (bI em), .long le, .long gr]] [6, 7, 8, 9] [0, 1, 2, 3, 4, 5, 10, 11, 12, 13] (m_X2_isSomewhere l E (h 6) (h 7) (h 8) (h 9) son slo shi p.toNatClampNeg (by omega)) dX3_reached_22 gX3_reached_X2_isSomewhere rfl (by decide +kernel) rfl ⟨rfl, rfl⟩ (by decide) rfl (Nat.le_of_ble_eq_true rfl) (by decide) rfl rfl rfl rfl (by decide) (by decide) (by decide) ?_
      rintro v_9 w_10 ⟨rfl, rfl⟩
      refine k_perm (wX3 E h cd n sc rt on lo hi son slo shi fs lf hf em le gr) [0, 1, 2, 3, 4, 5, 10, 11, 12, 13, 6, 7, 8, 9] (by decide) rfl ?_
      show kK g (wX3 E h cd n sc rt on lo hi son slo shi fs lf hf em le gr) [(0, .ref (h 0)), (1, .int p)] 0 0 25 [.int (bI (son p.toNatClampNeg))]
      refine k_if_eqB F (pc := 25) 32 dX3_reached_25 (by decide) (fun c_11 => ?_) (fun c_11 => ?_)
      · skip
        refine k_iconst F (pc := 32) ((nI 0)) dX3_reached_32 (by decide) ?_
        refine k_iret F Rr (pc := 33) dX3_reached_33 ⟨(nI 0), rfl, rfl, ?_⟩
        rw [rchV_t (by assumption) (by assumption), (by assumption : son p.toNatClampNeg = _)]; rfl
      · skip
        refine k_iconst F (pc := 28) ((nI 1)) dX3_reached_28 (by decide) ?_
        refine k_goto F (pc := 29) 33 dX3_reached_29 (by decide) ?_
        refine k_iret F Rr (pc := 33) dX3_reached_33 ⟨(nI 1), rfl, rfl, ?_⟩
        rw [rchV_t (by assumption) (by assumption), (by assumption : son p.toNatClampNeg = _)]; rfl
    · skip
      have hb_12 := k_ff hc_3 c_6
      refine k_iconst F (pc := 15) ((-1)) dX3_reached_15 (by decide) ?_
      refine k_iret F Rr (pc := 16) dX3_reached_16 ⟨(-1), rfl, rfl, ?_⟩
      first
      | exact (rchV_f1 (by assumption)).symm
      | exact (rchV_f2 (by assumption)).symm
theorem zm_X3_low_c90 : (Cond.constantLong RX3 90 (4294967296) : Cond) ∈ wsX3_low := by decide +kernel
theorem zm_X3_low_f31 : (Cond.fieldLink RX3 31 RX3 "settled" "LRangeScan$States;" : Cond) ∈ wsX3_low := by decide +kernel
theorem zin_X3_low_X3 : ∀ w ∈ u_ws RX3 TX3 8, w ∈ wsX3_low := by decide +kernel
set_option maxHeartbeats 4000000 in
set_option maxRecDepth 100000 in
theorem m_X3_low (l : Launch) (E : kE) (h : Nat → Nat) (cd : Nat → Int32) (n : Nat) (sc : Bool) (rt : Nat) (on : Nat → Bool) (lo : Nat → Int64) (hi : Nat → Int64) (son : Nat → Bool) (slo : Nat → Int64) (shi : Nat → Int64) (fs : Bool) (lf : Nat → Int64) (hf : Nat → Int64) (em : Bool) (le : Int64) (gr : Int64) (p : Int32) (v : Int32) (hn : n ≤ 24) : kC l yX3_low wsX3_low ({ frames := 2, cells := 0, slots := 0, locals := 42 } : Room) E [.ref (h 0), .int p, .int v] (wX3 E h cd n sc rt on lo hi son slo shi fs lf hf em le gr) 0 0 (fun v_ w_ => ∃ (r : Int64), v_ = some (.long r) ∧ w_ = (wX3 E h cd n sc rt on lo hi son slo shi fs lf hf em le gr) ∧ (r = bndV sc n son slo p v)) := by
  refine kC.enter cX3_low 3 (some .long) [(0, .ref (h 0)), (1, .int p), (2, .int v)] (by decide) rfl (Nat.le_of_ble_eq_true rfl) rfl ?_
  intro g F Rr
  refine k_aload_n F (pc := 0) 0 rfl dX3_low_0 rfl ?_
  refine k_iload_n F (pc := 1) 1 rfl dX3_low_1 rfl ?_
  refine k_callV F (pc := 2) (C := RX3) (T := TX3) (N := 8) (ci := 3) [.int p] [] 1 (wX3 E h cd n sc rt on lo hi son slo shi fs lf hf em le gr) [] [0, 1, 2, 3, 4, 5, 6, 7, 8, 9, 10, 11, 12, 13] [] (m_X3_reached l E h cd n sc rt on lo hi son slo shi fs lf hf em le gr p (by omega)) dX3_low_2 gX3_low_X3_reached rfl (by decide +kernel) rfl ⟨rfl, rfl⟩ (by decide) rfl (Nat.le_of_ble_eq_true rfl) (by decide) rfl rfl rfl rfl (by decide) (by decide) (by decide) ?_
  rintro v_2 w_3 ⟨r_1, rfl, rfl, hre⟩
  refine k_perm (wX3 E h cd n sc rt on lo hi son slo shi fs lf hf em le gr) [0, 1, 2, 3, 4, 5, 6, 7, 8, 9, 10, 11, 12, 13] (by decide) rfl ?_
  show kK g (wX3 E h cd n sc rt on lo hi son slo shi fs lf hf em le gr) [(0, .ref (h 0)), (1, .int p), (2, .int v)] 0 0 5 [.int r_1]
  refine k_iconst F (pc := 5) ((nI 1)) dX3_low_5 (by decide) ?_
  refine k_icmp_ne F (pc := 6) 16 dX3_low_6 (by decide) rfl (show (nI 1 : Int32).toInt = 1 by decide) (fun c_4 => ?_) (fun c_4 => ?_)
  · skip
    have hrn := rchV_n1 hre c_4
    refine k_ldc2 F (pc := 16) (4294967296) dX3_low_16 zm_X3_low_c90 ?_
    refine k_lret F Rr (pc := 19) dX3_low_19 ⟨4294967296, rfl, rfl, ?_⟩
    rw [bndV, if_neg]
    first
    | exact fun h => hrn h.1
    | (intro h; omega)
  · skip
    obtain ⟨hr1, hr2, hr3, hr4, hr5⟩ := rchV_1 hre c_4
    have hz_5 : p = nI p.toNatClampNeg := k_nC (by omega)
    have hz_5i := k_nCi (x := p) (by omega)
    refine k_iload_n F (pc := 9) 2 rfl dX3_low_9 rfl ?_
    refine k_callS F (pc := 10) [.int v] [] 1 (m_X3_isVariable l E v) dX3_low_10 gX3_low_X3_isVariable rfl (by decide +kernel) rfl ⟨rfl, rfl⟩ (by decide) rfl (Nat.le_of_ble_eq_true rfl) (by decide) ?_
    rintro v_8 ⟨r_6, rfl, hc_7⟩
    show kK g (wX3 E h cd n sc rt on lo hi son slo shi fs lf hf em le gr) [(0, .ref (h 0)), (1, .int p), (2, .int v)] 0 0 13 [.int (bI r_6)]
    refine k_if_neB F (pc := 13) 20 dX3_low_13 (by decide) (fun c_10 => ?_) (fun c_10 => ?_)
    · skip
      have hb_11 := hc_7.mp c_10
      have hz_12 : v = nI v.toNatClampNeg := k_nC (by omega)
      have hz_12i := k_nCi (x := v) (by omega)
      refine k_aload_n F (pc := 20) 0 rfl dX3_low_20 rfl ?_
      refine k_get F (pc := 21) (ref := RX3) (C := RX3) (T := TX3) (N := 8) (ci := 3) 0 5 dX3_low_21 zin_X3_low_X3 rfl rfl (by decide) zm_X3_low_f31 rfl rfl ?_
      refine k_iload_n F (pc := 24) 1 rfl dX3_low_24 rfl ?_
      refine k_topi (nI p.toNatClampNeg) hz_5 ?_
      refine k_iload_n F (pc := 25) 2 rfl dX3_low_25 rfl ?_
      refine k_topi (nI v.toNatClampNeg) hz_12 ?_
      refine k_callV F (pc := 26) (C := RX2) (T := TX2) (N := 3) (ci := 2) [.int (nI p.toNatClampNeg), .int (nI v.toNatClampNeg)] [] 2 (wX2 E (h 6) (h 7) (h 8) (h 9) son slo shi) [cObj (h 0) 3 [.ref (h 1), .int (nI n), .int (bI sc), .int (nI rt), .ref (h 2), .ref (h 6), .ref (h 10), .ref (h 13)], cInt E (h 1) 96 cd, cObj (h 2) 2 [.ref (h 3), .ref (h 4), .ref (h 5)], cBoo E (h 3) 24 on, cLng E (h 4) 96 lo, cLng E (h 5) 96 hi, cObj (h 10) 0 [.int (bI fs), .ref (h 11), .ref (h 12)], cLng E (h 11) 4 lf, cLng E (h 12) 4 hf, cObj (h 13) 1 [.int (bI em), .long le, .long gr]] [6, 7, 8, 9] [0, 1, 2, 3, 4, 5, 10, 11, 12, 13] (m_X2_lowOf l E (h 6) (h 7) (h 8) (h 9) son slo shi p.toNatClampNeg v.toNatClampNeg (by omega) (by omega)) dX3_low_26 gX3_low_X2_lowOf rfl (by decide +kernel) rfl ⟨rfl, rfl⟩ (by decide) rfl (Nat.le_of_ble_eq_true rfl) (by decide) rfl rfl rfl rfl (by decide) (by decide) (by decide) ?_
      rintro v_13 w_14 ⟨rfl, rfl⟩
      refine k_perm (wX3 E h cd n sc rt on lo hi son slo shi fs lf hf em le gr) [0, 1, 2, 3, 4, 5, 10, 11, 12, 13, 6, 7, 8, 9] (by decide) rfl ?_
      show kK g (wX3 E h cd n sc rt on lo hi son slo shi fs lf hf em le gr) [(0, .ref (h 0)), (1, .int p), (2, .int v)] 0 0 29 [.long (slo (4 * p.toNatClampNeg + v.toNatClampNeg))]
      refine k_lret F Rr (pc := 29) dX3_low_29 ⟨(slo (4 * p.toNatClampNeg + v.toNatClampNeg)), rfl, rfl, ?_⟩
      rw [bndV, if_pos ⟨hr1, by omega, by omega⟩]
    · skip
      have hb_15 := k_ff hc_7 c_10
      refine k_ldc2 F (pc := 16) (4294967296) dX3_low_16 zm_X3_low_c90 ?_
      refine k_lret F Rr (pc := 19) dX3_low_19 ⟨4294967296, rfl, rfl, ?_⟩
      rw [bndV, if_neg]
      first
      | exact fun h => hrn h.1
      | (intro h; omega)
theorem zm_X3_high_c90 : (Cond.constantLong RX3 90 (4294967296) : Cond) ∈ wsX3_high := by decide +kernel
theorem zm_X3_high_f31 : (Cond.fieldLink RX3 31 RX3 "settled" "LRangeScan$States;" : Cond) ∈ wsX3_high := by decide +kernel
theorem zin_X3_high_X3 : ∀ w ∈ u_ws RX3 TX3 8, w ∈ wsX3_high := by decide +kernel
set_option maxHeartbeats 4000000 in
set_option maxRecDepth 100000 in
theorem m_X3_high (l : Launch) (E : kE) (h : Nat → Nat) (cd : Nat → Int32) (n : Nat) (sc : Bool) (rt : Nat) (on : Nat → Bool) (lo : Nat → Int64) (hi : Nat → Int64) (son : Nat → Bool) (slo : Nat → Int64) (shi : Nat → Int64) (fs : Bool) (lf : Nat → Int64) (hf : Nat → Int64) (em : Bool) (le : Int64) (gr : Int64) (p : Int32) (v : Int32) (hn : n ≤ 24) : kC l yX3_high wsX3_high ({ frames := 2, cells := 0, slots := 0, locals := 42 } : Room) E [.ref (h 0), .int p, .int v] (wX3 E h cd n sc rt on lo hi son slo shi fs lf hf em le gr) 0 0 (fun v_ w_ => ∃ (r : Int64), v_ = some (.long r) ∧ w_ = (wX3 E h cd n sc rt on lo hi son slo shi fs lf hf em le gr) ∧ (r = bndV sc n son shi p v)) := by
  refine kC.enter cX3_high 3 (some .long) [(0, .ref (h 0)), (1, .int p), (2, .int v)] (by decide) rfl (Nat.le_of_ble_eq_true rfl) rfl ?_
  intro g F Rr
  refine k_aload_n F (pc := 0) 0 rfl dX3_high_0 rfl ?_
  refine k_iload_n F (pc := 1) 1 rfl dX3_high_1 rfl ?_
  refine k_callV F (pc := 2) (C := RX3) (T := TX3) (N := 8) (ci := 3) [.int p] [] 1 (wX3 E h cd n sc rt on lo hi son slo shi fs lf hf em le gr) [] [0, 1, 2, 3, 4, 5, 6, 7, 8, 9, 10, 11, 12, 13] [] (m_X3_reached l E h cd n sc rt on lo hi son slo shi fs lf hf em le gr p (by omega)) dX3_high_2 gX3_high_X3_reached rfl (by decide +kernel) rfl ⟨rfl, rfl⟩ (by decide) rfl (Nat.le_of_ble_eq_true rfl) (by decide) rfl rfl rfl rfl (by decide) (by decide) (by decide) ?_
  rintro v_2 w_3 ⟨r_1, rfl, rfl, hre⟩
  refine k_perm (wX3 E h cd n sc rt on lo hi son slo shi fs lf hf em le gr) [0, 1, 2, 3, 4, 5, 6, 7, 8, 9, 10, 11, 12, 13] (by decide) rfl ?_
  show kK g (wX3 E h cd n sc rt on lo hi son slo shi fs lf hf em le gr) [(0, .ref (h 0)), (1, .int p), (2, .int v)] 0 0 5 [.int r_1]
  refine k_iconst F (pc := 5) ((nI 1)) dX3_high_5 (by decide) ?_
  refine k_icmp_ne F (pc := 6) 16 dX3_high_6 (by decide) rfl (show (nI 1 : Int32).toInt = 1 by decide) (fun c_4 => ?_) (fun c_4 => ?_)
  · skip
    have hrn := rchV_n1 hre c_4
    refine k_ldc2 F (pc := 16) (4294967296) dX3_high_16 zm_X3_high_c90 ?_
    refine k_lret F Rr (pc := 19) dX3_high_19 ⟨4294967296, rfl, rfl, ?_⟩
    rw [bndV, if_neg]
    first
    | exact fun h => hrn h.1
    | (intro h; omega)
  · skip
    obtain ⟨hr1, hr2, hr3, hr4, hr5⟩ := rchV_1 hre c_4
    have hz_5 : p = nI p.toNatClampNeg := k_nC (by omega)
    have hz_5i := k_nCi (x := p) (by omega)
    refine k_iload_n F (pc := 9) 2 rfl dX3_high_9 rfl ?_
    refine k_callS F (pc := 10) [.int v] [] 1 (m_X3_isVariable l E v) dX3_high_10 gX3_high_X3_isVariable rfl (by decide +kernel) rfl ⟨rfl, rfl⟩ (by decide) rfl (Nat.le_of_ble_eq_true rfl) (by decide) ?_
    rintro v_8 ⟨r_6, rfl, hc_7⟩
    show kK g (wX3 E h cd n sc rt on lo hi son slo shi fs lf hf em le gr) [(0, .ref (h 0)), (1, .int p), (2, .int v)] 0 0 13 [.int (bI r_6)]
    refine k_if_neB F (pc := 13) 20 dX3_high_13 (by decide) (fun c_10 => ?_) (fun c_10 => ?_)
    · skip
      have hb_11 := hc_7.mp c_10
      have hz_12 : v = nI v.toNatClampNeg := k_nC (by omega)
      have hz_12i := k_nCi (x := v) (by omega)
      refine k_aload_n F (pc := 20) 0 rfl dX3_high_20 rfl ?_
      refine k_get F (pc := 21) (ref := RX3) (C := RX3) (T := TX3) (N := 8) (ci := 3) 0 5 dX3_high_21 zin_X3_high_X3 rfl rfl (by decide) zm_X3_high_f31 rfl rfl ?_
      refine k_iload_n F (pc := 24) 1 rfl dX3_high_24 rfl ?_
      refine k_topi (nI p.toNatClampNeg) hz_5 ?_
      refine k_iload_n F (pc := 25) 2 rfl dX3_high_25 rfl ?_
      refine k_topi (nI v.toNatClampNeg) hz_12 ?_
      refine k_callV F (pc := 26) (C := RX2) (T := TX2) (N := 3) (ci := 2) [.int (nI p.toNatClampNeg), .int (nI v.toNatClampNeg)] [] 2 (wX2 E (h 6) (h 7) (h 8) (h 9) son slo shi) [cObj (h 0) 3 [.ref (h 1), .int (nI n), .int (bI sc), .int (nI rt), .ref (h 2), .ref (h 6), .ref (h 10), .ref (h 13)], cInt E (h 1) 96 cd, cObj (h 2) 2 [.ref (h 3), .ref (h 4), .ref (h 5)], cBoo E (h 3) 24 on, cLng E (h 4) 96 lo, cLng E (h 5) 96 hi, cObj (h 10) 0 [.int (bI fs), .ref (h 11), .ref (h 12)], cLng E (h 11) 4 lf, cLng E (h 12) 4 hf, cObj (h 13) 1 [.int (bI em), .long le, .long gr]] [6, 7, 8, 9] [0, 1, 2, 3, 4, 5, 10, 11, 12, 13] (m_X2_highOf l E (h 6) (h 7) (h 8) (h 9) son slo shi p.toNatClampNeg v.toNatClampNeg (by omega) (by omega)) dX3_high_26 gX3_high_X2_highOf rfl (by decide +kernel) rfl ⟨rfl, rfl⟩ (by decide) rfl (Nat.le_of_ble_eq_true rfl) (by decide) rfl rfl rfl rfl (by decide) (by decide) (by decide) ?_
      rintro v_13 w_14 ⟨rfl, rfl⟩
      refine k_perm (wX3 E h cd n sc rt on lo hi son slo shi fs lf hf em le gr) [0, 1, 2, 3, 4, 5, 10, 11, 12, 13, 6, 7, 8, 9] (by decide) rfl ?_
      show kK g (wX3 E h cd n sc rt on lo hi son slo shi fs lf hf em le gr) [(0, .ref (h 0)), (1, .int p), (2, .int v)] 0 0 29 [.long (shi (4 * p.toNatClampNeg + v.toNatClampNeg))]
      refine k_lret F Rr (pc := 29) dX3_high_29 ⟨(shi (4 * p.toNatClampNeg + v.toNatClampNeg)), rfl, rfl, ?_⟩
      rw [bndV, if_pos ⟨hr1, by omega, by omega⟩]
    · skip
      have hb_15 := k_ff hc_7 c_10
      refine k_ldc2 F (pc := 16) (4294967296) dX3_high_16 zm_X3_high_c90 ?_
      refine k_lret F Rr (pc := 19) dX3_high_19 ⟨4294967296, rfl, rfl, ?_⟩
      rw [bndV, if_neg]
      first
      | exact fun h => hrn h.1
      | (intro h; omega)
theorem zm_X3_mayDivideByZero_f9 : (Cond.fieldLink RX3 9 RX3 "codes" "[I" : Cond) ∈ wsX3_mayDivideByZero := by decide +kernel
theorem zin_X3_mayDivideByZero_X3 : ∀ w ∈ u_ws RX3 TX3 8, w ∈ wsX3_mayDivideByZero := by decide +kernel
theorem zm_X3_mayDivideByZero_f31 : (Cond.fieldLink RX3 31 RX3 "settled" "LRangeScan$States;" : Cond) ∈ wsX3_mayDivideByZero := by decide +kernel
set_option maxHeartbeats 4000000 in
set_option maxRecDepth 100000 in
theorem m_X3_mayDivideByZero (l : Launch) (E : kE) (h : Nat → Nat) (cd : Nat → Int32) (n : Nat) (sc : Bool) (rt : Nat) (on : Nat → Bool) (lo : Nat → Int64) (hi : Nat → Int64) (son : Nat → Bool) (slo : Nat → Int64) (shi : Nat → Int64) (fs : Bool) (lf : Nat → Int64) (hf : Nat → Int64) (em : Bool) (le : Int64) (gr : Int64) (p : Nat) (hn : n ≤ 24) (hp : p < n) (ho : (cd (4 * p)).toInt = 6) (hok : okP cd p) : kC l yX3_mayDivideByZero wsX3_mayDivideByZero ({ frames := 1, cells := 0, slots := 0, locals := 22 } : Room) E [.ref (h 0), .int (nI p)] (wX3 E h cd n sc rt on lo hi son slo shi fs lf hf em le gr) 0 0 (fun v_ w_ => ∃ (r : Bool), v_ = some (.int (bI r)) ∧ w_ = (wX3 E h cd n sc rt on lo hi son slo shi fs lf hf em le gr) ∧ (r = true ↔ (¬ 0 < slo (4 * p + (cd (4 * p + 3)).toNatClampNeg) ∧ ¬ shi (4 * p + (cd (4 * p + 3)).toNatClampNeg) < 0))) := by
  refine kC.enter cX3_mayDivideByZero 3 (some .boolean) [(0, .ref (h 0)), (1, .int (nI p))] (by decide) rfl (Nat.le_of_ble_eq_true rfl) rfl ?_
  intro g F Rr
  refine k_aload_n F (pc := 0) 0 rfl dX3_mayDivideByZero_0 rfl ?_
  refine k_get F (pc := 1) (ref := RX3) (C := RX3) (T := TX3) (N := 8) (ci := 3) 0 0 dX3_mayDivideByZero_1 zin_X3_mayDivideByZero_X3 rfl rfl (by decide) zm_X3_mayDivideByZero_f9 rfl rfl ?_
  refine k_iload_n F (pc := 4) 1 rfl dX3_mayDivideByZero_4 rfl ?_
  refine k_iconst F (pc := 5) ((nI 4)) dX3_mayDivideByZero_5 (by decide) ?_
  refine k_imulC F (pc := 6) dX3_mayDivideByZero_6 ?_
  refine k_iconst F (pc := 7) ((nI 3)) dX3_mayDivideByZero_7 (by decide) ?_
  refine k_iaddN F (pc := 8) dX3_mayDivideByZero_8 ?_
  refine k_iald F (pc := 9) 1 dX3_mayDivideByZero_9 rfl (by omega) (by decide) ?_
  refine k_istore_n F (pc := 10) [(2, .int (cd (4 * p + 3))), (0, .ref (h 0)), (1, .int (nI p))] dX3_mayDivideByZero_10 rfl (by decide) rfl ?_
  obtain ⟨hc1, hc2⟩ := okP_c hok (by omega)
  refine k_aload_n F (pc := 11) 1 rfl dX3_mayDivideByZero_11 rfl ?_
  refine k_get F (pc := 12) (ref := RX3) (C := RX3) (T := TX3) (N := 8) (ci := 3) 0 5 dX3_mayDivideByZero_12 zin_X3_mayDivideByZero_X3 rfl rfl (by decide) zm_X3_mayDivideByZero_f31 rfl rfl ?_
  refine k_iload_n F (pc := 15) 2 rfl dX3_mayDivideByZero_15 rfl ?_
  refine k_iload_n F (pc := 16) 0 rfl dX3_mayDivideByZero_16 rfl ?_
  refine k_topi (nI ((cd (4 * p + 3)).toNatClampNeg)) hc1 ?_
  refine k_callV F (pc := 17) (C := RX2) (T := TX2) (N := 3) (ci := 2) [.int (nI p), .int (nI ((cd (4 * p + 3)).toNatClampNeg))] [] 2 (wX2 E (h 6) (h 7) (h 8) (h 9) son slo shi) [cObj (h 0) 3 [.ref (h 1), .int (nI n), .int (bI sc), .int (nI rt), .ref (h 2), .ref (h 6), .ref (h 10), .ref (h 13)], cInt E (h 1) 96 cd, cObj (h 2) 2 [.ref (h 3), .ref (h 4), .ref (h 5)], cBoo E (h 3) 24 on, cLng E (h 4) 96 lo, cLng E (h 5) 96 hi, cObj (h 10) 0 [.int (bI fs), .ref (h 11), .ref (h 12)], cLng E (h 11) 4 lf, cLng E (h 12) 4 hf, cObj (h 13) 1 [.int (bI em), .long le, .long gr]] [6, 7, 8, 9] [0, 1, 2, 3, 4, 5, 10, 11, 12, 13] (m_X2_lowOf l E (h 6) (h 7) (h 8) (h 9) son slo shi p ((cd (4 * p + 3)).toNatClampNeg) (by omega) (by omega)) dX3_mayDivideByZero_17 gX3_mayDivideByZero_X2_lowOf rfl (by decide +kernel) rfl ⟨rfl, rfl⟩ (by decide) rfl (Nat.le_of_ble_eq_true rfl) (by decide) rfl rfl rfl rfl (by decide) (by decide) (by decide) ?_
  rintro v_1 w_2 ⟨rfl, rfl⟩
  refine k_perm (wX3 E h cd n sc rt on lo hi son slo shi fs lf hf em le gr) [0, 1, 2, 3, 4, 5, 10, 11, 12, 13, 6, 7, 8, 9] (by decide) rfl ?_
  show kK g (wX3 E h cd n sc rt on lo hi son slo shi fs lf hf em le gr) [(2, .int (cd (4 * p + 3))), (0, .ref (h 0)), (1, .int (nI p))] 0 0 20 [.long (slo (4 * p + ((cd (4 * p + 3)).toNatClampNeg)))]
  refine k_lconst F (pc := 20) 0 dX3_mayDivideByZero_20 (by decide) ?_
  refine k_lcmp_gt F (pc := 21) 43 dX3_mayDivideByZero_21 dX3_mayDivideByZero_22 (by decide) (fun c_3 => ?_) (fun c_3 => ?_)
  · skip
    refine k_iconst F (pc := 43) ((nI 0)) dX3_mayDivideByZero_43 (by decide) ?_
    refine k_zret F Rr (pc := 44) false dX3_mayDivideByZero_44 rfl ⟨false, rfl, rfl, ?_⟩
    first
    | exact ⟨fun _ => ⟨by assumption, by assumption⟩, fun _ => rfl⟩
    | exact ⟨fun h => absurd h (by decide), fun h => absurd (by assumption) h.1⟩
    | exact ⟨fun h => absurd h (by decide), fun h => absurd (by assumption) h.2⟩
  · skip
    refine k_aload_n F (pc := 25) 1 rfl dX3_mayDivideByZero_25 rfl ?_
    refine k_get F (pc := 26) (ref := RX3) (C := RX3) (T := TX3) (N := 8) (ci := 3) 0 5 dX3_mayDivideByZero_26 zin_X3_mayDivideByZero_X3 rfl rfl (by decide) zm_X3_mayDivideByZero_f31 rfl rfl ?_
    refine k_iload_n F (pc := 29) 2 rfl dX3_mayDivideByZero_29 rfl ?_
    refine k_iload_n F (pc := 30) 0 rfl dX3_mayDivideByZero_30 rfl ?_
    refine k_topi (nI ((cd (4 * p + 3)).toNatClampNeg)) hc1 ?_
    refine k_callV F (pc := 31) (C := RX2) (T := TX2) (N := 3) (ci := 2) [.int (nI p), .int (nI ((cd (4 * p + 3)).toNatClampNeg))] [] 2 (wX2 E (h 6) (h 7) (h 8) (h 9) son slo shi) [cObj (h 0) 3 [.ref (h 1), .int (nI n), .int (bI sc), .int (nI rt), .ref (h 2), .ref (h 6), .ref (h 10), .ref (h 13)], cInt E (h 1) 96 cd, cObj (h 2) 2 [.ref (h 3), .ref (h 4), .ref (h 5)], cBoo E (h 3) 24 on, cLng E (h 4) 96 lo, cLng E (h 5) 96 hi, cObj (h 10) 0 [.int (bI fs), .ref (h 11), .ref (h 12)], cLng E (h 11) 4 lf, cLng E (h 12) 4 hf, cObj (h 13) 1 [.int (bI em), .long le, .long gr]] [6, 7, 8, 9] [0, 1, 2, 3, 4, 5, 10, 11, 12, 13] (m_X2_highOf l E (h 6) (h 7) (h 8) (h 9) son slo shi p ((cd (4 * p + 3)).toNatClampNeg) (by omega) (by omega)) dX3_mayDivideByZero_31 gX3_mayDivideByZero_X2_highOf rfl (by decide +kernel) rfl ⟨rfl, rfl⟩ (by decide) rfl (Nat.le_of_ble_eq_true rfl) (by decide) rfl rfl rfl rfl (by decide) (by decide) (by decide) ?_
    rintro v_4 w_5 ⟨rfl, rfl⟩
    refine k_perm (wX3 E h cd n sc rt on lo hi son slo shi fs lf hf em le gr) [0, 1, 2, 3, 4, 5, 10, 11, 12, 13, 6, 7, 8, 9] (by decide) rfl ?_
    show kK g (wX3 E h cd n sc rt on lo hi son slo shi fs lf hf em le gr) [(2, .int (cd (4 * p + 3))), (0, .ref (h 0)), (1, .int (nI p))] 0 0 34 [.long (shi (4 * p + ((cd (4 * p + 3)).toNatClampNeg)))]
    refine k_lconst F (pc := 34) 0 dX3_mayDivideByZero_34 (by decide) ?_
    refine k_lcmp_lt F (pc := 35) 43 dX3_mayDivideByZero_35 dX3_mayDivideByZero_36 (by decide) (fun c_6 => ?_) (fun c_6 => ?_)
    · skip
      refine k_iconst F (pc := 43) ((nI 0)) dX3_mayDivideByZero_43 (by decide) ?_
      refine k_zret F Rr (pc := 44) false dX3_mayDivideByZero_44 rfl ⟨false, rfl, rfl, ?_⟩
      first
      | exact ⟨fun _ => ⟨by assumption, by assumption⟩, fun _ => rfl⟩
      | exact ⟨fun h => absurd h (by decide), fun h => absurd (by assumption) h.1⟩
      | exact ⟨fun h => absurd h (by decide), fun h => absurd (by assumption) h.2⟩
    · skip
      refine k_iconst F (pc := 39) ((nI 1)) dX3_mayDivideByZero_39 (by decide) ?_
      refine k_goto F (pc := 40) 44 dX3_mayDivideByZero_40 (by decide) ?_
      refine k_zret F Rr (pc := 44) true dX3_mayDivideByZero_44 rfl ⟨true, rfl, rfl, ?_⟩
      first
      | exact ⟨fun _ => ⟨by assumption, by assumption⟩, fun _ => rfl⟩
      | exact ⟨fun h => absurd h (by decide), fun h => absurd (by assumption) h.1⟩
      | exact ⟨fun h => absurd h (by decide), fun h => absurd (by assumption) h.2⟩
theorem zm_X3_mayLeaveArray_f9 : (Cond.fieldLink RX3 9 RX3 "codes" "[I" : Cond) ∈ wsX3_mayLeaveArray := by decide +kernel
theorem zin_X3_mayLeaveArray_X3 : ∀ w ∈ u_ws RX3 TX3 8, w ∈ wsX3_mayLeaveArray := by decide +kernel
theorem zm_X3_mayLeaveArray_f31 : (Cond.fieldLink RX3 31 RX3 "settled" "LRangeScan$States;" : Cond) ∈ wsX3_mayLeaveArray := by decide +kernel
theorem zm_X3_mayLeaveArray_c201 : (Cond.constantLong RX3 201 (7) : Cond) ∈ wsX3_mayLeaveArray := by decide +kernel
set_option maxHeartbeats 4000000 in
set_option maxRecDepth 100000 in
theorem m_X3_mayLeaveArray (l : Launch) (E : kE) (h : Nat → Nat) (cd : Nat → Int32) (n : Nat) (sc : Bool) (rt : Nat) (on : Nat → Bool) (lo : Nat → Int64) (hi : Nat → Int64) (son : Nat → Bool) (slo : Nat → Int64) (shi : Nat → Int64) (fs : Bool) (lf : Nat → Int64) (hf : Nat → Int64) (em : Bool) (le : Int64) (gr : Int64) (p : Nat) (hn : n ≤ 24) (hp : p < n) (ho : (cd (4 * p)).toInt = 7 ∨ (cd (4 * p)).toInt = 8) (hok : okP cd p) : kC l yX3_mayLeaveArray wsX3_mayLeaveArray ({ frames := 1, cells := 0, slots := 0, locals := 22 } : Room) E [.ref (h 0), .int (nI p)] (wX3 E h cd n sc rt on lo hi son slo shi fs lf hf em le gr) 0 0 (fun v_ w_ => ∃ (r : Bool), v_ = some (.int (bI r)) ∧ w_ = (wX3 E h cd n sc rt on lo hi son slo shi fs lf hf em le gr) ∧ (r = true ↔ (slo (4 * p + (cd (4 * p + 2)).toNatClampNeg) < 0 ∨ 7 < shi (4 * p + (cd (4 * p + 2)).toNatClampNeg)))) := by
  refine kC.enter cX3_mayLeaveArray 3 (some .boolean) [(0, .ref (h 0)), (1, .int (nI p))] (by decide) rfl (Nat.le_of_ble_eq_true rfl) rfl ?_
  intro g F Rr
  refine k_aload_n F (pc := 0) 0 rfl dX3_mayLeaveArray_0 rfl ?_
  refine k_get F (pc := 1) (ref := RX3) (C := RX3) (T := TX3) (N := 8) (ci := 3) 0 0 dX3_mayLeaveArray_1 zin_X3_mayLeaveArray_X3 rfl rfl (by decide) zm_X3_mayLeaveArray_f9 rfl rfl ?_
  refine k_iload_n F (pc := 4) 1 rfl dX3_mayLeaveArray_4 rfl ?_
  refine k_iconst F (pc := 5) ((nI 4)) dX3_mayLeaveArray_5 (by decide) ?_
  refine k_imulC F (pc := 6) dX3_mayLeaveArray_6 ?_
  refine k_iconst F (pc := 7) ((nI 2)) dX3_mayLeaveArray_7 (by decide) ?_
  refine k_iaddN F (pc := 8) dX3_mayLeaveArray_8 ?_
  refine k_iald F (pc := 9) 1 dX3_mayLeaveArray_9 rfl (by omega) (by decide) ?_
  refine k_istore_n F (pc := 10) [(2, .int (cd (4 * p + 2))), (0, .ref (h 0)), (1, .int (nI p))] dX3_mayLeaveArray_10 rfl (by decide) rfl ?_
  obtain ⟨hc1, hc2⟩ := okP_b hok (by omega)
  refine k_aload_n F (pc := 11) 1 rfl dX3_mayLeaveArray_11 rfl ?_
  refine k_get F (pc := 12) (ref := RX3) (C := RX3) (T := TX3) (N := 8) (ci := 3) 0 5 dX3_mayLeaveArray_12 zin_X3_mayLeaveArray_X3 rfl rfl (by decide) zm_X3_mayLeaveArray_f31 rfl rfl ?_
  refine k_iload_n F (pc := 15) 2 rfl dX3_mayLeaveArray_15 rfl ?_
  refine k_iload_n F (pc := 16) 0 rfl dX3_mayLeaveArray_16 rfl ?_
  refine k_topi (nI ((cd (4 * p + 2)).toNatClampNeg)) hc1 ?_
  refine k_callV F (pc := 17) (C := RX2) (T := TX2) (N := 3) (ci := 2) [.int (nI p), .int (nI ((cd (4 * p + 2)).toNatClampNeg))] [] 2 (wX2 E (h 6) (h 7) (h 8) (h 9) son slo shi) [cObj (h 0) 3 [.ref (h 1), .int (nI n), .int (bI sc), .int (nI rt), .ref (h 2), .ref (h 6), .ref (h 10), .ref (h 13)], cInt E (h 1) 96 cd, cObj (h 2) 2 [.ref (h 3), .ref (h 4), .ref (h 5)], cBoo E (h 3) 24 on, cLng E (h 4) 96 lo, cLng E (h 5) 96 hi, cObj (h 10) 0 [.int (bI fs), .ref (h 11), .ref (h 12)], cLng E (h 11) 4 lf, cLng E (h 12) 4 hf, cObj (h 13) 1 [.int (bI em), .long le, .long gr]] [6, 7, 8, 9] [0, 1, 2, 3, 4, 5, 10, 11, 12, 13] (m_X2_lowOf l E (h 6) (h 7) (h 8) (h 9) son slo shi p ((cd (4 * p + 2)).toNatClampNeg) (by omega) (by omega)) dX3_mayLeaveArray_17 gX3_mayLeaveArray_X2_lowOf rfl (by decide +kernel) rfl ⟨rfl, rfl⟩ (by decide) rfl (Nat.le_of_ble_eq_true rfl) (by decide) rfl rfl rfl rfl (by decide) (by decide) (by decide) ?_
  rintro v_1 w_2 ⟨rfl, rfl⟩
  refine k_perm (wX3 E h cd n sc rt on lo hi son slo shi fs lf hf em le gr) [0, 1, 2, 3, 4, 5, 10, 11, 12, 13, 6, 7, 8, 9] (by decide) rfl ?_
  show kK g (wX3 E h cd n sc rt on lo hi son slo shi fs lf hf em le gr) [(2, .int (cd (4 * p + 2))), (0, .ref (h 0)), (1, .int (nI p))] 0 0 20 [.long (slo (4 * p + ((cd (4 * p + 2)).toNatClampNeg)))]
  refine k_lconst F (pc := 20) 0 dX3_mayLeaveArray_20 (by decide) ?_
  refine k_lcmp_lt F (pc := 21) 41 dX3_mayLeaveArray_21 dX3_mayLeaveArray_22 (by decide) (fun c_3 => ?_) (fun c_3 => ?_)
  · skip
    refine k_iconst F (pc := 41) ((nI 1)) dX3_mayLeaveArray_41 (by decide) ?_
    refine k_goto F (pc := 42) 46 dX3_mayLeaveArray_42 (by decide) ?_
    refine k_zret F Rr (pc := 46) true dX3_mayLeaveArray_46 rfl ⟨true, rfl, rfl, ?_⟩
    first
    | exact ⟨fun _ => Or.inl (by assumption), fun _ => rfl⟩
    | exact ⟨fun _ => Or.inr (by assumption), fun _ => rfl⟩
    | exact ⟨fun h => absurd h (by decide), fun h => by rcases h with h | h <;> exact absurd h (by assumption)⟩
  · skip
    refine k_aload_n F (pc := 25) 1 rfl dX3_mayLeaveArray_25 rfl ?_
    refine k_get F (pc := 26) (ref := RX3) (C := RX3) (T := TX3) (N := 8) (ci := 3) 0 5 dX3_mayLeaveArray_26 zin_X3_mayLeaveArray_X3 rfl rfl (by decide) zm_X3_mayLeaveArray_f31 rfl rfl ?_
    refine k_iload_n F (pc := 29) 2 rfl dX3_mayLeaveArray_29 rfl ?_
    refine k_iload_n F (pc := 30) 0 rfl dX3_mayLeaveArray_30 rfl ?_
    refine k_topi (nI ((cd (4 * p + 2)).toNatClampNeg)) hc1 ?_
    refine k_callV F (pc := 31) (C := RX2) (T := TX2) (N := 3) (ci := 2) [.int (nI p), .int (nI ((cd (4 * p + 2)).toNatClampNeg))] [] 2 (wX2 E (h 6) (h 7) (h 8) (h 9) son slo shi) [cObj (h 0) 3 [.ref (h 1), .int (nI n), .int (bI sc), .int (nI rt), .ref (h 2), .ref (h 6), .ref (h 10), .ref (h 13)], cInt E (h 1) 96 cd, cObj (h 2) 2 [.ref (h 3), .ref (h 4), .ref (h 5)], cBoo E (h 3) 24 on, cLng E (h 4) 96 lo, cLng E (h 5) 96 hi, cObj (h 10) 0 [.int (bI fs), .ref (h 11), .ref (h 12)], cLng E (h 11) 4 lf, cLng E (h 12) 4 hf, cObj (h 13) 1 [.int (bI em), .long le, .long gr]] [6, 7, 8, 9] [0, 1, 2, 3, 4, 5, 10, 11, 12, 13] (m_X2_highOf l E (h 6) (h 7) (h 8) (h 9) son slo shi p ((cd (4 * p + 2)).toNatClampNeg) (by omega) (by omega)) dX3_mayLeaveArray_31 gX3_mayLeaveArray_X2_highOf rfl (by decide +kernel) rfl ⟨rfl, rfl⟩ (by decide) rfl (Nat.le_of_ble_eq_true rfl) (by decide) rfl rfl rfl rfl (by decide) (by decide) (by decide) ?_
    rintro v_4 w_5 ⟨rfl, rfl⟩
    refine k_perm (wX3 E h cd n sc rt on lo hi son slo shi fs lf hf em le gr) [0, 1, 2, 3, 4, 5, 10, 11, 12, 13, 6, 7, 8, 9] (by decide) rfl ?_
    show kK g (wX3 E h cd n sc rt on lo hi son slo shi fs lf hf em le gr) [(2, .int (cd (4 * p + 2))), (0, .ref (h 0)), (1, .int (nI p))] 0 0 34 [.long (shi (4 * p + ((cd (4 * p + 2)).toNatClampNeg)))]
    refine k_ldc2 F (pc := 34) (7) dX3_mayLeaveArray_34 zm_X3_mayLeaveArray_c201 ?_
    refine k_lcmp_le F (pc := 37) 45 dX3_mayLeaveArray_37 dX3_mayLeaveArray_38 (by decide) (fun c_6 => ?_) (fun c_6 => ?_)
    · skip
      refine k_iconst F (pc := 45) ((nI 0)) dX3_mayLeaveArray_45 (by decide) ?_
      refine k_zret F Rr (pc := 46) false dX3_mayLeaveArray_46 rfl ⟨false, rfl, rfl, ?_⟩
      first
      | exact ⟨fun _ => Or.inl (by assumption), fun _ => rfl⟩
      | exact ⟨fun _ => Or.inr (by assumption), fun _ => rfl⟩
      | exact ⟨fun h => absurd h (by decide), fun h => by rcases h with h | h <;> exact absurd h (by assumption)⟩
    · skip
      refine k_iconst F (pc := 41) ((nI 1)) dX3_mayLeaveArray_41 (by decide) ?_
      refine k_goto F (pc := 42) 46 dX3_mayLeaveArray_42 (by decide) ?_
      refine k_zret F Rr (pc := 46) true dX3_mayLeaveArray_46 rfl ⟨true, rfl, rfl, ?_⟩
      first
      | exact ⟨fun _ => Or.inl (by assumption), fun _ => rfl⟩
      | exact ⟨fun _ => Or.inr (by assumption), fun _ => rfl⟩
      | exact ⟨fun h => absurd h (by decide), fun h => by rcases h with h | h <;> exact absurd h (by assumption)⟩
theorem zm_X3_alarm_f9 : (Cond.fieldLink RX3 9 RX3 "codes" "[I" : Cond) ∈ wsX3_alarm := by decide +kernel
theorem zin_X3_alarm_X3 : ∀ w ∈ u_ws RX3 TX3 8, w ∈ wsX3_alarm := by decide +kernel
set_option maxHeartbeats 4000000 in
set_option maxRecDepth 100000 in
theorem m_X3_alarm (l : Launch) (E : kE) (h : Nat → Nat) (cd : Nat → Int32) (n : Nat) (sc : Bool) (rt : Nat) (on : Nat → Bool) (lo : Nat → Int64) (hi : Nat → Int64) (son : Nat → Bool) (slo : Nat → Int64) (shi : Nat → Int64) (fs : Bool) (lf : Nat → Int64) (hf : Nat → Int64) (em : Bool) (le : Int64) (gr : Int64) (p : Int32) (hn : n ≤ 24) (hok : ∀ p, p < n → okP cd p) : kC l yX3_alarm wsX3_alarm ({ frames := 2, cells := 0, slots := 0, locals := 44 } : Room) E [.ref (h 0), .int p] (wX3 E h cd n sc rt on lo hi son slo shi fs lf hf em le gr) 0 0 (fun v_ w_ => ∃ (r : Int32), v_ = some (.int r) ∧ w_ = (wX3 E h cd n sc rt on lo hi son slo shi fs lf hf em le gr) ∧ (r = almV cd sc n son slo shi p)) := by
  refine kC.enter cX3_alarm 2 (some .int) [(0, .ref (h 0)), (1, .int p)] (by decide) rfl (Nat.le_of_ble_eq_true rfl) rfl ?_
  intro g F Rr
  refine k_aload_n F (pc := 0) 0 rfl dX3_alarm_0 rfl ?_
  refine k_iload_n F (pc := 1) 1 rfl dX3_alarm_1 rfl ?_
  refine k_callV F (pc := 2) (C := RX3) (T := TX3) (N := 8) (ci := 3) [.int p] [] 1 (wX3 E h cd n sc rt on lo hi son slo shi fs lf hf em le gr) [] [0, 1, 2, 3, 4, 5, 6, 7, 8, 9, 10, 11, 12, 13] [] (m_X3_reached l E h cd n sc rt on lo hi son slo shi fs lf hf em le gr p (by omega)) dX3_alarm_2 gX3_alarm_X3_reached rfl (by decide +kernel) rfl ⟨rfl, rfl⟩ (by decide) rfl (Nat.le_of_ble_eq_true rfl) (by decide) rfl rfl rfl rfl (by decide) (by decide) (by decide) ?_
  rintro v_2 w_3 ⟨r_1, rfl, rfl, hre⟩
  refine k_perm (wX3 E h cd n sc rt on lo hi son slo shi fs lf hf em le gr) [0, 1, 2, 3, 4, 5, 6, 7, 8, 9, 10, 11, 12, 13] (by decide) rfl ?_
  show kK g (wX3 E h cd n sc rt on lo hi son slo shi fs lf hf em le gr) [(0, .ref (h 0)), (1, .int p)] 0 0 5 [.int r_1]
  refine k_iconst F (pc := 5) ((nI 1)) dX3_alarm_5 (by decide) ?_
  refine k_icmp_eq F (pc := 6) 11 dX3_alarm_6 (by decide) rfl (show (nI 1 : Int32).toInt = 1 by decide) (fun c_4 => ?_) (fun c_4 => ?_)
  · skip
    obtain ⟨hr1, hr2, hr3, hr4, hr5⟩ := rchV_1 hre c_4
    have hz_5 : p = nI p.toNatClampNeg := k_nC (by omega)
    have hz_5i := k_nCi (x := p) (by omega)
    refine k_aload_n F (pc := 11) 0 rfl dX3_alarm_11 rfl ?_
    refine k_get F (pc := 12) (ref := RX3) (C := RX3) (T := TX3) (N := 8) (ci := 3) 0 0 dX3_alarm_12 zin_X3_alarm_X3 rfl rfl (by decide) zm_X3_alarm_f9 rfl rfl ?_
    refine k_iload_n F (pc := 15) 1 rfl dX3_alarm_15 rfl ?_
    refine k_topi (nI p.toNatClampNeg) hz_5 ?_
    refine k_iconst F (pc := 16) ((nI 4)) dX3_alarm_16 (by decide) ?_
    refine k_imulC F (pc := 17) dX3_alarm_17 ?_
    refine k_iconst F (pc := 18) ((nI 0)) dX3_alarm_18 (by decide) ?_
    refine k_iadd0 F (pc := 19) dX3_alarm_19 ?_
    refine k_iald F (pc := 20) 1 dX3_alarm_20 rfl (by omega) (by decide) ?_
    by_cases c_6 : (cd (4 * p.toNatClampNeg)).toInt = 6
    · skip
      refine k_tabIn F (pc := 21) 6 48 dX3_alarm_21 c_6 (by decide) (by decide) rfl (by decide) ?_
      refine k_aload_n F (pc := 48) 0 rfl dX3_alarm_48 rfl ?_
      refine k_iload_n F (pc := 49) 1 rfl dX3_alarm_49 rfl ?_
      refine k_topi (nI p.toNatClampNeg) hz_5 ?_
      refine k_callV F (pc := 50) (C := RX3) (T := TX3) (N := 8) (ci := 3) [.int (nI p.toNatClampNeg)] [] 1 (wX3 E h cd n sc rt on lo hi son slo shi fs lf hf em le gr) [] [0, 1, 2, 3, 4, 5, 6, 7, 8, 9, 10, 11, 12, 13] [] (m_X3_mayDivideByZero l E h cd n sc rt on lo hi son slo shi fs lf hf em le gr p.toNatClampNeg (by omega) (by omega) (by assumption) (hok _ (by omega))) dX3_alarm_50 gX3_alarm_X3_mayDivideByZero rfl (by decide +kernel) rfl ⟨rfl, rfl⟩ (by decide) rfl (Nat.le_of_ble_eq_true rfl) (by decide) rfl rfl rfl rfl (by decide) (by decide) (by decide) ?_
      rintro v_9 w_10 ⟨r_7, rfl, rfl, hc_8⟩
      refine k_perm (wX3 E h cd n sc rt on lo hi son slo shi fs lf hf em le gr) [0, 1, 2, 3, 4, 5, 6, 7, 8, 9, 10, 11, 12, 13] (by decide) rfl ?_
      show kK g (wX3 E h cd n sc rt on lo hi son slo shi fs lf hf em le gr) [(0, .ref (h 0)), (1, .int p)] 0 0 53 [.int (bI r_7)]
      refine k_if_eqB F (pc := 53) 60 dX3_alarm_53 (by decide) (fun c_11 => ?_) (fun c_11 => ?_)
      · skip
        have hb_12 := k_ff hc_8 c_11
        refine k_iconst F (pc := 60) ((nI 0)) dX3_alarm_60 (by decide) ?_
        refine k_iret F Rr (pc := 61) dX3_alarm_61 ⟨(nI 0), rfl, rfl, ?_⟩
        rw [almV, if_pos hr1, if_pos (by assumption)]
        first
        | (rw [if_pos (by assumption)]; rfl)
        | (rw [if_neg (by assumption)]; rfl)
      · skip
        have hb_13 := hc_8.mp c_11
        refine k_iconst F (pc := 56) ((nI 1)) dX3_alarm_56 (by decide) ?_
        refine k_goto F (pc := 57) 61 dX3_alarm_57 (by decide) ?_
        refine k_iret F Rr (pc := 61) dX3_alarm_61 ⟨(nI 1), rfl, rfl, ?_⟩
        rw [almV, if_pos hr1, if_pos (by assumption)]
        first
        | (rw [if_pos (by assumption)]; rfl)
        | (rw [if_neg (by assumption)]; rfl)
    by_cases c_14 : (cd (4 * p.toNatClampNeg)).toInt = 7
    · skip
      refine k_tabIn F (pc := 21) 7 62 dX3_alarm_21 c_14 (by decide) (by decide) rfl (by decide) ?_
      refine k_aload_n F (pc := 62) 0 rfl dX3_alarm_62 rfl ?_
      refine k_iload_n F (pc := 63) 1 rfl dX3_alarm_63 rfl ?_
      refine k_topi (nI p.toNatClampNeg) hz_5 ?_
      refine k_callV F (pc := 64) (C := RX3) (T := TX3) (N := 8) (ci := 3) [.int (nI p.toNatClampNeg)] [] 1 (wX3 E h cd n sc rt on lo hi son slo shi fs lf hf em le gr) [] [0, 1, 2, 3, 4, 5, 6, 7, 8, 9, 10, 11, 12, 13] [] (m_X3_mayLeaveArray l E h cd n sc rt on lo hi son slo shi fs lf hf em le gr p.toNatClampNeg (by omega) (by omega) (by omega) (hok _ (by omega))) dX3_alarm_64 gX3_alarm_X3_mayLeaveArray rfl (by decide +kernel) rfl ⟨rfl, rfl⟩ (by decide) rfl (Nat.le_of_ble_eq_true rfl) (by decide) rfl rfl rfl rfl (by decide) (by decide) (by decide) ?_
      rintro v_17 w_18 ⟨r_15, rfl, rfl, hc_16⟩
      refine k_perm (wX3 E h cd n sc rt on lo hi son slo shi fs lf hf em le gr) [0, 1, 2, 3, 4, 5, 6, 7, 8, 9, 10, 11, 12, 13] (by decide) rfl ?_
      show kK g (wX3 E h cd n sc rt on lo hi son slo shi fs lf hf em le gr) [(0, .ref (h 0)), (1, .int p)] 0 0 67 [.int (bI r_15)]
      refine k_if_eqB F (pc := 67) 74 dX3_alarm_67 (by decide) (fun c_19 => ?_) (fun c_19 => ?_)
      · skip
        have hb_20 := k_ff hc_16 c_19
        refine k_iconst F (pc := 74) ((nI 0)) dX3_alarm_74 (by decide) ?_
        refine k_iret F Rr (pc := 75) dX3_alarm_75 ⟨(nI 0), rfl, rfl, ?_⟩
        rw [almV, if_pos hr1, if_neg (by omega), if_pos (by omega)]
        first
        | (rw [if_pos (by assumption)]; rfl)
        | (rw [if_neg (by assumption)]; rfl)
      · skip
        have hb_21 := hc_16.mp c_19
        refine k_iconst F (pc := 70) ((nI 2)) dX3_alarm_70 (by decide) ?_
        refine k_goto F (pc := 71) 75 dX3_alarm_71 (by decide) ?_
        refine k_iret F Rr (pc := 75) dX3_alarm_75 ⟨(nI 2), rfl, rfl, ?_⟩
        rw [almV, if_pos hr1, if_neg (by omega), if_pos (by omega)]
        first
        | (rw [if_pos (by assumption)]; rfl)
        | (rw [if_neg (by assumption)]; rfl)
    by_cases c_22 : (cd (4 * p.toNatClampNeg)).toInt = 8
    · skip
      refine k_tabIn F (pc := 21) 8 62 dX3_alarm_21 c_22 (by decide) (by decide) rfl (by decide) ?_
      refine k_aload_n F (pc := 62) 0 rfl dX3_alarm_62 rfl ?_
      refine k_iload_n F (pc := 63) 1 rfl dX3_alarm_63 rfl ?_
      refine k_topi (nI p.toNatClampNeg) hz_5 ?_
      refine k_callV F (pc := 64) (C := RX3) (T := TX3) (N := 8) (ci := 3) [.int (nI p.toNatClampNeg)] [] 1 (wX3 E h cd n sc rt on lo hi son slo shi fs lf hf em le gr) [] [0, 1, 2, 3, 4, 5, 6, 7, 8, 9, 10, 11, 12, 13] [] (m_X3_mayLeaveArray l E h cd n sc rt on lo hi son slo shi fs lf hf em le gr p.toNatClampNeg (by omega) (by omega) (by omega) (hok _ (by omega))) dX3_alarm_64 gX3_alarm_X3_mayLeaveArray rfl (by decide +kernel) rfl ⟨rfl, rfl⟩ (by decide) rfl (Nat.le_of_ble_eq_true rfl) (by decide) rfl rfl rfl rfl (by decide) (by decide) (by decide) ?_
      rintro v_25 w_26 ⟨r_23, rfl, rfl, hc_24⟩
      refine k_perm (wX3 E h cd n sc rt on lo hi son slo shi fs lf hf em le gr) [0, 1, 2, 3, 4, 5, 6, 7, 8, 9, 10, 11, 12, 13] (by decide) rfl ?_
      show kK g (wX3 E h cd n sc rt on lo hi son slo shi fs lf hf em le gr) [(0, .ref (h 0)), (1, .int p)] 0 0 67 [.int (bI r_23)]
      refine k_if_eqB F (pc := 67) 74 dX3_alarm_67 (by decide) (fun c_27 => ?_) (fun c_27 => ?_)
      · skip
        have hb_28 := k_ff hc_24 c_27
        refine k_iconst F (pc := 74) ((nI 0)) dX3_alarm_74 (by decide) ?_
        refine k_iret F Rr (pc := 75) dX3_alarm_75 ⟨(nI 0), rfl, rfl, ?_⟩
        rw [almV, if_pos hr1, if_neg (by omega), if_pos (by omega)]
        first
        | (rw [if_pos (by assumption)]; rfl)
        | (rw [if_neg (by assumption)]; rfl)
      · skip
        have hb_29 := hc_24.mp c_27
        refine k_iconst F (pc := 70) ((nI 2)) dX3_alarm_70 (by decide) ?_
        refine k_goto F (pc := 71) 75 dX3_alarm_71 (by decide) ?_
        refine k_iret F Rr (pc := 75) dX3_alarm_75 ⟨(nI 2), rfl, rfl, ?_⟩
        rw [almV, if_pos hr1, if_neg (by omega), if_pos (by omega)]
        first
        | (rw [if_pos (by assumption)]; rfl)
        | (rw [if_neg (by assumption)]; rfl)
    refine k_tabOut F (pc := 21) 76 dX3_alarm_21 (by omega) (by decide) ?_
    refine k_iconst F (pc := 76) ((nI 0)) dX3_alarm_76 (by decide) ?_
    refine k_iret F Rr (pc := 77) dX3_alarm_77 ⟨(nI 0), rfl, rfl, ?_⟩
    rw [almV, if_pos hr1, if_neg (by omega), if_neg (by omega)]; rfl
  · skip
    have hrn := rchV_n1 hre c_4
    refine k_iconst F (pc := 9) ((nI 0)) dX3_alarm_9 (by decide) ?_
    refine k_iret F Rr (pc := 10) dX3_alarm_10 ⟨(nI 0), rfl, rfl, ?_⟩
    rw [almV, if_neg hrn]; rfl
theorem zm_X3_countAlarms_f13 : (Cond.fieldLink RX3 13 RX3 "count" "I" : Cond) ∈ wsX3_countAlarms := by decide +kernel
theorem zin_X3_countAlarms_X3 : ∀ w ∈ u_ws RX3 TX3 8, w ∈ wsX3_countAlarms := by decide +kernel
set_option maxHeartbeats 4000000 in
set_option maxRecDepth 100000 in
theorem m_X3_countAlarms (l : Launch) (E : kE) (h : Nat → Nat) (cd : Nat → Int32) (n : Nat) (sc : Bool) (rt : Nat) (on : Nat → Bool) (lo : Nat → Int64) (hi : Nat → Int64) (son : Nat → Bool) (slo : Nat → Int64) (shi : Nat → Int64) (fs : Bool) (lf : Nat → Int64) (hf : Nat → Int64) (em : Bool) (le : Int64) (gr : Int64) (hn : n ≤ 24) (hok : ∀ p, p < n → okP cd p) : kC l yX3_countAlarms wsX3_countAlarms ({ frames := 3, cells := 0, slots := 0, locals := 65 } : Room) E [.ref (h 0)] (wX3 E h cd n sc rt on lo hi son slo shi fs lf hf em le gr) 0 0 (fun v_ w_ => ∃ (r : Nat), v_ = some (.int (nI r)) ∧ w_ = (wX3 E h cd n sc rt on lo hi son slo shi fs lf hf em le gr) ∧ (r = cntV cd sc n son slo shi n)) := by
  refine kC.enter cX3_countAlarms 3 (some .int) [(0, .ref (h 0))] (by decide) rfl (Nat.le_of_ble_eq_true rfl) rfl ?_
  intro g F Rr
  refine k_iconst F (pc := 0) ((nI 0)) dX3_countAlarms_0 (by decide) ?_
  refine k_istore_n F (pc := 1) [(1, .int (nI 0)), (0, .ref (h 0))] dX3_countAlarms_1 rfl (by decide) rfl ?_
  refine k_iconst F (pc := 2) ((nI 0)) dX3_countAlarms_2 (by decide) ?_
  refine k_istore_n F (pc := 3) [(2, .int (nI 0)), (1, .int (nI 0)), (0, .ref (h 0))] dX3_countAlarms_3 rfl (by decide) rfl ?_
  have L4 : ∀ (d_ : Nat) (i : Nat) (k : Nat), n - i < d_ → (i ≤ n) → (k = cntV cd sc n son slo shi i) → (k ≤ i) → kK g (wX3 E h cd n sc rt on lo hi son slo shi fs lf hf em le gr) [(0, .ref (h 0)), (1, .int (nI k)), (2, .int (nI i))] 0 0 4 [] := by
    intro d_
    induction d_ with
    | zero => intro i k hm; exact absurd hm (Nat.not_lt_zero _)
    | succ d_ ih4 =>
      intro i k hm4 hin hk hki
      refine k_iload_n F (pc := 4) 2 rfl dX3_countAlarms_4 rfl ?_
      refine k_aload_n F (pc := 5) 0 rfl dX3_countAlarms_5 rfl ?_
      refine k_get F (pc := 6) (ref := RX3) (C := RX3) (T := TX3) (N := 8) (ci := 3) 0 1 dX3_countAlarms_6 zin_X3_countAlarms_X3 rfl rfl (by decide) zm_X3_countAlarms_f13 rfl rfl ?_
      refine k_icmp_ge F (pc := 9) 29 dX3_countAlarms_9 (by decide) (nI_toInt (by omega)) (nI_toInt (by omega)) (fun c_1 => ?_) (fun c_1 => ?_)
      · skip
        refine k_iload_n F (pc := 29) 1 rfl dX3_countAlarms_29 rfl ?_
        refine k_iret F Rr (pc := 30) dX3_countAlarms_30 ⟨k, rfl, rfl, ?_⟩
        rw [hk, show i = n by omega]
      · skip
        refine k_aload_n F (pc := 12) 0 rfl dX3_countAlarms_12 rfl ?_
        refine k_iload_n F (pc := 13) 2 rfl dX3_countAlarms_13 rfl ?_
        refine k_callV F (pc := 14) (C := RX3) (T := TX3) (N := 8) (ci := 3) [.int (nI i)] [] 1 (wX3 E h cd n sc rt on lo hi son slo shi fs lf hf em le gr) [] [0, 1, 2, 3, 4, 5, 6, 7, 8, 9, 10, 11, 12, 13] [] (m_X3_alarm l E h cd n sc rt on lo hi son slo shi fs lf hf em le gr (nI i) (by omega) hok) dX3_countAlarms_14 gX3_countAlarms_X3_alarm rfl (by decide +kernel) rfl ⟨rfl, rfl⟩ (by decide) rfl (Nat.le_of_ble_eq_true rfl) (by decide) rfl rfl rfl rfl (by decide) (by decide) (by decide) ?_
        rintro v_3 w_4 ⟨r_2, rfl, rfl, hal⟩
        refine k_perm (wX3 E h cd n sc rt on lo hi son slo shi fs lf hf em le gr) [0, 1, 2, 3, 4, 5, 6, 7, 8, 9, 10, 11, 12, 13] (by decide) rfl ?_
        show kK g (wX3 E h cd n sc rt on lo hi son slo shi fs lf hf em le gr) [(0, .ref (h 0)), (1, .int (nI k)), (2, .int (nI i))] 0 0 17 [.int r_2]
        refine k_if_eq F (pc := 17) 23 dX3_countAlarms_17 (by decide) rfl (fun c_5 => ?_) (fun c_5 => ?_)
        · skip
          refine k_iinc F (pc := 23) 2 ((nI (i + 1))) [(2, .int (nI (i + 1))), (0, .ref (h 0)), (1, .int (nI k))] dX3_countAlarms_23 rfl (nI_1 i) (by decide) rfl ?_
          refine k_goto F (pc := 26) 4 dX3_countAlarms_26 (by decide) ?_
          refine k_lv [(0, .ref (h 0)), (1, .int (nI k)), (2, .int (nI (i + 1)))] [1, 2, 0] rfl ?_
          exact ih4 (i + 1) k (by omega) (by omega) (by rw [cntV, hk]; first | rw [if_pos (by rw [← hal]; assumption)] | rw [if_neg (by rw [← hal]; assumption)]) (by omega)
        · skip
          refine k_iinc F (pc := 20) 1 ((nI (k + 1))) [(1, .int (nI (k + 1))), (0, .ref (h 0)), (2, .int (nI i))] dX3_countAlarms_20 rfl (nI_1 k) (by decide) rfl ?_
          refine k_iinc F (pc := 23) 2 ((nI (i + 1))) [(2, .int (nI (i + 1))), (1, .int (nI (k + 1))), (0, .ref (h 0))] dX3_countAlarms_23 rfl (nI_1 i) (by decide) rfl ?_
          refine k_goto F (pc := 26) 4 dX3_countAlarms_26 (by decide) ?_
          refine k_lv [(0, .ref (h 0)), (1, .int (nI (k + 1))), (2, .int (nI (i + 1)))] [2, 1, 0] rfl ?_
          exact ih4 (i + 1) (k + 1) (by omega) (by omega) (by rw [cntV, hk]; first | rw [if_pos (by rw [← hal]; assumption)] | rw [if_neg (by rw [← hal]; assumption)]) (by omega)
  refine k_lv [(0, .ref (h 0)), (1, .int (nI 0)), (2, .int (nI 0))] [2, 1, 0] rfl ?_
  exact L4 (n - 0 + 1) 0 0 (Nat.lt_succ_self _) (by omega) (by rfl) (by omega)
end
section
set_option maxHeartbeats 4000000 in
set_option maxRecDepth 100000 in
theorem m_X3_exactResult (l : Launch) (E : kE) (o : Int32) (x : Int64) (y : Int64) (hy : o.toInt = 3 ∨ o.toInt = 4 ∨ o.toInt = 5 ∨ ¬ y = 0) : kC l yX3_exactResult wsX3_exactResult ({ frames := 0, cells := 0, slots := 0, locals := 0 } : Room) E [.int o, .long x, .long y] [] 0 0 (fun v_ w_ => w_ = [] ∧ v_ = some (.long (ex o.toInt x y))) := by
  refine kC.enter cX3_exactResult 5 (some .long) [(0, .int o), (1, .long x), (3, .long y)] (by decide) rfl (Nat.le_of_ble_eq_true rfl) rfl ?_
  intro g F Rr
  refine k_iload_n F (pc := 0) 0 rfl dX3_exactResult_0 rfl ?_
  by_cases c_1 : o.toInt = 3
  · skip
    refine k_tabIn F (pc := 1) 3 28 dX3_exactResult_1 c_1 (by decide) (by decide) rfl (by decide) ?_
    refine k_lload_n F (pc := 28) 1 rfl dX3_exactResult_28 rfl ?_
    refine k_lload_n F (pc := 29) 2 rfl dX3_exactResult_29 rfl ?_
    refine k_ladd F (pc := 30) dX3_exactResult_30 ?_
    exact k_lret F Rr (pc := 31) dX3_exactResult_31 ⟨rfl, (by rw [ex, if_pos (by assumption)])⟩
  by_cases c_2 : o.toInt = 4
  · skip
    refine k_tabIn F (pc := 1) 4 32 dX3_exactResult_1 c_2 (by decide) (by decide) rfl (by decide) ?_
    refine k_lload_n F (pc := 32) 1 rfl dX3_exactResult_32 rfl ?_
    refine k_lload_n F (pc := 33) 2 rfl dX3_exactResult_33 rfl ?_
    refine k_lsub F (pc := 34) dX3_exactResult_34 ?_
    exact k_lret F Rr (pc := 35) dX3_exactResult_35 ⟨rfl, (by rw [ex, if_neg (by omega), if_pos (by assumption)])⟩
  by_cases c_3 : o.toInt = 5
  · skip
    refine k_tabIn F (pc := 1) 5 36 dX3_exactResult_1 c_3 (by decide) (by decide) rfl (by decide) ?_
    refine k_lload_n F (pc := 36) 1 rfl dX3_exactResult_36 rfl ?_
    refine k_lload_n F (pc := 37) 2 rfl dX3_exactResult_37 rfl ?_
    refine k_lmul F (pc := 38) dX3_exactResult_38 ?_
    exact k_lret F Rr (pc := 39) dX3_exactResult_39 ⟨rfl, (by rw [ex, if_neg (by omega), if_neg (by omega), if_pos (by assumption)])⟩
  refine k_tabOut F (pc := 1) 40 dX3_exactResult_1 (by omega) (by decide) ?_
  refine k_lload_n F (pc := 40) 2 rfl dX3_exactResult_40 rfl ?_
  refine k_lconst F (pc := 41) 0 dX3_exactResult_41 (by decide) ?_
  refine k_lcmp_ne F (pc := 42) 50 dX3_exactResult_42 dX3_exactResult_43 (by decide) (fun c_4 => ?_) (fun c_4 => ?_)
  · skip
    refine k_lload_n F (pc := 50) 1 rfl dX3_exactResult_50 rfl ?_
    refine k_lload_n F (pc := 51) 2 rfl dX3_exactResult_51 rfl ?_
    refine k_ldiv F (pc := 52) dX3_exactResult_52 (by assumption) ?_
    exact k_lret F Rr (pc := 53) dX3_exactResult_53 ⟨rfl, (by first | (rw [ex, if_neg (by omega), if_neg (by omega), if_neg (by omega)]; done) | (exfalso; rcases hy with h | h | h | h; omega; omega; omega; exact h (by assumption)))⟩
  · skip
    refine k_lconst F (pc := 46) 0 dX3_exactResult_46 (by decide) ?_
    refine k_goto F (pc := 47) 53 dX3_exactResult_47 (by decide) ?_
    exact k_lret F Rr (pc := 53) dX3_exactResult_53 ⟨rfl, (by first | (rw [ex, if_neg (by omega), if_neg (by omega), if_neg (by omega)]; done) | (exfalso; rcases hy with h | h | h | h; omega; omega; omega; exact h (by assumption)))⟩
theorem zm_X3_takeEnds_f37 : (Cond.fieldLink RX3 37 RX3 "flow" "LRangeScan$Flow;" : Cond) ∈ wsX3_takeEnds := by decide +kernel
theorem zin_X3_takeEnds_X3 : ∀ w ∈ u_ws RX3 TX3 8, w ∈ wsX3_takeEnds := by decide +kernel
theorem zm_X3_takeEnds_f44 : (Cond.fieldLink RX3 44 RX3 "results" "LRangeScan$Results;" : Cond) ∈ wsX3_takeEnds := by decide +kernel
set_option maxHeartbeats 4000000 in
set_option maxRecDepth 100000 in
theorem m_X3_takeEnds (l : Launch) (E : kE) (h : Nat → Nat) (cd : Nat → Int32) (n : Nat) (sc : Bool) (rt : Nat) (on : Nat → Bool) (lo : Nat → Int64) (hi : Nat → Int64) (son : Nat → Bool) (slo : Nat → Int64) (shi : Nat → Int64) (fs : Bool) (lf : Nat → Int64) (hf : Nat → Int64) (em : Bool) (le : Int64) (gr : Int64) (o : Int32) (b : Nat) (f : Int64) (t : Int64) (rs : RS) (hb : b < 4) (hrr : RRep em le gr rs) (hy : t < f ∨ o.toInt = 3 ∨ o.toInt = 4 ∨ o.toInt = 5 ∨ (¬ f = 0 ∧ ¬ t = 0)) : kC l yX3_takeEnds wsX3_takeEnds ({ frames := 1, cells := 0, slots := 0, locals := 24 } : Room) E [.ref (h 0), .int o, .int (nI b), .long f, .long t] (wX3 E h cd n sc rt on lo hi son slo shi fs lf hf em le gr) 0 0 (fun v_ w_ => ∃ (em1 : Bool) (le1 : Int64) (gr1 : Int64), v_ = none ∧ w_ = (wX3 E h cd n sc rt on lo hi son slo shi fs lf hf em1 le1 gr1) ∧ (RRep em1 le1 gr1 (if t < f then rs else tk4 o.toInt (lf b) (hf b) f t rs))) := by
  refine kC.enter cX3_takeEnds 11 none [(0, .ref (h 0)), (1, .int o), (2, .int (nI b)), (3, .long f), (5, .long t)] (by decide) rfl (Nat.le_of_ble_eq_true rfl) rfl ?_
  intro g F Rr
  refine k_lload_n F (pc := 0) 3 rfl dX3_takeEnds_0 rfl ?_
  refine k_lload F (pc := 1) 4 rfl dX3_takeEnds_1 ?_
  refine k_lcmp_le F (pc := 3) 8 dX3_takeEnds_3 dX3_takeEnds_4 (by decide) (fun c_1 => ?_) (fun c_1 => ?_)
  · skip
    refine k_aload_n F (pc := 8) 0 rfl dX3_takeEnds_8 rfl ?_
    refine k_get F (pc := 9) (ref := RX3) (C := RX3) (T := TX3) (N := 8) (ci := 3) 0 6 dX3_takeEnds_9 zin_X3_takeEnds_X3 rfl rfl (by decide) zm_X3_takeEnds_f37 rfl rfl ?_
    refine k_iload_n F (pc := 12) 2 rfl dX3_takeEnds_12 rfl ?_
    refine k_callV F (pc := 13) (C := RX0) (T := TX0) (N := 3) (ci := 0) [.int (nI b)] [] 1 (wX0 E (h 10) (h 11) (h 12) fs lf hf) [cObj (h 0) 3 [.ref (h 1), .int (nI n), .int (bI sc), .int (nI rt), .ref (h 2), .ref (h 6), .ref (h 10), .ref (h 13)], cInt E (h 1) 96 cd, cObj (h 2) 2 [.ref (h 3), .ref (h 4), .ref (h 5)], cBoo E (h 3) 24 on, cLng E (h 4) 96 lo, cLng E (h 5) 96 hi, cObj (h 6) 2 [.ref (h 7), .ref (h 8), .ref (h 9)], cBoo E (h 7) 24 son, cLng E (h 8) 96 slo, cLng E (h 9) 96 shi, cObj (h 13) 1 [.int (bI em), .long le, .long gr]] [10, 11, 12] [0, 1, 2, 3, 4, 5, 6, 7, 8, 9, 13] (m_X0_lowOf l E (h 10) (h 11) (h 12) fs lf hf b (by omega)) dX3_takeEnds_13 gX3_takeEnds_X0_lowOf rfl (by decide +kernel) rfl ⟨rfl, rfl⟩ (by decide) rfl (Nat.le_of_ble_eq_true rfl) (by decide) rfl rfl rfl rfl (by decide) (by decide) (by decide) ?_
    rintro v_2 w_3 ⟨rfl, rfl⟩
    refine k_perm (wX3 E h cd n sc rt on lo hi son slo shi fs lf hf em le gr) [0, 1, 2, 3, 4, 5, 6, 7, 8, 9, 11, 12, 13, 10] (by decide) rfl ?_
    show kK g (wX3 E h cd n sc rt on lo hi son slo shi fs lf hf em le gr) [(0, .ref (h 0)), (1, .int o), (2, .int (nI b)), (3, .long f), (5, .long t)] 0 0 16 [.long (lf b)]
    refine k_lstore F (pc := 16) [(7, .long (lf b)), (0, .ref (h 0)), (1, .int o), (2, .int (nI b)), (3, .long f), (5, .long t)] dX3_takeEnds_16 (by decide) rfl ?_
    refine k_aload_n F (pc := 18) 1 rfl dX3_takeEnds_18 rfl ?_
    refine k_get F (pc := 19) (ref := RX3) (C := RX3) (T := TX3) (N := 8) (ci := 3) 0 6 dX3_takeEnds_19 zin_X3_takeEnds_X3 rfl rfl (by decide) zm_X3_takeEnds_f37 rfl rfl ?_
    refine k_iload_n F (pc := 22) 3 rfl dX3_takeEnds_22 rfl ?_
    refine k_callV F (pc := 23) (C := RX0) (T := TX0) (N := 3) (ci := 0) [.int (nI b)] [] 1 (wX0 E (h 10) (h 11) (h 12) fs lf hf) [cObj (h 0) 3 [.ref (h 1), .int (nI n), .int (bI sc), .int (nI rt), .ref (h 2), .ref (h 6), .ref (h 10), .ref (h 13)], cInt E (h 1) 96 cd, cObj (h 2) 2 [.ref (h 3), .ref (h 4), .ref (h 5)], cBoo E (h 3) 24 on, cLng E (h 4) 96 lo, cLng E (h 5) 96 hi, cObj (h 6) 2 [.ref (h 7), .ref (h 8), .ref (h 9)], cBoo E (h 7) 24 son, cLng E (h 8) 96 slo, cLng E (h 9) 96 shi, cObj (h 13) 1 [.int (bI em), .long le, .long gr]] [10, 11, 12] [0, 1, 2, 3, 4, 5, 6, 7, 8, 9, 13] (m_X0_highOf l E (h 10) (h 11) (h 12) fs lf hf b (by omega)) dX3_takeEnds_23 gX3_takeEnds_X0_highOf rfl (by decide +kernel) rfl ⟨rfl, rfl⟩ (by decide) rfl (Nat.le_of_ble_eq_true rfl) (by decide) rfl rfl rfl rfl (by decide) (by decide) (by decide) ?_
    rintro v_4 w_5 ⟨rfl, rfl⟩
    refine k_perm (wX3 E h cd n sc rt on lo hi son slo shi fs lf hf em le gr) [0, 1, 2, 3, 4, 5, 6, 7, 8, 9, 11, 12, 13, 10] (by decide) rfl ?_
    show kK g (wX3 E h cd n sc rt on lo hi son slo shi fs lf hf em le gr) [(7, .long (lf b)), (0, .ref (h 0)), (1, .int o), (2, .int (nI b)), (3, .long f), (5, .long t)] 0 0 26 [.long (hf b)]
    refine k_lstore F (pc := 26) [(9, .long (hf b)), (7, .long (lf b)), (0, .ref (h 0)), (1, .int o), (2, .int (nI b)), (3, .long f), (5, .long t)] dX3_takeEnds_26 (by decide) rfl ?_
    refine k_aload_n F (pc := 28) 2 rfl dX3_takeEnds_28 rfl ?_
    refine k_get F (pc := 29) (ref := RX3) (C := RX3) (T := TX3) (N := 8) (ci := 3) 0 7 dX3_takeEnds_29 zin_X3_takeEnds_X3 rfl rfl (by decide) zm_X3_takeEnds_f44 rfl rfl ?_
    refine k_iload_n F (pc := 32) 3 rfl dX3_takeEnds_32 rfl ?_
    refine k_lload F (pc := 33) 1 rfl dX3_takeEnds_33 ?_
    refine k_lload_n F (pc := 35) 5 rfl dX3_takeEnds_35 rfl ?_
    refine k_callS F (pc := 36) [.int o, .long (lf b), .long f] [.ref (h 13)] 3 (m_X3_exactResult l E o (lf b) f (exr_f hy (by assumption))) dX3_takeEnds_36 gX3_takeEnds_X3_exactResult rfl (by decide +kernel) rfl ⟨rfl, rfl⟩ (by decide) rfl (Nat.le_of_ble_eq_true rfl) (by decide) ?_
    rintro v_6 rfl
    show kK g (wX3 E h cd n sc rt on lo hi son slo shi fs lf hf em le gr) [(9, .long (hf b)), (7, .long (lf b)), (0, .ref (h 0)), (1, .int o), (2, .int (nI b)), (3, .long f), (5, .long t)] 0 0 39 [.long (ex o.toInt (lf b) f), .ref (h 13)]
    refine k_callV F (pc := 39) (C := RX1) (T := TX1) (N := 3) (ci := 1) [.long (ex o.toInt (lf b) f)] [] 1 (wX1 E (h 13) em le gr) [cObj (h 0) 3 [.ref (h 1), .int (nI n), .int (bI sc), .int (nI rt), .ref (h 2), .ref (h 6), .ref (h 10), .ref (h 13)], cInt E (h 1) 96 cd, cObj (h 2) 2 [.ref (h 3), .ref (h 4), .ref (h 5)], cBoo E (h 3) 24 on, cLng E (h 4) 96 lo, cLng E (h 5) 96 hi, cObj (h 6) 2 [.ref (h 7), .ref (h 8), .ref (h 9)], cBoo E (h 7) 24 son, cLng E (h 8) 96 slo, cLng E (h 9) 96 shi, cObj (h 10) 0 [.int (bI fs), .ref (h 11), .ref (h 12)], cLng E (h 11) 4 lf, cLng E (h 12) 4 hf] [13] [0, 1, 2, 3, 4, 5, 6, 7, 8, 9, 10, 11, 12] (m_X1_take l E (h 13) em le gr (ex o.toInt (lf b) f)) dX3_takeEnds_39 gX3_takeEnds_X1_take rfl (by decide +kernel) rfl ⟨rfl, rfl⟩ (by decide) rfl (Nat.le_of_ble_eq_true rfl) (by decide) rfl rfl rfl rfl (by decide) (by decide) (by decide) ?_
    rintro v_10 w_11 ⟨le1_8, gr1_9, rfl, rfl, ht1⟩
    refine k_perm (wX3 E h cd n sc rt on lo hi son slo shi fs lf hf false le1_8 gr1_9) [0, 1, 2, 3, 4, 5, 6, 7, 8, 9, 10, 11, 12, 13] (by decide) rfl ?_
    show kK g (wX3 E h cd n sc rt on lo hi son slo shi fs lf hf false le1_8 gr1_9) [(9, .long (hf b)), (7, .long (lf b)), (0, .ref (h 0)), (1, .int o), (2, .int (nI b)), (3, .long f), (5, .long t)] 0 0 42 []
    refine k_aload_n F (pc := 42) 2 rfl dX3_takeEnds_42 rfl ?_
    refine k_get F (pc := 43) (ref := RX3) (C := RX3) (T := TX3) (N := 8) (ci := 3) 0 7 dX3_takeEnds_43 zin_X3_takeEnds_X3 rfl rfl (by decide) zm_X3_takeEnds_f44 rfl rfl ?_
    refine k_iload_n F (pc := 46) 3 rfl dX3_takeEnds_46 rfl ?_
    refine k_lload F (pc := 47) 1 rfl dX3_takeEnds_47 ?_
    refine k_lload F (pc := 49) 6 rfl dX3_takeEnds_49 ?_
    refine k_callS F (pc := 51) [.int o, .long (lf b), .long t] [.ref (h 13)] 3 (m_X3_exactResult l E o (lf b) t (exr_t hy (by assumption))) dX3_takeEnds_51 gX3_takeEnds_X3_exactResult rfl (by decide +kernel) rfl ⟨rfl, rfl⟩ (by decide) rfl (Nat.le_of_ble_eq_true rfl) (by decide) ?_
    rintro v_12 rfl
    show kK g (wX3 E h cd n sc rt on lo hi son slo shi fs lf hf false le1_8 gr1_9) [(9, .long (hf b)), (7, .long (lf b)), (0, .ref (h 0)), (1, .int o), (2, .int (nI b)), (3, .long f), (5, .long t)] 0 0 54 [.long (ex o.toInt (lf b) t), .ref (h 13)]
    refine k_callV F (pc := 54) (C := RX1) (T := TX1) (N := 3) (ci := 1) [.long (ex o.toInt (lf b) t)] [] 1 (wX1 E (h 13) false le1_8 gr1_9) [cObj (h 0) 3 [.ref (h 1), .int (nI n), .int (bI sc), .int (nI rt), .ref (h 2), .ref (h 6), .ref (h 10), .ref (h 13)], cInt E (h 1) 96 cd, cObj (h 2) 2 [.ref (h 3), .ref (h 4), .ref (h 5)], cBoo E (h 3) 24 on, cLng E (h 4) 96 lo, cLng E (h 5) 96 hi, cObj (h 6) 2 [.ref (h 7), .ref (h 8), .ref (h 9)], cBoo E (h 7) 24 son, cLng E (h 8) 96 slo, cLng E (h 9) 96 shi, cObj (h 10) 0 [.int (bI fs), .ref (h 11), .ref (h 12)], cLng E (h 11) 4 lf, cLng E (h 12) 4 hf] [13] [0, 1, 2, 3, 4, 5, 6, 7, 8, 9, 10, 11, 12] (m_X1_take l E (h 13) false le1_8 gr1_9 (ex o.toInt (lf b) t)) dX3_takeEnds_54 gX3_takeEnds_X1_take rfl (by decide +kernel) rfl ⟨rfl, rfl⟩ (by decide) rfl (Nat.le_of_ble_eq_true rfl) (by decide) rfl rfl rfl rfl (by decide) (by decide) (by decide) ?_
    rintro v_16 w_17 ⟨le1_14, gr1_15, rfl, rfl, ht2⟩
    refine k_perm (wX3 E h cd n sc rt on lo hi son slo shi fs lf hf false le1_14 gr1_15) [0, 1, 2, 3, 4, 5, 6, 7, 8, 9, 10, 11, 12, 13] (by decide) rfl ?_
    show kK g (wX3 E h cd n sc rt on lo hi son slo shi fs lf hf false le1_14 gr1_15) [(9, .long (hf b)), (7, .long (lf b)), (0, .ref (h 0)), (1, .int o), (2, .int (nI b)), (3, .long f), (5, .long t)] 0 0 57 []
    refine k_aload_n F (pc := 57) 2 rfl dX3_takeEnds_57 rfl ?_
    refine k_get F (pc := 58) (ref := RX3) (C := RX3) (T := TX3) (N := 8) (ci := 3) 0 7 dX3_takeEnds_58 zin_X3_takeEnds_X3 rfl rfl (by decide) zm_X3_takeEnds_f44 rfl rfl ?_
    refine k_iload_n F (pc := 61) 3 rfl dX3_takeEnds_61 rfl ?_
    refine k_lload F (pc := 62) 0 rfl dX3_takeEnds_62 ?_
    refine k_lload_n F (pc := 64) 5 rfl dX3_takeEnds_64 rfl ?_
    refine k_callS F (pc := 65) [.int o, .long (hf b), .long f] [.ref (h 13)] 3 (m_X3_exactResult l E o (hf b) f (exr_f hy (by assumption))) dX3_takeEnds_65 gX3_takeEnds_X3_exactResult rfl (by decide +kernel) rfl ⟨rfl, rfl⟩ (by decide) rfl (Nat.le_of_ble_eq_true rfl) (by decide) ?_
    rintro v_18 rfl
    show kK g (wX3 E h cd n sc rt on lo hi son slo shi fs lf hf false le1_14 gr1_15) [(9, .long (hf b)), (7, .long (lf b)), (0, .ref (h 0)), (1, .int o), (2, .int (nI b)), (3, .long f), (5, .long t)] 0 0 68 [.long (ex o.toInt (hf b) f), .ref (h 13)]
    refine k_callV F (pc := 68) (C := RX1) (T := TX1) (N := 3) (ci := 1) [.long (ex o.toInt (hf b) f)] [] 1 (wX1 E (h 13) false le1_14 gr1_15) [cObj (h 0) 3 [.ref (h 1), .int (nI n), .int (bI sc), .int (nI rt), .ref (h 2), .ref (h 6), .ref (h 10), .ref (h 13)], cInt E (h 1) 96 cd, cObj (h 2) 2 [.ref (h 3), .ref (h 4), .ref (h 5)], cBoo E (h 3) 24 on, cLng E (h 4) 96 lo, cLng E (h 5) 96 hi, cObj (h 6) 2 [.ref (h 7), .ref (h 8), .ref (h 9)], cBoo E (h 7) 24 son, cLng E (h 8) 96 slo, cLng E (h 9) 96 shi, cObj (h 10) 0 [.int (bI fs), .ref (h 11), .ref (h 12)], cLng E (h 11) 4 lf, cLng E (h 12) 4 hf] [13] [0, 1, 2, 3, 4, 5, 6, 7, 8, 9, 10, 11, 12] (m_X1_take l E (h 13) false le1_14 gr1_15 (ex o.toInt (hf b) f)) dX3_takeEnds_68 gX3_takeEnds_X1_take rfl (by decide +kernel) rfl ⟨rfl, rfl⟩ (by decide) rfl (Nat.le_of_ble_eq_true rfl) (by decide) rfl rfl rfl rfl (by decide) (by decide) (by decide) ?_
    rintro v_22 w_23 ⟨le1_20, gr1_21, rfl, rfl, ht3⟩
    refine k_perm (wX3 E h cd n sc rt on lo hi son slo shi fs lf hf false le1_20 gr1_21) [0, 1, 2, 3, 4, 5, 6, 7, 8, 9, 10, 11, 12, 13] (by decide) rfl ?_
    show kK g (wX3 E h cd n sc rt on lo hi son slo shi fs lf hf false le1_20 gr1_21) [(9, .long (hf b)), (7, .long (lf b)), (0, .ref (h 0)), (1, .int o), (2, .int (nI b)), (3, .long f), (5, .long t)] 0 0 71 []
    refine k_aload_n F (pc := 71) 2 rfl dX3_takeEnds_71 rfl ?_
    refine k_get F (pc := 72) (ref := RX3) (C := RX3) (T := TX3) (N := 8) (ci := 3) 0 7 dX3_takeEnds_72 zin_X3_takeEnds_X3 rfl rfl (by decide) zm_X3_takeEnds_f44 rfl rfl ?_
    refine k_iload_n F (pc := 75) 3 rfl dX3_takeEnds_75 rfl ?_
    refine k_lload F (pc := 76) 0 rfl dX3_takeEnds_76 ?_
    refine k_lload F (pc := 78) 6 rfl dX3_takeEnds_78 ?_
    refine k_callS F (pc := 80) [.int o, .long (hf b), .long t] [.ref (h 13)] 3 (m_X3_exactResult l E o (hf b) t (exr_t hy (by assumption))) dX3_takeEnds_80 gX3_takeEnds_X3_exactResult rfl (by decide +kernel) rfl ⟨rfl, rfl⟩ (by decide) rfl (Nat.le_of_ble_eq_true rfl) (by decide) ?_
    rintro v_24 rfl
    show kK g (wX3 E h cd n sc rt on lo hi son slo shi fs lf hf false le1_20 gr1_21) [(9, .long (hf b)), (7, .long (lf b)), (0, .ref (h 0)), (1, .int o), (2, .int (nI b)), (3, .long f), (5, .long t)] 0 0 83 [.long (ex o.toInt (hf b) t), .ref (h 13)]
    refine k_callV F (pc := 83) (C := RX1) (T := TX1) (N := 3) (ci := 1) [.long (ex o.toInt (hf b) t)] [] 1 (wX1 E (h 13) false le1_20 gr1_21) [cObj (h 0) 3 [.ref (h 1), .int (nI n), .int (bI sc), .int (nI rt), .ref (h 2), .ref (h 6), .ref (h 10), .ref (h 13)], cInt E (h 1) 96 cd, cObj (h 2) 2 [.ref (h 3), .ref (h 4), .ref (h 5)], cBoo E (h 3) 24 on, cLng E (h 4) 96 lo, cLng E (h 5) 96 hi, cObj (h 6) 2 [.ref (h 7), .ref (h 8), .ref (h 9)], cBoo E (h 7) 24 son, cLng E (h 8) 96 slo, cLng E (h 9) 96 shi, cObj (h 10) 0 [.int (bI fs), .ref (h 11), .ref (h 12)], cLng E (h 11) 4 lf, cLng E (h 12) 4 hf] [13] [0, 1, 2, 3, 4, 5, 6, 7, 8, 9, 10, 11, 12] (m_X1_take l E (h 13) false le1_20 gr1_21 (ex o.toInt (hf b) t)) dX3_takeEnds_83 gX3_takeEnds_X1_take rfl (by decide +kernel) rfl ⟨rfl, rfl⟩ (by decide) rfl (Nat.le_of_ble_eq_true rfl) (by decide) rfl rfl rfl rfl (by decide) (by decide) (by decide) ?_
    rintro v_28 w_29 ⟨le1_26, gr1_27, rfl, rfl, ht4⟩
    refine k_perm (wX3 E h cd n sc rt on lo hi son slo shi fs lf hf false le1_26 gr1_27) [0, 1, 2, 3, 4, 5, 6, 7, 8, 9, 10, 11, 12, 13] (by decide) rfl ?_
    show kK g (wX3 E h cd n sc rt on lo hi son slo shi fs lf hf false le1_26 gr1_27) [(9, .long (hf b)), (7, .long (lf b)), (0, .ref (h 0)), (1, .int o), (2, .int (nI b)), (3, .long f), (5, .long t)] 0 0 86 []
    refine k_vret F Rr (pc := 86) dX3_takeEnds_86 ⟨false, le1_26, gr1_27, rfl, rfl, ?_⟩
    rw [if_neg (by assumption)]; exact ht4 _ (ht3 _ (ht2 _ (ht1 _ hrr)))
  · skip
    refine k_vret F Rr (pc := 7) dX3_takeEnds_7 ⟨em, le, gr, rfl, rfl, ?_⟩
    rw [if_pos (by assumption)]; exact hrr
theorem zm_X3_calculate_f37 : (Cond.fieldLink RX3 37 RX3 "flow" "LRangeScan$Flow;" : Cond) ∈ wsX3_calculate := by decide +kernel
theorem zin_X3_calculate_X3 : ∀ w ∈ u_ws RX3 TX3 8, w ∈ wsX3_calculate := by decide +kernel
theorem zm_X3_calculate_f44 : (Cond.fieldLink RX3 44 RX3 "results" "LRangeScan$Results;" : Cond) ∈ wsX3_calculate := by decide +kernel
theorem zm_X3_calculate_c166 : (Cond.constantLong RX3 166 (-1) : Cond) ∈ wsX3_calculate := by decide +kernel
theorem zm_X3_calculate_min168a : (Cond.methodLink RX3 168 Lib.MathLoose.min_long.x : Cond) ∈ wsX3_calculate := by decide +kernel
theorem zm_X3_calculate_minb : (Cond.static Lib.MathLoose.min_long.x : Cond) ∈ wsX3_calculate := by decide +kernel
theorem zm_X3_calculate_mathc : (Cond.initialized "java/lang/Math" : Cond) ∈ wsX3_calculate := by decide +kernel
theorem zm_X3_calculate_mind : (Cond.code Lib.MathLoose.min_long.x Lib.MathLoose.min_long.code 4 (some .long) : Cond) ∈ wsX3_calculate := by decide +kernel
theorem zm_X3_calculate_max178a : (Cond.methodLink RX3 178 Lib.MathLoose.max_long.x : Cond) ∈ wsX3_calculate := by decide +kernel
theorem zm_X3_calculate_maxb : (Cond.static Lib.MathLoose.max_long.x : Cond) ∈ wsX3_calculate := by decide +kernel
theorem zm_X3_calculate_maxd : (Cond.code Lib.MathLoose.max_long.x Lib.MathLoose.max_long.code 4 (some .long) : Cond) ∈ wsX3_calculate := by decide +kernel
set_option maxHeartbeats 4000000 in
set_option maxRecDepth 100000 in
theorem m_X3_calculate (l : Launch) (E : kE) (h : Nat → Nat) (cd : Nat → Int32) (n : Nat) (sc : Bool) (rt : Nat) (on : Nat → Bool) (lo : Nat → Int64) (hi : Nat → Int64) (son : Nat → Bool) (slo : Nat → Int64) (shi : Nat → Int64) (fs : Bool) (lf : Nat → Int64) (hf : Nat → Int64) (em : Bool) (le : Int64) (gr : Int64) (o : Int32) (b : Nat) (c : Nat) (hb : b < 4) (hc : c < 4) (ho : 3 ≤ o.toInt ∧ o.toInt ≤ 6) (hle : (lf c).toInt ≤ (hf c).toInt) : kC l yX3_calculate wsX3_calculate ({ frames := 2, cells := 0, slots := 0, locals := 54 } : Room) E [.ref (h 0), .int o, .int (nI b), .int (nI c)] (wX3 E h cd n sc rt on lo hi son slo shi fs lf hf em le gr) 0 0 (fun v_ w_ => ∃ (em1 : Bool) (le1 : Int64) (gr1 : Int64), v_ = none ∧ w_ = (wX3 E h cd n sc rt on lo hi son slo shi fs lf hf em1 le1 gr1) ∧ (RRep em1 le1 gr1 (calcR o.toInt (lf b) (hf b) (lf c) (hf c)))) := by
  refine kC.enter cX3_calculate 8 none [(0, .ref (h 0)), (1, .int o), (2, .int (nI b)), (3, .int (nI c))] (by decide) rfl (Nat.le_of_ble_eq_true rfl) rfl ?_
  intro g F Rr
  refine k_aload_n F (pc := 0) 0 rfl dX3_calculate_0 rfl ?_
  refine k_get F (pc := 1) (ref := RX3) (C := RX3) (T := TX3) (N := 8) (ci := 3) 0 6 dX3_calculate_1 zin_X3_calculate_X3 rfl rfl (by decide) zm_X3_calculate_f37 rfl rfl ?_
  refine k_iload_n F (pc := 4) 3 rfl dX3_calculate_4 rfl ?_
  refine k_callV F (pc := 5) (C := RX0) (T := TX0) (N := 3) (ci := 0) [.int (nI c)] [] 1 (wX0 E (h 10) (h 11) (h 12) fs lf hf) [cObj (h 0) 3 [.ref (h 1), .int (nI n), .int (bI sc), .int (nI rt), .ref (h 2), .ref (h 6), .ref (h 10), .ref (h 13)], cInt E (h 1) 96 cd, cObj (h 2) 2 [.ref (h 3), .ref (h 4), .ref (h 5)], cBoo E (h 3) 24 on, cLng E (h 4) 96 lo, cLng E (h 5) 96 hi, cObj (h 6) 2 [.ref (h 7), .ref (h 8), .ref (h 9)], cBoo E (h 7) 24 son, cLng E (h 8) 96 slo, cLng E (h 9) 96 shi, cObj (h 13) 1 [.int (bI em), .long le, .long gr]] [10, 11, 12] [0, 1, 2, 3, 4, 5, 6, 7, 8, 9, 13] (m_X0_lowOf l E (h 10) (h 11) (h 12) fs lf hf c (by omega)) dX3_calculate_5 gX3_calculate_X0_lowOf rfl (by decide +kernel) rfl ⟨rfl, rfl⟩ (by decide) rfl (Nat.le_of_ble_eq_true rfl) (by decide) rfl rfl rfl rfl (by decide) (by decide) (by decide) ?_
  rintro v_1 w_2 ⟨rfl, rfl⟩
  refine k_perm (wX3 E h cd n sc rt on lo hi son slo shi fs lf hf em le gr) [0, 1, 2, 3, 4, 5, 6, 7, 8, 9, 11, 12, 13, 10] (by decide) rfl ?_
  show kK g (wX3 E h cd n sc rt on lo hi son slo shi fs lf hf em le gr) [(0, .ref (h 0)), (1, .int o), (2, .int (nI b)), (3, .int (nI c))] 0 0 8 [.long (lf c)]
  refine k_lstore F (pc := 8) [(4, .long (lf c)), (0, .ref (h 0)), (1, .int o), (2, .int (nI b)), (3, .int (nI c))] dX3_calculate_8 (by decide) rfl ?_
  refine k_aload_n F (pc := 10) 1 rfl dX3_calculate_10 rfl ?_
  refine k_get F (pc := 11) (ref := RX3) (C := RX3) (T := TX3) (N := 8) (ci := 3) 0 6 dX3_calculate_11 zin_X3_calculate_X3 rfl rfl (by decide) zm_X3_calculate_f37 rfl rfl ?_
  refine k_iload_n F (pc := 14) 4 rfl dX3_calculate_14 rfl ?_
  refine k_callV F (pc := 15) (C := RX0) (T := TX0) (N := 3) (ci := 0) [.int (nI c)] [] 1 (wX0 E (h 10) (h 11) (h 12) fs lf hf) [cObj (h 0) 3 [.ref (h 1), .int (nI n), .int (bI sc), .int (nI rt), .ref (h 2), .ref (h 6), .ref (h 10), .ref (h 13)], cInt E (h 1) 96 cd, cObj (h 2) 2 [.ref (h 3), .ref (h 4), .ref (h 5)], cBoo E (h 3) 24 on, cLng E (h 4) 96 lo, cLng E (h 5) 96 hi, cObj (h 6) 2 [.ref (h 7), .ref (h 8), .ref (h 9)], cBoo E (h 7) 24 son, cLng E (h 8) 96 slo, cLng E (h 9) 96 shi, cObj (h 13) 1 [.int (bI em), .long le, .long gr]] [10, 11, 12] [0, 1, 2, 3, 4, 5, 6, 7, 8, 9, 13] (m_X0_highOf l E (h 10) (h 11) (h 12) fs lf hf c (by omega)) dX3_calculate_15 gX3_calculate_X0_highOf rfl (by decide +kernel) rfl ⟨rfl, rfl⟩ (by decide) rfl (Nat.le_of_ble_eq_true rfl) (by decide) rfl rfl rfl rfl (by decide) (by decide) (by decide) ?_
  rintro v_3 w_4 ⟨rfl, rfl⟩
  refine k_perm (wX3 E h cd n sc rt on lo hi son slo shi fs lf hf em le gr) [0, 1, 2, 3, 4, 5, 6, 7, 8, 9, 11, 12, 13, 10] (by decide) rfl ?_
  show kK g (wX3 E h cd n sc rt on lo hi son slo shi fs lf hf em le gr) [(4, .long (lf c)), (0, .ref (h 0)), (1, .int o), (2, .int (nI b)), (3, .int (nI c))] 0 0 18 [.long (hf c)]
  refine k_lstore F (pc := 18) [(6, .long (hf c)), (4, .long (lf c)), (0, .ref (h 0)), (1, .int o), (2, .int (nI b)), (3, .int (nI c))] dX3_calculate_18 (by decide) rfl ?_
  refine k_aload_n F (pc := 20) 2 rfl dX3_calculate_20 rfl ?_
  refine k_get F (pc := 21) (ref := RX3) (C := RX3) (T := TX3) (N := 8) (ci := 3) 0 7 dX3_calculate_21 zin_X3_calculate_X3 rfl rfl (by decide) zm_X3_calculate_f44 rfl rfl ?_
  refine k_callV F (pc := 24) (C := RX1) (T := TX1) (N := 3) (ci := 1) [] [] 0 (wX1 E (h 13) em le gr) [cObj (h 0) 3 [.ref (h 1), .int (nI n), .int (bI sc), .int (nI rt), .ref (h 2), .ref (h 6), .ref (h 10), .ref (h 13)], cInt E (h 1) 96 cd, cObj (h 2) 2 [.ref (h 3), .ref (h 4), .ref (h 5)], cBoo E (h 3) 24 on, cLng E (h 4) 96 lo, cLng E (h 5) 96 hi, cObj (h 6) 2 [.ref (h 7), .ref (h 8), .ref (h 9)], cBoo E (h 7) 24 son, cLng E (h 8) 96 slo, cLng E (h 9) 96 shi, cObj (h 10) 0 [.int (bI fs), .ref (h 11), .ref (h 12)], cLng E (h 11) 4 lf, cLng E (h 12) 4 hf] [13] [0, 1, 2, 3, 4, 5, 6, 7, 8, 9, 10, 11, 12] (m_X1_forget l E (h 13) em le gr) dX3_calculate_24 gX3_calculate_X1_forget rfl (by decide +kernel) rfl ⟨rfl, rfl⟩ (by decide) rfl (Nat.le_of_ble_eq_true rfl) (by decide) rfl rfl rfl rfl (by decide) (by decide) (by decide) ?_
  rintro v_5 w_6 ⟨rfl, rfl⟩
  refine k_perm (wX3 E h cd n sc rt on lo hi son slo shi fs lf hf true le gr) [0, 1, 2, 3, 4, 5, 6, 7, 8, 9, 10, 11, 12, 13] (by decide) rfl ?_
  show kK g (wX3 E h cd n sc rt on lo hi son slo shi fs lf hf true le gr) [(6, .long (hf c)), (4, .long (lf c)), (0, .ref (h 0)), (1, .int o), (2, .int (nI b)), (3, .int (nI c))] 0 0 27 []
  refine k_iload_n F (pc := 27) 3 rfl dX3_calculate_27 rfl ?_
  refine k_bipush F (pc := 28) ((nI 6)) dX3_calculate_28 (by decide) ?_
  refine k_icmp_ne F (pc := 30) 66 dX3_calculate_30 (by decide) rfl (show (nI 6 : Int32).toInt = 6 by decide) (fun c_7 => ?_) (fun c_7 => ?_)
  · skip
    refine k_aload_n F (pc := 66) 2 rfl dX3_calculate_66 rfl ?_
    refine k_iload_n F (pc := 67) 3 rfl dX3_calculate_67 rfl ?_
    refine k_iload_n F (pc := 68) 4 rfl dX3_calculate_68 rfl ?_
    refine k_lload F (pc := 69) 1 rfl dX3_calculate_69 ?_
    refine k_lload F (pc := 71) 0 rfl dX3_calculate_71 ?_
    refine k_callV F (pc := 73) (C := RX3) (T := TX3) (N := 8) (ci := 3) [.int o, .int (nI b), .long (lf c), .long (hf c)] [] 4 (wX3 E h cd n sc rt on lo hi son slo shi fs lf hf true le gr) [] [0, 1, 2, 3, 4, 5, 6, 7, 8, 9, 10, 11, 12, 13] [] (m_X3_takeEnds l E h cd n sc rt on lo hi son slo shi fs lf hf true le gr o b (lf c) (hf c) none (by omega) ⟨fun _ => rfl, fun a b h => by cases h⟩ (by omega)) dX3_calculate_73 gX3_calculate_X3_takeEnds rfl (by decide +kernel) rfl ⟨rfl, rfl⟩ (by decide) rfl (Nat.le_of_ble_eq_true rfl) (by decide) rfl rfl rfl rfl (by decide) (by decide) (by decide) ?_
    rintro v_11 w_12 ⟨em1_8, le1_9, gr1_10, rfl, rfl, h3⟩
    refine k_perm (wX3 E h cd n sc rt on lo hi son slo shi fs lf hf em1_8 le1_9 gr1_10) [0, 1, 2, 3, 4, 5, 6, 7, 8, 9, 10, 11, 12, 13] (by decide) rfl ?_
    show kK g (wX3 E h cd n sc rt on lo hi son slo shi fs lf hf em1_8 le1_9 gr1_10) [(6, .long (hf c)), (4, .long (lf c)), (0, .ref (h 0)), (1, .int o), (2, .int (nI b)), (3, .int (nI c))] 0 0 76 []
    refine k_vret F Rr (pc := 76) dX3_calculate_76 ⟨em1_8, le1_9, gr1_10, rfl, rfl, ?_⟩
    first
    | (rw [(by assumption : o.toInt = 6)] at h2 ⊢; rw [← calc6 hle]; exact h2)
    | (rw [calcR, if_neg (by assumption)]; rw [if_neg (by rw [Int64.lt_iff_toInt_lt]; omega)] at h3; exact h3)
  · skip
    refine k_aload_n F (pc := 33) 2 rfl dX3_calculate_33 rfl ?_
    refine k_iload_n F (pc := 34) 3 rfl dX3_calculate_34 rfl ?_
    refine k_iload_n F (pc := 35) 4 rfl dX3_calculate_35 rfl ?_
    refine k_lload F (pc := 36) 1 rfl dX3_calculate_36 ?_
    refine k_lload F (pc := 38) 0 rfl dX3_calculate_38 ?_
    refine k_ldc2 F (pc := 40) (-1) dX3_calculate_40 zm_X3_calculate_c166 ?_
    refine k_mmin F (pc := 43) dX3_calculate_43 zm_X3_calculate_min168a zm_X3_calculate_minb zm_X3_calculate_mathc zm_X3_calculate_mind (by decide) (Nat.le_of_ble_eq_true rfl) (by decide) (by decide) ?_
    refine k_callV F (pc := 46) (C := RX3) (T := TX3) (N := 8) (ci := 3) [.int o, .int (nI b), .long (lf c), .long (if (-1) < (hf c) then (-1) else (hf c))] [] 4 (wX3 E h cd n sc rt on lo hi son slo shi fs lf hf true le gr) [] [0, 1, 2, 3, 4, 5, 6, 7, 8, 9, 10, 11, 12, 13] [] (m_X3_takeEnds l E h cd n sc rt on lo hi son slo shi fs lf hf true le gr o b (lf c) (if (-1) < (hf c) then (-1) else (hf c)) none (by omega) ⟨fun _ => rfl, fun a b h => by cases h⟩ neg_part) dX3_calculate_46 gX3_calculate_X3_takeEnds rfl (by decide +kernel) rfl ⟨rfl, rfl⟩ (by decide) rfl (Nat.le_of_ble_eq_true rfl) (by decide) rfl rfl rfl rfl (by decide) (by decide) (by decide) ?_
    rintro v_16 w_17 ⟨em1_13, le1_14, gr1_15, rfl, rfl, h1⟩
    refine k_perm (wX3 E h cd n sc rt on lo hi son slo shi fs lf hf em1_13 le1_14 gr1_15) [0, 1, 2, 3, 4, 5, 6, 7, 8, 9, 10, 11, 12, 13] (by decide) rfl ?_
    show kK g (wX3 E h cd n sc rt on lo hi son slo shi fs lf hf em1_13 le1_14 gr1_15) [(6, .long (hf c)), (4, .long (lf c)), (0, .ref (h 0)), (1, .int o), (2, .int (nI b)), (3, .int (nI c))] 0 0 49 []
    refine k_aload_n F (pc := 49) 2 rfl dX3_calculate_49 rfl ?_
    refine k_iload_n F (pc := 50) 3 rfl dX3_calculate_50 rfl ?_
    refine k_iload_n F (pc := 51) 4 rfl dX3_calculate_51 rfl ?_
    refine k_lload F (pc := 52) 1 rfl dX3_calculate_52 ?_
    refine k_lconst F (pc := 54) 1 dX3_calculate_54 (by decide) ?_
    refine k_mmax F (pc := 55) dX3_calculate_55 zm_X3_calculate_max178a zm_X3_calculate_maxb zm_X3_calculate_mathc zm_X3_calculate_maxd (by decide) (Nat.le_of_ble_eq_true rfl) (by decide) (by decide) ?_
    refine k_lload F (pc := 58) 0 rfl dX3_calculate_58 ?_
    refine k_callV F (pc := 60) (C := RX3) (T := TX3) (N := 8) (ci := 3) [.int o, .int (nI b), .long (if 1 < (lf c) then (lf c) else 1), .long (hf c)] [] 4 (wX3 E h cd n sc rt on lo hi son slo shi fs lf hf em1_13 le1_14 gr1_15) [] [0, 1, 2, 3, 4, 5, 6, 7, 8, 9, 10, 11, 12, 13] [] (m_X3_takeEnds l E h cd n sc rt on lo hi son slo shi fs lf hf em1_13 le1_14 gr1_15 o b (if 1 < (lf c) then (lf c) else 1) (hf c) (if (if (-1) < hf c then (-1) else hf c) < lf c then none else tk4 o.toInt (lf b) (hf b) (lf c) (if (-1) < hf c then (-1) else hf c) none) (by omega) h1 pos_part) dX3_calculate_60 gX3_calculate_X3_takeEnds rfl (by decide +kernel) rfl ⟨rfl, rfl⟩ (by decide) rfl (Nat.le_of_ble_eq_true rfl) (by decide) rfl rfl rfl rfl (by decide) (by decide) (by decide) ?_
    rintro v_21 w_22 ⟨em1_18, le1_19, gr1_20, rfl, rfl, h2⟩
    refine k_perm (wX3 E h cd n sc rt on lo hi son slo shi fs lf hf em1_18 le1_19 gr1_20) [0, 1, 2, 3, 4, 5, 6, 7, 8, 9, 10, 11, 12, 13] (by decide) rfl ?_
    show kK g (wX3 E h cd n sc rt on lo hi son slo shi fs lf hf em1_18 le1_19 gr1_20) [(6, .long (hf c)), (4, .long (lf c)), (0, .ref (h 0)), (1, .int o), (2, .int (nI b)), (3, .int (nI c))] 0 0 63 []
    refine k_goto F (pc := 63) 76 dX3_calculate_63 (by decide) ?_
    refine k_vret F Rr (pc := 76) dX3_calculate_76 ⟨em1_18, le1_19, gr1_20, rfl, rfl, ?_⟩
    first
    | (rw [(by assumption : o.toInt = 6)] at h2 ⊢; rw [← calc6 hle]; exact h2)
    | (rw [calcR, if_neg (by assumption)]; rw [if_neg (by rw [Int64.lt_iff_toInt_lt]; omega)] at h3; exact h3)
theorem zm_X3_putResults_f44 : (Cond.fieldLink RX3 44 RX3 "results" "LRangeScan$Results;" : Cond) ∈ wsX3_putResults := by decide +kernel
theorem zin_X3_putResults_X3 : ∀ w ∈ u_ws RX3 TX3 8, w ∈ wsX3_putResults := by decide +kernel
theorem zm_X3_putResults_f37 : (Cond.fieldLink RX3 37 RX3 "flow" "LRangeScan$Flow;" : Cond) ∈ wsX3_putResults := by decide +kernel
theorem zm_X3_putResults_c149 : (Cond.constantLong RX3 149 (-2147483648) : Cond) ∈ wsX3_putResults := by decide +kernel
theorem zm_X3_putResults_c151 : (Cond.constantLong RX3 151 (2147483647) : Cond) ∈ wsX3_putResults := by decide +kernel
set_option maxHeartbeats 4000000 in
set_option maxRecDepth 100000 in
theorem m_X3_putResults (l : Launch) (E : kE) (h : Nat → Nat) (cd : Nat → Int32) (n : Nat) (sc : Bool) (rt : Nat) (on : Nat → Bool) (lo : Nat → Int64) (hi : Nat → Int64) (son : Nat → Bool) (slo : Nat → Int64) (shi : Nat → Int64) (fs : Bool) (lf : Nat → Int64) (hf : Nat → Int64) (em : Bool) (le : Int64) (gr : Int64) (a : Nat) (rs : RS) (ha : a < 4) (hrr : RRep em le gr rs) : kC l yX3_putResults wsX3_putResults ({ frames := 2, cells := 0, slots := 0, locals := 40 } : Room) E [.ref (h 0), .int (nI a)] (wX3 E h cd n sc rt on lo hi son slo shi fs lf hf em le gr) 0 0 (fun v_ w_ => ∃ (fs1 : Bool) (lf1 : Nat → Int64) (hf1 : Nat → Int64), v_ = none ∧ w_ = (wX3 E h cd n sc rt on lo hi son slo shi fs1 lf1 hf1 em le gr) ∧ (∀ X, FRep fs lf hf (some X) → FRep fs1 lf1 hf1 (resP X a rs))) := by
  refine kC.enter cX3_putResults 2 none [(0, .ref (h 0)), (1, .int (nI a))] (by decide) rfl (Nat.le_of_ble_eq_true rfl) rfl ?_
  intro g F Rr
  refine k_aload_n F (pc := 0) 0 rfl dX3_putResults_0 rfl ?_
  refine k_get F (pc := 1) (ref := RX3) (C := RX3) (T := TX3) (N := 8) (ci := 3) 0 7 dX3_putResults_1 zin_X3_putResults_X3 rfl rfl (by decide) zm_X3_putResults_f44 rfl rfl ?_
  refine k_callV F (pc := 4) (C := RX1) (T := TX1) (N := 3) (ci := 1) [] [] 0 (wX1 E (h 13) em le gr) [cObj (h 0) 3 [.ref (h 1), .int (nI n), .int (bI sc), .int (nI rt), .ref (h 2), .ref (h 6), .ref (h 10), .ref (h 13)], cInt E (h 1) 96 cd, cObj (h 2) 2 [.ref (h 3), .ref (h 4), .ref (h 5)], cBoo E (h 3) 24 on, cLng E (h 4) 96 lo, cLng E (h 5) 96 hi, cObj (h 6) 2 [.ref (h 7), .ref (h 8), .ref (h 9)], cBoo E (h 7) 24 son, cLng E (h 8) 96 slo, cLng E (h 9) 96 shi, cObj (h 10) 0 [.int (bI fs), .ref (h 11), .ref (h 12)], cLng E (h 11) 4 lf, cLng E (h 12) 4 hf] [13] [0, 1, 2, 3, 4, 5, 6, 7, 8, 9, 10, 11, 12] (m_X1_isEmpty l E (h 13) em le gr) dX3_putResults_4 gX3_putResults_X1_isEmpty rfl (by decide +kernel) rfl ⟨rfl, rfl⟩ (by decide) rfl (Nat.le_of_ble_eq_true rfl) (by decide) rfl rfl rfl rfl (by decide) (by decide) (by decide) ?_
  rintro v_1 w_2 ⟨rfl, rfl⟩
  refine k_perm (wX3 E h cd n sc rt on lo hi son slo shi fs lf hf em le gr) [0, 1, 2, 3, 4, 5, 6, 7, 8, 9, 10, 11, 12, 13] (by decide) rfl ?_
  show kK g (wX3 E h cd n sc rt on lo hi son slo shi fs lf hf em le gr) [(0, .ref (h 0)), (1, .int (nI a))] 0 0 7 [.int (bI em)]
  refine k_if_eqB F (pc := 7) 20 dX3_putResults_7 (by decide) (fun c_3 => ?_) (fun c_3 => ?_)
  · skip
    rw [c_3] at hrr
    have hsm := hrr.some_of
    refine k_aload_n F (pc := 20) 0 rfl dX3_putResults_20 rfl ?_
    refine k_get F (pc := 21) (ref := RX3) (C := RX3) (T := TX3) (N := 8) (ci := 3) 0 7 dX3_putResults_21 zin_X3_putResults_X3 rfl rfl (by decide) zm_X3_putResults_f44 rfl rfl ?_
    refine k_callV F (pc := 24) (C := RX1) (T := TX1) (N := 3) (ci := 1) [] [] 0 (wX1 E (h 13) em le gr) [cObj (h 0) 3 [.ref (h 1), .int (nI n), .int (bI sc), .int (nI rt), .ref (h 2), .ref (h 6), .ref (h 10), .ref (h 13)], cInt E (h 1) 96 cd, cObj (h 2) 2 [.ref (h 3), .ref (h 4), .ref (h 5)], cBoo E (h 3) 24 on, cLng E (h 4) 96 lo, cLng E (h 5) 96 hi, cObj (h 6) 2 [.ref (h 7), .ref (h 8), .ref (h 9)], cBoo E (h 7) 24 son, cLng E (h 8) 96 slo, cLng E (h 9) 96 shi, cObj (h 10) 0 [.int (bI fs), .ref (h 11), .ref (h 12)], cLng E (h 11) 4 lf, cLng E (h 12) 4 hf] [13] [0, 1, 2, 3, 4, 5, 6, 7, 8, 9, 10, 11, 12] (m_X1_wrapTogether l E (h 13) em le gr) dX3_putResults_24 gX3_putResults_X1_wrapTogether rfl (by decide +kernel) rfl ⟨rfl, rfl⟩ (by decide) rfl (Nat.le_of_ble_eq_true rfl) (by decide) rfl rfl rfl rfl (by decide) (by decide) (by decide) ?_
    rintro v_6 w_7 ⟨r_4, rfl, rfl, hc_5⟩
    refine k_perm (wX3 E h cd n sc rt on lo hi son slo shi fs lf hf em le gr) [0, 1, 2, 3, 4, 5, 6, 7, 8, 9, 10, 11, 12, 13] (by decide) rfl ?_
    show kK g (wX3 E h cd n sc rt on lo hi son slo shi fs lf hf em le gr) [(0, .ref (h 0)), (1, .int (nI a))] 0 0 27 [.int (bI r_4)]
    refine k_if_eqB F (pc := 27) 55 dX3_putResults_27 (by decide) (fun c_8 => ?_) (fun c_8 => ?_)
    · skip
      have hb_9 := k_ff hc_5 c_8
      refine k_aload_n F (pc := 55) 0 rfl dX3_putResults_55 rfl ?_
      refine k_get F (pc := 56) (ref := RX3) (C := RX3) (T := TX3) (N := 8) (ci := 3) 0 6 dX3_putResults_56 zin_X3_putResults_X3 rfl rfl (by decide) zm_X3_putResults_f37 rfl rfl ?_
      refine k_iload_n F (pc := 59) 1 rfl dX3_putResults_59 rfl ?_
      refine k_ldc2 F (pc := 60) (-2147483648) dX3_putResults_60 zm_X3_putResults_c149 ?_
      refine k_ldc2 F (pc := 63) (2147483647) dX3_putResults_63 zm_X3_putResults_c151 ?_
      refine k_callV F (pc := 66) (C := RX0) (T := TX0) (N := 3) (ci := 0) [.int (nI a), .long (-2147483648), .long 2147483647] [] 3 (wX0 E (h 10) (h 11) (h 12) fs lf hf) [cObj (h 0) 3 [.ref (h 1), .int (nI n), .int (bI sc), .int (nI rt), .ref (h 2), .ref (h 6), .ref (h 10), .ref (h 13)], cInt E (h 1) 96 cd, cObj (h 2) 2 [.ref (h 3), .ref (h 4), .ref (h 5)], cBoo E (h 3) 24 on, cLng E (h 4) 96 lo, cLng E (h 5) 96 hi, cObj (h 6) 2 [.ref (h 7), .ref (h 8), .ref (h 9)], cBoo E (h 7) 24 son, cLng E (h 8) 96 slo, cLng E (h 9) 96 shi, cObj (h 13) 1 [.int (bI em), .long le, .long gr]] [10, 11, 12] [0, 1, 2, 3, 4, 5, 6, 7, 8, 9, 13] (m_X0_put l E (h 10) (h 11) (h 12) fs lf hf a (-2147483648) 2147483647 (by omega)) dX3_putResults_66 gX3_putResults_X0_put rfl (by decide +kernel) rfl ⟨rfl, rfl⟩ (by decide) rfl (Nat.le_of_ble_eq_true rfl) (by decide) rfl rfl rfl rfl (by decide) (by decide) (by decide) ?_
      rintro v_10 w_11 ⟨rfl, rfl⟩
      refine k_perm (wX3 E h cd n sc rt on lo hi son slo shi fs (vp_updL lf a (-2147483648)) (vp_updL hf a 2147483647) em le gr) [0, 1, 2, 3, 4, 5, 6, 7, 8, 9, 11, 12, 13, 10] (by decide) rfl ?_
      show kK g (wX3 E h cd n sc rt on lo hi son slo shi fs (vp_updL lf a (-2147483648)) (vp_updL hf a 2147483647) em le gr) [(0, .ref (h 0)), (1, .int (nI a))] 0 0 69 []
      refine k_vret F Rr (pc := 69) dX3_putResults_69 ⟨fs, (vp_updL lf a (-2147483648)), (vp_updL hf a 2147483647), rfl, rfl, ?_⟩
      first
      | (intro X hX; rw [hN]; exact frep_none)
      | (rw [hsm]; exact putRes_w (by assumption))
      | (rw [hsm]; exact putRes_n (by assumption))
    · skip
      have hb_12 := hc_5.mp c_8
      refine k_aload_n F (pc := 30) 0 rfl dX3_putResults_30 rfl ?_
      refine k_get F (pc := 31) (ref := RX3) (C := RX3) (T := TX3) (N := 8) (ci := 3) 0 6 dX3_putResults_31 zin_X3_putResults_X3 rfl rfl (by decide) zm_X3_putResults_f37 rfl rfl ?_
      refine k_iload_n F (pc := 34) 1 rfl dX3_putResults_34 rfl ?_
      refine k_aload_n F (pc := 35) 0 rfl dX3_putResults_35 rfl ?_
      refine k_get F (pc := 36) (ref := RX3) (C := RX3) (T := TX3) (N := 8) (ci := 3) 0 7 dX3_putResults_36 zin_X3_putResults_X3 rfl rfl (by decide) zm_X3_putResults_f44 rfl rfl ?_
      refine k_callV F (pc := 39) (C := RX1) (T := TX1) (N := 3) (ci := 1) [] [.int (nI a), .ref (h 10)] 0 (wX1 E (h 13) em le gr) [cObj (h 0) 3 [.ref (h 1), .int (nI n), .int (bI sc), .int (nI rt), .ref (h 2), .ref (h 6), .ref (h 10), .ref (h 13)], cInt E (h 1) 96 cd, cObj (h 2) 2 [.ref (h 3), .ref (h 4), .ref (h 5)], cBoo E (h 3) 24 on, cLng E (h 4) 96 lo, cLng E (h 5) 96 hi, cObj (h 6) 2 [.ref (h 7), .ref (h 8), .ref (h 9)], cBoo E (h 7) 24 son, cLng E (h 8) 96 slo, cLng E (h 9) 96 shi, cObj (h 10) 0 [.int (bI fs), .ref (h 11), .ref (h 12)], cLng E (h 11) 4 lf, cLng E (h 12) 4 hf] [13] [0, 1, 2, 3, 4, 5, 6, 7, 8, 9, 10, 11, 12] (m_X1_wrappedLeast l E (h 13) em le gr) dX3_putResults_39 gX3_putResults_X1_wrappedLeast rfl (by decide +kernel) rfl ⟨rfl, rfl⟩ (by decide) rfl (Nat.le_of_ble_eq_true rfl) (by decide) rfl rfl rfl rfl (by decide) (by decide) (by decide) ?_
      rintro v_13 w_14 ⟨rfl, rfl⟩
      refine k_perm (wX3 E h cd n sc rt on lo hi son slo shi fs lf hf em le gr) [0, 1, 2, 3, 4, 5, 6, 7, 8, 9, 10, 11, 12, 13] (by decide) rfl ?_
      show kK g (wX3 E h cd n sc rt on lo hi son slo shi fs lf hf em le gr) [(0, .ref (h 0)), (1, .int (nI a))] 0 0 42 [.long le.toInt32.toInt64, .int (nI a), .ref (h 10)]
      refine k_aload_n F (pc := 42) 0 rfl dX3_putResults_42 rfl ?_
      refine k_get F (pc := 43) (ref := RX3) (C := RX3) (T := TX3) (N := 8) (ci := 3) 0 7 dX3_putResults_43 zin_X3_putResults_X3 rfl rfl (by decide) zm_X3_putResults_f44 rfl rfl ?_
      refine k_callV F (pc := 46) (C := RX1) (T := TX1) (N := 3) (ci := 1) [] [.long le.toInt32.toInt64, .int (nI a), .ref (h 10)] 0 (wX1 E (h 13) em le gr) [cObj (h 0) 3 [.ref (h 1), .int (nI n), .int (bI sc), .int (nI rt), .ref (h 2), .ref (h 6), .ref (h 10), .ref (h 13)], cInt E (h 1) 96 cd, cObj (h 2) 2 [.ref (h 3), .ref (h 4), .ref (h 5)], cBoo E (h 3) 24 on, cLng E (h 4) 96 lo, cLng E (h 5) 96 hi, cObj (h 6) 2 [.ref (h 7), .ref (h 8), .ref (h 9)], cBoo E (h 7) 24 son, cLng E (h 8) 96 slo, cLng E (h 9) 96 shi, cObj (h 10) 0 [.int (bI fs), .ref (h 11), .ref (h 12)], cLng E (h 11) 4 lf, cLng E (h 12) 4 hf] [13] [0, 1, 2, 3, 4, 5, 6, 7, 8, 9, 10, 11, 12] (m_X1_wrappedGreatest l E (h 13) em le gr) dX3_putResults_46 gX3_putResults_X1_wrappedGreatest rfl (by decide +kernel) rfl ⟨rfl, rfl⟩ (by decide) rfl (Nat.le_of_ble_eq_true rfl) (by decide) rfl rfl rfl rfl (by decide) (by decide) (by decide) ?_
      rintro v_15 w_16 ⟨rfl, rfl⟩
      refine k_perm (wX3 E h cd n sc rt on lo hi son slo shi fs lf hf em le gr) [0, 1, 2, 3, 4, 5, 6, 7, 8, 9, 10, 11, 12, 13] (by decide) rfl ?_
      show kK g (wX3 E h cd n sc rt on lo hi son slo shi fs lf hf em le gr) [(0, .ref (h 0)), (1, .int (nI a))] 0 0 49 [.long gr.toInt32.toInt64, .long le.toInt32.toInt64, .int (nI a), .ref (h 10)]
      refine k_callV F (pc := 49) (C := RX0) (T := TX0) (N := 3) (ci := 0) [.int (nI a), .long le.toInt32.toInt64, .long gr.toInt32.toInt64] [] 3 (wX0 E (h 10) (h 11) (h 12) fs lf hf) [cObj (h 0) 3 [.ref (h 1), .int (nI n), .int (bI sc), .int (nI rt), .ref (h 2), .ref (h 6), .ref (h 10), .ref (h 13)], cInt E (h 1) 96 cd, cObj (h 2) 2 [.ref (h 3), .ref (h 4), .ref (h 5)], cBoo E (h 3) 24 on, cLng E (h 4) 96 lo, cLng E (h 5) 96 hi, cObj (h 6) 2 [.ref (h 7), .ref (h 8), .ref (h 9)], cBoo E (h 7) 24 son, cLng E (h 8) 96 slo, cLng E (h 9) 96 shi, cObj (h 13) 1 [.int (bI em), .long le, .long gr]] [10, 11, 12] [0, 1, 2, 3, 4, 5, 6, 7, 8, 9, 13] (m_X0_put l E (h 10) (h 11) (h 12) fs lf hf a le.toInt32.toInt64 gr.toInt32.toInt64 (by omega)) dX3_putResults_49 gX3_putResults_X0_put rfl (by decide +kernel) rfl ⟨rfl, rfl⟩ (by decide) rfl (Nat.le_of_ble_eq_true rfl) (by decide) rfl rfl rfl rfl (by decide) (by decide) (by decide) ?_
      rintro v_17 w_18 ⟨rfl, rfl⟩
      refine k_perm (wX3 E h cd n sc rt on lo hi son slo shi fs (vp_updL lf a le.toInt32.toInt64) (vp_updL hf a gr.toInt32.toInt64) em le gr) [0, 1, 2, 3, 4, 5, 6, 7, 8, 9, 11, 12, 13, 10] (by decide) rfl ?_
      show kK g (wX3 E h cd n sc rt on lo hi son slo shi fs (vp_updL lf a le.toInt32.toInt64) (vp_updL hf a gr.toInt32.toInt64) em le gr) [(0, .ref (h 0)), (1, .int (nI a))] 0 0 52 []
      refine k_goto F (pc := 52) 69 dX3_putResults_52 (by decide) ?_
      refine k_vret F Rr (pc := 69) dX3_putResults_69 ⟨fs, (vp_updL lf a le.toInt32.toInt64), (vp_updL hf a gr.toInt32.toInt64), rfl, rfl, ?_⟩
      first
      | (intro X hX; rw [hN]; exact frep_none)
      | (rw [hsm]; exact putRes_w (by assumption))
      | (rw [hsm]; exact putRes_n (by assumption))
  · skip
    rw [c_3] at hrr
    have hN := hrr.none_of
    refine k_aload_n F (pc := 10) 0 rfl dX3_putResults_10 rfl ?_
    refine k_get F (pc := 11) (ref := RX3) (C := RX3) (T := TX3) (N := 8) (ci := 3) 0 6 dX3_putResults_11 zin_X3_putResults_X3 rfl rfl (by decide) zm_X3_putResults_f37 rfl rfl ?_
    refine k_callV F (pc := 14) (C := RX0) (T := TX0) (N := 3) (ci := 0) [] [] 0 (wX0 E (h 10) (h 11) (h 12) fs lf hf) [cObj (h 0) 3 [.ref (h 1), .int (nI n), .int (bI sc), .int (nI rt), .ref (h 2), .ref (h 6), .ref (h 10), .ref (h 13)], cInt E (h 1) 96 cd, cObj (h 2) 2 [.ref (h 3), .ref (h 4), .ref (h 5)], cBoo E (h 3) 24 on, cLng E (h 4) 96 lo, cLng E (h 5) 96 hi, cObj (h 6) 2 [.ref (h 7), .ref (h 8), .ref (h 9)], cBoo E (h 7) 24 son, cLng E (h 8) 96 slo, cLng E (h 9) 96 shi, cObj (h 13) 1 [.int (bI em), .long le, .long gr]] [10, 11, 12] [0, 1, 2, 3, 4, 5, 6, 7, 8, 9, 13] (m_X0_stop l E (h 10) (h 11) (h 12) fs lf hf) dX3_putResults_14 gX3_putResults_X0_stop rfl (by decide +kernel) rfl ⟨rfl, rfl⟩ (by decide) rfl (Nat.le_of_ble_eq_true rfl) (by decide) rfl rfl rfl rfl (by decide) (by decide) (by decide) ?_
    rintro v_19 w_20 ⟨rfl, rfl⟩
    refine k_perm (wX3 E h cd n sc rt on lo hi son slo shi false lf hf em le gr) [0, 1, 2, 3, 4, 5, 6, 7, 8, 9, 11, 12, 13, 10] (by decide) rfl ?_
    show kK g (wX3 E h cd n sc rt on lo hi son slo shi false lf hf em le gr) [(0, .ref (h 0)), (1, .int (nI a))] 0 0 17 []
    refine k_goto F (pc := 17) 69 dX3_putResults_17 (by decide) ?_
    refine k_vret F Rr (pc := 69) dX3_putResults_69 ⟨false, lf, hf, rfl, rfl, ?_⟩
    first
    | (intro X hX; rw [hN]; exact frep_none)
    | (rw [hsm]; exact putRes_w (by assumption))
    | (rw [hsm]; exact putRes_n (by assumption))
theorem zm_X3_stopOutsideArray_f37 : (Cond.fieldLink RX3 37 RX3 "flow" "LRangeScan$Flow;" : Cond) ∈ wsX3_stopOutsideArray := by decide +kernel
theorem zin_X3_stopOutsideArray_X3 : ∀ w ∈ u_ws RX3 TX3 8, w ∈ wsX3_stopOutsideArray := by decide +kernel
theorem zm_X3_stopOutsideArray_c201 : (Cond.constantLong RX3 201 (7) : Cond) ∈ wsX3_stopOutsideArray := by decide +kernel
set_option maxHeartbeats 4000000 in
set_option maxRecDepth 100000 in
theorem m_X3_stopOutsideArray (l : Launch) (E : kE) (h : Nat → Nat) (cd : Nat → Int32) (n : Nat) (sc : Bool) (rt : Nat) (on : Nat → Bool) (lo : Nat → Int64) (hi : Nat → Int64) (son : Nat → Bool) (slo : Nat → Int64) (shi : Nat → Int64) (fs : Bool) (lf : Nat → Int64) (hf : Nat → Int64) (em : Bool) (le : Int64) (gr : Int64) (b : Nat) (hb : b < 4) : kC l yX3_stopOutsideArray wsX3_stopOutsideArray ({ frames := 1, cells := 0, slots := 0, locals := 21 } : Room) E [.ref (h 0), .int (nI b)] (wX3 E h cd n sc rt on lo hi son slo shi fs lf hf em le gr) 0 0 (fun v_ w_ => ∃ (fs1 : Bool), v_ = none ∧ w_ = (wX3 E h cd n sc rt on lo hi son slo shi fs1 lf hf em le gr) ∧ ((hf b < 0 ∨ 7 < lf b → fs1 = false) ∧ (¬ (hf b < 0 ∨ 7 < lf b) → fs1 = fs))) := by
  refine kC.enter cX3_stopOutsideArray 2 none [(0, .ref (h 0)), (1, .int (nI b))] (by decide) rfl (Nat.le_of_ble_eq_true rfl) rfl ?_
  intro g F Rr
  refine k_aload_n F (pc := 0) 0 rfl dX3_stopOutsideArray_0 rfl ?_
  refine k_get F (pc := 1) (ref := RX3) (C := RX3) (T := TX3) (N := 8) (ci := 3) 0 6 dX3_stopOutsideArray_1 zin_X3_stopOutsideArray_X3 rfl rfl (by decide) zm_X3_stopOutsideArray_f37 rfl rfl ?_
  refine k_iload_n F (pc := 4) 1 rfl dX3_stopOutsideArray_4 rfl ?_
  refine k_callV F (pc := 5) (C := RX0) (T := TX0) (N := 3) (ci := 0) [.int (nI b)] [] 1 (wX0 E (h 10) (h 11) (h 12) fs lf hf) [cObj (h 0) 3 [.ref (h 1), .int (nI n), .int (bI sc), .int (nI rt), .ref (h 2), .ref (h 6), .ref (h 10), .ref (h 13)], cInt E (h 1) 96 cd, cObj (h 2) 2 [.ref (h 3), .ref (h 4), .ref (h 5)], cBoo E (h 3) 24 on, cLng E (h 4) 96 lo, cLng E (h 5) 96 hi, cObj (h 6) 2 [.ref (h 7), .ref (h 8), .ref (h 9)], cBoo E (h 7) 24 son, cLng E (h 8) 96 slo, cLng E (h 9) 96 shi, cObj (h 13) 1 [.int (bI em), .long le, .long gr]] [10, 11, 12] [0, 1, 2, 3, 4, 5, 6, 7, 8, 9, 13] (m_X0_highOf l E (h 10) (h 11) (h 12) fs lf hf b (by omega)) dX3_stopOutsideArray_5 gX3_stopOutsideArray_X0_highOf rfl (by decide +kernel) rfl ⟨rfl, rfl⟩ (by decide) rfl (Nat.le_of_ble_eq_true rfl) (by decide) rfl rfl rfl rfl (by decide) (by decide) (by decide) ?_
  rintro v_1 w_2 ⟨rfl, rfl⟩
  refine k_perm (wX3 E h cd n sc rt on lo hi son slo shi fs lf hf em le gr) [0, 1, 2, 3, 4, 5, 6, 7, 8, 9, 11, 12, 13, 10] (by decide) rfl ?_
  show kK g (wX3 E h cd n sc rt on lo hi son slo shi fs lf hf em le gr) [(0, .ref (h 0)), (1, .int (nI b))] 0 0 8 [.long (hf b)]
  refine k_lconst F (pc := 8) 0 dX3_stopOutsideArray_8 (by decide) ?_
  refine k_lcmp_lt F (pc := 9) 28 dX3_stopOutsideArray_9 dX3_stopOutsideArray_10 (by decide) (fun c_3 => ?_) (fun c_3 => ?_)
  · skip
    refine k_aload_n F (pc := 28) 0 rfl dX3_stopOutsideArray_28 rfl ?_
    refine k_get F (pc := 29) (ref := RX3) (C := RX3) (T := TX3) (N := 8) (ci := 3) 0 6 dX3_stopOutsideArray_29 zin_X3_stopOutsideArray_X3 rfl rfl (by decide) zm_X3_stopOutsideArray_f37 rfl rfl ?_
    refine k_callV F (pc := 32) (C := RX0) (T := TX0) (N := 3) (ci := 0) [] [] 0 (wX0 E (h 10) (h 11) (h 12) fs lf hf) [cObj (h 0) 3 [.ref (h 1), .int (nI n), .int (bI sc), .int (nI rt), .ref (h 2), .ref (h 6), .ref (h 10), .ref (h 13)], cInt E (h 1) 96 cd, cObj (h 2) 2 [.ref (h 3), .ref (h 4), .ref (h 5)], cBoo E (h 3) 24 on, cLng E (h 4) 96 lo, cLng E (h 5) 96 hi, cObj (h 6) 2 [.ref (h 7), .ref (h 8), .ref (h 9)], cBoo E (h 7) 24 son, cLng E (h 8) 96 slo, cLng E (h 9) 96 shi, cObj (h 13) 1 [.int (bI em), .long le, .long gr]] [10, 11, 12] [0, 1, 2, 3, 4, 5, 6, 7, 8, 9, 13] (m_X0_stop l E (h 10) (h 11) (h 12) fs lf hf) dX3_stopOutsideArray_32 gX3_stopOutsideArray_X0_stop rfl (by decide +kernel) rfl ⟨rfl, rfl⟩ (by decide) rfl (Nat.le_of_ble_eq_true rfl) (by decide) rfl rfl rfl rfl (by decide) (by decide) (by decide) ?_
    rintro v_4 w_5 ⟨rfl, rfl⟩
    refine k_perm (wX3 E h cd n sc rt on lo hi son slo shi false lf hf em le gr) [0, 1, 2, 3, 4, 5, 6, 7, 8, 9, 11, 12, 13, 10] (by decide) rfl ?_
    show kK g (wX3 E h cd n sc rt on lo hi son slo shi false lf hf em le gr) [(0, .ref (h 0)), (1, .int (nI b))] 0 0 35 []
    refine k_vret F Rr (pc := 35) dX3_stopOutsideArray_35 ⟨false, rfl, rfl, ?_⟩
    first
    | exact ⟨fun _ => rfl, fun h => absurd (Or.inl (by assumption)) h⟩
    | exact ⟨fun _ => rfl, fun h => absurd (Or.inr (by assumption)) h⟩
    | exact ⟨fun h => by rcases h with h | h <;> exact absurd h (by assumption), fun _ => rfl⟩
  · skip
    refine k_aload_n F (pc := 13) 0 rfl dX3_stopOutsideArray_13 rfl ?_
    refine k_get F (pc := 14) (ref := RX3) (C := RX3) (T := TX3) (N := 8) (ci := 3) 0 6 dX3_stopOutsideArray_14 zin_X3_stopOutsideArray_X3 rfl rfl (by decide) zm_X3_stopOutsideArray_f37 rfl rfl ?_
    refine k_iload_n F (pc := 17) 1 rfl dX3_stopOutsideArray_17 rfl ?_
    refine k_callV F (pc := 18) (C := RX0) (T := TX0) (N := 3) (ci := 0) [.int (nI b)] [] 1 (wX0 E (h 10) (h 11) (h 12) fs lf hf) [cObj (h 0) 3 [.ref (h 1), .int (nI n), .int (bI sc), .int (nI rt), .ref (h 2), .ref (h 6), .ref (h 10), .ref (h 13)], cInt E (h 1) 96 cd, cObj (h 2) 2 [.ref (h 3), .ref (h 4), .ref (h 5)], cBoo E (h 3) 24 on, cLng E (h 4) 96 lo, cLng E (h 5) 96 hi, cObj (h 6) 2 [.ref (h 7), .ref (h 8), .ref (h 9)], cBoo E (h 7) 24 son, cLng E (h 8) 96 slo, cLng E (h 9) 96 shi, cObj (h 13) 1 [.int (bI em), .long le, .long gr]] [10, 11, 12] [0, 1, 2, 3, 4, 5, 6, 7, 8, 9, 13] (m_X0_lowOf l E (h 10) (h 11) (h 12) fs lf hf b (by omega)) dX3_stopOutsideArray_18 gX3_stopOutsideArray_X0_lowOf rfl (by decide +kernel) rfl ⟨rfl, rfl⟩ (by decide) rfl (Nat.le_of_ble_eq_true rfl) (by decide) rfl rfl rfl rfl (by decide) (by decide) (by decide) ?_
    rintro v_6 w_7 ⟨rfl, rfl⟩
    refine k_perm (wX3 E h cd n sc rt on lo hi son slo shi fs lf hf em le gr) [0, 1, 2, 3, 4, 5, 6, 7, 8, 9, 11, 12, 13, 10] (by decide) rfl ?_
    show kK g (wX3 E h cd n sc rt on lo hi son slo shi fs lf hf em le gr) [(0, .ref (h 0)), (1, .int (nI b))] 0 0 21 [.long (lf b)]
    refine k_ldc2 F (pc := 21) (7) dX3_stopOutsideArray_21 zm_X3_stopOutsideArray_c201 ?_
    refine k_lcmp_le F (pc := 24) 35 dX3_stopOutsideArray_24 dX3_stopOutsideArray_25 (by decide) (fun c_8 => ?_) (fun c_8 => ?_)
    · skip
      refine k_vret F Rr (pc := 35) dX3_stopOutsideArray_35 ⟨fs, rfl, rfl, ?_⟩
      first
      | exact ⟨fun _ => rfl, fun h => absurd (Or.inl (by assumption)) h⟩
      | exact ⟨fun _ => rfl, fun h => absurd (Or.inr (by assumption)) h⟩
      | exact ⟨fun h => by rcases h with h | h <;> exact absurd h (by assumption), fun _ => rfl⟩
    · skip
      refine k_aload_n F (pc := 28) 0 rfl dX3_stopOutsideArray_28 rfl ?_
      refine k_get F (pc := 29) (ref := RX3) (C := RX3) (T := TX3) (N := 8) (ci := 3) 0 6 dX3_stopOutsideArray_29 zin_X3_stopOutsideArray_X3 rfl rfl (by decide) zm_X3_stopOutsideArray_f37 rfl rfl ?_
      refine k_callV F (pc := 32) (C := RX0) (T := TX0) (N := 3) (ci := 0) [] [] 0 (wX0 E (h 10) (h 11) (h 12) fs lf hf) [cObj (h 0) 3 [.ref (h 1), .int (nI n), .int (bI sc), .int (nI rt), .ref (h 2), .ref (h 6), .ref (h 10), .ref (h 13)], cInt E (h 1) 96 cd, cObj (h 2) 2 [.ref (h 3), .ref (h 4), .ref (h 5)], cBoo E (h 3) 24 on, cLng E (h 4) 96 lo, cLng E (h 5) 96 hi, cObj (h 6) 2 [.ref (h 7), .ref (h 8), .ref (h 9)], cBoo E (h 7) 24 son, cLng E (h 8) 96 slo, cLng E (h 9) 96 shi, cObj (h 13) 1 [.int (bI em), .long le, .long gr]] [10, 11, 12] [0, 1, 2, 3, 4, 5, 6, 7, 8, 9, 13] (m_X0_stop l E (h 10) (h 11) (h 12) fs lf hf) dX3_stopOutsideArray_32 gX3_stopOutsideArray_X0_stop rfl (by decide +kernel) rfl ⟨rfl, rfl⟩ (by decide) rfl (Nat.le_of_ble_eq_true rfl) (by decide) rfl rfl rfl rfl (by decide) (by decide) (by decide) ?_
      rintro v_9 w_10 ⟨rfl, rfl⟩
      refine k_perm (wX3 E h cd n sc rt on lo hi son slo shi false lf hf em le gr) [0, 1, 2, 3, 4, 5, 6, 7, 8, 9, 11, 12, 13, 10] (by decide) rfl ?_
      show kK g (wX3 E h cd n sc rt on lo hi son slo shi false lf hf em le gr) [(0, .ref (h 0)), (1, .int (nI b))] 0 0 35 []
      refine k_vret F Rr (pc := 35) dX3_stopOutsideArray_35 ⟨false, rfl, rfl, ?_⟩
      first
      | exact ⟨fun _ => rfl, fun h => absurd (Or.inl (by assumption)) h⟩
      | exact ⟨fun _ => rfl, fun h => absurd (Or.inr (by assumption)) h⟩
      | exact ⟨fun h => by rcases h with h | h <;> exact absurd h (by assumption), fun _ => rfl⟩
theorem zm_X3_keepNotLess_f37 : (Cond.fieldLink RX3 37 RX3 "flow" "LRangeScan$Flow;" : Cond) ∈ wsX3_keepNotLess := by decide +kernel
theorem zin_X3_keepNotLess_X3 : ∀ w ∈ u_ws RX3 TX3 8, w ∈ wsX3_keepNotLess := by decide +kernel
set_option maxHeartbeats 4000000 in
set_option maxRecDepth 100000 in
theorem m_X3_keepNotLess (l : Launch) (E : kE) (h : Nat → Nat) (cd : Nat → Int32) (n : Nat) (sc : Bool) (rt : Nat) (on : Nat → Bool) (lo : Nat → Int64) (hi : Nat → Int64) (son : Nat → Bool) (slo : Nat → Int64) (shi : Nat → Int64) (fs : Bool) (lf : Nat → Int64) (hf : Nat → Int64) (em : Bool) (le : Int64) (gr : Int64) (a : Nat) (b : Nat) (ha : a < 4) (hb : b < 4) : kC l yX3_keepNotLess wsX3_keepNotLess ({ frames := 2, cells := 0, slots := 0, locals := 44 } : Room) E [.ref (h 0), .int (nI a), .int (nI b)] (wX3 E h cd n sc rt on lo hi son slo shi fs lf hf em le gr) 0 0 (fun v_ w_ => ∃ (fs1 : Bool) (lf1 : Nat → Int64) (hf1 : Nat → Int64), v_ = none ∧ w_ = (wX3 E h cd n sc rt on lo hi son slo shi fs1 lf1 hf1 em le gr) ∧ (∀ X, FRep fs lf hf (some X) → FRep fs1 lf1 hf1 (if a = b then some X else unlessX (cmpN X a b) a b))) := by
  refine kC.enter cX3_keepNotLess 3 none [(0, .ref (h 0)), (1, .int (nI a)), (2, .int (nI b))] (by decide) rfl (Nat.le_of_ble_eq_true rfl) rfl ?_
  intro g F Rr
  refine k_iload_n F (pc := 0) 1 rfl dX3_keepNotLess_0 rfl ?_
  refine k_iload_n F (pc := 1) 2 rfl dX3_keepNotLess_1 rfl ?_
  refine k_icmp_eq F (pc := 2) 37 dX3_keepNotLess_2 (by decide) (nI_toInt (by omega)) (nI_toInt (by omega)) (fun c_1 => ?_) (fun c_1 => ?_)
  · skip
    refine k_vret F Rr (pc := 37) dX3_keepNotLess_37 ⟨fs, lf, hf, rfl, rfl, ?_⟩
    intro X hX
    first
    | (rw [if_pos (show a = b by omega)]; exact hX)
    | (rw [if_neg (show ¬ a = b by omega)]; exact keepN_fin ha hb (by omega) h1 h2 X hX)
  · skip
    refine k_aload_n F (pc := 5) 0 rfl dX3_keepNotLess_5 rfl ?_
    refine k_get F (pc := 6) (ref := RX3) (C := RX3) (T := TX3) (N := 8) (ci := 3) 0 6 dX3_keepNotLess_6 zin_X3_keepNotLess_X3 rfl rfl (by decide) zm_X3_keepNotLess_f37 rfl rfl ?_
    refine k_iload_n F (pc := 9) 1 rfl dX3_keepNotLess_9 rfl ?_
    refine k_aload_n F (pc := 10) 0 rfl dX3_keepNotLess_10 rfl ?_
    refine k_get F (pc := 11) (ref := RX3) (C := RX3) (T := TX3) (N := 8) (ci := 3) 0 6 dX3_keepNotLess_11 zin_X3_keepNotLess_X3 rfl rfl (by decide) zm_X3_keepNotLess_f37 rfl rfl ?_
    refine k_iload_n F (pc := 14) 2 rfl dX3_keepNotLess_14 rfl ?_
    refine k_callV F (pc := 15) (C := RX0) (T := TX0) (N := 3) (ci := 0) [.int (nI b)] [.int (nI a), .ref (h 10)] 1 (wX0 E (h 10) (h 11) (h 12) fs lf hf) [cObj (h 0) 3 [.ref (h 1), .int (nI n), .int (bI sc), .int (nI rt), .ref (h 2), .ref (h 6), .ref (h 10), .ref (h 13)], cInt E (h 1) 96 cd, cObj (h 2) 2 [.ref (h 3), .ref (h 4), .ref (h 5)], cBoo E (h 3) 24 on, cLng E (h 4) 96 lo, cLng E (h 5) 96 hi, cObj (h 6) 2 [.ref (h 7), .ref (h 8), .ref (h 9)], cBoo E (h 7) 24 son, cLng E (h 8) 96 slo, cLng E (h 9) 96 shi, cObj (h 13) 1 [.int (bI em), .long le, .long gr]] [10, 11, 12] [0, 1, 2, 3, 4, 5, 6, 7, 8, 9, 13] (m_X0_lowOf l E (h 10) (h 11) (h 12) fs lf hf b (by omega)) dX3_keepNotLess_15 gX3_keepNotLess_X0_lowOf rfl (by decide +kernel) rfl ⟨rfl, rfl⟩ (by decide) rfl (Nat.le_of_ble_eq_true rfl) (by decide) rfl rfl rfl rfl (by decide) (by decide) (by decide) ?_
    rintro v_2 w_3 ⟨rfl, rfl⟩
    refine k_perm (wX3 E h cd n sc rt on lo hi son slo shi fs lf hf em le gr) [0, 1, 2, 3, 4, 5, 6, 7, 8, 9, 11, 12, 13, 10] (by decide) rfl ?_
    show kK g (wX3 E h cd n sc rt on lo hi son slo shi fs lf hf em le gr) [(0, .ref (h 0)), (1, .int (nI a)), (2, .int (nI b))] 0 0 18 [.long (lf b), .int (nI a), .ref (h 10)]
    refine k_callV F (pc := 18) (C := RX0) (T := TX0) (N := 3) (ci := 0) [.int (nI a), .long (lf b)] [] 2 (wX0 E (h 10) (h 11) (h 12) fs lf hf) [cObj (h 0) 3 [.ref (h 1), .int (nI n), .int (bI sc), .int (nI rt), .ref (h 2), .ref (h 6), .ref (h 10), .ref (h 13)], cInt E (h 1) 96 cd, cObj (h 2) 2 [.ref (h 3), .ref (h 4), .ref (h 5)], cBoo E (h 3) 24 on, cLng E (h 4) 96 lo, cLng E (h 5) 96 hi, cObj (h 6) 2 [.ref (h 7), .ref (h 8), .ref (h 9)], cBoo E (h 7) 24 son, cLng E (h 8) 96 slo, cLng E (h 9) 96 shi, cObj (h 13) 1 [.int (bI em), .long le, .long gr]] [10, 11, 12] [0, 1, 2, 3, 4, 5, 6, 7, 8, 9, 13] (m_X0_raiseLow l E (h 10) (h 11) (h 12) fs lf hf a (lf b) (by omega)) dX3_keepNotLess_18 gX3_keepNotLess_X0_raiseLow rfl (by decide +kernel) rfl ⟨rfl, rfl⟩ (by decide) rfl (Nat.le_of_ble_eq_true rfl) (by decide) rfl rfl rfl rfl (by decide) (by decide) (by decide) ?_
    rintro v_5 w_6 ⟨fs1_4, rfl, rfl, h1⟩
    refine k_perm (wX3 E h cd n sc rt on lo hi son slo shi fs1_4 (vp_updL lf a (mx (lf a) (lf b))) hf em le gr) [0, 1, 2, 3, 4, 5, 6, 7, 8, 9, 11, 12, 13, 10] (by decide) rfl ?_
    show kK g (wX3 E h cd n sc rt on lo hi son slo shi fs1_4 (vp_updL lf a (mx (lf a) (lf b))) hf em le gr) [(0, .ref (h 0)), (1, .int (nI a)), (2, .int (nI b))] 0 0 21 []
    refine k_aload_n F (pc := 21) 0 rfl dX3_keepNotLess_21 rfl ?_
    refine k_get F (pc := 22) (ref := RX3) (C := RX3) (T := TX3) (N := 8) (ci := 3) 0 6 dX3_keepNotLess_22 zin_X3_keepNotLess_X3 rfl rfl (by decide) zm_X3_keepNotLess_f37 rfl rfl ?_
    refine k_iload_n F (pc := 25) 2 rfl dX3_keepNotLess_25 rfl ?_
    refine k_aload_n F (pc := 26) 0 rfl dX3_keepNotLess_26 rfl ?_
    refine k_get F (pc := 27) (ref := RX3) (C := RX3) (T := TX3) (N := 8) (ci := 3) 0 6 dX3_keepNotLess_27 zin_X3_keepNotLess_X3 rfl rfl (by decide) zm_X3_keepNotLess_f37 rfl rfl ?_
    refine k_iload_n F (pc := 30) 1 rfl dX3_keepNotLess_30 rfl ?_
    refine k_callV F (pc := 31) (C := RX0) (T := TX0) (N := 3) (ci := 0) [.int (nI a)] [.int (nI b), .ref (h 10)] 1 (wX0 E (h 10) (h 11) (h 12) fs1_4 (vp_updL lf a (mx (lf a) (lf b))) hf) [cObj (h 0) 3 [.ref (h 1), .int (nI n), .int (bI sc), .int (nI rt), .ref (h 2), .ref (h 6), .ref (h 10), .ref (h 13)], cInt E (h 1) 96 cd, cObj (h 2) 2 [.ref (h 3), .ref (h 4), .ref (h 5)], cBoo E (h 3) 24 on, cLng E (h 4) 96 lo, cLng E (h 5) 96 hi, cObj (h 6) 2 [.ref (h 7), .ref (h 8), .ref (h 9)], cBoo E (h 7) 24 son, cLng E (h 8) 96 slo, cLng E (h 9) 96 shi, cObj (h 13) 1 [.int (bI em), .long le, .long gr]] [10, 11, 12] [0, 1, 2, 3, 4, 5, 6, 7, 8, 9, 13] (m_X0_highOf l E (h 10) (h 11) (h 12) fs1_4 (vp_updL lf a (mx (lf a) (lf b))) hf a (by omega)) dX3_keepNotLess_31 gX3_keepNotLess_X0_highOf rfl (by decide +kernel) rfl ⟨rfl, rfl⟩ (by decide) rfl (Nat.le_of_ble_eq_true rfl) (by decide) rfl rfl rfl rfl (by decide) (by decide) (by decide) ?_
    rintro v_7 w_8 ⟨rfl, rfl⟩
    refine k_perm (wX3 E h cd n sc rt on lo hi son slo shi fs1_4 (vp_updL lf a (mx (lf a) (lf b))) hf em le gr) [0, 1, 2, 3, 4, 5, 6, 7, 8, 9, 11, 12, 13, 10] (by decide) rfl ?_
    show kK g (wX3 E h cd n sc rt on lo hi son slo shi fs1_4 (vp_updL lf a (mx (lf a) (lf b))) hf em le gr) [(0, .ref (h 0)), (1, .int (nI a)), (2, .int (nI b))] 0 0 34 [.long (hf a), .int (nI b), .ref (h 10)]
    refine k_callV F (pc := 34) (C := RX0) (T := TX0) (N := 3) (ci := 0) [.int (nI b), .long (hf a)] [] 2 (wX0 E (h 10) (h 11) (h 12) fs1_4 (vp_updL lf a (mx (lf a) (lf b))) hf) [cObj (h 0) 3 [.ref (h 1), .int (nI n), .int (bI sc), .int (nI rt), .ref (h 2), .ref (h 6), .ref (h 10), .ref (h 13)], cInt E (h 1) 96 cd, cObj (h 2) 2 [.ref (h 3), .ref (h 4), .ref (h 5)], cBoo E (h 3) 24 on, cLng E (h 4) 96 lo, cLng E (h 5) 96 hi, cObj (h 6) 2 [.ref (h 7), .ref (h 8), .ref (h 9)], cBoo E (h 7) 24 son, cLng E (h 8) 96 slo, cLng E (h 9) 96 shi, cObj (h 13) 1 [.int (bI em), .long le, .long gr]] [10, 11, 12] [0, 1, 2, 3, 4, 5, 6, 7, 8, 9, 13] (m_X0_lowerHigh l E (h 10) (h 11) (h 12) fs1_4 (vp_updL lf a (mx (lf a) (lf b))) hf b (hf a) (by omega)) dX3_keepNotLess_34 gX3_keepNotLess_X0_lowerHigh rfl (by decide +kernel) rfl ⟨rfl, rfl⟩ (by decide) rfl (Nat.le_of_ble_eq_true rfl) (by decide) rfl rfl rfl rfl (by decide) (by decide) (by decide) ?_
    rintro v_10 w_11 ⟨fs1_9, rfl, rfl, h2⟩
    refine k_perm (wX3 E h cd n sc rt on lo hi son slo shi fs1_9 (vp_updL lf a (mx (lf a) (lf b))) (vp_updL hf b (mn (hf b) (hf a))) em le gr) [0, 1, 2, 3, 4, 5, 6, 7, 8, 9, 11, 12, 13, 10] (by decide) rfl ?_
    show kK g (wX3 E h cd n sc rt on lo hi son slo shi fs1_9 (vp_updL lf a (mx (lf a) (lf b))) (vp_updL hf b (mn (hf b) (hf a))) em le gr) [(0, .ref (h 0)), (1, .int (nI a)), (2, .int (nI b))] 0 0 37 []
    refine k_vret F Rr (pc := 37) dX3_keepNotLess_37 ⟨fs1_9, (vp_updL lf a (mx (lf a) (lf b))), (vp_updL hf b (mn (hf b) (hf a))), rfl, rfl, ?_⟩
    intro X hX
    first
    | (rw [if_pos (show a = b by omega)]; exact hX)
    | (rw [if_neg (show ¬ a = b by omega)]; exact keepN_fin ha hb (by omega) h1 h2 X hX)
theorem zm_X3_keepLess_f37 : (Cond.fieldLink RX3 37 RX3 "flow" "LRangeScan$Flow;" : Cond) ∈ wsX3_keepLess := by decide +kernel
theorem zin_X3_keepLess_X3 : ∀ w ∈ u_ws RX3 TX3 8, w ∈ wsX3_keepLess := by decide +kernel
set_option maxHeartbeats 4000000 in
set_option maxRecDepth 100000 in
theorem m_X3_keepLess (l : Launch) (E : kE) (h : Nat → Nat) (cd : Nat → Int32) (n : Nat) (sc : Bool) (rt : Nat) (on : Nat → Bool) (lo : Nat → Int64) (hi : Nat → Int64) (son : Nat → Bool) (slo : Nat → Int64) (shi : Nat → Int64) (fs : Bool) (lf : Nat → Int64) (hf : Nat → Int64) (em : Bool) (le : Int64) (gr : Int64) (a : Nat) (b : Nat) (ha : a < 4) (hb : b < 4) : kC l yX3_keepLess wsX3_keepLess ({ frames := 2, cells := 0, slots := 0, locals := 44 } : Room) E [.ref (h 0), .int (nI a), .int (nI b)] (wX3 E h cd n sc rt on lo hi son slo shi fs lf hf em le gr) 0 0 (fun v_ w_ => ∃ (fs1 : Bool) (lf1 : Nat → Int64) (hf1 : Nat → Int64), v_ = none ∧ w_ = (wX3 E h cd n sc rt on lo hi son slo shi fs1 lf1 hf1 em le gr) ∧ (∀ X, FRep fs lf hf (some X) → FRep fs1 lf1 hf1 (if a = b then none else unlessX (cmpP X a b) a b))) := by
  refine kC.enter cX3_keepLess 3 none [(0, .ref (h 0)), (1, .int (nI a)), (2, .int (nI b))] (by decide) rfl (Nat.le_of_ble_eq_true rfl) rfl ?_
  intro g F Rr
  refine k_iload_n F (pc := 0) 1 rfl dX3_keepLess_0 rfl ?_
  refine k_iload_n F (pc := 1) 2 rfl dX3_keepLess_1 rfl ?_
  refine k_icmp_ne F (pc := 2) 15 dX3_keepLess_2 (by decide) (nI_toInt (by omega)) (nI_toInt (by omega)) (fun c_1 => ?_) (fun c_1 => ?_)
  · skip
    refine k_aload_n F (pc := 15) 0 rfl dX3_keepLess_15 rfl ?_
    refine k_get F (pc := 16) (ref := RX3) (C := RX3) (T := TX3) (N := 8) (ci := 3) 0 6 dX3_keepLess_16 zin_X3_keepLess_X3 rfl rfl (by decide) zm_X3_keepLess_f37 rfl rfl ?_
    refine k_iload_n F (pc := 19) 1 rfl dX3_keepLess_19 rfl ?_
    refine k_aload_n F (pc := 20) 0 rfl dX3_keepLess_20 rfl ?_
    refine k_get F (pc := 21) (ref := RX3) (C := RX3) (T := TX3) (N := 8) (ci := 3) 0 6 dX3_keepLess_21 zin_X3_keepLess_X3 rfl rfl (by decide) zm_X3_keepLess_f37 rfl rfl ?_
    refine k_iload_n F (pc := 24) 2 rfl dX3_keepLess_24 rfl ?_
    refine k_callV F (pc := 25) (C := RX0) (T := TX0) (N := 3) (ci := 0) [.int (nI b)] [.int (nI a), .ref (h 10)] 1 (wX0 E (h 10) (h 11) (h 12) fs lf hf) [cObj (h 0) 3 [.ref (h 1), .int (nI n), .int (bI sc), .int (nI rt), .ref (h 2), .ref (h 6), .ref (h 10), .ref (h 13)], cInt E (h 1) 96 cd, cObj (h 2) 2 [.ref (h 3), .ref (h 4), .ref (h 5)], cBoo E (h 3) 24 on, cLng E (h 4) 96 lo, cLng E (h 5) 96 hi, cObj (h 6) 2 [.ref (h 7), .ref (h 8), .ref (h 9)], cBoo E (h 7) 24 son, cLng E (h 8) 96 slo, cLng E (h 9) 96 shi, cObj (h 13) 1 [.int (bI em), .long le, .long gr]] [10, 11, 12] [0, 1, 2, 3, 4, 5, 6, 7, 8, 9, 13] (m_X0_highOf l E (h 10) (h 11) (h 12) fs lf hf b (by omega)) dX3_keepLess_25 gX3_keepLess_X0_highOf rfl (by decide +kernel) rfl ⟨rfl, rfl⟩ (by decide) rfl (Nat.le_of_ble_eq_true rfl) (by decide) rfl rfl rfl rfl (by decide) (by decide) (by decide) ?_
    rintro v_2 w_3 ⟨rfl, rfl⟩
    refine k_perm (wX3 E h cd n sc rt on lo hi son slo shi fs lf hf em le gr) [0, 1, 2, 3, 4, 5, 6, 7, 8, 9, 11, 12, 13, 10] (by decide) rfl ?_
    show kK g (wX3 E h cd n sc rt on lo hi son slo shi fs lf hf em le gr) [(0, .ref (h 0)), (1, .int (nI a)), (2, .int (nI b))] 0 0 28 [.long (hf b), .int (nI a), .ref (h 10)]
    refine k_lconst F (pc := 28) 1 dX3_keepLess_28 (by decide) ?_
    refine k_lsub F (pc := 29) dX3_keepLess_29 ?_
    refine k_callV F (pc := 30) (C := RX0) (T := TX0) (N := 3) (ci := 0) [.int (nI a), .long ((hf b) - 1)] [] 2 (wX0 E (h 10) (h 11) (h 12) fs lf hf) [cObj (h 0) 3 [.ref (h 1), .int (nI n), .int (bI sc), .int (nI rt), .ref (h 2), .ref (h 6), .ref (h 10), .ref (h 13)], cInt E (h 1) 96 cd, cObj (h 2) 2 [.ref (h 3), .ref (h 4), .ref (h 5)], cBoo E (h 3) 24 on, cLng E (h 4) 96 lo, cLng E (h 5) 96 hi, cObj (h 6) 2 [.ref (h 7), .ref (h 8), .ref (h 9)], cBoo E (h 7) 24 son, cLng E (h 8) 96 slo, cLng E (h 9) 96 shi, cObj (h 13) 1 [.int (bI em), .long le, .long gr]] [10, 11, 12] [0, 1, 2, 3, 4, 5, 6, 7, 8, 9, 13] (m_X0_lowerHigh l E (h 10) (h 11) (h 12) fs lf hf a ((hf b) - 1) (by omega)) dX3_keepLess_30 gX3_keepLess_X0_lowerHigh rfl (by decide +kernel) rfl ⟨rfl, rfl⟩ (by decide) rfl (Nat.le_of_ble_eq_true rfl) (by decide) rfl rfl rfl rfl (by decide) (by decide) (by decide) ?_
    rintro v_5 w_6 ⟨fs1_4, rfl, rfl, h1⟩
    refine k_perm (wX3 E h cd n sc rt on lo hi son slo shi fs1_4 lf (vp_updL hf a (mn (hf a) ((hf b) - 1))) em le gr) [0, 1, 2, 3, 4, 5, 6, 7, 8, 9, 11, 12, 13, 10] (by decide) rfl ?_
    show kK g (wX3 E h cd n sc rt on lo hi son slo shi fs1_4 lf (vp_updL hf a (mn (hf a) ((hf b) - 1))) em le gr) [(0, .ref (h 0)), (1, .int (nI a)), (2, .int (nI b))] 0 0 33 []
    refine k_aload_n F (pc := 33) 0 rfl dX3_keepLess_33 rfl ?_
    refine k_get F (pc := 34) (ref := RX3) (C := RX3) (T := TX3) (N := 8) (ci := 3) 0 6 dX3_keepLess_34 zin_X3_keepLess_X3 rfl rfl (by decide) zm_X3_keepLess_f37 rfl rfl ?_
    refine k_iload_n F (pc := 37) 2 rfl dX3_keepLess_37 rfl ?_
    refine k_aload_n F (pc := 38) 0 rfl dX3_keepLess_38 rfl ?_
    refine k_get F (pc := 39) (ref := RX3) (C := RX3) (T := TX3) (N := 8) (ci := 3) 0 6 dX3_keepLess_39 zin_X3_keepLess_X3 rfl rfl (by decide) zm_X3_keepLess_f37 rfl rfl ?_
    refine k_iload_n F (pc := 42) 1 rfl dX3_keepLess_42 rfl ?_
    refine k_callV F (pc := 43) (C := RX0) (T := TX0) (N := 3) (ci := 0) [.int (nI a)] [.int (nI b), .ref (h 10)] 1 (wX0 E (h 10) (h 11) (h 12) fs1_4 lf (vp_updL hf a (mn (hf a) ((hf b) - 1)))) [cObj (h 0) 3 [.ref (h 1), .int (nI n), .int (bI sc), .int (nI rt), .ref (h 2), .ref (h 6), .ref (h 10), .ref (h 13)], cInt E (h 1) 96 cd, cObj (h 2) 2 [.ref (h 3), .ref (h 4), .ref (h 5)], cBoo E (h 3) 24 on, cLng E (h 4) 96 lo, cLng E (h 5) 96 hi, cObj (h 6) 2 [.ref (h 7), .ref (h 8), .ref (h 9)], cBoo E (h 7) 24 son, cLng E (h 8) 96 slo, cLng E (h 9) 96 shi, cObj (h 13) 1 [.int (bI em), .long le, .long gr]] [10, 11, 12] [0, 1, 2, 3, 4, 5, 6, 7, 8, 9, 13] (m_X0_lowOf l E (h 10) (h 11) (h 12) fs1_4 lf (vp_updL hf a (mn (hf a) ((hf b) - 1))) a (by omega)) dX3_keepLess_43 gX3_keepLess_X0_lowOf rfl (by decide +kernel) rfl ⟨rfl, rfl⟩ (by decide) rfl (Nat.le_of_ble_eq_true rfl) (by decide) rfl rfl rfl rfl (by decide) (by decide) (by decide) ?_
    rintro v_7 w_8 ⟨rfl, rfl⟩
    refine k_perm (wX3 E h cd n sc rt on lo hi son slo shi fs1_4 lf (vp_updL hf a (mn (hf a) ((hf b) - 1))) em le gr) [0, 1, 2, 3, 4, 5, 6, 7, 8, 9, 11, 12, 13, 10] (by decide) rfl ?_
    show kK g (wX3 E h cd n sc rt on lo hi son slo shi fs1_4 lf (vp_updL hf a (mn (hf a) ((hf b) - 1))) em le gr) [(0, .ref (h 0)), (1, .int (nI a)), (2, .int (nI b))] 0 0 46 [.long (lf a), .int (nI b), .ref (h 10)]
    refine k_lconst F (pc := 46) 1 dX3_keepLess_46 (by decide) ?_
    refine k_ladd F (pc := 47) dX3_keepLess_47 ?_
    refine k_callV F (pc := 48) (C := RX0) (T := TX0) (N := 3) (ci := 0) [.int (nI b), .long ((lf a) + 1)] [] 2 (wX0 E (h 10) (h 11) (h 12) fs1_4 lf (vp_updL hf a (mn (hf a) ((hf b) - 1)))) [cObj (h 0) 3 [.ref (h 1), .int (nI n), .int (bI sc), .int (nI rt), .ref (h 2), .ref (h 6), .ref (h 10), .ref (h 13)], cInt E (h 1) 96 cd, cObj (h 2) 2 [.ref (h 3), .ref (h 4), .ref (h 5)], cBoo E (h 3) 24 on, cLng E (h 4) 96 lo, cLng E (h 5) 96 hi, cObj (h 6) 2 [.ref (h 7), .ref (h 8), .ref (h 9)], cBoo E (h 7) 24 son, cLng E (h 8) 96 slo, cLng E (h 9) 96 shi, cObj (h 13) 1 [.int (bI em), .long le, .long gr]] [10, 11, 12] [0, 1, 2, 3, 4, 5, 6, 7, 8, 9, 13] (m_X0_raiseLow l E (h 10) (h 11) (h 12) fs1_4 lf (vp_updL hf a (mn (hf a) ((hf b) - 1))) b ((lf a) + 1) (by omega)) dX3_keepLess_48 gX3_keepLess_X0_raiseLow rfl (by decide +kernel) rfl ⟨rfl, rfl⟩ (by decide) rfl (Nat.le_of_ble_eq_true rfl) (by decide) rfl rfl rfl rfl (by decide) (by decide) (by decide) ?_
    rintro v_10 w_11 ⟨fs1_9, rfl, rfl, h2⟩
    refine k_perm (wX3 E h cd n sc rt on lo hi son slo shi fs1_9 (vp_updL lf b (mx (lf b) ((lf a) + 1))) (vp_updL hf a (mn (hf a) ((hf b) - 1))) em le gr) [0, 1, 2, 3, 4, 5, 6, 7, 8, 9, 11, 12, 13, 10] (by decide) rfl ?_
    show kK g (wX3 E h cd n sc rt on lo hi son slo shi fs1_9 (vp_updL lf b (mx (lf b) ((lf a) + 1))) (vp_updL hf a (mn (hf a) ((hf b) - 1))) em le gr) [(0, .ref (h 0)), (1, .int (nI a)), (2, .int (nI b))] 0 0 51 []
    refine k_vret F Rr (pc := 51) dX3_keepLess_51 ⟨fs1_9, (vp_updL lf b (mx (lf b) ((lf a) + 1))), (vp_updL hf a (mn (hf a) ((hf b) - 1))), rfl, rfl, ?_⟩
    intro X hX
    first
    | (rw [if_pos (show a = b by omega)]; exact frep_none)
    | (rw [if_neg (show ¬ a = b by omega)]; exact keepL_fin ha hb (by omega) h1 h2 X hX)
  · skip
    refine k_aload_n F (pc := 5) 0 rfl dX3_keepLess_5 rfl ?_
    refine k_get F (pc := 6) (ref := RX3) (C := RX3) (T := TX3) (N := 8) (ci := 3) 0 6 dX3_keepLess_6 zin_X3_keepLess_X3 rfl rfl (by decide) zm_X3_keepLess_f37 rfl rfl ?_
    refine k_callV F (pc := 9) (C := RX0) (T := TX0) (N := 3) (ci := 0) [] [] 0 (wX0 E (h 10) (h 11) (h 12) fs lf hf) [cObj (h 0) 3 [.ref (h 1), .int (nI n), .int (bI sc), .int (nI rt), .ref (h 2), .ref (h 6), .ref (h 10), .ref (h 13)], cInt E (h 1) 96 cd, cObj (h 2) 2 [.ref (h 3), .ref (h 4), .ref (h 5)], cBoo E (h 3) 24 on, cLng E (h 4) 96 lo, cLng E (h 5) 96 hi, cObj (h 6) 2 [.ref (h 7), .ref (h 8), .ref (h 9)], cBoo E (h 7) 24 son, cLng E (h 8) 96 slo, cLng E (h 9) 96 shi, cObj (h 13) 1 [.int (bI em), .long le, .long gr]] [10, 11, 12] [0, 1, 2, 3, 4, 5, 6, 7, 8, 9, 13] (m_X0_stop l E (h 10) (h 11) (h 12) fs lf hf) dX3_keepLess_9 gX3_keepLess_X0_stop rfl (by decide +kernel) rfl ⟨rfl, rfl⟩ (by decide) rfl (Nat.le_of_ble_eq_true rfl) (by decide) rfl rfl rfl rfl (by decide) (by decide) (by decide) ?_
    rintro v_12 w_13 ⟨rfl, rfl⟩
    refine k_perm (wX3 E h cd n sc rt on lo hi son slo shi false lf hf em le gr) [0, 1, 2, 3, 4, 5, 6, 7, 8, 9, 11, 12, 13, 10] (by decide) rfl ?_
    show kK g (wX3 E h cd n sc rt on lo hi son slo shi false lf hf em le gr) [(0, .ref (h 0)), (1, .int (nI a)), (2, .int (nI b))] 0 0 12 []
    refine k_goto F (pc := 12) 51 dX3_keepLess_12 (by decide) ?_
    refine k_vret F Rr (pc := 51) dX3_keepLess_51 ⟨false, lf, hf, rfl, rfl, ?_⟩
    intro X hX
    first
    | (rw [if_pos (show a = b by omega)]; exact frep_none)
    | (rw [if_neg (show ¬ a = b by omega)]; exact keepL_fin ha hb (by omega) h1 h2 X hX)
end
section
theorem zm_X3_makeFlowToNext_f9 : (Cond.fieldLink RX3 9 RX3 "codes" "[I" : Cond) ∈ wsX3_makeFlowToNext := by decide +kernel
theorem zin_X3_makeFlowToNext_X3 : ∀ w ∈ u_ws RX3 TX3 8, w ∈ wsX3_makeFlowToNext := by decide +kernel
theorem zm_X3_makeFlowToNext_f27 : (Cond.fieldLink RX3 27 RX3 "found" "LRangeScan$States;" : Cond) ∈ wsX3_makeFlowToNext := by decide +kernel
theorem zm_X3_makeFlowToNext_f37 : (Cond.fieldLink RX3 37 RX3 "flow" "LRangeScan$Flow;" : Cond) ∈ wsX3_makeFlowToNext := by decide +kernel
theorem zm_X3_makeFlowToNext_c149 : (Cond.constantLong RX3 149 (-2147483648) : Cond) ∈ wsX3_makeFlowToNext := by decide +kernel
theorem zm_X3_makeFlowToNext_c151 : (Cond.constantLong RX3 151 (2147483647) : Cond) ∈ wsX3_makeFlowToNext := by decide +kernel
set_option maxHeartbeats 4000000 in
set_option maxRecDepth 100000 in
theorem m_X3_makeFlowToNext (l : Launch) (E : kE) (h : Nat → Nat) (cd : Nat → Int32) (n : Nat) (sc : Bool) (rt : Nat) (on : Nat → Bool) (lo : Nat → Int64) (hi : Nat → Int64) (son : Nat → Bool) (slo : Nat → Int64) (shi : Nat → Int64) (fs : Bool) (lf : Nat → Int64) (hf : Nat → Int64) (em : Bool) (le : Int64) (gr : Int64) (p : Nat) (X : IV × IV) (hp : p < 24) (hok : okP cd p) (hX : okX X) (hR : ∀ v, v < 4 → lo (4 * p + v) = X.1 v ∧ hi (4 * p + v) = X.2 v) : kC l yX3_makeFlowToNext wsX3_makeFlowToNext ({ frames := 3, cells := 0, slots := 0, locals := 81 } : Room) E [.ref (h 0), .int (nI p)] (wX3 E h cd n sc rt on lo hi son slo shi fs lf hf em le gr) 0 0 (fun v_ w_ => ∃ (fs1 : Bool) (lf1 : Nat → Int64) (hf1 : Nat → Int64) (em1 : Bool) (le1 : Int64) (gr1 : Int64), v_ = none ∧ w_ = (wX3 E h cd n sc rt on lo hi son slo shi fs1 lf1 hf1 em1 le1 gr1) ∧ (FRep fs1 lf1 hf1 (fN cd p X))) := by
  refine kC.enter cX3_makeFlowToNext 6 none [(0, .ref (h 0)), (1, .int (nI p))] (by decide) rfl (Nat.le_of_ble_eq_true rfl) rfl ?_
  intro g F Rr
  refine k_iload_n F (pc := 0) 1 rfl dX3_makeFlowToNext_0 rfl ?_
  refine k_iconst F (pc := 1) ((nI 4)) dX3_makeFlowToNext_1 (by decide) ?_
  refine k_imulC F (pc := 2) dX3_makeFlowToNext_2 ?_
  refine k_istore_n F (pc := 3) [(2, .int (nI (4 * p))), (0, .ref (h 0)), (1, .int (nI p))] dX3_makeFlowToNext_3 rfl (by decide) rfl ?_
  refine k_aload_n F (pc := 4) 1 rfl dX3_makeFlowToNext_4 rfl ?_
  refine k_get F (pc := 5) (ref := RX3) (C := RX3) (T := TX3) (N := 8) (ci := 3) 0 0 dX3_makeFlowToNext_5 zin_X3_makeFlowToNext_X3 rfl rfl (by decide) zm_X3_makeFlowToNext_f9 rfl rfl ?_
  refine k_iload_n F (pc := 8) 0 rfl dX3_makeFlowToNext_8 rfl ?_
  refine k_iconst F (pc := 9) ((nI 0)) dX3_makeFlowToNext_9 (by decide) ?_
  refine k_iadd0 F (pc := 10) dX3_makeFlowToNext_10 ?_
  refine k_iald F (pc := 11) 1 dX3_makeFlowToNext_11 rfl (by omega) (by decide) ?_
  refine k_istore_n F (pc := 12) [(3, .int (cd (4 * p))), (2, .int (nI (4 * p))), (0, .ref (h 0)), (1, .int (nI p))] dX3_makeFlowToNext_12 rfl (by decide) rfl ?_
  refine k_aload_n F (pc := 13) 2 rfl dX3_makeFlowToNext_13 rfl ?_
  refine k_get F (pc := 14) (ref := RX3) (C := RX3) (T := TX3) (N := 8) (ci := 3) 0 0 dX3_makeFlowToNext_14 zin_X3_makeFlowToNext_X3 rfl rfl (by decide) zm_X3_makeFlowToNext_f9 rfl rfl ?_
  refine k_iload_n F (pc := 17) 1 rfl dX3_makeFlowToNext_17 rfl ?_
  refine k_iconst F (pc := 18) ((nI 1)) dX3_makeFlowToNext_18 (by decide) ?_
  refine k_iaddN F (pc := 19) dX3_makeFlowToNext_19 ?_
  refine k_iald F (pc := 20) 1 dX3_makeFlowToNext_20 rfl (by omega) (by decide) ?_
  refine k_istore F (pc := 21) [(4, .int (cd (4 * p + 1))), (3, .int (cd (4 * p))), (2, .int (nI (4 * p))), (0, .ref (h 0)), (1, .int (nI p))] dX3_makeFlowToNext_21 (by decide) rfl ?_
  refine k_aload_n F (pc := 23) 3 rfl dX3_makeFlowToNext_23 rfl ?_
  refine k_get F (pc := 24) (ref := RX3) (C := RX3) (T := TX3) (N := 8) (ci := 3) 0 0 dX3_makeFlowToNext_24 zin_X3_makeFlowToNext_X3 rfl rfl (by decide) zm_X3_makeFlowToNext_f9 rfl rfl ?_
  refine k_iload_n F (pc := 27) 2 rfl dX3_makeFlowToNext_27 rfl ?_
  refine k_iconst F (pc := 28) ((nI 2)) dX3_makeFlowToNext_28 (by decide) ?_
  refine k_iaddN F (pc := 29) dX3_makeFlowToNext_29 ?_
  refine k_iald F (pc := 30) 1 dX3_makeFlowToNext_30 rfl (by omega) (by decide) ?_
  refine k_istore F (pc := 31) [(5, .int (cd (4 * p + 2))), (4, .int (cd (4 * p + 1))), (3, .int (cd (4 * p))), (2, .int (nI (4 * p))), (0, .ref (h 0)), (1, .int (nI p))] dX3_makeFlowToNext_31 (by decide) rfl ?_
  refine k_aload_n F (pc := 33) 4 rfl dX3_makeFlowToNext_33 rfl ?_
  refine k_get F (pc := 34) (ref := RX3) (C := RX3) (T := TX3) (N := 8) (ci := 3) 0 4 dX3_makeFlowToNext_34 zin_X3_makeFlowToNext_X3 rfl rfl (by decide) zm_X3_makeFlowToNext_f27 rfl rfl ?_
  refine k_aload_n F (pc := 37) 4 rfl dX3_makeFlowToNext_37 rfl ?_
  refine k_get F (pc := 38) (ref := RX3) (C := RX3) (T := TX3) (N := 8) (ci := 3) 0 6 dX3_makeFlowToNext_38 zin_X3_makeFlowToNext_X3 rfl rfl (by decide) zm_X3_makeFlowToNext_f37 rfl rfl ?_
  refine k_iload_n F (pc := 41) 5 rfl dX3_makeFlowToNext_41 rfl ?_
  refine k_callV F (pc := 42) (C := RX2) (T := TX2) (N := 3) (ci := 2) [.ref (h 10), .int (nI p)] [] 2 (wX20 E (h 2) (h 3) (h 4) (h 5) on lo hi (h 10) (h 11) (h 12) fs lf hf) [cObj (h 0) 3 [.ref (h 1), .int (nI n), .int (bI sc), .int (nI rt), .ref (h 2), .ref (h 6), .ref (h 10), .ref (h 13)], cInt E (h 1) 96 cd, cObj (h 6) 2 [.ref (h 7), .ref (h 8), .ref (h 9)], cBoo E (h 7) 24 son, cLng E (h 8) 96 slo, cLng E (h 9) 96 shi, cObj (h 13) 1 [.int (bI em), .long le, .long gr]] [2, 3, 4, 5, 10, 11, 12] [0, 1, 6, 7, 8, 9, 13] (m_X2_copyTo l E (h 2) (h 3) (h 4) (h 5) on lo hi (h 10) (h 11) (h 12) fs lf hf p (by omega)) dX3_makeFlowToNext_42 gX3_makeFlowToNext_X2_copyTo rfl (by decide +kernel) rfl ⟨rfl, rfl⟩ (by decide) rfl (Nat.le_of_ble_eq_true rfl) (by decide) rfl rfl rfl rfl (by decide) (by decide) (by decide) ?_
  rintro v_3 w_4 ⟨lf1_1, hf1_2, rfl, rfl, hcp⟩
  refine k_perm (wX3 E h cd n sc rt on lo hi son slo shi true lf1_1 hf1_2 em le gr) [0, 1, 7, 8, 9, 10, 2, 3, 4, 5, 11, 12, 13, 6] (by decide) rfl ?_
  show kK g (wX3 E h cd n sc rt on lo hi son slo shi true lf1_1 hf1_2 em le gr) [(5, .int (cd (4 * p + 2))), (4, .int (cd (4 * p + 1))), (3, .int (cd (4 * p))), (2, .int (nI (4 * p))), (0, .ref (h 0)), (1, .int (nI p))] 0 0 45 []
  have hF0 : FRep true lf1_1 hf1_2 (some X) := cp_rep hcp hR
  refine k_iload_n F (pc := 45) 2 rfl dX3_makeFlowToNext_45 rfl ?_
  by_cases c_5 : (cd (4 * p)).toInt = 1
  · skip
    refine k_tabIn F (pc := 46) 1 104 dX3_makeFlowToNext_46 c_5 (by decide) (by decide) rfl (by decide) ?_
    have hop := c_5
    obtain ⟨ea, ha4⟩ := okP_a hok (by omega)
    refine k_aload_n F (pc := 104) 4 rfl dX3_makeFlowToNext_104 rfl ?_
    refine k_get F (pc := 105) (ref := RX3) (C := RX3) (T := TX3) (N := 8) (ci := 3) 0 6 dX3_makeFlowToNext_105 zin_X3_makeFlowToNext_X3 rfl rfl (by decide) zm_X3_makeFlowToNext_f37 rfl rfl ?_
    refine k_iload F (pc := 108) 1 rfl dX3_makeFlowToNext_108 ?_
    refine k_topi (nI ((cd (4 * p + 1)).toNatClampNeg)) ea ?_
    refine k_iload F (pc := 110) 0 rfl dX3_makeFlowToNext_110 ?_
    refine k_i2l F (pc := 112) ((cd (4 * p + 2)).toInt64) dX3_makeFlowToNext_112 rfl ?_
    refine k_iload F (pc := 113) 0 rfl dX3_makeFlowToNext_113 ?_
    refine k_i2l F (pc := 115) ((cd (4 * p + 2)).toInt64) dX3_makeFlowToNext_115 rfl ?_
    refine k_callV F (pc := 116) (C := RX0) (T := TX0) (N := 3) (ci := 0) [.int (nI ((cd (4 * p + 1)).toNatClampNeg)), .long ((cd (4 * p + 2)).toInt64), .long ((cd (4 * p + 2)).toInt64)] [] 3 (wX0 E (h 10) (h 11) (h 12) true lf1_1 hf1_2) [cObj (h 0) 3 [.ref (h 1), .int (nI n), .int (bI sc), .int (nI rt), .ref (h 2), .ref (h 6), .ref (h 10), .ref (h 13)], cInt E (h 1) 96 cd, cObj (h 2) 2 [.ref (h 3), .ref (h 4), .ref (h 5)], cBoo E (h 3) 24 on, cLng E (h 4) 96 lo, cLng E (h 5) 96 hi, cObj (h 6) 2 [.ref (h 7), .ref (h 8), .ref (h 9)], cBoo E (h 7) 24 son, cLng E (h 8) 96 slo, cLng E (h 9) 96 shi, cObj (h 13) 1 [.int (bI em), .long le, .long gr]] [10, 11, 12] [0, 1, 2, 3, 4, 5, 6, 7, 8, 9, 13] (m_X0_put l E (h 10) (h 11) (h 12) true lf1_1 hf1_2 ((cd (4 * p + 1)).toNatClampNeg) ((cd (4 * p + 2)).toInt64) ((cd (4 * p + 2)).toInt64) (by omega)) dX3_makeFlowToNext_116 gX3_makeFlowToNext_X0_put rfl (by decide +kernel) rfl ⟨rfl, rfl⟩ (by decide) rfl (Nat.le_of_ble_eq_true rfl) (by decide) rfl rfl rfl rfl (by decide) (by decide) (by decide) ?_
    rintro v_6 w_7 ⟨rfl, rfl⟩
    refine k_perm (wX3 E h cd n sc rt on lo hi son slo shi true (vp_updL lf1_1 ((cd (4 * p + 1)).toNatClampNeg) ((cd (4 * p + 2)).toInt64)) (vp_updL hf1_2 ((cd (4 * p + 1)).toNatClampNeg) ((cd (4 * p + 2)).toInt64)) em le gr) [0, 1, 2, 3, 4, 5, 6, 7, 8, 9, 11, 12, 13, 10] (by decide) rfl ?_
    show kK g (wX3 E h cd n sc rt on lo hi son slo shi true (vp_updL lf1_1 ((cd (4 * p + 1)).toNatClampNeg) ((cd (4 * p + 2)).toInt64)) (vp_updL hf1_2 ((cd (4 * p + 1)).toNatClampNeg) ((cd (4 * p + 2)).toInt64)) em le gr) [(5, .int (cd (4 * p + 2))), (4, .int (cd (4 * p + 1))), (3, .int (cd (4 * p))), (2, .int (nI (4 * p))), (0, .ref (h 0)), (1, .int (nI p))] 0 0 119 []
    have hfin : FRep true (vp_updL lf1_1 ((cd (4 * p + 1)).toNatClampNeg) ((cd (4 * p + 2)).toInt64)) (vp_updL hf1_2 ((cd (4 * p + 1)).toNatClampNeg) ((cd (4 * p + 2)).toInt64)) (fN cd p X) := by rw [fN_1 hop]; exact hF0.put _ _ _
    refine k_goto F (pc := 119) 245 dX3_makeFlowToNext_119 (by decide) ?_
    refine k_vret F Rr (pc := 245) dX3_makeFlowToNext_245 ⟨true, (vp_updL lf1_1 ((cd (4 * p + 1)).toNatClampNeg) ((cd (4 * p + 2)).toInt64)), (vp_updL hf1_2 ((cd (4 * p + 1)).toNatClampNeg) ((cd (4 * p + 2)).toInt64)), em, le, gr, rfl, rfl, ?_⟩
    exact hfin
  by_cases c_8 : (cd (4 * p)).toInt = 2
  · skip
    refine k_tabIn F (pc := 46) 2 122 dX3_makeFlowToNext_46 c_8 (by decide) (by decide) rfl (by decide) ?_
    have hop := c_8
    obtain ⟨ea, ha4⟩ := okP_a hok (by omega)
    obtain ⟨eb, hb4⟩ := okP_b hok (by omega)
    refine k_aload_n F (pc := 122) 4 rfl dX3_makeFlowToNext_122 rfl ?_
    refine k_get F (pc := 123) (ref := RX3) (C := RX3) (T := TX3) (N := 8) (ci := 3) 0 6 dX3_makeFlowToNext_123 zin_X3_makeFlowToNext_X3 rfl rfl (by decide) zm_X3_makeFlowToNext_f37 rfl rfl ?_
    refine k_iload F (pc := 126) 1 rfl dX3_makeFlowToNext_126 ?_
    refine k_topi (nI ((cd (4 * p + 1)).toNatClampNeg)) ea ?_
    refine k_aload_n F (pc := 128) 4 rfl dX3_makeFlowToNext_128 rfl ?_
    refine k_get F (pc := 129) (ref := RX3) (C := RX3) (T := TX3) (N := 8) (ci := 3) 0 6 dX3_makeFlowToNext_129 zin_X3_makeFlowToNext_X3 rfl rfl (by decide) zm_X3_makeFlowToNext_f37 rfl rfl ?_
    refine k_iload F (pc := 132) 0 rfl dX3_makeFlowToNext_132 ?_
    refine k_topi (nI ((cd (4 * p + 2)).toNatClampNeg)) eb ?_
    refine k_callV F (pc := 134) (C := RX0) (T := TX0) (N := 3) (ci := 0) [.int (nI ((cd (4 * p + 2)).toNatClampNeg))] [.int (nI ((cd (4 * p + 1)).toNatClampNeg)), .ref (h 10)] 1 (wX0 E (h 10) (h 11) (h 12) true lf1_1 hf1_2) [cObj (h 0) 3 [.ref (h 1), .int (nI n), .int (bI sc), .int (nI rt), .ref (h 2), .ref (h 6), .ref (h 10), .ref (h 13)], cInt E (h 1) 96 cd, cObj (h 2) 2 [.ref (h 3), .ref (h 4), .ref (h 5)], cBoo E (h 3) 24 on, cLng E (h 4) 96 lo, cLng E (h 5) 96 hi, cObj (h 6) 2 [.ref (h 7), .ref (h 8), .ref (h 9)], cBoo E (h 7) 24 son, cLng E (h 8) 96 slo, cLng E (h 9) 96 shi, cObj (h 13) 1 [.int (bI em), .long le, .long gr]] [10, 11, 12] [0, 1, 2, 3, 4, 5, 6, 7, 8, 9, 13] (m_X0_lowOf l E (h 10) (h 11) (h 12) true lf1_1 hf1_2 ((cd (4 * p + 2)).toNatClampNeg) (by omega)) dX3_makeFlowToNext_134 gX3_makeFlowToNext_X0_lowOf rfl (by decide +kernel) rfl ⟨rfl, rfl⟩ (by decide) rfl (Nat.le_of_ble_eq_true rfl) (by decide) rfl rfl rfl rfl (by decide) (by decide) (by decide) ?_
    rintro v_9 w_10 ⟨rfl, rfl⟩
    refine k_perm (wX3 E h cd n sc rt on lo hi son slo shi true lf1_1 hf1_2 em le gr) [0, 1, 2, 3, 4, 5, 6, 7, 8, 9, 11, 12, 13, 10] (by decide) rfl ?_
    show kK g (wX3 E h cd n sc rt on lo hi son slo shi true lf1_1 hf1_2 em le gr) [(5, .int (cd (4 * p + 2))), (4, .int (cd (4 * p + 1))), (3, .int (cd (4 * p))), (2, .int (nI (4 * p))), (0, .ref (h 0)), (1, .int (nI p))] 0 0 137 [.long (lf1_1 ((cd (4 * p + 2)).toNatClampNeg)), .int (nI ((cd (4 * p + 1)).toNatClampNeg)), .ref (h 10)]
    refine k_aload_n F (pc := 137) 4 rfl dX3_makeFlowToNext_137 rfl ?_
    refine k_get F (pc := 138) (ref := RX3) (C := RX3) (T := TX3) (N := 8) (ci := 3) 0 6 dX3_makeFlowToNext_138 zin_X3_makeFlowToNext_X3 rfl rfl (by decide) zm_X3_makeFlowToNext_f37 rfl rfl ?_
    refine k_iload F (pc := 141) 0 rfl dX3_makeFlowToNext_141 ?_
    refine k_topi (nI ((cd (4 * p + 2)).toNatClampNeg)) eb ?_
    refine k_callV F (pc := 143) (C := RX0) (T := TX0) (N := 3) (ci := 0) [.int (nI ((cd (4 * p + 2)).toNatClampNeg))] [.long (lf1_1 ((cd (4 * p + 2)).toNatClampNeg)), .int (nI ((cd (4 * p + 1)).toNatClampNeg)), .ref (h 10)] 1 (wX0 E (h 10) (h 11) (h 12) true lf1_1 hf1_2) [cObj (h 0) 3 [.ref (h 1), .int (nI n), .int (bI sc), .int (nI rt), .ref (h 2), .ref (h 6), .ref (h 10), .ref (h 13)], cInt E (h 1) 96 cd, cObj (h 2) 2 [.ref (h 3), .ref (h 4), .ref (h 5)], cBoo E (h 3) 24 on, cLng E (h 4) 96 lo, cLng E (h 5) 96 hi, cObj (h 6) 2 [.ref (h 7), .ref (h 8), .ref (h 9)], cBoo E (h 7) 24 son, cLng E (h 8) 96 slo, cLng E (h 9) 96 shi, cObj (h 13) 1 [.int (bI em), .long le, .long gr]] [10, 11, 12] [0, 1, 2, 3, 4, 5, 6, 7, 8, 9, 13] (m_X0_highOf l E (h 10) (h 11) (h 12) true lf1_1 hf1_2 ((cd (4 * p + 2)).toNatClampNeg) (by omega)) dX3_makeFlowToNext_143 gX3_makeFlowToNext_X0_highOf rfl (by decide +kernel) rfl ⟨rfl, rfl⟩ (by decide) rfl (Nat.le_of_ble_eq_true rfl) (by decide) rfl rfl rfl rfl (by decide) (by decide) (by decide) ?_
    rintro v_11 w_12 ⟨rfl, rfl⟩
    refine k_perm (wX3 E h cd n sc rt on lo hi son slo shi true lf1_1 hf1_2 em le gr) [0, 1, 2, 3, 4, 5, 6, 7, 8, 9, 11, 12, 13, 10] (by decide) rfl ?_
    show kK g (wX3 E h cd n sc rt on lo hi son slo shi true lf1_1 hf1_2 em le gr) [(5, .int (cd (4 * p + 2))), (4, .int (cd (4 * p + 1))), (3, .int (cd (4 * p))), (2, .int (nI (4 * p))), (0, .ref (h 0)), (1, .int (nI p))] 0 0 146 [.long (hf1_2 ((cd (4 * p + 2)).toNatClampNeg)), .long (lf1_1 ((cd (4 * p + 2)).toNatClampNeg)), .int (nI ((cd (4 * p + 1)).toNatClampNeg)), .ref (h 10)]
    refine k_callV F (pc := 146) (C := RX0) (T := TX0) (N := 3) (ci := 0) [.int (nI ((cd (4 * p + 1)).toNatClampNeg)), .long (lf1_1 ((cd (4 * p + 2)).toNatClampNeg)), .long (hf1_2 ((cd (4 * p + 2)).toNatClampNeg))] [] 3 (wX0 E (h 10) (h 11) (h 12) true lf1_1 hf1_2) [cObj (h 0) 3 [.ref (h 1), .int (nI n), .int (bI sc), .int (nI rt), .ref (h 2), .ref (h 6), .ref (h 10), .ref (h 13)], cInt E (h 1) 96 cd, cObj (h 2) 2 [.ref (h 3), .ref (h 4), .ref (h 5)], cBoo E (h 3) 24 on, cLng E (h 4) 96 lo, cLng E (h 5) 96 hi, cObj (h 6) 2 [.ref (h 7), .ref (h 8), .ref (h 9)], cBoo E (h 7) 24 son, cLng E (h 8) 96 slo, cLng E (h 9) 96 shi, cObj (h 13) 1 [.int (bI em), .long le, .long gr]] [10, 11, 12] [0, 1, 2, 3, 4, 5, 6, 7, 8, 9, 13] (m_X0_put l E (h 10) (h 11) (h 12) true lf1_1 hf1_2 ((cd (4 * p + 1)).toNatClampNeg) (lf1_1 ((cd (4 * p + 2)).toNatClampNeg)) (hf1_2 ((cd (4 * p + 2)).toNatClampNeg)) (by omega)) dX3_makeFlowToNext_146 gX3_makeFlowToNext_X0_put rfl (by decide +kernel) rfl ⟨rfl, rfl⟩ (by decide) rfl (Nat.le_of_ble_eq_true rfl) (by decide) rfl rfl rfl rfl (by decide) (by decide) (by decide) ?_
    rintro v_13 w_14 ⟨rfl, rfl⟩
    refine k_perm (wX3 E h cd n sc rt on lo hi son slo shi true (vp_updL lf1_1 ((cd (4 * p + 1)).toNatClampNeg) (lf1_1 ((cd (4 * p + 2)).toNatClampNeg))) (vp_updL hf1_2 ((cd (4 * p + 1)).toNatClampNeg) (hf1_2 ((cd (4 * p + 2)).toNatClampNeg))) em le gr) [0, 1, 2, 3, 4, 5, 6, 7, 8, 9, 11, 12, 13, 10] (by decide) rfl ?_
    show kK g (wX3 E h cd n sc rt on lo hi son slo shi true (vp_updL lf1_1 ((cd (4 * p + 1)).toNatClampNeg) (lf1_1 ((cd (4 * p + 2)).toNatClampNeg))) (vp_updL hf1_2 ((cd (4 * p + 1)).toNatClampNeg) (hf1_2 ((cd (4 * p + 2)).toNatClampNeg))) em le gr) [(5, .int (cd (4 * p + 2))), (4, .int (cd (4 * p + 1))), (3, .int (cd (4 * p))), (2, .int (nI (4 * p))), (0, .ref (h 0)), (1, .int (nI p))] 0 0 149 []
    have hfin : FRep true (vp_updL lf1_1 ((cd (4 * p + 1)).toNatClampNeg) (lf1_1 ((cd (4 * p + 2)).toNatClampNeg))) (vp_updL hf1_2 ((cd (4 * p + 1)).toNatClampNeg) (hf1_2 ((cd (4 * p + 2)).toNatClampNeg))) (fN cd p X) := next_2 hF0 hop hb4
    refine k_goto F (pc := 149) 245 dX3_makeFlowToNext_149 (by decide) ?_
    refine k_vret F Rr (pc := 245) dX3_makeFlowToNext_245 ⟨true, (vp_updL lf1_1 ((cd (4 * p + 1)).toNatClampNeg) (lf1_1 ((cd (4 * p + 2)).toNatClampNeg))), (vp_updL hf1_2 ((cd (4 * p + 1)).toNatClampNeg) (hf1_2 ((cd (4 * p + 2)).toNatClampNeg))), em, le, gr, rfl, rfl, ?_⟩
    exact hfin
  by_cases c_15 : (cd (4 * p)).toInt = 3
  · skip
    refine k_tabIn F (pc := 46) 3 152 dX3_makeFlowToNext_46 c_15 (by decide) (by decide) rfl (by decide) ?_
    have hop := c_15
    obtain ⟨ea, ha4⟩ := okP_a hok (by omega)
    obtain ⟨eb, hb4⟩ := okP_b hok (by omega)
    obtain ⟨ec, hc4⟩ := okP_c hok (by omega)
    refine k_aload_n F (pc := 152) 4 rfl dX3_makeFlowToNext_152 rfl ?_
    refine k_iload_n F (pc := 153) 2 rfl dX3_makeFlowToNext_153 rfl ?_
    refine k_iload F (pc := 154) 0 rfl dX3_makeFlowToNext_154 ?_
    refine k_topi (nI ((cd (4 * p + 2)).toNatClampNeg)) eb ?_
    refine k_aload_n F (pc := 156) 4 rfl dX3_makeFlowToNext_156 rfl ?_
    refine k_get F (pc := 157) (ref := RX3) (C := RX3) (T := TX3) (N := 8) (ci := 3) 0 0 dX3_makeFlowToNext_157 zin_X3_makeFlowToNext_X3 rfl rfl (by decide) zm_X3_makeFlowToNext_f9 rfl rfl ?_
    refine k_iload_n F (pc := 160) 3 rfl dX3_makeFlowToNext_160 rfl ?_
    refine k_iconst F (pc := 161) ((nI 3)) dX3_makeFlowToNext_161 (by decide) ?_
    refine k_iaddN F (pc := 162) dX3_makeFlowToNext_162 ?_
    refine k_iald F (pc := 163) 1 dX3_makeFlowToNext_163 rfl (by omega) (by decide) ?_
    refine k_topi (nI ((cd (4 * p + 3)).toNatClampNeg)) ec ?_
    refine k_callV F (pc := 164) (C := RX3) (T := TX3) (N := 8) (ci := 3) [.int (cd (4 * p)), .int (nI ((cd (4 * p + 2)).toNatClampNeg)), .int (nI ((cd (4 * p + 3)).toNatClampNeg))] [] 3 (wX3 E h cd n sc rt on lo hi son slo shi true lf1_1 hf1_2 em le gr) [] [0, 1, 2, 3, 4, 5, 6, 7, 8, 9, 10, 11, 12, 13] [] (m_X3_calculate l E h cd n sc rt on lo hi son slo shi true lf1_1 hf1_2 em le gr (cd (4 * p)) ((cd (4 * p + 2)).toNatClampNeg) ((cd (4 * p + 3)).toNatClampNeg) (by omega) (by omega) (by omega) (by rw [((hF0.2 X rfl).2 _ hc4).1, ((hF0.2 X rfl).2 _ hc4).2]; exact (hX _ hc4).2.1)) dX3_makeFlowToNext_164 gX3_makeFlowToNext_X3_calculate rfl (by decide +kernel) rfl ⟨rfl, rfl⟩ (by decide) rfl (Nat.le_of_ble_eq_true rfl) (by decide) rfl rfl rfl rfl (by decide) (by decide) (by decide) ?_
    rintro v_19 w_20 ⟨em1_16, le1_17, gr1_18, rfl, rfl, hca⟩
    refine k_perm (wX3 E h cd n sc rt on lo hi son slo shi true lf1_1 hf1_2 em1_16 le1_17 gr1_18) [0, 1, 2, 3, 4, 5, 6, 7, 8, 9, 10, 11, 12, 13] (by decide) rfl ?_
    show kK g (wX3 E h cd n sc rt on lo hi son slo shi true lf1_1 hf1_2 em1_16 le1_17 gr1_18) [(5, .int (cd (4 * p + 2))), (4, .int (cd (4 * p + 1))), (3, .int (cd (4 * p))), (2, .int (nI (4 * p))), (0, .ref (h 0)), (1, .int (nI p))] 0 0 167 []
    refine k_aload_n F (pc := 167) 4 rfl dX3_makeFlowToNext_167 rfl ?_
    refine k_iload F (pc := 168) 1 rfl dX3_makeFlowToNext_168 ?_
    refine k_topi (nI ((cd (4 * p + 1)).toNatClampNeg)) ea ?_
    refine k_callV F (pc := 170) (C := RX3) (T := TX3) (N := 8) (ci := 3) [.int (nI ((cd (4 * p + 1)).toNatClampNeg))] [] 1 (wX3 E h cd n sc rt on lo hi son slo shi true lf1_1 hf1_2 em1_16 le1_17 gr1_18) [] [0, 1, 2, 3, 4, 5, 6, 7, 8, 9, 10, 11, 12, 13] [] (m_X3_putResults l E h cd n sc rt on lo hi son slo shi true lf1_1 hf1_2 em1_16 le1_17 gr1_18 ((cd (4 * p + 1)).toNatClampNeg) (calcR (cd (4 * p)).toInt (lf1_1 ((cd (4 * p + 2)).toNatClampNeg)) (hf1_2 ((cd (4 * p + 2)).toNatClampNeg)) (lf1_1 ((cd (4 * p + 3)).toNatClampNeg)) (hf1_2 ((cd (4 * p + 3)).toNatClampNeg))) (by omega) hca) dX3_makeFlowToNext_170 gX3_makeFlowToNext_X3_putResults rfl (by decide +kernel) rfl ⟨rfl, rfl⟩ (by decide) rfl (Nat.le_of_ble_eq_true rfl) (by decide) rfl rfl rfl rfl (by decide) (by decide) (by decide) ?_
    rintro v_24 w_25 ⟨fs1_21, lf1_22, hf1_23, rfl, rfl, hpr⟩
    refine k_perm (wX3 E h cd n sc rt on lo hi son slo shi fs1_21 lf1_22 hf1_23 em1_16 le1_17 gr1_18) [0, 1, 2, 3, 4, 5, 6, 7, 8, 9, 10, 11, 12, 13] (by decide) rfl ?_
    show kK g (wX3 E h cd n sc rt on lo hi son slo shi fs1_21 lf1_22 hf1_23 em1_16 le1_17 gr1_18) [(5, .int (cd (4 * p + 2))), (4, .int (cd (4 * p + 1))), (3, .int (cd (4 * p))), (2, .int (nI (4 * p))), (0, .ref (h 0)), (1, .int (nI p))] 0 0 173 []
    have hfin : FRep fs1_21 lf1_22 hf1_23 (fN cd p X) := next_3 hF0 (by omega) hb4 hc4 hpr
    refine k_goto F (pc := 173) 245 dX3_makeFlowToNext_173 (by decide) ?_
    refine k_vret F Rr (pc := 245) dX3_makeFlowToNext_245 ⟨fs1_21, lf1_22, hf1_23, em1_16, le1_17, gr1_18, rfl, rfl, ?_⟩
    exact hfin
  by_cases c_26 : (cd (4 * p)).toInt = 4
  · skip
    refine k_tabIn F (pc := 46) 4 152 dX3_makeFlowToNext_46 c_26 (by decide) (by decide) rfl (by decide) ?_
    have hop := c_26
    obtain ⟨ea, ha4⟩ := okP_a hok (by omega)
    obtain ⟨eb, hb4⟩ := okP_b hok (by omega)
    obtain ⟨ec, hc4⟩ := okP_c hok (by omega)
    refine k_aload_n F (pc := 152) 4 rfl dX3_makeFlowToNext_152 rfl ?_
    refine k_iload_n F (pc := 153) 2 rfl dX3_makeFlowToNext_153 rfl ?_
    refine k_iload F (pc := 154) 0 rfl dX3_makeFlowToNext_154 ?_
    refine k_topi (nI ((cd (4 * p + 2)).toNatClampNeg)) eb ?_
    refine k_aload_n F (pc := 156) 4 rfl dX3_makeFlowToNext_156 rfl ?_
    refine k_get F (pc := 157) (ref := RX3) (C := RX3) (T := TX3) (N := 8) (ci := 3) 0 0 dX3_makeFlowToNext_157 zin_X3_makeFlowToNext_X3 rfl rfl (by decide) zm_X3_makeFlowToNext_f9 rfl rfl ?_
    refine k_iload_n F (pc := 160) 3 rfl dX3_makeFlowToNext_160 rfl ?_
    refine k_iconst F (pc := 161) ((nI 3)) dX3_makeFlowToNext_161 (by decide) ?_
    refine k_iaddN F (pc := 162) dX3_makeFlowToNext_162 ?_
    refine k_iald F (pc := 163) 1 dX3_makeFlowToNext_163 rfl (by omega) (by decide) ?_
    refine k_topi (nI ((cd (4 * p + 3)).toNatClampNeg)) ec ?_
    refine k_callV F (pc := 164) (C := RX3) (T := TX3) (N := 8) (ci := 3) [.int (cd (4 * p)), .int (nI ((cd (4 * p + 2)).toNatClampNeg)), .int (nI ((cd (4 * p + 3)).toNatClampNeg))] [] 3 (wX3 E h cd n sc rt on lo hi son slo shi true lf1_1 hf1_2 em le gr) [] [0, 1, 2, 3, 4, 5, 6, 7, 8, 9, 10, 11, 12, 13] [] (m_X3_calculate l E h cd n sc rt on lo hi son slo shi true lf1_1 hf1_2 em le gr (cd (4 * p)) ((cd (4 * p + 2)).toNatClampNeg) ((cd (4 * p + 3)).toNatClampNeg) (by omega) (by omega) (by omega) (by rw [((hF0.2 X rfl).2 _ hc4).1, ((hF0.2 X rfl).2 _ hc4).2]; exact (hX _ hc4).2.1)) dX3_makeFlowToNext_164 gX3_makeFlowToNext_X3_calculate rfl (by decide +kernel) rfl ⟨rfl, rfl⟩ (by decide) rfl (Nat.le_of_ble_eq_true rfl) (by decide) rfl rfl rfl rfl (by decide) (by decide) (by decide) ?_
    rintro v_30 w_31 ⟨em1_27, le1_28, gr1_29, rfl, rfl, hca⟩
    refine k_perm (wX3 E h cd n sc rt on lo hi son slo shi true lf1_1 hf1_2 em1_27 le1_28 gr1_29) [0, 1, 2, 3, 4, 5, 6, 7, 8, 9, 10, 11, 12, 13] (by decide) rfl ?_
    show kK g (wX3 E h cd n sc rt on lo hi son slo shi true lf1_1 hf1_2 em1_27 le1_28 gr1_29) [(5, .int (cd (4 * p + 2))), (4, .int (cd (4 * p + 1))), (3, .int (cd (4 * p))), (2, .int (nI (4 * p))), (0, .ref (h 0)), (1, .int (nI p))] 0 0 167 []
    refine k_aload_n F (pc := 167) 4 rfl dX3_makeFlowToNext_167 rfl ?_
    refine k_iload F (pc := 168) 1 rfl dX3_makeFlowToNext_168 ?_
    refine k_topi (nI ((cd (4 * p + 1)).toNatClampNeg)) ea ?_
    refine k_callV F (pc := 170) (C := RX3) (T := TX3) (N := 8) (ci := 3) [.int (nI ((cd (4 * p + 1)).toNatClampNeg))] [] 1 (wX3 E h cd n sc rt on lo hi son slo shi true lf1_1 hf1_2 em1_27 le1_28 gr1_29) [] [0, 1, 2, 3, 4, 5, 6, 7, 8, 9, 10, 11, 12, 13] [] (m_X3_putResults l E h cd n sc rt on lo hi son slo shi true lf1_1 hf1_2 em1_27 le1_28 gr1_29 ((cd (4 * p + 1)).toNatClampNeg) (calcR (cd (4 * p)).toInt (lf1_1 ((cd (4 * p + 2)).toNatClampNeg)) (hf1_2 ((cd (4 * p + 2)).toNatClampNeg)) (lf1_1 ((cd (4 * p + 3)).toNatClampNeg)) (hf1_2 ((cd (4 * p + 3)).toNatClampNeg))) (by omega) hca) dX3_makeFlowToNext_170 gX3_makeFlowToNext_X3_putResults rfl (by decide +kernel) rfl ⟨rfl, rfl⟩ (by decide) rfl (Nat.le_of_ble_eq_true rfl) (by decide) rfl rfl rfl rfl (by decide) (by decide) (by decide) ?_
    rintro v_35 w_36 ⟨fs1_32, lf1_33, hf1_34, rfl, rfl, hpr⟩
    refine k_perm (wX3 E h cd n sc rt on lo hi son slo shi fs1_32 lf1_33 hf1_34 em1_27 le1_28 gr1_29) [0, 1, 2, 3, 4, 5, 6, 7, 8, 9, 10, 11, 12, 13] (by decide) rfl ?_
    show kK g (wX3 E h cd n sc rt on lo hi son slo shi fs1_32 lf1_33 hf1_34 em1_27 le1_28 gr1_29) [(5, .int (cd (4 * p + 2))), (4, .int (cd (4 * p + 1))), (3, .int (cd (4 * p))), (2, .int (nI (4 * p))), (0, .ref (h 0)), (1, .int (nI p))] 0 0 173 []
    have hfin : FRep fs1_32 lf1_33 hf1_34 (fN cd p X) := next_3 hF0 (by omega) hb4 hc4 hpr
    refine k_goto F (pc := 173) 245 dX3_makeFlowToNext_173 (by decide) ?_
    refine k_vret F Rr (pc := 245) dX3_makeFlowToNext_245 ⟨fs1_32, lf1_33, hf1_34, em1_27, le1_28, gr1_29, rfl, rfl, ?_⟩
    exact hfin
  by_cases c_37 : (cd (4 * p)).toInt = 5
  · skip
    refine k_tabIn F (pc := 46) 5 152 dX3_makeFlowToNext_46 c_37 (by decide) (by decide) rfl (by decide) ?_
    have hop := c_37
    obtain ⟨ea, ha4⟩ := okP_a hok (by omega)
    obtain ⟨eb, hb4⟩ := okP_b hok (by omega)
    obtain ⟨ec, hc4⟩ := okP_c hok (by omega)
    refine k_aload_n F (pc := 152) 4 rfl dX3_makeFlowToNext_152 rfl ?_
    refine k_iload_n F (pc := 153) 2 rfl dX3_makeFlowToNext_153 rfl ?_
    refine k_iload F (pc := 154) 0 rfl dX3_makeFlowToNext_154 ?_
    refine k_topi (nI ((cd (4 * p + 2)).toNatClampNeg)) eb ?_
    refine k_aload_n F (pc := 156) 4 rfl dX3_makeFlowToNext_156 rfl ?_
    refine k_get F (pc := 157) (ref := RX3) (C := RX3) (T := TX3) (N := 8) (ci := 3) 0 0 dX3_makeFlowToNext_157 zin_X3_makeFlowToNext_X3 rfl rfl (by decide) zm_X3_makeFlowToNext_f9 rfl rfl ?_
    refine k_iload_n F (pc := 160) 3 rfl dX3_makeFlowToNext_160 rfl ?_
    refine k_iconst F (pc := 161) ((nI 3)) dX3_makeFlowToNext_161 (by decide) ?_
    refine k_iaddN F (pc := 162) dX3_makeFlowToNext_162 ?_
    refine k_iald F (pc := 163) 1 dX3_makeFlowToNext_163 rfl (by omega) (by decide) ?_
    refine k_topi (nI ((cd (4 * p + 3)).toNatClampNeg)) ec ?_
    refine k_callV F (pc := 164) (C := RX3) (T := TX3) (N := 8) (ci := 3) [.int (cd (4 * p)), .int (nI ((cd (4 * p + 2)).toNatClampNeg)), .int (nI ((cd (4 * p + 3)).toNatClampNeg))] [] 3 (wX3 E h cd n sc rt on lo hi son slo shi true lf1_1 hf1_2 em le gr) [] [0, 1, 2, 3, 4, 5, 6, 7, 8, 9, 10, 11, 12, 13] [] (m_X3_calculate l E h cd n sc rt on lo hi son slo shi true lf1_1 hf1_2 em le gr (cd (4 * p)) ((cd (4 * p + 2)).toNatClampNeg) ((cd (4 * p + 3)).toNatClampNeg) (by omega) (by omega) (by omega) (by rw [((hF0.2 X rfl).2 _ hc4).1, ((hF0.2 X rfl).2 _ hc4).2]; exact (hX _ hc4).2.1)) dX3_makeFlowToNext_164 gX3_makeFlowToNext_X3_calculate rfl (by decide +kernel) rfl ⟨rfl, rfl⟩ (by decide) rfl (Nat.le_of_ble_eq_true rfl) (by decide) rfl rfl rfl rfl (by decide) (by decide) (by decide) ?_
    rintro v_41 w_42 ⟨em1_38, le1_39, gr1_40, rfl, rfl, hca⟩
    refine k_perm (wX3 E h cd n sc rt on lo hi son slo shi true lf1_1 hf1_2 em1_38 le1_39 gr1_40) [0, 1, 2, 3, 4, 5, 6, 7, 8, 9, 10, 11, 12, 13] (by decide) rfl ?_
    show kK g (wX3 E h cd n sc rt on lo hi son slo shi true lf1_1 hf1_2 em1_38 le1_39 gr1_40) [(5, .int (cd (4 * p + 2))), (4, .int (cd (4 * p + 1))), (3, .int (cd (4 * p))), (2, .int (nI (4 * p))), (0, .ref (h 0)), (1, .int (nI p))] 0 0 167 []
    refine k_aload_n F (pc := 167) 4 rfl dX3_makeFlowToNext_167 rfl ?_
    refine k_iload F (pc := 168) 1 rfl dX3_makeFlowToNext_168 ?_
    refine k_topi (nI ((cd (4 * p + 1)).toNatClampNeg)) ea ?_
    refine k_callV F (pc := 170) (C := RX3) (T := TX3) (N := 8) (ci := 3) [.int (nI ((cd (4 * p + 1)).toNatClampNeg))] [] 1 (wX3 E h cd n sc rt on lo hi son slo shi true lf1_1 hf1_2 em1_38 le1_39 gr1_40) [] [0, 1, 2, 3, 4, 5, 6, 7, 8, 9, 10, 11, 12, 13] [] (m_X3_putResults l E h cd n sc rt on lo hi son slo shi true lf1_1 hf1_2 em1_38 le1_39 gr1_40 ((cd (4 * p + 1)).toNatClampNeg) (calcR (cd (4 * p)).toInt (lf1_1 ((cd (4 * p + 2)).toNatClampNeg)) (hf1_2 ((cd (4 * p + 2)).toNatClampNeg)) (lf1_1 ((cd (4 * p + 3)).toNatClampNeg)) (hf1_2 ((cd (4 * p + 3)).toNatClampNeg))) (by omega) hca) dX3_makeFlowToNext_170 gX3_makeFlowToNext_X3_putResults rfl (by decide +kernel) rfl ⟨rfl, rfl⟩ (by decide) rfl (Nat.le_of_ble_eq_true rfl) (by decide) rfl rfl rfl rfl (by decide) (by decide) (by decide) ?_
    rintro v_46 w_47 ⟨fs1_43, lf1_44, hf1_45, rfl, rfl, hpr⟩
    refine k_perm (wX3 E h cd n sc rt on lo hi son slo shi fs1_43 lf1_44 hf1_45 em1_38 le1_39 gr1_40) [0, 1, 2, 3, 4, 5, 6, 7, 8, 9, 10, 11, 12, 13] (by decide) rfl ?_
    show kK g (wX3 E h cd n sc rt on lo hi son slo shi fs1_43 lf1_44 hf1_45 em1_38 le1_39 gr1_40) [(5, .int (cd (4 * p + 2))), (4, .int (cd (4 * p + 1))), (3, .int (cd (4 * p))), (2, .int (nI (4 * p))), (0, .ref (h 0)), (1, .int (nI p))] 0 0 173 []
    have hfin : FRep fs1_43 lf1_44 hf1_45 (fN cd p X) := next_3 hF0 (by omega) hb4 hc4 hpr
    refine k_goto F (pc := 173) 245 dX3_makeFlowToNext_173 (by decide) ?_
    refine k_vret F Rr (pc := 245) dX3_makeFlowToNext_245 ⟨fs1_43, lf1_44, hf1_45, em1_38, le1_39, gr1_40, rfl, rfl, ?_⟩
    exact hfin
  by_cases c_48 : (cd (4 * p)).toInt = 6
  · skip
    refine k_tabIn F (pc := 46) 6 152 dX3_makeFlowToNext_46 c_48 (by decide) (by decide) rfl (by decide) ?_
    have hop := c_48
    obtain ⟨ea, ha4⟩ := okP_a hok (by omega)
    obtain ⟨eb, hb4⟩ := okP_b hok (by omega)
    obtain ⟨ec, hc4⟩ := okP_c hok (by omega)
    refine k_aload_n F (pc := 152) 4 rfl dX3_makeFlowToNext_152 rfl ?_
    refine k_iload_n F (pc := 153) 2 rfl dX3_makeFlowToNext_153 rfl ?_
    refine k_iload F (pc := 154) 0 rfl dX3_makeFlowToNext_154 ?_
    refine k_topi (nI ((cd (4 * p + 2)).toNatClampNeg)) eb ?_
    refine k_aload_n F (pc := 156) 4 rfl dX3_makeFlowToNext_156 rfl ?_
    refine k_get F (pc := 157) (ref := RX3) (C := RX3) (T := TX3) (N := 8) (ci := 3) 0 0 dX3_makeFlowToNext_157 zin_X3_makeFlowToNext_X3 rfl rfl (by decide) zm_X3_makeFlowToNext_f9 rfl rfl ?_
    refine k_iload_n F (pc := 160) 3 rfl dX3_makeFlowToNext_160 rfl ?_
    refine k_iconst F (pc := 161) ((nI 3)) dX3_makeFlowToNext_161 (by decide) ?_
    refine k_iaddN F (pc := 162) dX3_makeFlowToNext_162 ?_
    refine k_iald F (pc := 163) 1 dX3_makeFlowToNext_163 rfl (by omega) (by decide) ?_
    refine k_topi (nI ((cd (4 * p + 3)).toNatClampNeg)) ec ?_
    refine k_callV F (pc := 164) (C := RX3) (T := TX3) (N := 8) (ci := 3) [.int (cd (4 * p)), .int (nI ((cd (4 * p + 2)).toNatClampNeg)), .int (nI ((cd (4 * p + 3)).toNatClampNeg))] [] 3 (wX3 E h cd n sc rt on lo hi son slo shi true lf1_1 hf1_2 em le gr) [] [0, 1, 2, 3, 4, 5, 6, 7, 8, 9, 10, 11, 12, 13] [] (m_X3_calculate l E h cd n sc rt on lo hi son slo shi true lf1_1 hf1_2 em le gr (cd (4 * p)) ((cd (4 * p + 2)).toNatClampNeg) ((cd (4 * p + 3)).toNatClampNeg) (by omega) (by omega) (by omega) (by rw [((hF0.2 X rfl).2 _ hc4).1, ((hF0.2 X rfl).2 _ hc4).2]; exact (hX _ hc4).2.1)) dX3_makeFlowToNext_164 gX3_makeFlowToNext_X3_calculate rfl (by decide +kernel) rfl ⟨rfl, rfl⟩ (by decide) rfl (Nat.le_of_ble_eq_true rfl) (by decide) rfl rfl rfl rfl (by decide) (by decide) (by decide) ?_
    rintro v_52 w_53 ⟨em1_49, le1_50, gr1_51, rfl, rfl, hca⟩
    refine k_perm (wX3 E h cd n sc rt on lo hi son slo shi true lf1_1 hf1_2 em1_49 le1_50 gr1_51) [0, 1, 2, 3, 4, 5, 6, 7, 8, 9, 10, 11, 12, 13] (by decide) rfl ?_
    show kK g (wX3 E h cd n sc rt on lo hi son slo shi true lf1_1 hf1_2 em1_49 le1_50 gr1_51) [(5, .int (cd (4 * p + 2))), (4, .int (cd (4 * p + 1))), (3, .int (cd (4 * p))), (2, .int (nI (4 * p))), (0, .ref (h 0)), (1, .int (nI p))] 0 0 167 []
    refine k_aload_n F (pc := 167) 4 rfl dX3_makeFlowToNext_167 rfl ?_
    refine k_iload F (pc := 168) 1 rfl dX3_makeFlowToNext_168 ?_
    refine k_topi (nI ((cd (4 * p + 1)).toNatClampNeg)) ea ?_
    refine k_callV F (pc := 170) (C := RX3) (T := TX3) (N := 8) (ci := 3) [.int (nI ((cd (4 * p + 1)).toNatClampNeg))] [] 1 (wX3 E h cd n sc rt on lo hi son slo shi true lf1_1 hf1_2 em1_49 le1_50 gr1_51) [] [0, 1, 2, 3, 4, 5, 6, 7, 8, 9, 10, 11, 12, 13] [] (m_X3_putResults l E h cd n sc rt on lo hi son slo shi true lf1_1 hf1_2 em1_49 le1_50 gr1_51 ((cd (4 * p + 1)).toNatClampNeg) (calcR (cd (4 * p)).toInt (lf1_1 ((cd (4 * p + 2)).toNatClampNeg)) (hf1_2 ((cd (4 * p + 2)).toNatClampNeg)) (lf1_1 ((cd (4 * p + 3)).toNatClampNeg)) (hf1_2 ((cd (4 * p + 3)).toNatClampNeg))) (by omega) hca) dX3_makeFlowToNext_170 gX3_makeFlowToNext_X3_putResults rfl (by decide +kernel) rfl ⟨rfl, rfl⟩ (by decide) rfl (Nat.le_of_ble_eq_true rfl) (by decide) rfl rfl rfl rfl (by decide) (by decide) (by decide) ?_
    rintro v_57 w_58 ⟨fs1_54, lf1_55, hf1_56, rfl, rfl, hpr⟩
    refine k_perm (wX3 E h cd n sc rt on lo hi son slo shi fs1_54 lf1_55 hf1_56 em1_49 le1_50 gr1_51) [0, 1, 2, 3, 4, 5, 6, 7, 8, 9, 10, 11, 12, 13] (by decide) rfl ?_
    show kK g (wX3 E h cd n sc rt on lo hi son slo shi fs1_54 lf1_55 hf1_56 em1_49 le1_50 gr1_51) [(5, .int (cd (4 * p + 2))), (4, .int (cd (4 * p + 1))), (3, .int (cd (4 * p))), (2, .int (nI (4 * p))), (0, .ref (h 0)), (1, .int (nI p))] 0 0 173 []
    have hfin : FRep fs1_54 lf1_55 hf1_56 (fN cd p X) := next_3 hF0 (by omega) hb4 hc4 hpr
    refine k_goto F (pc := 173) 245 dX3_makeFlowToNext_173 (by decide) ?_
    refine k_vret F Rr (pc := 245) dX3_makeFlowToNext_245 ⟨fs1_54, lf1_55, hf1_56, em1_49, le1_50, gr1_51, rfl, rfl, ?_⟩
    exact hfin
  by_cases c_59 : (cd (4 * p)).toInt = 7
  · skip
    refine k_tabIn F (pc := 46) 7 176 dX3_makeFlowToNext_46 c_59 (by decide) (by decide) rfl (by decide) ?_
    have hop := c_59
    obtain ⟨ea, ha4⟩ := okP_a hok (by omega)
    obtain ⟨eb, hb4⟩ := okP_b hok (by omega)
    refine k_aload_n F (pc := 176) 4 rfl dX3_makeFlowToNext_176 rfl ?_
    refine k_iload F (pc := 177) 0 rfl dX3_makeFlowToNext_177 ?_
    refine k_topi (nI ((cd (4 * p + 2)).toNatClampNeg)) eb ?_
    refine k_callV F (pc := 179) (C := RX3) (T := TX3) (N := 8) (ci := 3) [.int (nI ((cd (4 * p + 2)).toNatClampNeg))] [] 1 (wX3 E h cd n sc rt on lo hi son slo shi true lf1_1 hf1_2 em le gr) [] [0, 1, 2, 3, 4, 5, 6, 7, 8, 9, 10, 11, 12, 13] [] (m_X3_stopOutsideArray l E h cd n sc rt on lo hi son slo shi true lf1_1 hf1_2 em le gr ((cd (4 * p + 2)).toNatClampNeg) (by omega)) dX3_makeFlowToNext_179 gX3_makeFlowToNext_X3_stopOutsideArray rfl (by decide +kernel) rfl ⟨rfl, rfl⟩ (by decide) rfl (Nat.le_of_ble_eq_true rfl) (by decide) rfl rfl rfl rfl (by decide) (by decide) (by decide) ?_
    rintro v_61 w_62 ⟨fs1_60, rfl, rfl, hso⟩
    refine k_perm (wX3 E h cd n sc rt on lo hi son slo shi fs1_60 lf1_1 hf1_2 em le gr) [0, 1, 2, 3, 4, 5, 6, 7, 8, 9, 10, 11, 12, 13] (by decide) rfl ?_
    show kK g (wX3 E h cd n sc rt on lo hi son slo shi fs1_60 lf1_1 hf1_2 em le gr) [(5, .int (cd (4 * p + 2))), (4, .int (cd (4 * p + 1))), (3, .int (cd (4 * p))), (2, .int (nI (4 * p))), (0, .ref (h 0)), (1, .int (nI p))] 0 0 182 []
    refine k_aload_n F (pc := 182) 4 rfl dX3_makeFlowToNext_182 rfl ?_
    refine k_get F (pc := 183) (ref := RX3) (C := RX3) (T := TX3) (N := 8) (ci := 3) 0 6 dX3_makeFlowToNext_183 zin_X3_makeFlowToNext_X3 rfl rfl (by decide) zm_X3_makeFlowToNext_f37 rfl rfl ?_
    refine k_iload F (pc := 186) 1 rfl dX3_makeFlowToNext_186 ?_
    refine k_topi (nI ((cd (4 * p + 1)).toNatClampNeg)) ea ?_
    refine k_ldc2 F (pc := 188) (-2147483648) dX3_makeFlowToNext_188 zm_X3_makeFlowToNext_c149 ?_
    refine k_ldc2 F (pc := 191) (2147483647) dX3_makeFlowToNext_191 zm_X3_makeFlowToNext_c151 ?_
    refine k_callV F (pc := 194) (C := RX0) (T := TX0) (N := 3) (ci := 0) [.int (nI ((cd (4 * p + 1)).toNatClampNeg)), .long (-2147483648), .long 2147483647] [] 3 (wX0 E (h 10) (h 11) (h 12) fs1_60 lf1_1 hf1_2) [cObj (h 0) 3 [.ref (h 1), .int (nI n), .int (bI sc), .int (nI rt), .ref (h 2), .ref (h 6), .ref (h 10), .ref (h 13)], cInt E (h 1) 96 cd, cObj (h 2) 2 [.ref (h 3), .ref (h 4), .ref (h 5)], cBoo E (h 3) 24 on, cLng E (h 4) 96 lo, cLng E (h 5) 96 hi, cObj (h 6) 2 [.ref (h 7), .ref (h 8), .ref (h 9)], cBoo E (h 7) 24 son, cLng E (h 8) 96 slo, cLng E (h 9) 96 shi, cObj (h 13) 1 [.int (bI em), .long le, .long gr]] [10, 11, 12] [0, 1, 2, 3, 4, 5, 6, 7, 8, 9, 13] (m_X0_put l E (h 10) (h 11) (h 12) fs1_60 lf1_1 hf1_2 ((cd (4 * p + 1)).toNatClampNeg) (-2147483648) 2147483647 (by omega)) dX3_makeFlowToNext_194 gX3_makeFlowToNext_X0_put rfl (by decide +kernel) rfl ⟨rfl, rfl⟩ (by decide) rfl (Nat.le_of_ble_eq_true rfl) (by decide) rfl rfl rfl rfl (by decide) (by decide) (by decide) ?_
    rintro v_63 w_64 ⟨rfl, rfl⟩
    refine k_perm (wX3 E h cd n sc rt on lo hi son slo shi fs1_60 (vp_updL lf1_1 ((cd (4 * p + 1)).toNatClampNeg) (-2147483648)) (vp_updL hf1_2 ((cd (4 * p + 1)).toNatClampNeg) 2147483647) em le gr) [0, 1, 2, 3, 4, 5, 6, 7, 8, 9, 11, 12, 13, 10] (by decide) rfl ?_
    show kK g (wX3 E h cd n sc rt on lo hi son slo shi fs1_60 (vp_updL lf1_1 ((cd (4 * p + 1)).toNatClampNeg) (-2147483648)) (vp_updL hf1_2 ((cd (4 * p + 1)).toNatClampNeg) 2147483647) em le gr) [(5, .int (cd (4 * p + 2))), (4, .int (cd (4 * p + 1))), (3, .int (cd (4 * p))), (2, .int (nI (4 * p))), (0, .ref (h 0)), (1, .int (nI p))] 0 0 197 []
    have hfin : FRep fs1_60 (vp_updL lf1_1 ((cd (4 * p + 1)).toNatClampNeg) (-2147483648)) (vp_updL hf1_2 ((cd (4 * p + 1)).toNatClampNeg) 2147483647) (fN cd p X) := next_7 hF0 hop hb4 hso
    refine k_goto F (pc := 197) 245 dX3_makeFlowToNext_197 (by decide) ?_
    refine k_vret F Rr (pc := 245) dX3_makeFlowToNext_245 ⟨fs1_60, (vp_updL lf1_1 ((cd (4 * p + 1)).toNatClampNeg) (-2147483648)), (vp_updL hf1_2 ((cd (4 * p + 1)).toNatClampNeg) 2147483647), em, le, gr, rfl, rfl, ?_⟩
    exact hfin
  by_cases c_65 : (cd (4 * p)).toInt = 8
  · skip
    refine k_tabIn F (pc := 46) 8 200 dX3_makeFlowToNext_46 c_65 (by decide) (by decide) rfl (by decide) ?_
    have hop := c_65
    obtain ⟨ea, ha4⟩ := okP_a hok (by omega)
    obtain ⟨eb, hb4⟩ := okP_b hok (by omega)
    refine k_aload_n F (pc := 200) 4 rfl dX3_makeFlowToNext_200 rfl ?_
    refine k_iload F (pc := 201) 0 rfl dX3_makeFlowToNext_201 ?_
    refine k_topi (nI ((cd (4 * p + 2)).toNatClampNeg)) eb ?_
    refine k_callV F (pc := 203) (C := RX3) (T := TX3) (N := 8) (ci := 3) [.int (nI ((cd (4 * p + 2)).toNatClampNeg))] [] 1 (wX3 E h cd n sc rt on lo hi son slo shi true lf1_1 hf1_2 em le gr) [] [0, 1, 2, 3, 4, 5, 6, 7, 8, 9, 10, 11, 12, 13] [] (m_X3_stopOutsideArray l E h cd n sc rt on lo hi son slo shi true lf1_1 hf1_2 em le gr ((cd (4 * p + 2)).toNatClampNeg) (by omega)) dX3_makeFlowToNext_203 gX3_makeFlowToNext_X3_stopOutsideArray rfl (by decide +kernel) rfl ⟨rfl, rfl⟩ (by decide) rfl (Nat.le_of_ble_eq_true rfl) (by decide) rfl rfl rfl rfl (by decide) (by decide) (by decide) ?_
    rintro v_67 w_68 ⟨fs1_66, rfl, rfl, hso⟩
    refine k_perm (wX3 E h cd n sc rt on lo hi son slo shi fs1_66 lf1_1 hf1_2 em le gr) [0, 1, 2, 3, 4, 5, 6, 7, 8, 9, 10, 11, 12, 13] (by decide) rfl ?_
    show kK g (wX3 E h cd n sc rt on lo hi son slo shi fs1_66 lf1_1 hf1_2 em le gr) [(5, .int (cd (4 * p + 2))), (4, .int (cd (4 * p + 1))), (3, .int (cd (4 * p))), (2, .int (nI (4 * p))), (0, .ref (h 0)), (1, .int (nI p))] 0 0 206 []
    have hfin : FRep fs1_66 lf1_1 hf1_2 (fN cd p X) := next_8 hF0 hop hb4 hso
    refine k_goto F (pc := 206) 245 dX3_makeFlowToNext_206 (by decide) ?_
    refine k_vret F Rr (pc := 245) dX3_makeFlowToNext_245 ⟨fs1_66, lf1_1, hf1_2, em, le, gr, rfl, rfl, ?_⟩
    exact hfin
  by_cases c_69 : (cd (4 * p)).toInt = 9
  · skip
    refine k_tabIn F (pc := 46) 9 209 dX3_makeFlowToNext_46 c_69 (by decide) (by decide) rfl (by decide) ?_
    have hop := c_69
    obtain ⟨ea, ha4⟩ := okP_a hok (by omega)
    obtain ⟨eb, hb4⟩ := okP_b hok (by omega)
    refine k_aload_n F (pc := 209) 4 rfl dX3_makeFlowToNext_209 rfl ?_
    refine k_iload F (pc := 210) 1 rfl dX3_makeFlowToNext_210 ?_
    refine k_topi (nI ((cd (4 * p + 1)).toNatClampNeg)) ea ?_
    refine k_iload F (pc := 212) 0 rfl dX3_makeFlowToNext_212 ?_
    refine k_topi (nI ((cd (4 * p + 2)).toNatClampNeg)) eb ?_
    refine k_callV F (pc := 214) (C := RX3) (T := TX3) (N := 8) (ci := 3) [.int (nI ((cd (4 * p + 1)).toNatClampNeg)), .int (nI ((cd (4 * p + 2)).toNatClampNeg))] [] 2 (wX3 E h cd n sc rt on lo hi son slo shi true lf1_1 hf1_2 em le gr) [] [0, 1, 2, 3, 4, 5, 6, 7, 8, 9, 10, 11, 12, 13] [] (m_X3_keepNotLess l E h cd n sc rt on lo hi son slo shi true lf1_1 hf1_2 em le gr ((cd (4 * p + 1)).toNatClampNeg) ((cd (4 * p + 2)).toNatClampNeg) (by omega) (by omega)) dX3_makeFlowToNext_214 gX3_makeFlowToNext_X3_keepNotLess rfl (by decide +kernel) rfl ⟨rfl, rfl⟩ (by decide) rfl (Nat.le_of_ble_eq_true rfl) (by decide) rfl rfl rfl rfl (by decide) (by decide) (by decide) ?_
    rintro v_73 w_74 ⟨fs1_70, lf1_71, hf1_72, rfl, rfl, hkn⟩
    refine k_perm (wX3 E h cd n sc rt on lo hi son slo shi fs1_70 lf1_71 hf1_72 em le gr) [0, 1, 2, 3, 4, 5, 6, 7, 8, 9, 10, 11, 12, 13] (by decide) rfl ?_
    show kK g (wX3 E h cd n sc rt on lo hi son slo shi fs1_70 lf1_71 hf1_72 em le gr) [(5, .int (cd (4 * p + 2))), (4, .int (cd (4 * p + 1))), (3, .int (cd (4 * p))), (2, .int (nI (4 * p))), (0, .ref (h 0)), (1, .int (nI p))] 0 0 217 []
    have hfin : FRep fs1_70 lf1_71 hf1_72 (fN cd p X) := by rw [fN_9 hop]; exact hkn X hF0
    refine k_goto F (pc := 217) 245 dX3_makeFlowToNext_217 (by decide) ?_
    refine k_vret F Rr (pc := 245) dX3_makeFlowToNext_245 ⟨fs1_70, lf1_71, hf1_72, em, le, gr, rfl, rfl, ?_⟩
    exact hfin
  by_cases c_75 : (cd (4 * p)).toInt = 10
  · skip
    refine k_tabIn F (pc := 46) 10 238 dX3_makeFlowToNext_46 c_75 (by decide) (by decide) rfl (by decide) ?_
    have hop := c_75
    have hno : (cd (4 * p)).toInt = 0 ∨ (cd (4 * p)).toInt = 10 := by omega
    refine k_aload_n F (pc := 238) 4 rfl dX3_makeFlowToNext_238 rfl ?_
    refine k_get F (pc := 239) (ref := RX3) (C := RX3) (T := TX3) (N := 8) (ci := 3) 0 6 dX3_makeFlowToNext_239 zin_X3_makeFlowToNext_X3 rfl rfl (by decide) zm_X3_makeFlowToNext_f37 rfl rfl ?_
    refine k_callV F (pc := 242) (C := RX0) (T := TX0) (N := 3) (ci := 0) [] [] 0 (wX0 E (h 10) (h 11) (h 12) true lf1_1 hf1_2) [cObj (h 0) 3 [.ref (h 1), .int (nI n), .int (bI sc), .int (nI rt), .ref (h 2), .ref (h 6), .ref (h 10), .ref (h 13)], cInt E (h 1) 96 cd, cObj (h 2) 2 [.ref (h 3), .ref (h 4), .ref (h 5)], cBoo E (h 3) 24 on, cLng E (h 4) 96 lo, cLng E (h 5) 96 hi, cObj (h 6) 2 [.ref (h 7), .ref (h 8), .ref (h 9)], cBoo E (h 7) 24 son, cLng E (h 8) 96 slo, cLng E (h 9) 96 shi, cObj (h 13) 1 [.int (bI em), .long le, .long gr]] [10, 11, 12] [0, 1, 2, 3, 4, 5, 6, 7, 8, 9, 13] (m_X0_stop l E (h 10) (h 11) (h 12) true lf1_1 hf1_2) dX3_makeFlowToNext_242 gX3_makeFlowToNext_X0_stop rfl (by decide +kernel) rfl ⟨rfl, rfl⟩ (by decide) rfl (Nat.le_of_ble_eq_true rfl) (by decide) rfl rfl rfl rfl (by decide) (by decide) (by decide) ?_
    rintro v_76 w_77 ⟨rfl, rfl⟩
    refine k_perm (wX3 E h cd n sc rt on lo hi son slo shi false lf1_1 hf1_2 em le gr) [0, 1, 2, 3, 4, 5, 6, 7, 8, 9, 11, 12, 13, 10] (by decide) rfl ?_
    show kK g (wX3 E h cd n sc rt on lo hi son slo shi false lf1_1 hf1_2 em le gr) [(5, .int (cd (4 * p + 2))), (4, .int (cd (4 * p + 1))), (3, .int (cd (4 * p))), (2, .int (nI (4 * p))), (0, .ref (h 0)), (1, .int (nI p))] 0 0 245 []
    have hfin : FRep false lf1_1 hf1_2 (fN cd p X) := by rw [fN_no hno]; exact frep_none
    refine k_vret F Rr (pc := 245) dX3_makeFlowToNext_245 ⟨false, lf1_1, hf1_2, em, le, gr, rfl, rfl, ?_⟩
    exact hfin
  by_cases c_78 : (cd (4 * p)).toInt = 11
  · skip
    refine k_tabIn F (pc := 46) 11 220 dX3_makeFlowToNext_46 c_78 (by decide) (by decide) rfl (by decide) ?_
    have hop := c_78
    obtain ⟨ea, ha4⟩ := okP_a hok (by omega)
    refine k_aload_n F (pc := 220) 4 rfl dX3_makeFlowToNext_220 rfl ?_
    refine k_get F (pc := 221) (ref := RX3) (C := RX3) (T := TX3) (N := 8) (ci := 3) 0 6 dX3_makeFlowToNext_221 zin_X3_makeFlowToNext_X3 rfl rfl (by decide) zm_X3_makeFlowToNext_f37 rfl rfl ?_
    refine k_iload F (pc := 224) 1 rfl dX3_makeFlowToNext_224 ?_
    refine k_topi (nI ((cd (4 * p + 1)).toNatClampNeg)) ea ?_
    refine k_ldc2 F (pc := 226) (-2147483648) dX3_makeFlowToNext_226 zm_X3_makeFlowToNext_c149 ?_
    refine k_ldc2 F (pc := 229) (2147483647) dX3_makeFlowToNext_229 zm_X3_makeFlowToNext_c151 ?_
    refine k_callV F (pc := 232) (C := RX0) (T := TX0) (N := 3) (ci := 0) [.int (nI ((cd (4 * p + 1)).toNatClampNeg)), .long (-2147483648), .long 2147483647] [] 3 (wX0 E (h 10) (h 11) (h 12) true lf1_1 hf1_2) [cObj (h 0) 3 [.ref (h 1), .int (nI n), .int (bI sc), .int (nI rt), .ref (h 2), .ref (h 6), .ref (h 10), .ref (h 13)], cInt E (h 1) 96 cd, cObj (h 2) 2 [.ref (h 3), .ref (h 4), .ref (h 5)], cBoo E (h 3) 24 on, cLng E (h 4) 96 lo, cLng E (h 5) 96 hi, cObj (h 6) 2 [.ref (h 7), .ref (h 8), .ref (h 9)], cBoo E (h 7) 24 son, cLng E (h 8) 96 slo, cLng E (h 9) 96 shi, cObj (h 13) 1 [.int (bI em), .long le, .long gr]] [10, 11, 12] [0, 1, 2, 3, 4, 5, 6, 7, 8, 9, 13] (m_X0_put l E (h 10) (h 11) (h 12) true lf1_1 hf1_2 ((cd (4 * p + 1)).toNatClampNeg) (-2147483648) 2147483647 (by omega)) dX3_makeFlowToNext_232 gX3_makeFlowToNext_X0_put rfl (by decide +kernel) rfl ⟨rfl, rfl⟩ (by decide) rfl (Nat.le_of_ble_eq_true rfl) (by decide) rfl rfl rfl rfl (by decide) (by decide) (by decide) ?_
    rintro v_79 w_80 ⟨rfl, rfl⟩
    refine k_perm (wX3 E h cd n sc rt on lo hi son slo shi true (vp_updL lf1_1 ((cd (4 * p + 1)).toNatClampNeg) (-2147483648)) (vp_updL hf1_2 ((cd (4 * p + 1)).toNatClampNeg) 2147483647) em le gr) [0, 1, 2, 3, 4, 5, 6, 7, 8, 9, 11, 12, 13, 10] (by decide) rfl ?_
    show kK g (wX3 E h cd n sc rt on lo hi son slo shi true (vp_updL lf1_1 ((cd (4 * p + 1)).toNatClampNeg) (-2147483648)) (vp_updL hf1_2 ((cd (4 * p + 1)).toNatClampNeg) 2147483647) em le gr) [(5, .int (cd (4 * p + 2))), (4, .int (cd (4 * p + 1))), (3, .int (cd (4 * p))), (2, .int (nI (4 * p))), (0, .ref (h 0)), (1, .int (nI p))] 0 0 235 []
    have hfin : FRep true (vp_updL lf1_1 ((cd (4 * p + 1)).toNatClampNeg) (-2147483648)) (vp_updL hf1_2 ((cd (4 * p + 1)).toNatClampNeg) 2147483647) (fN cd p X) := by rw [fN_11 hop]; exact hF0.put _ _ _
    refine k_goto F (pc := 235) 245 dX3_makeFlowToNext_235 (by decide) ?_
    refine k_vret F Rr (pc := 245) dX3_makeFlowToNext_245 ⟨true, (vp_updL lf1_1 ((cd (4 * p + 1)).toNatClampNeg) (-2147483648)), (vp_updL hf1_2 ((cd (4 * p + 1)).toNatClampNeg) 2147483647), em, le, gr, rfl, rfl, ?_⟩
    exact hfin
  refine k_tabOut F (pc := 46) 238 dX3_makeFlowToNext_46 (by omega) (by decide) ?_
  have hno : (cd (4 * p)).toInt = 0 ∨ (cd (4 * p)).toInt = 10 := by have := hok.1; have := hok.2.1; omega
  refine k_aload_n F (pc := 238) 4 rfl dX3_makeFlowToNext_238 rfl ?_
  refine k_get F (pc := 239) (ref := RX3) (C := RX3) (T := TX3) (N := 8) (ci := 3) 0 6 dX3_makeFlowToNext_239 zin_X3_makeFlowToNext_X3 rfl rfl (by decide) zm_X3_makeFlowToNext_f37 rfl rfl ?_
  refine k_callV F (pc := 242) (C := RX0) (T := TX0) (N := 3) (ci := 0) [] [] 0 (wX0 E (h 10) (h 11) (h 12) true lf1_1 hf1_2) [cObj (h 0) 3 [.ref (h 1), .int (nI n), .int (bI sc), .int (nI rt), .ref (h 2), .ref (h 6), .ref (h 10), .ref (h 13)], cInt E (h 1) 96 cd, cObj (h 2) 2 [.ref (h 3), .ref (h 4), .ref (h 5)], cBoo E (h 3) 24 on, cLng E (h 4) 96 lo, cLng E (h 5) 96 hi, cObj (h 6) 2 [.ref (h 7), .ref (h 8), .ref (h 9)], cBoo E (h 7) 24 son, cLng E (h 8) 96 slo, cLng E (h 9) 96 shi, cObj (h 13) 1 [.int (bI em), .long le, .long gr]] [10, 11, 12] [0, 1, 2, 3, 4, 5, 6, 7, 8, 9, 13] (m_X0_stop l E (h 10) (h 11) (h 12) true lf1_1 hf1_2) dX3_makeFlowToNext_242 gX3_makeFlowToNext_X0_stop rfl (by decide +kernel) rfl ⟨rfl, rfl⟩ (by decide) rfl (Nat.le_of_ble_eq_true rfl) (by decide) rfl rfl rfl rfl (by decide) (by decide) (by decide) ?_
  rintro v_81 w_82 ⟨rfl, rfl⟩
  refine k_perm (wX3 E h cd n sc rt on lo hi son slo shi false lf1_1 hf1_2 em le gr) [0, 1, 2, 3, 4, 5, 6, 7, 8, 9, 11, 12, 13, 10] (by decide) rfl ?_
  show kK g (wX3 E h cd n sc rt on lo hi son slo shi false lf1_1 hf1_2 em le gr) [(5, .int (cd (4 * p + 2))), (4, .int (cd (4 * p + 1))), (3, .int (cd (4 * p))), (2, .int (nI (4 * p))), (0, .ref (h 0)), (1, .int (nI p))] 0 0 245 []
  have hfin : FRep false lf1_1 hf1_2 (fN cd p X) := by rw [fN_no hno]; exact frep_none
  refine k_vret F Rr (pc := 245) dX3_makeFlowToNext_245 ⟨false, lf1_1, hf1_2, em, le, gr, rfl, rfl, ?_⟩
  exact hfin
theorem zm_X3_makeFlowToPlace_f27 : (Cond.fieldLink RX3 27 RX3 "found" "LRangeScan$States;" : Cond) ∈ wsX3_makeFlowToPlace := by decide +kernel
theorem zin_X3_makeFlowToPlace_X3 : ∀ w ∈ u_ws RX3 TX3 8, w ∈ wsX3_makeFlowToPlace := by decide +kernel
theorem zm_X3_makeFlowToPlace_f37 : (Cond.fieldLink RX3 37 RX3 "flow" "LRangeScan$Flow;" : Cond) ∈ wsX3_makeFlowToPlace := by decide +kernel
theorem zm_X3_makeFlowToPlace_f9 : (Cond.fieldLink RX3 9 RX3 "codes" "[I" : Cond) ∈ wsX3_makeFlowToPlace := by decide +kernel
set_option maxHeartbeats 4000000 in
set_option maxRecDepth 100000 in
theorem m_X3_makeFlowToPlace (l : Launch) (E : kE) (h : Nat → Nat) (cd : Nat → Int32) (n : Nat) (sc : Bool) (rt : Nat) (on : Nat → Bool) (lo : Nat → Int64) (hi : Nat → Int64) (son : Nat → Bool) (slo : Nat → Int64) (shi : Nat → Int64) (fs : Bool) (lf : Nat → Int64) (hf : Nat → Int64) (em : Bool) (le : Int64) (gr : Int64) (p : Nat) (X : IV × IV) (hp : p < 24) (hok : okP cd p) (hR : ∀ v, v < 4 → lo (4 * p + v) = X.1 v ∧ hi (4 * p + v) = X.2 v) : kC l yX3_makeFlowToPlace wsX3_makeFlowToPlace ({ frames := 3, cells := 0, slots := 0, locals := 66 } : Room) E [.ref (h 0), .int (nI p)] (wX3 E h cd n sc rt on lo hi son slo shi fs lf hf em le gr) 0 0 (fun v_ w_ => ∃ (fs1 : Bool) (lf1 : Nat → Int64) (hf1 : Nat → Int64), v_ = none ∧ w_ = (wX3 E h cd n sc rt on lo hi son slo shi fs1 lf1 hf1 em le gr) ∧ (FRep fs1 lf1 hf1 (fP cd p X))) := by
  refine kC.enter cX3_makeFlowToPlace 3 none [(0, .ref (h 0)), (1, .int (nI p))] (by decide) rfl (Nat.le_of_ble_eq_true rfl) rfl ?_
  intro g F Rr
  refine k_iload_n F (pc := 0) 1 rfl dX3_makeFlowToPlace_0 rfl ?_
  refine k_iconst F (pc := 1) ((nI 4)) dX3_makeFlowToPlace_1 (by decide) ?_
  refine k_imulC F (pc := 2) dX3_makeFlowToPlace_2 ?_
  refine k_istore_n F (pc := 3) [(2, .int (nI (4 * p))), (0, .ref (h 0)), (1, .int (nI p))] dX3_makeFlowToPlace_3 rfl (by decide) rfl ?_
  refine k_aload_n F (pc := 4) 1 rfl dX3_makeFlowToPlace_4 rfl ?_
  refine k_get F (pc := 5) (ref := RX3) (C := RX3) (T := TX3) (N := 8) (ci := 3) 0 4 dX3_makeFlowToPlace_5 zin_X3_makeFlowToPlace_X3 rfl rfl (by decide) zm_X3_makeFlowToPlace_f27 rfl rfl ?_
  refine k_aload_n F (pc := 8) 1 rfl dX3_makeFlowToPlace_8 rfl ?_
  refine k_get F (pc := 9) (ref := RX3) (C := RX3) (T := TX3) (N := 8) (ci := 3) 0 6 dX3_makeFlowToPlace_9 zin_X3_makeFlowToPlace_X3 rfl rfl (by decide) zm_X3_makeFlowToPlace_f37 rfl rfl ?_
  refine k_iload_n F (pc := 12) 2 rfl dX3_makeFlowToPlace_12 rfl ?_
  refine k_callV F (pc := 13) (C := RX2) (T := TX2) (N := 3) (ci := 2) [.ref (h 10), .int (nI p)] [] 2 (wX20 E (h 2) (h 3) (h 4) (h 5) on lo hi (h 10) (h 11) (h 12) fs lf hf) [cObj (h 0) 3 [.ref (h 1), .int (nI n), .int (bI sc), .int (nI rt), .ref (h 2), .ref (h 6), .ref (h 10), .ref (h 13)], cInt E (h 1) 96 cd, cObj (h 6) 2 [.ref (h 7), .ref (h 8), .ref (h 9)], cBoo E (h 7) 24 son, cLng E (h 8) 96 slo, cLng E (h 9) 96 shi, cObj (h 13) 1 [.int (bI em), .long le, .long gr]] [2, 3, 4, 5, 10, 11, 12] [0, 1, 6, 7, 8, 9, 13] (m_X2_copyTo l E (h 2) (h 3) (h 4) (h 5) on lo hi (h 10) (h 11) (h 12) fs lf hf p (by omega)) dX3_makeFlowToPlace_13 gX3_makeFlowToPlace_X2_copyTo rfl (by decide +kernel) rfl ⟨rfl, rfl⟩ (by decide) rfl (Nat.le_of_ble_eq_true rfl) (by decide) rfl rfl rfl rfl (by decide) (by decide) (by decide) ?_
  rintro v_3 w_4 ⟨lf1_1, hf1_2, rfl, rfl, hcp⟩
  refine k_perm (wX3 E h cd n sc rt on lo hi son slo shi true lf1_1 hf1_2 em le gr) [0, 1, 7, 8, 9, 10, 2, 3, 4, 5, 11, 12, 13, 6] (by decide) rfl ?_
  show kK g (wX3 E h cd n sc rt on lo hi son slo shi true lf1_1 hf1_2 em le gr) [(2, .int (nI (4 * p))), (0, .ref (h 0)), (1, .int (nI p))] 0 0 16 []
  have hF0 : FRep true lf1_1 hf1_2 (some X) := cp_rep hcp hR
  refine k_aload_n F (pc := 16) 1 rfl dX3_makeFlowToPlace_16 rfl ?_
  refine k_get F (pc := 17) (ref := RX3) (C := RX3) (T := TX3) (N := 8) (ci := 3) 0 0 dX3_makeFlowToPlace_17 zin_X3_makeFlowToPlace_X3 rfl rfl (by decide) zm_X3_makeFlowToPlace_f9 rfl rfl ?_
  refine k_iload_n F (pc := 20) 0 rfl dX3_makeFlowToPlace_20 rfl ?_
  refine k_iconst F (pc := 21) ((nI 0)) dX3_makeFlowToPlace_21 (by decide) ?_
  refine k_iadd0 F (pc := 22) dX3_makeFlowToPlace_22 ?_
  refine k_iald F (pc := 23) 1 dX3_makeFlowToPlace_23 rfl (by omega) (by decide) ?_
  by_cases c_5 : (cd (4 * p)).toInt = 9
  · skip
    refine k_look F (pc := 24) 52 dX3_makeFlowToPlace_24 (by decide) (by rw [c_5]) (by decide) ?_
    have hop := c_5
    obtain ⟨ea, ha4⟩ := okP_a hok (by omega)
    obtain ⟨eb, hb4⟩ := okP_b hok (by omega)
    refine k_aload_n F (pc := 52) 1 rfl dX3_makeFlowToPlace_52 rfl ?_
    refine k_aload_n F (pc := 53) 1 rfl dX3_makeFlowToPlace_53 rfl ?_
    refine k_get F (pc := 54) (ref := RX3) (C := RX3) (T := TX3) (N := 8) (ci := 3) 0 0 dX3_makeFlowToPlace_54 zin_X3_makeFlowToPlace_X3 rfl rfl (by decide) zm_X3_makeFlowToPlace_f9 rfl rfl ?_
    refine k_iload_n F (pc := 57) 0 rfl dX3_makeFlowToPlace_57 rfl ?_
    refine k_iconst F (pc := 58) ((nI 1)) dX3_makeFlowToPlace_58 (by decide) ?_
    refine k_iaddN F (pc := 59) dX3_makeFlowToPlace_59 ?_
    refine k_iald F (pc := 60) 1 dX3_makeFlowToPlace_60 rfl (by omega) (by decide) ?_
    refine k_topi (nI ((cd (4 * p + 1)).toNatClampNeg)) ea ?_
    refine k_aload_n F (pc := 61) 1 rfl dX3_makeFlowToPlace_61 rfl ?_
    refine k_get F (pc := 62) (ref := RX3) (C := RX3) (T := TX3) (N := 8) (ci := 3) 0 0 dX3_makeFlowToPlace_62 zin_X3_makeFlowToPlace_X3 rfl rfl (by decide) zm_X3_makeFlowToPlace_f9 rfl rfl ?_
    refine k_iload_n F (pc := 65) 0 rfl dX3_makeFlowToPlace_65 rfl ?_
    refine k_iconst F (pc := 66) ((nI 2)) dX3_makeFlowToPlace_66 (by decide) ?_
    refine k_iaddN F (pc := 67) dX3_makeFlowToPlace_67 ?_
    refine k_iald F (pc := 68) 1 dX3_makeFlowToPlace_68 rfl (by omega) (by decide) ?_
    refine k_topi (nI ((cd (4 * p + 2)).toNatClampNeg)) eb ?_
    refine k_callV F (pc := 69) (C := RX3) (T := TX3) (N := 8) (ci := 3) [.int (nI ((cd (4 * p + 1)).toNatClampNeg)), .int (nI ((cd (4 * p + 2)).toNatClampNeg))] [] 2 (wX3 E h cd n sc rt on lo hi son slo shi true lf1_1 hf1_2 em le gr) [] [0, 1, 2, 3, 4, 5, 6, 7, 8, 9, 10, 11, 12, 13] [] (m_X3_keepLess l E h cd n sc rt on lo hi son slo shi true lf1_1 hf1_2 em le gr ((cd (4 * p + 1)).toNatClampNeg) ((cd (4 * p + 2)).toNatClampNeg) (by omega) (by omega)) dX3_makeFlowToPlace_69 gX3_makeFlowToPlace_X3_keepLess rfl (by decide +kernel) rfl ⟨rfl, rfl⟩ (by decide) rfl (Nat.le_of_ble_eq_true rfl) (by decide) rfl rfl rfl rfl (by decide) (by decide) (by decide) ?_
    rintro v_9 w_10 ⟨fs1_6, lf1_7, hf1_8, rfl, rfl, hkl⟩
    refine k_perm (wX3 E h cd n sc rt on lo hi son slo shi fs1_6 lf1_7 hf1_8 em le gr) [0, 1, 2, 3, 4, 5, 6, 7, 8, 9, 10, 11, 12, 13] (by decide) rfl ?_
    show kK g (wX3 E h cd n sc rt on lo hi son slo shi fs1_6 lf1_7 hf1_8 em le gr) [(2, .int (nI (4 * p))), (0, .ref (h 0)), (1, .int (nI p))] 0 0 72 []
    have hfin : FRep fs1_6 lf1_7 hf1_8 (fP cd p X) := by rw [fP_9 hop]; exact hkl X hF0
    refine k_goto F (pc := 72) 85 dX3_makeFlowToPlace_72 (by decide) ?_
    refine k_vret F Rr (pc := 85) dX3_makeFlowToPlace_85 ⟨fs1_6, lf1_7, hf1_8, rfl, rfl, ?_⟩
    exact hfin
  by_cases c_11 : (cd (4 * p)).toInt = 10
  · skip
    refine k_look F (pc := 24) 75 dX3_makeFlowToPlace_24 (by decide) (by rw [c_11]) (by decide) ?_
    have hop := c_11
    have hfin : FRep true lf1_1 hf1_2 (fP cd p X) := by rw [fP_10 hop]; exact hF0
    refine k_goto F (pc := 75) 85 dX3_makeFlowToPlace_75 (by decide) ?_
    refine k_vret F Rr (pc := 85) dX3_makeFlowToPlace_85 ⟨true, lf1_1, hf1_2, rfl, rfl, ?_⟩
    exact hfin
  refine k_look F (pc := 24) 78 dX3_makeFlowToPlace_24 (by decide) (by simp [Op.lookupswitch.offset_cons, Op.lookupswitch.offset, c_5, c_11, Ne.symm c_5, Ne.symm c_11]; rfl) (by decide) ?_
  have hno : fP cd p X = none := fP_no (by assumption) (by assumption)
  refine k_aload_n F (pc := 78) 1 rfl dX3_makeFlowToPlace_78 rfl ?_
  refine k_get F (pc := 79) (ref := RX3) (C := RX3) (T := TX3) (N := 8) (ci := 3) 0 6 dX3_makeFlowToPlace_79 zin_X3_makeFlowToPlace_X3 rfl rfl (by decide) zm_X3_makeFlowToPlace_f37 rfl rfl ?_
  refine k_callV F (pc := 82) (C := RX0) (T := TX0) (N := 3) (ci := 0) [] [] 0 (wX0 E (h 10) (h 11) (h 12) true lf1_1 hf1_2) [cObj (h 0) 3 [.ref (h 1), .int (nI n), .int (bI sc), .int (nI rt), .ref (h 2), .ref (h 6), .ref (h 10), .ref (h 13)], cInt E (h 1) 96 cd, cObj (h 2) 2 [.ref (h 3), .ref (h 4), .ref (h 5)], cBoo E (h 3) 24 on, cLng E (h 4) 96 lo, cLng E (h 5) 96 hi, cObj (h 6) 2 [.ref (h 7), .ref (h 8), .ref (h 9)], cBoo E (h 7) 24 son, cLng E (h 8) 96 slo, cLng E (h 9) 96 shi, cObj (h 13) 1 [.int (bI em), .long le, .long gr]] [10, 11, 12] [0, 1, 2, 3, 4, 5, 6, 7, 8, 9, 13] (m_X0_stop l E (h 10) (h 11) (h 12) true lf1_1 hf1_2) dX3_makeFlowToPlace_82 gX3_makeFlowToPlace_X0_stop rfl (by decide +kernel) rfl ⟨rfl, rfl⟩ (by decide) rfl (Nat.le_of_ble_eq_true rfl) (by decide) rfl rfl rfl rfl (by decide) (by decide) (by decide) ?_
  rintro v_12 w_13 ⟨rfl, rfl⟩
  refine k_perm (wX3 E h cd n sc rt on lo hi son slo shi false lf1_1 hf1_2 em le gr) [0, 1, 2, 3, 4, 5, 6, 7, 8, 9, 11, 12, 13, 10] (by decide) rfl ?_
  show kK g (wX3 E h cd n sc rt on lo hi son slo shi false lf1_1 hf1_2 em le gr) [(2, .int (nI (4 * p))), (0, .ref (h 0)), (1, .int (nI p))] 0 0 85 []
  have hfin : FRep false lf1_1 hf1_2 (fP cd p X) := by rw [hno]; exact frep_none
  refine k_vret F Rr (pc := 85) dX3_makeFlowToPlace_85 ⟨false, lf1_1, hf1_2, rfl, rfl, ?_⟩
  exact hfin
end
section
theorem zm_X3_sendFlows_f37 : (Cond.fieldLink RX3 37 RX3 "flow" "LRangeScan$Flow;" : Cond) ∈ wsX3_sendFlows := by decide +kernel
theorem zin_X3_sendFlows_X3 : ∀ w ∈ u_ws RX3 TX3 8, w ∈ wsX3_sendFlows := by decide +kernel
theorem zm_X3_sendFlows_f9 : (Cond.fieldLink RX3 9 RX3 "codes" "[I" : Cond) ∈ wsX3_sendFlows := by decide +kernel
set_option maxHeartbeats 4000000 in
set_option maxRecDepth 100000 in
theorem m_X3_sendFlows (l : Launch) (E : kE) (h : Nat → Nat) (cd : Nat → Int32) (n : Nat) (sc : Bool) (rt : Nat) (on : Nat → Bool) (lo : Nat → Int64) (hi : Nat → Int64) (son : Nat → Bool) (slo : Nat → Int64) (shi : Nat → Int64) (fs : Bool) (lf : Nat → Int64) (hf : Nat → Int64) (em : Bool) (le : Int64) (gr : Int64) (p : Nat) (w : Bool) (X : IV × IV) (S : ST) (hn : n ≤ 24) (hp : p < n) (hok : okP cd p) (hX : okX X) (hRS : Rep on lo hi S) (hSp : S p = some X) (hN1 : fN cd p X ≠ none → p + 1 < 24) : kC l yX3_sendFlows wsX3_sendFlows ({ frames := 4, cells := 0, slots := 0, locals := 106 } : Room) E [.ref (h 0), .int (nI p), .ref (h 2), .int (bI w)] (wX3 E h cd n sc rt on lo hi son slo shi fs lf hf em le gr) 0 0 (fun v_ w_ => ∃ (on1 : Nat → Bool) (lo1 : Nat → Int64) (hi1 : Nat → Int64) (fs1 : Bool) (lf1 : Nat → Int64) (hf1 : Nat → Int64) (em1 : Bool) (le1 : Int64) (gr1 : Int64) (r : Bool), v_ = some (.int (bI r)) ∧ w_ = (wX3 E h cd n sc rt on1 lo1 hi1 son slo shi fs1 lf1 hf1 em1 le1 gr1) ∧ (Rep on1 lo1 hi1 (snd2 cd p X w S).2 ∧ r = (snd2 cd p X w S).1)) := by
  refine kC.enter cX3_sendFlows 7 (some .boolean) [(0, .ref (h 0)), (1, .int (nI p)), (2, .ref (h 2)), (3, .int (bI w))] (by decide) rfl (Nat.le_of_ble_eq_true rfl) rfl ?_
  intro g F Rr
  refine k_aload_n F (pc := 0) 0 rfl dX3_sendFlows_0 rfl ?_
  refine k_iload_n F (pc := 1) 1 rfl dX3_sendFlows_1 rfl ?_
  refine k_callV F (pc := 2) (C := RX3) (T := TX3) (N := 8) (ci := 3) [.int (nI p)] [] 1 (wX3 E h cd n sc rt on lo hi son slo shi fs lf hf em le gr) [] [0, 1, 2, 3, 4, 5, 6, 7, 8, 9, 10, 11, 12, 13] [] (m_X3_makeFlowToNext l E h cd n sc rt on lo hi son slo shi fs lf hf em le gr p X (by omega) hok hX ((hRS p (by omega)).2 X hSp).2) dX3_sendFlows_2 gX3_sendFlows_X3_makeFlowToNext rfl (by decide +kernel) rfl ⟨rfl, rfl⟩ (by decide) rfl (Nat.le_of_ble_eq_true rfl) (by decide) rfl rfl rfl rfl (by decide) (by decide) (by decide) ?_
  rintro v_7 w_8 ⟨fs1_1, lf1_2, hf1_3, em1_4, le1_5, gr1_6, rfl, rfl, hfn⟩
  refine k_perm (wX3 E h cd n sc rt on lo hi son slo shi fs1_1 lf1_2 hf1_3 em1_4 le1_5 gr1_6) [0, 1, 2, 3, 4, 5, 6, 7, 8, 9, 10, 11, 12, 13] (by decide) rfl ?_
  show kK g (wX3 E h cd n sc rt on lo hi son slo shi fs1_1 lf1_2 hf1_3 em1_4 le1_5 gr1_6) [(0, .ref (h 0)), (1, .int (nI p)), (2, .ref (h 2)), (3, .int (bI w))] 0 0 5 []
  refine k_aload_n F (pc := 5) 2 rfl dX3_sendFlows_5 rfl ?_
  refine k_iload_n F (pc := 6) 1 rfl dX3_sendFlows_6 rfl ?_
  refine k_iconst F (pc := 7) ((nI 1)) dX3_sendFlows_7 (by decide) ?_
  refine k_iaddN F (pc := 8) dX3_sendFlows_8 ?_
  refine k_aload_n F (pc := 9) 0 rfl dX3_sendFlows_9 rfl ?_
  refine k_get F (pc := 10) (ref := RX3) (C := RX3) (T := TX3) (N := 8) (ci := 3) 0 6 dX3_sendFlows_10 zin_X3_sendFlows_X3 rfl rfl (by decide) zm_X3_sendFlows_f37 rfl rfl ?_
  refine k_iconst F (pc := 13) ((nI 0)) dX3_sendFlows_13 (by decide) ?_
  refine k_callV F (pc := 14) (C := RX2) (T := TX2) (N := 3) (ci := 2) [.int (nI (p + 1)), .ref (h 10), .int (bI false)] [] 3 (wX20 E (h 2) (h 3) (h 4) (h 5) on lo hi (h 10) (h 11) (h 12) fs1_1 lf1_2 hf1_3) [cObj (h 0) 3 [.ref (h 1), .int (nI n), .int (bI sc), .int (nI rt), .ref (h 2), .ref (h 6), .ref (h 10), .ref (h 13)], cInt E (h 1) 96 cd, cObj (h 6) 2 [.ref (h 7), .ref (h 8), .ref (h 9)], cBoo E (h 7) 24 son, cLng E (h 8) 96 slo, cLng E (h 9) 96 shi, cObj (h 13) 1 [.int (bI em1_4), .long le1_5, .long gr1_6]] [2, 3, 4, 5, 10, 11, 12] [0, 1, 6, 7, 8, 9, 13] (m_X2_take l E (h 2) (h 3) (h 4) (h 5) on lo hi (h 10) (h 11) (h 12) fs1_1 lf1_2 hf1_3 (nI (p + 1)) (p + 1) false S (fN cd p X) hRS hfn (fun h => ⟨nI_toInt (by omega), hN1 h⟩)) dX3_sendFlows_14 gX3_sendFlows_X2_take rfl (by decide +kernel) rfl ⟨rfl, rfl⟩ (by decide) rfl (Nat.le_of_ble_eq_true rfl) (by decide) rfl rfl rfl rfl (by decide) (by decide) (by decide) ?_
  rintro v_13 w_14 ⟨on1_9, lo1_10, hi1_11, r_12, rfl, rfl, hta⟩
  refine k_perm (wX3 E h cd n sc rt on1_9 lo1_10 hi1_11 son slo shi fs1_1 lf1_2 hf1_3 em1_4 le1_5 gr1_6) [0, 1, 7, 8, 9, 10, 2, 3, 4, 5, 11, 12, 13, 6] (by decide) rfl ?_
  show kK g (wX3 E h cd n sc rt on1_9 lo1_10 hi1_11 son slo shi fs1_1 lf1_2 hf1_3 em1_4 le1_5 gr1_6) [(0, .ref (h 0)), (1, .int (nI p)), (2, .ref (h 2)), (3, .int (bI w))] 0 0 17 [.int (bI r_12)]
  have hR2 : ∀ v, v < 4 → lo1_10 (4 * p + v) = X.1 v ∧ hi1_11 (4 * p + v) = X.2 v := ((hta.1 p (by omega)).2 X ((arr_other (by omega)).trans hSp)).2
  refine k_istore F (pc := 17) [(4, .int (bI r_12)), (0, .ref (h 0)), (1, .int (nI p)), (2, .ref (h 2)), (3, .int (bI w))] dX3_sendFlows_17 (by decide) rfl ?_
  refine k_aload_n F (pc := 19) 1 rfl dX3_sendFlows_19 rfl ?_
  refine k_iload_n F (pc := 20) 2 rfl dX3_sendFlows_20 rfl ?_
  refine k_callV F (pc := 21) (C := RX3) (T := TX3) (N := 8) (ci := 3) [.int (nI p)] [] 1 (wX3 E h cd n sc rt on1_9 lo1_10 hi1_11 son slo shi fs1_1 lf1_2 hf1_3 em1_4 le1_5 gr1_6) [] [0, 1, 2, 3, 4, 5, 6, 7, 8, 9, 10, 11, 12, 13] [] (m_X3_makeFlowToPlace l E h cd n sc rt on1_9 lo1_10 hi1_11 son slo shi fs1_1 lf1_2 hf1_3 em1_4 le1_5 gr1_6 p X (by omega) hok hR2) dX3_sendFlows_21 gX3_sendFlows_X3_makeFlowToPlace rfl (by decide +kernel) rfl ⟨rfl, rfl⟩ (by decide) rfl (Nat.le_of_ble_eq_true rfl) (by decide) rfl rfl rfl rfl (by decide) (by decide) (by decide) ?_
  rintro v_18 w_19 ⟨fs1_15, lf1_16, hf1_17, rfl, rfl, hfp⟩
  refine k_perm (wX3 E h cd n sc rt on1_9 lo1_10 hi1_11 son slo shi fs1_15 lf1_16 hf1_17 em1_4 le1_5 gr1_6) [0, 1, 2, 3, 4, 5, 6, 7, 8, 9, 10, 11, 12, 13] (by decide) rfl ?_
  show kK g (wX3 E h cd n sc rt on1_9 lo1_10 hi1_11 son slo shi fs1_15 lf1_16 hf1_17 em1_4 le1_5 gr1_6) [(4, .int (bI r_12)), (0, .ref (h 0)), (1, .int (nI p)), (2, .ref (h 2)), (3, .int (bI w))] 0 0 24 []
  refine k_aload_n F (pc := 24) 1 rfl dX3_sendFlows_24 rfl ?_
  refine k_get F (pc := 25) (ref := RX3) (C := RX3) (T := TX3) (N := 8) (ci := 3) 0 0 dX3_sendFlows_25 zin_X3_sendFlows_X3 rfl rfl (by decide) zm_X3_sendFlows_f9 rfl rfl ?_
  refine k_iload_n F (pc := 28) 2 rfl dX3_sendFlows_28 rfl ?_
  refine k_iconst F (pc := 29) ((nI 4)) dX3_sendFlows_29 (by decide) ?_
  refine k_imulC F (pc := 30) dX3_sendFlows_30 ?_
  refine k_iconst F (pc := 31) ((nI 3)) dX3_sendFlows_31 (by decide) ?_
  refine k_iaddN F (pc := 32) dX3_sendFlows_32 ?_
  refine k_iald F (pc := 33) 1 dX3_sendFlows_33 rfl (by omega) (by decide) ?_
  refine k_istore F (pc := 34) [(5, .int (cd (4 * p + 3))), (4, .int (bI r_12)), (0, .ref (h 0)), (1, .int (nI p)), (2, .ref (h 2)), (3, .int (bI w))] dX3_sendFlows_34 (by decide) rfl ?_
  refine k_aload_n F (pc := 36) 4 rfl dX3_sendFlows_36 rfl ?_
  refine k_iload F (pc := 37) 0 rfl dX3_sendFlows_37 ?_
  refine k_aload_n F (pc := 39) 2 rfl dX3_sendFlows_39 rfl ?_
  refine k_get F (pc := 40) (ref := RX3) (C := RX3) (T := TX3) (N := 8) (ci := 3) 0 6 dX3_sendFlows_40 zin_X3_sendFlows_X3 rfl rfl (by decide) zm_X3_sendFlows_f37 rfl rfl ?_
  have J58 : ∀ (wb : Bool), (wb = (w && decide ((cd (4 * p + 3)).toInt ≤ (p : Int)))) → kK g (wX3 E h cd n sc rt on1_9 lo1_10 hi1_11 son slo shi fs1_15 lf1_16 hf1_17 em1_4 le1_5 gr1_6) [(0, .ref (h 0)), (1, .int (nI p)), (2, .ref (h 2)), (3, .int (bI w)), (4, .int (bI r_12)), (5, .int (cd (4 * p + 3)))] 0 0 58 [.int (bI wb), .ref (h 10), .int (cd (4 * p + 3)), .ref (h 2)] := by
    intro wb hwb
    refine k_callV F (pc := 58) (C := RX2) (T := TX2) (N := 3) (ci := 2) [.int (cd (4 * p + 3)), .ref (h 10), .int (bI wb)] [] 3 (wX20 E (h 2) (h 3) (h 4) (h 5) on1_9 lo1_10 hi1_11 (h 10) (h 11) (h 12) fs1_15 lf1_16 hf1_17) [cObj (h 0) 3 [.ref (h 1), .int (nI n), .int (bI sc), .int (nI rt), .ref (h 2), .ref (h 6), .ref (h 10), .ref (h 13)], cInt E (h 1) 96 cd, cObj (h 6) 2 [.ref (h 7), .ref (h 8), .ref (h 9)], cBoo E (h 7) 24 son, cLng E (h 8) 96 slo, cLng E (h 9) 96 shi, cObj (h 13) 1 [.int (bI em1_4), .long le1_5, .long gr1_6]] [2, 3, 4, 5, 10, 11, 12] [0, 1, 6, 7, 8, 9, 13] (m_X2_take l E (h 2) (h 3) (h 4) (h 5) on1_9 lo1_10 hi1_11 (h 10) (h 11) (h 12) fs1_15 lf1_16 hf1_17 (cd (4 * p + 3)) ((cd (4 * p + 3)).toNatClampNeg) wb ((arr S (p + 1) (fN cd p X) false).2) (fP cd p X) hta.1 hfp (fP_in hok)) dX3_sendFlows_58 gX3_sendFlows_X2_take rfl (by decide +kernel) rfl ⟨rfl, rfl⟩ (by decide) rfl (Nat.le_of_ble_eq_true rfl) (by decide) rfl rfl rfl rfl (by decide) (by decide) (by decide) ?_
    rintro v_24 w_25 ⟨on1_20, lo1_21, hi1_22, r_23, rfl, rfl, htb⟩
    refine k_perm (wX3 E h cd n sc rt on1_20 lo1_21 hi1_22 son slo shi fs1_15 lf1_16 hf1_17 em1_4 le1_5 gr1_6) [0, 1, 7, 8, 9, 10, 2, 3, 4, 5, 11, 12, 13, 6] (by decide) rfl ?_
    show kK g (wX3 E h cd n sc rt on1_20 lo1_21 hi1_22 son slo shi fs1_15 lf1_16 hf1_17 em1_4 le1_5 gr1_6) [(0, .ref (h 0)), (1, .int (nI p)), (2, .ref (h 2)), (3, .int (bI w)), (4, .int (bI r_12)), (5, .int (cd (4 * p + 3)))] 0 0 61 [.int (bI r_23)]
    refine k_istore F (pc := 61) [(6, .int (bI r_23)), (0, .ref (h 0)), (1, .int (nI p)), (2, .ref (h 2)), (3, .int (bI w)), (4, .int (bI r_12)), (5, .int (cd (4 * p + 3)))] dX3_sendFlows_61 (by decide) rfl ?_
    refine k_iload F (pc := 63) 5 rfl dX3_sendFlows_63 ?_
    refine k_if_neB F (pc := 65) 73 dX3_sendFlows_65 (by decide) (fun c_26 => ?_) (fun c_26 => ?_)
    · skip
      refine k_iconst F (pc := 73) ((nI 1)) dX3_sendFlows_73 (by decide) ?_
      refine k_goto F (pc := 74) 78 dX3_sendFlows_74 (by decide) ?_
      refine k_zret F Rr (pc := 78) true dX3_sendFlows_78 rfl ⟨on1_20, lo1_21, hi1_22, fs1_15, lf1_16, hf1_17, em1_4, le1_5, gr1_6, true, rfl, rfl, ?_⟩
      rw [hwb] at htb
      refine ⟨htb.1, ?_⟩
      have q1 := hta.2
      have q2 := htb.2
      simp only [snd2]
      rw [← q1, ← q2]
      clear hta htb q1 q2
      simp [*]
    · skip
      refine k_iload F (pc := 68) 0 rfl dX3_sendFlows_68 ?_
      refine k_if_eqB F (pc := 70) 77 dX3_sendFlows_70 (by decide) (fun c_27 => ?_) (fun c_27 => ?_)
      · skip
        refine k_iconst F (pc := 77) ((nI 0)) dX3_sendFlows_77 (by decide) ?_
        refine k_zret F Rr (pc := 78) false dX3_sendFlows_78 rfl ⟨on1_20, lo1_21, hi1_22, fs1_15, lf1_16, hf1_17, em1_4, le1_5, gr1_6, false, rfl, rfl, ?_⟩
        rw [hwb] at htb
        refine ⟨htb.1, ?_⟩
        have q1 := hta.2
        have q2 := htb.2
        simp only [snd2]
        rw [← q1, ← q2]
        clear hta htb q1 q2
        simp [*]
      · skip
        refine k_iconst F (pc := 73) ((nI 1)) dX3_sendFlows_73 (by decide) ?_
        refine k_goto F (pc := 74) 78 dX3_sendFlows_74 (by decide) ?_
        refine k_zret F Rr (pc := 78) true dX3_sendFlows_78 rfl ⟨on1_20, lo1_21, hi1_22, fs1_15, lf1_16, hf1_17, em1_4, le1_5, gr1_6, true, rfl, rfl, ?_⟩
        rw [hwb] at htb
        refine ⟨htb.1, ?_⟩
        have q1 := hta.2
        have q2 := htb.2
        simp only [snd2]
        rw [← q1, ← q2]
        clear hta htb q1 q2
        simp [*]
  refine k_iload_n F (pc := 43) 5 rfl dX3_sendFlows_43 rfl ?_
  refine k_if_eqB F (pc := 44) 57 dX3_sendFlows_44 (by decide) (fun c_28 => ?_) (fun c_28 => ?_)
  · skip
    refine k_iconst F (pc := 57) ((nI 0)) dX3_sendFlows_57 (by decide) ?_
    refine k_lv [(0, .ref (h 0)), (1, .int (nI p)), (2, .ref (h 2)), (3, .int (bI w)), (4, .int (bI r_12)), (5, .int (cd (4 * p + 3)))] [2, 3, 4, 5, 1, 0] rfl ?_
    exact J58 false (by simp [*])
  · skip
    refine k_iload F (pc := 47) 0 rfl dX3_sendFlows_47 ?_
    refine k_iload_n F (pc := 49) 3 rfl dX3_sendFlows_49 rfl ?_
    refine k_icmp_gt F (pc := 50) 57 dX3_sendFlows_50 (by decide) rfl (nI_toInt (by omega)) (fun c_29 => ?_) (fun c_29 => ?_)
    · skip
      refine k_iconst F (pc := 57) ((nI 0)) dX3_sendFlows_57 (by decide) ?_
      refine k_lv [(0, .ref (h 0)), (1, .int (nI p)), (2, .ref (h 2)), (3, .int (bI w)), (4, .int (bI r_12)), (5, .int (cd (4 * p + 3)))] [2, 3, 4, 5, 1, 0] rfl ?_
      exact J58 false (by simp [*])
    · skip
      refine k_iconst F (pc := 53) ((nI 1)) dX3_sendFlows_53 (by decide) ?_
      refine k_goto F (pc := 54) 58 dX3_sendFlows_54 (by decide) ?_
      refine k_lv [(0, .ref (h 0)), (1, .int (nI p)), (2, .ref (h 2)), (3, .int (bI w)), (4, .int (bI r_12)), (5, .int (cd (4 * p + 3)))] [2, 3, 4, 5, 1, 0] rfl ?_
      exact J58 true (by simp [*])
theorem zm_X3_sendFlows__S_f37 : (Cond.fieldLink RX3 37 RX3 "flow" "LRangeScan$Flow;" : Cond) ∈ wsX3_sendFlows := by decide +kernel
theorem zin_X3_sendFlows__S_X3 : ∀ w ∈ u_ws RX3 TX3 8, w ∈ wsX3_sendFlows := by decide +kernel
theorem zm_X3_sendFlows__S_f9 : (Cond.fieldLink RX3 9 RX3 "codes" "[I" : Cond) ∈ wsX3_sendFlows := by decide +kernel
set_option maxHeartbeats 4000000 in
set_option maxRecDepth 100000 in
theorem m_X3_sendFlows__S (l : Launch) (E : kE) (h : Nat → Nat) (cd : Nat → Int32) (n : Nat) (sc : Bool) (rt : Nat) (on : Nat → Bool) (lo : Nat → Int64) (hi : Nat → Int64) (son : Nat → Bool) (slo : Nat → Int64) (shi : Nat → Int64) (fs : Bool) (lf : Nat → Int64) (hf : Nat → Int64) (em : Bool) (le : Int64) (gr : Int64) (p : Nat) (w : Bool) (X : IV × IV) (S : ST) (hn : n ≤ 24) (hp : p < n) (hok : okP cd p) (hX : okX X) (hRS : Rep son slo shi S) (hR2 : ∀ v, v < 4 → lo (4 * p + v) = X.1 v ∧ hi (4 * p + v) = X.2 v) (hN1 : fN cd p X ≠ none → p + 1 < 24) : kC l yX3_sendFlows wsX3_sendFlows ({ frames := 4, cells := 0, slots := 0, locals := 106 } : Room) E [.ref (h 0), .int (nI p), .ref (h 6), .int (bI w)] (wX3 E h cd n sc rt on lo hi son slo shi fs lf hf em le gr) 0 0 (fun v_ w_ => ∃ (son1 : Nat → Bool) (slo1 : Nat → Int64) (shi1 : Nat → Int64) (fs1 : Bool) (lf1 : Nat → Int64) (hf1 : Nat → Int64) (em1 : Bool) (le1 : Int64) (gr1 : Int64) (r : Bool), v_ = some (.int (bI r)) ∧ w_ = (wX3 E h cd n sc rt on lo hi son1 slo1 shi1 fs1 lf1 hf1 em1 le1 gr1) ∧ (Rep son1 slo1 shi1 (snd2 cd p X w S).2 ∧ r = (snd2 cd p X w S).1)) := by
  refine kC.enter cX3_sendFlows 7 (some .boolean) [(0, .ref (h 0)), (1, .int (nI p)), (2, .ref (h 6)), (3, .int (bI w))] (by decide) rfl (Nat.le_of_ble_eq_true rfl) rfl ?_
  intro g F Rr
  refine k_aload_n F (pc := 0) 0 rfl dX3_sendFlows_0 rfl ?_
  refine k_iload_n F (pc := 1) 1 rfl dX3_sendFlows_1 rfl ?_
  refine k_callV F (pc := 2) (C := RX3) (T := TX3) (N := 8) (ci := 3) [.int (nI p)] [] 1 (wX3 E h cd n sc rt on lo hi son slo shi fs lf hf em le gr) [] [0, 1, 2, 3, 4, 5, 6, 7, 8, 9, 10, 11, 12, 13] [] (m_X3_makeFlowToNext l E h cd n sc rt on lo hi son slo shi fs lf hf em le gr p X (by omega) hok hX hR2) dX3_sendFlows_2 gX3_sendFlows_X3_makeFlowToNext rfl (by decide +kernel) rfl ⟨rfl, rfl⟩ (by decide) rfl (Nat.le_of_ble_eq_true rfl) (by decide) rfl rfl rfl rfl (by decide) (by decide) (by decide) ?_
  rintro v_7 w_8 ⟨fs1_1, lf1_2, hf1_3, em1_4, le1_5, gr1_6, rfl, rfl, hfn⟩
  refine k_perm (wX3 E h cd n sc rt on lo hi son slo shi fs1_1 lf1_2 hf1_3 em1_4 le1_5 gr1_6) [0, 1, 2, 3, 4, 5, 6, 7, 8, 9, 10, 11, 12, 13] (by decide) rfl ?_
  show kK g (wX3 E h cd n sc rt on lo hi son slo shi fs1_1 lf1_2 hf1_3 em1_4 le1_5 gr1_6) [(0, .ref (h 0)), (1, .int (nI p)), (2, .ref (h 6)), (3, .int (bI w))] 0 0 5 []
  refine k_aload_n F (pc := 5) 2 rfl dX3_sendFlows_5 rfl ?_
  refine k_iload_n F (pc := 6) 1 rfl dX3_sendFlows_6 rfl ?_
  refine k_iconst F (pc := 7) ((nI 1)) dX3_sendFlows_7 (by decide) ?_
  refine k_iaddN F (pc := 8) dX3_sendFlows_8 ?_
  refine k_aload_n F (pc := 9) 0 rfl dX3_sendFlows_9 rfl ?_
  refine k_get F (pc := 10) (ref := RX3) (C := RX3) (T := TX3) (N := 8) (ci := 3) 0 6 dX3_sendFlows_10 zin_X3_sendFlows__S_X3 rfl rfl (by decide) zm_X3_sendFlows__S_f37 rfl rfl ?_
  refine k_iconst F (pc := 13) ((nI 0)) dX3_sendFlows_13 (by decide) ?_
  refine k_callV F (pc := 14) (C := RX2) (T := TX2) (N := 3) (ci := 2) [.int (nI (p + 1)), .ref (h 10), .int (bI false)] [] 3 (wX20 E (h 6) (h 7) (h 8) (h 9) son slo shi (h 10) (h 11) (h 12) fs1_1 lf1_2 hf1_3) [cObj (h 0) 3 [.ref (h 1), .int (nI n), .int (bI sc), .int (nI rt), .ref (h 2), .ref (h 6), .ref (h 10), .ref (h 13)], cInt E (h 1) 96 cd, cObj (h 2) 2 [.ref (h 3), .ref (h 4), .ref (h 5)], cBoo E (h 3) 24 on, cLng E (h 4) 96 lo, cLng E (h 5) 96 hi, cObj (h 13) 1 [.int (bI em1_4), .long le1_5, .long gr1_6]] [6, 7, 8, 9, 10, 11, 12] [0, 1, 2, 3, 4, 5, 13] (m_X2_take l E (h 6) (h 7) (h 8) (h 9) son slo shi (h 10) (h 11) (h 12) fs1_1 lf1_2 hf1_3 (nI (p + 1)) (p + 1) false S (fN cd p X) hRS hfn (fun h => ⟨nI_toInt (by omega), hN1 h⟩)) dX3_sendFlows_14 gX3_sendFlows_X2_take rfl (by decide +kernel) rfl ⟨rfl, rfl⟩ (by decide) rfl (Nat.le_of_ble_eq_true rfl) (by decide) rfl rfl rfl rfl (by decide) (by decide) (by decide) ?_
  rintro v_13 w_14 ⟨on1_9, lo1_10, hi1_11, r_12, rfl, rfl, hta⟩
  refine k_perm (wX3 E h cd n sc rt on lo hi on1_9 lo1_10 hi1_11 fs1_1 lf1_2 hf1_3 em1_4 le1_5 gr1_6) [0, 1, 2, 3, 4, 5, 7, 8, 9, 10, 11, 12, 13, 6] (by decide) rfl ?_
  show kK g (wX3 E h cd n sc rt on lo hi on1_9 lo1_10 hi1_11 fs1_1 lf1_2 hf1_3 em1_4 le1_5 gr1_6) [(0, .ref (h 0)), (1, .int (nI p)), (2, .ref (h 6)), (3, .int (bI w))] 0 0 17 [.int (bI r_12)]
  refine k_istore F (pc := 17) [(4, .int (bI r_12)), (0, .ref (h 0)), (1, .int (nI p)), (2, .ref (h 6)), (3, .int (bI w))] dX3_sendFlows_17 (by decide) rfl ?_
  refine k_aload_n F (pc := 19) 1 rfl dX3_sendFlows_19 rfl ?_
  refine k_iload_n F (pc := 20) 2 rfl dX3_sendFlows_20 rfl ?_
  refine k_callV F (pc := 21) (C := RX3) (T := TX3) (N := 8) (ci := 3) [.int (nI p)] [] 1 (wX3 E h cd n sc rt on lo hi on1_9 lo1_10 hi1_11 fs1_1 lf1_2 hf1_3 em1_4 le1_5 gr1_6) [] [0, 1, 2, 3, 4, 5, 6, 7, 8, 9, 10, 11, 12, 13] [] (m_X3_makeFlowToPlace l E h cd n sc rt on lo hi on1_9 lo1_10 hi1_11 fs1_1 lf1_2 hf1_3 em1_4 le1_5 gr1_6 p X (by omega) hok hR2) dX3_sendFlows_21 gX3_sendFlows_X3_makeFlowToPlace rfl (by decide +kernel) rfl ⟨rfl, rfl⟩ (by decide) rfl (Nat.le_of_ble_eq_true rfl) (by decide) rfl rfl rfl rfl (by decide) (by decide) (by decide) ?_
  rintro v_18 w_19 ⟨fs1_15, lf1_16, hf1_17, rfl, rfl, hfp⟩
  refine k_perm (wX3 E h cd n sc rt on lo hi on1_9 lo1_10 hi1_11 fs1_15 lf1_16 hf1_17 em1_4 le1_5 gr1_6) [0, 1, 2, 3, 4, 5, 6, 7, 8, 9, 10, 11, 12, 13] (by decide) rfl ?_
  show kK g (wX3 E h cd n sc rt on lo hi on1_9 lo1_10 hi1_11 fs1_15 lf1_16 hf1_17 em1_4 le1_5 gr1_6) [(4, .int (bI r_12)), (0, .ref (h 0)), (1, .int (nI p)), (2, .ref (h 6)), (3, .int (bI w))] 0 0 24 []
  refine k_aload_n F (pc := 24) 1 rfl dX3_sendFlows_24 rfl ?_
  refine k_get F (pc := 25) (ref := RX3) (C := RX3) (T := TX3) (N := 8) (ci := 3) 0 0 dX3_sendFlows_25 zin_X3_sendFlows__S_X3 rfl rfl (by decide) zm_X3_sendFlows__S_f9 rfl rfl ?_
  refine k_iload_n F (pc := 28) 2 rfl dX3_sendFlows_28 rfl ?_
  refine k_iconst F (pc := 29) ((nI 4)) dX3_sendFlows_29 (by decide) ?_
  refine k_imulC F (pc := 30) dX3_sendFlows_30 ?_
  refine k_iconst F (pc := 31) ((nI 3)) dX3_sendFlows_31 (by decide) ?_
  refine k_iaddN F (pc := 32) dX3_sendFlows_32 ?_
  refine k_iald F (pc := 33) 1 dX3_sendFlows_33 rfl (by omega) (by decide) ?_
  refine k_istore F (pc := 34) [(5, .int (cd (4 * p + 3))), (4, .int (bI r_12)), (0, .ref (h 0)), (1, .int (nI p)), (2, .ref (h 6)), (3, .int (bI w))] dX3_sendFlows_34 (by decide) rfl ?_
  refine k_aload_n F (pc := 36) 4 rfl dX3_sendFlows_36 rfl ?_
  refine k_iload F (pc := 37) 0 rfl dX3_sendFlows_37 ?_
  refine k_aload_n F (pc := 39) 2 rfl dX3_sendFlows_39 rfl ?_
  refine k_get F (pc := 40) (ref := RX3) (C := RX3) (T := TX3) (N := 8) (ci := 3) 0 6 dX3_sendFlows_40 zin_X3_sendFlows__S_X3 rfl rfl (by decide) zm_X3_sendFlows__S_f37 rfl rfl ?_
  have J58 : ∀ (wb : Bool), (wb = (w && decide ((cd (4 * p + 3)).toInt ≤ (p : Int)))) → kK g (wX3 E h cd n sc rt on lo hi on1_9 lo1_10 hi1_11 fs1_15 lf1_16 hf1_17 em1_4 le1_5 gr1_6) [(0, .ref (h 0)), (1, .int (nI p)), (2, .ref (h 6)), (3, .int (bI w)), (4, .int (bI r_12)), (5, .int (cd (4 * p + 3)))] 0 0 58 [.int (bI wb), .ref (h 10), .int (cd (4 * p + 3)), .ref (h 6)] := by
    intro wb hwb
    refine k_callV F (pc := 58) (C := RX2) (T := TX2) (N := 3) (ci := 2) [.int (cd (4 * p + 3)), .ref (h 10), .int (bI wb)] [] 3 (wX20 E (h 6) (h 7) (h 8) (h 9) on1_9 lo1_10 hi1_11 (h 10) (h 11) (h 12) fs1_15 lf1_16 hf1_17) [cObj (h 0) 3 [.ref (h 1), .int (nI n), .int (bI sc), .int (nI rt), .ref (h 2), .ref (h 6), .ref (h 10), .ref (h 13)], cInt E (h 1) 96 cd, cObj (h 2) 2 [.ref (h 3), .ref (h 4), .ref (h 5)], cBoo E (h 3) 24 on, cLng E (h 4) 96 lo, cLng E (h 5) 96 hi, cObj (h 13) 1 [.int (bI em1_4), .long le1_5, .long gr1_6]] [6, 7, 8, 9, 10, 11, 12] [0, 1, 2, 3, 4, 5, 13] (m_X2_take l E (h 6) (h 7) (h 8) (h 9) on1_9 lo1_10 hi1_11 (h 10) (h 11) (h 12) fs1_15 lf1_16 hf1_17 (cd (4 * p + 3)) ((cd (4 * p + 3)).toNatClampNeg) wb ((arr S (p + 1) (fN cd p X) false).2) (fP cd p X) hta.1 hfp (fP_in hok)) dX3_sendFlows_58 gX3_sendFlows_X2_take rfl (by decide +kernel) rfl ⟨rfl, rfl⟩ (by decide) rfl (Nat.le_of_ble_eq_true rfl) (by decide) rfl rfl rfl rfl (by decide) (by decide) (by decide) ?_
    rintro v_24 w_25 ⟨on1_20, lo1_21, hi1_22, r_23, rfl, rfl, htb⟩
    refine k_perm (wX3 E h cd n sc rt on lo hi on1_20 lo1_21 hi1_22 fs1_15 lf1_16 hf1_17 em1_4 le1_5 gr1_6) [0, 1, 2, 3, 4, 5, 7, 8, 9, 10, 11, 12, 13, 6] (by decide) rfl ?_
    show kK g (wX3 E h cd n sc rt on lo hi on1_20 lo1_21 hi1_22 fs1_15 lf1_16 hf1_17 em1_4 le1_5 gr1_6) [(0, .ref (h 0)), (1, .int (nI p)), (2, .ref (h 6)), (3, .int (bI w)), (4, .int (bI r_12)), (5, .int (cd (4 * p + 3)))] 0 0 61 [.int (bI r_23)]
    refine k_istore F (pc := 61) [(6, .int (bI r_23)), (0, .ref (h 0)), (1, .int (nI p)), (2, .ref (h 6)), (3, .int (bI w)), (4, .int (bI r_12)), (5, .int (cd (4 * p + 3)))] dX3_sendFlows_61 (by decide) rfl ?_
    refine k_iload F (pc := 63) 5 rfl dX3_sendFlows_63 ?_
    refine k_if_neB F (pc := 65) 73 dX3_sendFlows_65 (by decide) (fun c_26 => ?_) (fun c_26 => ?_)
    · skip
      refine k_iconst F (pc := 73) ((nI 1)) dX3_sendFlows_73 (by decide) ?_
      refine k_goto F (pc := 74) 78 dX3_sendFlows_74 (by decide) ?_
      refine k_zret F Rr (pc := 78) true dX3_sendFlows_78 rfl ⟨on1_20, lo1_21, hi1_22, fs1_15, lf1_16, hf1_17, em1_4, le1_5, gr1_6, true, rfl, rfl, ?_⟩
      rw [hwb] at htb
      refine ⟨htb.1, ?_⟩
      have q1 := hta.2
      have q2 := htb.2
      simp only [snd2]
      rw [← q1, ← q2]
      clear hta htb q1 q2
      simp [*]
    · skip
      refine k_iload F (pc := 68) 0 rfl dX3_sendFlows_68 ?_
      refine k_if_eqB F (pc := 70) 77 dX3_sendFlows_70 (by decide) (fun c_27 => ?_) (fun c_27 => ?_)
      · skip
        refine k_iconst F (pc := 77) ((nI 0)) dX3_sendFlows_77 (by decide) ?_
        refine k_zret F Rr (pc := 78) false dX3_sendFlows_78 rfl ⟨on1_20, lo1_21, hi1_22, fs1_15, lf1_16, hf1_17, em1_4, le1_5, gr1_6, false, rfl, rfl, ?_⟩
        rw [hwb] at htb
        refine ⟨htb.1, ?_⟩
        have q1 := hta.2
        have q2 := htb.2
        simp only [snd2]
        rw [← q1, ← q2]
        clear hta htb q1 q2
        simp [*]
      · skip
        refine k_iconst F (pc := 73) ((nI 1)) dX3_sendFlows_73 (by decide) ?_
        refine k_goto F (pc := 74) 78 dX3_sendFlows_74 (by decide) ?_
        refine k_zret F Rr (pc := 78) true dX3_sendFlows_78 rfl ⟨on1_20, lo1_21, hi1_22, fs1_15, lf1_16, hf1_17, em1_4, le1_5, gr1_6, true, rfl, rfl, ?_⟩
        rw [hwb] at htb
        refine ⟨htb.1, ?_⟩
        have q1 := hta.2
        have q2 := htb.2
        simp only [snd2]
        rw [← q1, ← q2]
        clear hta htb q1 q2
        simp [*]
  refine k_iload_n F (pc := 43) 5 rfl dX3_sendFlows_43 rfl ?_
  refine k_if_eqB F (pc := 44) 57 dX3_sendFlows_44 (by decide) (fun c_28 => ?_) (fun c_28 => ?_)
  · skip
    refine k_iconst F (pc := 57) ((nI 0)) dX3_sendFlows_57 (by decide) ?_
    refine k_lv [(0, .ref (h 0)), (1, .int (nI p)), (2, .ref (h 6)), (3, .int (bI w)), (4, .int (bI r_12)), (5, .int (cd (4 * p + 3)))] [2, 3, 4, 5, 1, 0] rfl ?_
    exact J58 false (by simp [*])
  · skip
    refine k_iload F (pc := 47) 0 rfl dX3_sendFlows_47 ?_
    refine k_iload_n F (pc := 49) 3 rfl dX3_sendFlows_49 rfl ?_
    refine k_icmp_gt F (pc := 50) 57 dX3_sendFlows_50 (by decide) rfl (nI_toInt (by omega)) (fun c_29 => ?_) (fun c_29 => ?_)
    · skip
      refine k_iconst F (pc := 57) ((nI 0)) dX3_sendFlows_57 (by decide) ?_
      refine k_lv [(0, .ref (h 0)), (1, .int (nI p)), (2, .ref (h 6)), (3, .int (bI w)), (4, .int (bI r_12)), (5, .int (cd (4 * p + 3)))] [2, 3, 4, 5, 1, 0] rfl ?_
      exact J58 false (by simp [*])
    · skip
      refine k_iconst F (pc := 53) ((nI 1)) dX3_sendFlows_53 (by decide) ?_
      refine k_goto F (pc := 54) 58 dX3_sendFlows_54 (by decide) ?_
      refine k_lv [(0, .ref (h 0)), (1, .int (nI p)), (2, .ref (h 6)), (3, .int (bI w)), (4, .int (bI r_12)), (5, .int (cd (4 * p + 3)))] [2, 3, 4, 5, 1, 0] rfl ?_
      exact J58 true (by simp [*])
theorem zm_X3_runRound_f13 : (Cond.fieldLink RX3 13 RX3 "count" "I" : Cond) ∈ wsX3_runRound := by decide +kernel
theorem zin_X3_runRound_X3 : ∀ w ∈ u_ws RX3 TX3 8, w ∈ wsX3_runRound := by decide +kernel
theorem zm_X3_runRound_f27 : (Cond.fieldLink RX3 27 RX3 "found" "LRangeScan$States;" : Cond) ∈ wsX3_runRound := by decide +kernel
set_option maxHeartbeats 4000000 in
set_option maxRecDepth 100000 in
theorem m_X3_runRound (l : Launch) (E : kE) (h : Nat → Nat) (cd : Nat → Int32) (n : Nat) (sc : Bool) (rt : Nat) (on : Nat → Bool) (lo : Nat → Int64) (hi : Nat → Int64) (son : Nat → Bool) (slo : Nat → Int64) (shi : Nat → Int64) (fs : Bool) (lf : Nat → Int64) (hf : Nat → Int64) (em : Bool) (le : Int64) (gr : Int64) (S : ST) (hn : n ≤ 24) (hok : ∀ p, p < n → okP cd p) (hwh : wholeP cd n) (hRS : Rep on lo hi S) (hoS : ∀ k, okS (rndTo cd S k).2) : kC l yX3_runRound wsX3_runRound ({ frames := 5, cells := 0, slots := 0, locals := 132 } : Room) E [.ref (h 0)] (wX3 E h cd n sc rt on lo hi son slo shi fs lf hf em le gr) 0 0 (fun v_ w_ => ∃ (on1 : Nat → Bool) (lo1 : Nat → Int64) (hi1 : Nat → Int64) (fs1 : Bool) (lf1 : Nat → Int64) (hf1 : Nat → Int64) (em1 : Bool) (le1 : Int64) (gr1 : Int64) (r : Bool), v_ = some (.int (bI r)) ∧ w_ = (wX3 E h cd n sc rt on1 lo1 hi1 son slo shi fs1 lf1 hf1 em1 le1 gr1) ∧ (Rep on1 lo1 hi1 (rndTo cd S n).2 ∧ r = (rndTo cd S n).1)) := by
  refine kC.enter cX3_runRound 3 (some .boolean) [(0, .ref (h 0))] (by decide) rfl (Nat.le_of_ble_eq_true rfl) rfl ?_
  intro g F Rr
  refine k_iconst F (pc := 0) ((nI 0)) dX3_runRound_0 (by decide) ?_
  refine k_istore_n F (pc := 1) [(1, .int (nI 0)), (0, .ref (h 0))] dX3_runRound_1 rfl (by decide) rfl ?_
  refine k_iconst F (pc := 2) ((nI 0)) dX3_runRound_2 (by decide) ?_
  refine k_istore_n F (pc := 3) [(2, .int (nI 0)), (1, .int (nI 0)), (0, .ref (h 0))] dX3_runRound_3 rfl (by decide) rfl ?_
  have L4 : ∀ (d_ : Nat) (i : Nat) (ch : Bool) (on2 : Nat → Bool) (lo2 : Nat → Int64) (hi2 : Nat → Int64) (fs2 : Bool) (lf2 : Nat → Int64) (hf2 : Nat → Int64) (em2 : Bool) (le2 : Int64) (gr2 : Int64), n - i < d_ → (i ≤ n) → (Rep on2 lo2 hi2 (rndTo cd S i).2) → (ch = (rndTo cd S i).1) → kK g (wX3 E h cd n sc rt on2 lo2 hi2 son slo shi fs2 lf2 hf2 em2 le2 gr2) [(0, .ref (h 0)), (1, .int (bI ch)), (2, .int (nI i))] 0 0 4 [] := by
    intro d_
    induction d_ with
    | zero => intro i ch on2 lo2 hi2 fs2 lf2 hf2 em2 le2 gr2 hm; exact absurd hm (Nat.not_lt_zero _)
    | succ d_ ih4 =>
      intro i ch on2 lo2 hi2 fs2 lf2 hf2 em2 le2 gr2 hm4 hin hrp hch
      refine k_iload_n F (pc := 4) 2 rfl dX3_runRound_4 rfl ?_
      refine k_aload_n F (pc := 5) 0 rfl dX3_runRound_5 rfl ?_
      refine k_get F (pc := 6) (ref := RX3) (C := RX3) (T := TX3) (N := 8) (ci := 3) 0 1 dX3_runRound_6 zin_X3_runRound_X3 rfl rfl (by decide) zm_X3_runRound_f13 rfl rfl ?_
      refine k_icmp_ge F (pc := 9) 44 dX3_runRound_9 (by decide) (nI_toInt (by omega)) (nI_toInt (by omega)) (fun c_1 => ?_) (fun c_1 => ?_)
      · skip
        refine k_iload_n F (pc := 44) 1 rfl dX3_runRound_44 rfl ?_
        refine k_zret F Rr (pc := 45) ch dX3_runRound_45 rfl ⟨on2, lo2, hi2, fs2, lf2, hf2, em2, le2, gr2, ch, rfl, rfl, ?_⟩
        rw [show i = n by omega] at hrp hch
        exact ⟨hrp, hch⟩
      · skip
        refine k_aload_n F (pc := 12) 0 rfl dX3_runRound_12 rfl ?_
        refine k_get F (pc := 13) (ref := RX3) (C := RX3) (T := TX3) (N := 8) (ci := 3) 0 4 dX3_runRound_13 zin_X3_runRound_X3 rfl rfl (by decide) zm_X3_runRound_f27 rfl rfl ?_
        refine k_iload_n F (pc := 16) 2 rfl dX3_runRound_16 rfl ?_
        refine k_callV F (pc := 17) (C := RX2) (T := TX2) (N := 3) (ci := 2) [.int (nI i)] [] 1 (wX2 E (h 2) (h 3) (h 4) (h 5) on2 lo2 hi2) [cObj (h 0) 3 [.ref (h 1), .int (nI n), .int (bI sc), .int (nI rt), .ref (h 2), .ref (h 6), .ref (h 10), .ref (h 13)], cInt E (h 1) 96 cd, cObj (h 6) 2 [.ref (h 7), .ref (h 8), .ref (h 9)], cBoo E (h 7) 24 son, cLng E (h 8) 96 slo, cLng E (h 9) 96 shi, cObj (h 10) 0 [.int (bI fs2), .ref (h 11), .ref (h 12)], cLng E (h 11) 4 lf2, cLng E (h 12) 4 hf2, cObj (h 13) 1 [.int (bI em2), .long le2, .long gr2]] [2, 3, 4, 5] [0, 1, 6, 7, 8, 9, 10, 11, 12, 13] (m_X2_isSomewhere l E (h 2) (h 3) (h 4) (h 5) on2 lo2 hi2 i (by omega)) dX3_runRound_17 gX3_runRound_X2_isSomewhere rfl (by decide +kernel) rfl ⟨rfl, rfl⟩ (by decide) rfl (Nat.le_of_ble_eq_true rfl) (by decide) rfl rfl rfl rfl (by decide) (by decide) (by decide) ?_
        rintro v_2 w_3 ⟨rfl, rfl⟩
        refine k_perm (wX3 E h cd n sc rt on2 lo2 hi2 son slo shi fs2 lf2 hf2 em2 le2 gr2) [0, 1, 10, 11, 12, 13, 2, 3, 4, 5, 6, 7, 8, 9] (by decide) rfl ?_
        show kK g (wX3 E h cd n sc rt on2 lo2 hi2 son slo shi fs2 lf2 hf2 em2 le2 gr2) [(0, .ref (h 0)), (1, .int (bI ch)), (2, .int (nI i))] 0 0 20 [.int (bI (on2 i))]
        refine k_if_eqB F (pc := 20) 38 dX3_runRound_20 (by decide) (fun c_4 => ?_) (fun c_4 => ?_)
        · skip
          have hnone := hrp.off (by omega) c_4
          refine k_iinc F (pc := 38) 2 ((nI (i + 1))) [(2, .int (nI (i + 1))), (0, .ref (h 0)), (1, .int (bI ch))] dX3_runRound_38 rfl (nI_1 i) (by decide) rfl ?_
          refine k_goto F (pc := 41) 4 dX3_runRound_41 (by decide) ?_
          refine k_lv [(0, .ref (h 0)), (1, .int (bI ch)), (2, .int (nI (i + 1)))] [1, 2, 0] rfl ?_
          exact ih4 (i + 1) ch on2 lo2 hi2 fs2 lf2 hf2 em2 le2 gr2 (by omega) (by omega) (by first | (rw [rnd_none hnone]; exact hrp) | (rw [rnd_some hsome]; exact hsf.1)) (by first | (rw [rnd_none hnone]; exact hch) | (rw [rnd_ch hsome hsf.2 hch]; clear hsf hch; simp [*]))
        · skip
          obtain ⟨X, hsome, hXv⟩ := hrp.up (by omega) c_4
          refine k_aload_n F (pc := 23) 0 rfl dX3_runRound_23 rfl ?_
          refine k_iload_n F (pc := 24) 2 rfl dX3_runRound_24 rfl ?_
          refine k_aload_n F (pc := 25) 0 rfl dX3_runRound_25 rfl ?_
          refine k_get F (pc := 26) (ref := RX3) (C := RX3) (T := TX3) (N := 8) (ci := 3) 0 4 dX3_runRound_26 zin_X3_runRound_X3 rfl rfl (by decide) zm_X3_runRound_f27 rfl rfl ?_
          refine k_iconst F (pc := 29) ((nI 1)) dX3_runRound_29 (by decide) ?_
          refine k_callV F (pc := 30) (C := RX3) (T := TX3) (N := 8) (ci := 3) [.int (nI i), .ref (h 2), .int (bI true)] [] 3 (wX3 E h cd n sc rt on2 lo2 hi2 son slo shi fs2 lf2 hf2 em2 le2 gr2) [] [0, 1, 2, 3, 4, 5, 6, 7, 8, 9, 10, 11, 12, 13] [] (m_X3_sendFlows l E h cd n sc rt on2 lo2 hi2 son slo shi fs2 lf2 hf2 em2 le2 gr2 i true X ((rndTo cd S i).2) (by omega) (by omega) (hok i (by omega)) (hoS i _ _ hsome) hrp hsome (fun h => by have := fN_in hn hwh (by omega) h; omega)) dX3_runRound_30 gX3_runRound_X3_sendFlows rfl (by decide +kernel) rfl ⟨rfl, rfl⟩ (by decide) rfl (Nat.le_of_ble_eq_true rfl) (by decide) rfl rfl rfl rfl (by decide) (by decide) (by decide) ?_
          rintro v_15 w_16 ⟨on1_5, lo1_6, hi1_7, fs1_8, lf1_9, hf1_10, em1_11, le1_12, gr1_13, r_14, rfl, rfl, hsf⟩
          refine k_perm (wX3 E h cd n sc rt on1_5 lo1_6 hi1_7 son slo shi fs1_8 lf1_9 hf1_10 em1_11 le1_12 gr1_13) [0, 1, 2, 3, 4, 5, 6, 7, 8, 9, 10, 11, 12, 13] (by decide) rfl ?_
          show kK g (wX3 E h cd n sc rt on1_5 lo1_6 hi1_7 son slo shi fs1_8 lf1_9 hf1_10 em1_11 le1_12 gr1_13) [(0, .ref (h 0)), (1, .int (bI ch)), (2, .int (nI i))] 0 0 33 [.int (bI r_14)]
          refine k_if_eqB F (pc := 33) 38 dX3_runRound_33 (by decide) (fun c_17 => ?_) (fun c_17 => ?_)
          · skip
            refine k_iinc F (pc := 38) 2 ((nI (i + 1))) [(2, .int (nI (i + 1))), (0, .ref (h 0)), (1, .int (bI ch))] dX3_runRound_38 rfl (nI_1 i) (by decide) rfl ?_
            refine k_goto F (pc := 41) 4 dX3_runRound_41 (by decide) ?_
            refine k_lv [(0, .ref (h 0)), (1, .int (bI ch)), (2, .int (nI (i + 1)))] [1, 2, 0] rfl ?_
            exact ih4 (i + 1) ch on1_5 lo1_6 hi1_7 fs1_8 lf1_9 hf1_10 em1_11 le1_12 gr1_13 (by omega) (by omega) (by first | (rw [rnd_none hnone]; exact hrp) | (rw [rnd_some hsome]; exact hsf.1)) (by first | (rw [rnd_none hnone]; exact hch) | (rw [rnd_ch hsome hsf.2 hch]; clear hsf hch; simp [*]))
          · skip
            refine k_iconst F (pc := 36) ((nI 1)) dX3_runRound_36 (by decide) ?_
            refine k_istore_n F (pc := 37) [(1, .int (nI 1)), (0, .ref (h 0)), (2, .int (nI i))] dX3_runRound_37 rfl (by decide) rfl ?_
            refine k_iinc F (pc := 38) 2 ((nI (i + 1))) [(2, .int (nI (i + 1))), (1, .int (nI 1)), (0, .ref (h 0))] dX3_runRound_38 rfl (nI_1 i) (by decide) rfl ?_
            refine k_goto F (pc := 41) 4 dX3_runRound_41 (by decide) ?_
            refine k_lv [(0, .ref (h 0)), (1, .int (nI 1)), (2, .int (nI (i + 1)))] [2, 1, 0] rfl ?_
            exact ih4 (i + 1) true on1_5 lo1_6 hi1_7 fs1_8 lf1_9 hf1_10 em1_11 le1_12 gr1_13 (by omega) (by omega) (by first | (rw [rnd_none hnone]; exact hrp) | (rw [rnd_some hsome]; exact hsf.1)) (by first | (rw [rnd_none hnone]; exact hch) | (rw [rnd_ch hsome hsf.2 hch]; clear hsf hch; simp [*]))
  refine k_lv [(0, .ref (h 0)), (1, .int (nI 0)), (2, .int (nI 0))] [2, 1, 0] rfl ?_
  exact L4 (n - 0 + 1) 0 false on lo hi fs lf hf em le gr (Nat.lt_succ_self _) (by omega) (by exact hRS) (by rfl)
theorem zm_X3_settle_f31 : (Cond.fieldLink RX3 31 RX3 "settled" "LRangeScan$States;" : Cond) ∈ wsX3_settle := by decide +kernel
theorem zin_X3_settle_X3 : ∀ w ∈ u_ws RX3 TX3 8, w ∈ wsX3_settle := by decide +kernel
theorem zm_X3_settle_f13 : (Cond.fieldLink RX3 13 RX3 "count" "I" : Cond) ∈ wsX3_settle := by decide +kernel
theorem zm_X3_settle_f27 : (Cond.fieldLink RX3 27 RX3 "found" "LRangeScan$States;" : Cond) ∈ wsX3_settle := by decide +kernel
set_option maxHeartbeats 4000000 in
set_option maxRecDepth 100000 in
theorem m_X3_settle (l : Launch) (E : kE) (h : Nat → Nat) (cd : Nat → Int32) (n : Nat) (sc : Bool) (rt : Nat) (on : Nat → Bool) (lo : Nat → Int64) (hi : Nat → Int64) (son : Nat → Bool) (slo : Nat → Int64) (shi : Nat → Int64) (fs : Bool) (lf : Nat → Int64) (hf : Nat → Int64) (em : Bool) (le : Int64) (gr : Int64) (S : ST) (hn : n ≤ 24) (hok : ∀ p, p < n → okP cd p) (hwh : wholeP cd n) (hRS : Rep on lo hi S) (hoS : okS S) : kC l yX3_settle wsX3_settle ({ frames := 5, cells := 0, slots := 0, locals := 132 } : Room) E [.ref (h 0)] (wX3 E h cd n sc rt on lo hi son slo shi fs lf hf em le gr) 0 0 (fun v_ w_ => ∃ (son1 : Nat → Bool) (slo1 : Nat → Int64) (shi1 : Nat → Int64) (fs1 : Bool) (lf1 : Nat → Int64) (hf1 : Nat → Int64) (em1 : Bool) (le1 : Int64) (gr1 : Int64), v_ = none ∧ w_ = (wX3 E h cd n sc rt on lo hi son1 slo1 shi1 fs1 lf1 hf1 em1 le1 gr1) ∧ (Rep son1 slo1 shi1 (setTo cd S n))) := by
  refine kC.enter cX3_settle 2 none [(0, .ref (h 0))] (by decide) rfl (Nat.le_of_ble_eq_true rfl) rfl ?_
  intro g F Rr
  refine k_aload_n F (pc := 0) 0 rfl dX3_settle_0 rfl ?_
  refine k_get F (pc := 1) (ref := RX3) (C := RX3) (T := TX3) (N := 8) (ci := 3) 0 5 dX3_settle_1 zin_X3_settle_X3 rfl rfl (by decide) zm_X3_settle_f31 rfl rfl ?_
  refine k_callV F (pc := 4) (C := RX2) (T := TX2) (N := 3) (ci := 2) [] [] 0 (wX2 E (h 6) (h 7) (h 8) (h 9) son slo shi) [cObj (h 0) 3 [.ref (h 1), .int (nI n), .int (bI sc), .int (nI rt), .ref (h 2), .ref (h 6), .ref (h 10), .ref (h 13)], cInt E (h 1) 96 cd, cObj (h 2) 2 [.ref (h 3), .ref (h 4), .ref (h 5)], cBoo E (h 3) 24 on, cLng E (h 4) 96 lo, cLng E (h 5) 96 hi, cObj (h 10) 0 [.int (bI fs), .ref (h 11), .ref (h 12)], cLng E (h 11) 4 lf, cLng E (h 12) 4 hf, cObj (h 13) 1 [.int (bI em), .long le, .long gr]] [6, 7, 8, 9] [0, 1, 2, 3, 4, 5, 10, 11, 12, 13] (m_X2_begin l E (h 6) (h 7) (h 8) (h 9) son slo shi) dX3_settle_4 gX3_settle_X2_begin rfl (by decide +kernel) rfl ⟨rfl, rfl⟩ (by decide) rfl (Nat.le_of_ble_eq_true rfl) (by decide) rfl rfl rfl rfl (by decide) (by decide) (by decide) ?_
  rintro v_4 w_5 ⟨on1_1, lo1_2, hi1_3, rfl, rfl, hbg⟩
  refine k_perm (wX3 E h cd n sc rt on lo hi on1_1 lo1_2 hi1_3 fs lf hf em le gr) [0, 1, 2, 3, 4, 5, 10, 11, 12, 13, 6, 7, 8, 9] (by decide) rfl ?_
  show kK g (wX3 E h cd n sc rt on lo hi on1_1 lo1_2 hi1_3 fs lf hf em le gr) [(0, .ref (h 0))] 0 0 7 []
  refine k_iconst F (pc := 7) ((nI 0)) dX3_settle_7 (by decide) ?_
  refine k_istore_n F (pc := 8) [(1, .int (nI 0)), (0, .ref (h 0))] dX3_settle_8 rfl (by decide) rfl ?_
  have L9 : ∀ (d_ : Nat) (i : Nat) (on2 : Nat → Bool) (lo2 : Nat → Int64) (hi2 : Nat → Int64) (fs2 : Bool) (lf2 : Nat → Int64) (hf2 : Nat → Int64) (em2 : Bool) (le2 : Int64) (gr2 : Int64), n - i < d_ → (i ≤ n) → (Rep on2 lo2 hi2 (setTo cd S i)) → kK g (wX3 E h cd n sc rt on lo hi on2 lo2 hi2 fs2 lf2 hf2 em2 le2 gr2) [(0, .ref (h 0)), (1, .int (nI i))] 0 0 9 [] := by
    intro d_
    induction d_ with
    | zero => intro i on2 lo2 hi2 fs2 lf2 hf2 em2 le2 gr2 hm; exact absurd hm (Nat.not_lt_zero _)
    | succ d_ ih9 =>
      intro i on2 lo2 hi2 fs2 lf2 hf2 em2 le2 gr2 hm9 hin hrp
      refine k_iload_n F (pc := 9) 1 rfl dX3_settle_9 rfl ?_
      refine k_aload_n F (pc := 10) 0 rfl dX3_settle_10 rfl ?_
      refine k_get F (pc := 11) (ref := RX3) (C := RX3) (T := TX3) (N := 8) (ci := 3) 0 1 dX3_settle_11 zin_X3_settle_X3 rfl rfl (by decide) zm_X3_settle_f13 rfl rfl ?_
      refine k_icmp_ge F (pc := 14) 45 dX3_settle_14 (by decide) (nI_toInt (by omega)) (nI_toInt (by omega)) (fun c_6 => ?_) (fun c_6 => ?_)
      · skip
        refine k_vret F Rr (pc := 45) dX3_settle_45 ⟨on2, lo2, hi2, fs2, lf2, hf2, em2, le2, gr2, rfl, rfl, ?_⟩
        rw [show i = n by omega] at hrp
        exact hrp
      · skip
        refine k_aload_n F (pc := 17) 0 rfl dX3_settle_17 rfl ?_
        refine k_get F (pc := 18) (ref := RX3) (C := RX3) (T := TX3) (N := 8) (ci := 3) 0 4 dX3_settle_18 zin_X3_settle_X3 rfl rfl (by decide) zm_X3_settle_f27 rfl rfl ?_
        refine k_iload_n F (pc := 21) 1 rfl dX3_settle_21 rfl ?_
        refine k_callV F (pc := 22) (C := RX2) (T := TX2) (N := 3) (ci := 2) [.int (nI i)] [] 1 (wX2 E (h 2) (h 3) (h 4) (h 5) on lo hi) [cObj (h 0) 3 [.ref (h 1), .int (nI n), .int (bI sc), .int (nI rt), .ref (h 2), .ref (h 6), .ref (h 10), .ref (h 13)], cInt E (h 1) 96 cd, cObj (h 6) 2 [.ref (h 7), .ref (h 8), .ref (h 9)], cBoo E (h 7) 24 on2, cLng E (h 8) 96 lo2, cLng E (h 9) 96 hi2, cObj (h 10) 0 [.int (bI fs2), .ref (h 11), .ref (h 12)], cLng E (h 11) 4 lf2, cLng E (h 12) 4 hf2, cObj (h 13) 1 [.int (bI em2), .long le2, .long gr2]] [2, 3, 4, 5] [0, 1, 6, 7, 8, 9, 10, 11, 12, 13] (m_X2_isSomewhere l E (h 2) (h 3) (h 4) (h 5) on lo hi i (by omega)) dX3_settle_22 gX3_settle_X2_isSomewhere rfl (by decide +kernel) rfl ⟨rfl, rfl⟩ (by decide) rfl (Nat.le_of_ble_eq_true rfl) (by decide) rfl rfl rfl rfl (by decide) (by decide) (by decide) ?_
        rintro v_7 w_8 ⟨rfl, rfl⟩
        refine k_perm (wX3 E h cd n sc rt on lo hi on2 lo2 hi2 fs2 lf2 hf2 em2 le2 gr2) [0, 1, 10, 11, 12, 13, 2, 3, 4, 5, 6, 7, 8, 9] (by decide) rfl ?_
        show kK g (wX3 E h cd n sc rt on lo hi on2 lo2 hi2 fs2 lf2 hf2 em2 le2 gr2) [(0, .ref (h 0)), (1, .int (nI i))] 0 0 25 [.int (bI (on i))]
        refine k_if_eqB F (pc := 25) 39 dX3_settle_25 (by decide) (fun c_9 => ?_) (fun c_9 => ?_)
        · skip
          have hnone := hRS.off (by omega) c_9
          refine k_iinc F (pc := 39) 1 ((nI (i + 1))) [(1, .int (nI (i + 1))), (0, .ref (h 0))] dX3_settle_39 rfl (nI_1 i) (by decide) rfl ?_
          refine k_goto F (pc := 42) 9 dX3_settle_42 (by decide) ?_
          refine k_lv [(0, .ref (h 0)), (1, .int (nI (i + 1)))] [1, 0] rfl ?_
          exact ih9 (i + 1) on2 lo2 hi2 fs2 lf2 hf2 em2 le2 gr2 (by omega) (by omega) (by first | (rw [set_none hnone]; exact hrp) | (rw [set_some hsome]; exact hsf.1))
        · skip
          obtain ⟨X, hsome, hXv⟩ := hRS.up (by omega) c_9
          refine k_aload_n F (pc := 28) 0 rfl dX3_settle_28 rfl ?_
          refine k_iload_n F (pc := 29) 1 rfl dX3_settle_29 rfl ?_
          refine k_aload_n F (pc := 30) 0 rfl dX3_settle_30 rfl ?_
          refine k_get F (pc := 31) (ref := RX3) (C := RX3) (T := TX3) (N := 8) (ci := 3) 0 5 dX3_settle_31 zin_X3_settle_X3 rfl rfl (by decide) zm_X3_settle_f31 rfl rfl ?_
          refine k_iconst F (pc := 34) ((nI 0)) dX3_settle_34 (by decide) ?_
          refine k_callV F (pc := 35) (C := RX3) (T := TX3) (N := 8) (ci := 3) [.int (nI i), .ref (h 6), .int (bI false)] [] 3 (wX3 E h cd n sc rt on lo hi on2 lo2 hi2 fs2 lf2 hf2 em2 le2 gr2) [] [0, 1, 2, 3, 4, 5, 6, 7, 8, 9, 10, 11, 12, 13] [] (m_X3_sendFlows__S l E h cd n sc rt on lo hi on2 lo2 hi2 fs2 lf2 hf2 em2 le2 gr2 i false X (setTo cd S i) (by omega) (by omega) (hok i (by omega)) (hoS _ _ hsome) hrp hXv (fun h => by have := fN_in hn hwh (by omega) h; omega)) dX3_settle_35 gX3_settle_X3_sendFlows rfl (by decide +kernel) rfl ⟨rfl, rfl⟩ (by decide) rfl (Nat.le_of_ble_eq_true rfl) (by decide) rfl rfl rfl rfl (by decide) (by decide) (by decide) ?_
          rintro v_20 w_21 ⟨son1_10, slo1_11, shi1_12, fs1_13, lf1_14, hf1_15, em1_16, le1_17, gr1_18, r_19, rfl, rfl, hsf⟩
          refine k_perm (wX3 E h cd n sc rt on lo hi son1_10 slo1_11 shi1_12 fs1_13 lf1_14 hf1_15 em1_16 le1_17 gr1_18) [0, 1, 2, 3, 4, 5, 6, 7, 8, 9, 10, 11, 12, 13] (by decide) rfl ?_
          show kK g (wX3 E h cd n sc rt on lo hi son1_10 slo1_11 shi1_12 fs1_13 lf1_14 hf1_15 em1_16 le1_17 gr1_18) [(0, .ref (h 0)), (1, .int (nI i))] 0 0 38 [.int (bI r_19)]
          refine k_pop F (pc := 38) dX3_settle_38 rfl ?_
          refine k_iinc F (pc := 39) 1 ((nI (i + 1))) [(1, .int (nI (i + 1))), (0, .ref (h 0))] dX3_settle_39 rfl (nI_1 i) (by decide) rfl ?_
          refine k_goto F (pc := 42) 9 dX3_settle_42 (by decide) ?_
          refine k_lv [(0, .ref (h 0)), (1, .int (nI (i + 1)))] [1, 0] rfl ?_
          exact ih9 (i + 1) son1_10 slo1_11 shi1_12 fs1_13 lf1_14 hf1_15 em1_16 le1_17 gr1_18 (by omega) (by omega) (by first | (rw [set_none hnone]; exact hrp) | (rw [set_some hsome]; exact hsf.1))
  refine k_lv [(0, .ref (h 0)), (1, .int (nI 0))] [1, 0] rfl ?_
  exact L9 (n - 0 + 1) 0 on1_1 lo1_2 hi1_3 fs lf hf em le gr (Nat.lt_succ_self _) (by omega) (by exact hbg)
theorem zm_X3_scan_f27 : (Cond.fieldLink RX3 27 RX3 "found" "LRangeScan$States;" : Cond) ∈ wsX3_scan := by decide +kernel
theorem zin_X3_scan_X3 : ∀ w ∈ u_ws RX3 TX3 8, w ∈ wsX3_scan := by decide +kernel
theorem zm_X3_scan_f17 : (Cond.fieldLink RX3 17 RX3 "scanned" "Z" : Cond) ∈ wsX3_scan := by decide +kernel
theorem zm_X3_scan_f21 : (Cond.fieldLink RX3 21 RX3 "roundsTaken" "I" : Cond) ∈ wsX3_scan := by decide +kernel
set_option maxHeartbeats 4000000 in
set_option maxRecDepth 100000 in
theorem m_X3_scan (l : Launch) (E : kE) (h : Nat → Nat) (cd : Nat → Int32) (n : Nat) (sc : Bool) (rt : Nat) (on : Nat → Bool) (lo : Nat → Int64) (hi : Nat → Int64) (son : Nat → Bool) (slo : Nat → Int64) (shi : Nat → Int64) (fs : Bool) (lf : Nat → Int64) (hf : Nat → Int64) (em : Bool) (le : Int64) (gr : Int64) (K : Nat) (hn : n ≤ 24) (hok : ∀ p, p < n → okP cd p) (hK : wholeP cd n → isK cd n K) (hoK : ∀ j k, okS (rndTo cd (rndK cd n j) k).2) (hoR : ∀ j, okS (rndK cd n j)) : kC l yX3_scan wsX3_scan ({ frames := 6, cells := 0, slots := 0, locals := 154 } : Room) E [.ref (h 0)] (wX3 E h cd n sc rt on lo hi son slo shi fs lf hf em le gr) 0 0 (fun v_ w_ => ∃ (r : Int32) (sc1 : Bool) (rt1 : Nat) (on1 : Nat → Bool) (lo1 : Nat → Int64) (hi1 : Nat → Int64) (son1 : Nat → Bool) (slo1 : Nat → Int64) (shi1 : Nat → Int64) (fs1 : Bool) (lf1 : Nat → Int64) (hf1 : Nat → Int64) (em1 : Bool) (le1 : Int64) (gr1 : Int64), v_ = some (.int r) ∧ w_ = (wX3 E h cd n sc1 rt1 on1 lo1 hi1 son1 slo1 shi1 fs1 lf1 hf1 em1 le1 gr1) ∧ ((¬ wholeP cd n ∧ r = -1 ∧ sc1 = false ∧ rt1 = 0) ∨ (wholeP cd n ∧ sc1 = true ∧ rt1 = K ∧ Rep son1 slo1 shi1 (setTo cd (rndK cd n K) n) ∧ r = nI (cntV cd true n son1 slo1 shi1 n)))) := by
  refine kC.enter cX3_scan 3 (some .int) [(0, .ref (h 0))] (by decide) rfl (Nat.le_of_ble_eq_true rfl) rfl ?_
  intro g F Rr
  refine k_aload_n F (pc := 0) 0 rfl dX3_scan_0 rfl ?_
  refine k_callV F (pc := 1) (C := RX3) (T := TX3) (N := 8) (ci := 3) [] [] 0 (wX3 E h cd n sc rt on lo hi son slo shi fs lf hf em le gr) [] [0, 1, 2, 3, 4, 5, 6, 7, 8, 9, 10, 11, 12, 13] [] (m_X3_forgetScan l E h cd n sc rt on lo hi son slo shi fs lf hf em le gr) dX3_scan_1 gX3_scan_X3_forgetScan rfl (by decide +kernel) rfl ⟨rfl, rfl⟩ (by decide) rfl (Nat.le_of_ble_eq_true rfl) (by decide) rfl rfl rfl rfl (by decide) (by decide) (by decide) ?_
  rintro v_1 w_2 ⟨rfl, rfl⟩
  refine k_perm (wX3 E h cd n false 0 on lo hi son slo shi fs lf hf em le gr) [0, 1, 2, 3, 4, 5, 6, 7, 8, 9, 10, 11, 12, 13] (by decide) rfl ?_
  show kK g (wX3 E h cd n false 0 on lo hi son slo shi fs lf hf em le gr) [(0, .ref (h 0))] 0 0 4 []
  refine k_aload_n F (pc := 4) 0 rfl dX3_scan_4 rfl ?_
  refine k_callV F (pc := 5) (C := RX3) (T := TX3) (N := 8) (ci := 3) [] [] 0 (wX3 E h cd n false 0 on lo hi son slo shi fs lf hf em le gr) [] [0, 1, 2, 3, 4, 5, 6, 7, 8, 9, 10, 11, 12, 13] [] (m_X3_isWhole l E h cd n false 0 on lo hi son slo shi fs lf hf em le gr (by omega) hok) dX3_scan_5 gX3_scan_X3_isWhole rfl (by decide +kernel) rfl ⟨rfl, rfl⟩ (by decide) rfl (Nat.le_of_ble_eq_true rfl) (by decide) rfl rfl rfl rfl (by decide) (by decide) (by decide) ?_
  rintro v_4 w_5 ⟨r_3, rfl, rfl, hwi⟩
  refine k_perm (wX3 E h cd n false 0 on lo hi son slo shi fs lf hf em le gr) [0, 1, 2, 3, 4, 5, 6, 7, 8, 9, 10, 11, 12, 13] (by decide) rfl ?_
  show kK g (wX3 E h cd n false 0 on lo hi son slo shi fs lf hf em le gr) [(0, .ref (h 0))] 0 0 8 [.int (bI r_3)]
  refine k_if_neB F (pc := 8) 13 dX3_scan_8 (by decide) (fun c_6 => ?_) (fun c_6 => ?_)
  · skip
    have hb_7 := hwi.mp c_6
    have hw1 := hwi.mp c_6
    refine k_aload_n F (pc := 13) 0 rfl dX3_scan_13 rfl ?_
    refine k_get F (pc := 14) (ref := RX3) (C := RX3) (T := TX3) (N := 8) (ci := 3) 0 4 dX3_scan_14 zin_X3_scan_X3 rfl rfl (by decide) zm_X3_scan_f27 rfl rfl ?_
    refine k_callV F (pc := 17) (C := RX2) (T := TX2) (N := 3) (ci := 2) [] [] 0 (wX2 E (h 2) (h 3) (h 4) (h 5) on lo hi) [cObj (h 0) 3 [.ref (h 1), .int (nI n), .int (bI false), .int (nI 0), .ref (h 2), .ref (h 6), .ref (h 10), .ref (h 13)], cInt E (h 1) 96 cd, cObj (h 6) 2 [.ref (h 7), .ref (h 8), .ref (h 9)], cBoo E (h 7) 24 son, cLng E (h 8) 96 slo, cLng E (h 9) 96 shi, cObj (h 10) 0 [.int (bI fs), .ref (h 11), .ref (h 12)], cLng E (h 11) 4 lf, cLng E (h 12) 4 hf, cObj (h 13) 1 [.int (bI em), .long le, .long gr]] [2, 3, 4, 5] [0, 1, 6, 7, 8, 9, 10, 11, 12, 13] (m_X2_begin l E (h 2) (h 3) (h 4) (h 5) on lo hi) dX3_scan_17 gX3_scan_X2_begin rfl (by decide +kernel) rfl ⟨rfl, rfl⟩ (by decide) rfl (Nat.le_of_ble_eq_true rfl) (by decide) rfl rfl rfl rfl (by decide) (by decide) (by decide) ?_
    rintro v_11 w_12 ⟨on1_8, lo1_9, hi1_10, rfl, rfl, hbg⟩
    refine k_perm (wX3 E h cd n false 0 on1_8 lo1_9 hi1_10 son slo shi fs lf hf em le gr) [0, 1, 10, 11, 12, 13, 2, 3, 4, 5, 6, 7, 8, 9] (by decide) rfl ?_
    show kK g (wX3 E h cd n false 0 on1_8 lo1_9 hi1_10 son slo shi fs lf hf em le gr) [(0, .ref (h 0))] 0 0 20 []
    have hKK := hK hw1
    refine k_iconst F (pc := 20) ((nI 1)) dX3_scan_20 (by decide) ?_
    refine k_istore_n F (pc := 21) [(1, .int (nI 1)), (0, .ref (h 0))] dX3_scan_21 rfl (by decide) rfl ?_
    refine k_iconst F (pc := 22) ((nI 1)) dX3_scan_22 (by decide) ?_
    refine k_istore_n F (pc := 23) [(2, .int (nI 1)), (1, .int (nI 1)), (0, .ref (h 0))] dX3_scan_23 rfl (by decide) rfl ?_
    have L24 : ∀ (d_ : Nat) (k : Nat) (ch : Bool) (rt2 : Nat) (on2 : Nat → Bool) (lo2 : Nat → Int64) (hi2 : Nat → Int64) (fs2 : Bool) (lf2 : Nat → Int64) (hf2 : Nat → Int64) (em2 : Bool) (le2 : Int64) (gr2 : Int64), 10001 - k < d_ → (1 ≤ k ∧ k ≤ K + 1) → (Rep on2 lo2 hi2 (rndK cd n (k - 1))) → (ch = true ↔ k ≤ K) → (k = K + 1 → rt2 = K) → kK g (wX3 E h cd n false rt2 on2 lo2 hi2 son slo shi fs2 lf2 hf2 em2 le2 gr2) [(0, .ref (h 0)), (1, .int (bI ch)), (2, .int (nI k))] 0 0 24 [] := by
      intro d_
      induction d_ with
      | zero => intro k ch rt2 on2 lo2 hi2 fs2 lf2 hf2 em2 le2 gr2 hm; exact absurd hm (Nat.not_lt_zero _)
      | succ d_ ih24 =>
        intro k ch rt2 on2 lo2 hi2 fs2 lf2 hf2 em2 le2 gr2 hm24 hk1 hrp hch hrt
        refine k_iload_n F (pc := 24) 1 rfl dX3_scan_24 rfl ?_
        refine k_if_eqB F (pc := 25) 51 dX3_scan_25 (by decide) (fun c_13 => ?_) (fun c_13 => ?_)
        · skip
          have hkK := k_ff hch c_13
          refine k_aload_n F (pc := 51) 0 rfl dX3_scan_51 rfl ?_
          refine k_callV F (pc := 52) (C := RX3) (T := TX3) (N := 8) (ci := 3) [] [] 0 (wX3 E h cd n false rt2 on2 lo2 hi2 son slo shi fs2 lf2 hf2 em2 le2 gr2) [] [0, 1, 2, 3, 4, 5, 6, 7, 8, 9, 10, 11, 12, 13] [] (m_X3_settle l E h cd n false rt2 on2 lo2 hi2 son slo shi fs2 lf2 hf2 em2 le2 gr2 (rndK cd n K) (by omega) hok hw1 (by rw [show K = k - 1 by omega]; exact hrp) (hoR _)) dX3_scan_52 gX3_scan_X3_settle rfl (by decide +kernel) rfl ⟨rfl, rfl⟩ (by decide) rfl (Nat.le_of_ble_eq_true rfl) (by decide) rfl rfl rfl rfl (by decide) (by decide) (by decide) ?_
          rintro v_23 w_24 ⟨son1_14, slo1_15, shi1_16, fs1_17, lf1_18, hf1_19, em1_20, le1_21, gr1_22, rfl, rfl, hse⟩
          refine k_perm (wX3 E h cd n false rt2 on2 lo2 hi2 son1_14 slo1_15 shi1_16 fs1_17 lf1_18 hf1_19 em1_20 le1_21 gr1_22) [0, 1, 2, 3, 4, 5, 6, 7, 8, 9, 10, 11, 12, 13] (by decide) rfl ?_
          show kK g (wX3 E h cd n false rt2 on2 lo2 hi2 son1_14 slo1_15 shi1_16 fs1_17 lf1_18 hf1_19 em1_20 le1_21 gr1_22) [(0, .ref (h 0)), (1, .int (bI ch)), (2, .int (nI k))] 0 0 55 []
          refine k_aload_n F (pc := 55) 0 rfl dX3_scan_55 rfl ?_
          refine k_iconst F (pc := 56) ((nI 1)) dX3_scan_56 (by decide) ?_
          refine k_put F (pc := 57) (ref := RX3) (C := RX3) (T := TX3) (N := 8) (ci := 3) (ty := .boolean) (v := .int (bI true)) tyX3 0 2 (wX3 E h cd n true rt2 on2 lo2 hi2 son1_14 slo1_15 shi1_16 fs1_17 lf1_18 hf1_19 em1_20 le1_21 gr1_22) dX3_scan_57 zin_X3_scan_X3 tyX3_ok nmX3 rfl rfl (by decide) zm_X3_scan_f17 rfl rfl (by decide +kernel) rfl rfl (Nat.le_of_ble_eq_true rfl) rfl ?_
          refine k_aload_n F (pc := 60) 0 rfl dX3_scan_60 rfl ?_
          refine k_callV F (pc := 61) (C := RX3) (T := TX3) (N := 8) (ci := 3) [] [] 0 (wX3 E h cd n true rt2 on2 lo2 hi2 son1_14 slo1_15 shi1_16 fs1_17 lf1_18 hf1_19 em1_20 le1_21 gr1_22) [] [0, 1, 2, 3, 4, 5, 6, 7, 8, 9, 10, 11, 12, 13] [] (m_X3_countAlarms l E h cd n true rt2 on2 lo2 hi2 son1_14 slo1_15 shi1_16 fs1_17 lf1_18 hf1_19 em1_20 le1_21 gr1_22 (by omega) hok) dX3_scan_61 gX3_scan_X3_countAlarms rfl (by decide +kernel) rfl ⟨rfl, rfl⟩ (by decide) rfl (Nat.le_of_ble_eq_true rfl) (by decide) rfl rfl rfl rfl (by decide) (by decide) (by decide) ?_
          rintro v_26 w_27 ⟨r_25, rfl, rfl, hct⟩
          refine k_perm (wX3 E h cd n true rt2 on2 lo2 hi2 son1_14 slo1_15 shi1_16 fs1_17 lf1_18 hf1_19 em1_20 le1_21 gr1_22) [0, 1, 2, 3, 4, 5, 6, 7, 8, 9, 10, 11, 12, 13] (by decide) rfl ?_
          show kK g (wX3 E h cd n true rt2 on2 lo2 hi2 son1_14 slo1_15 shi1_16 fs1_17 lf1_18 hf1_19 em1_20 le1_21 gr1_22) [(0, .ref (h 0)), (1, .int (bI ch)), (2, .int (nI k))] 0 0 64 [.int (nI r_25)]
          refine k_iret F Rr (pc := 64) dX3_scan_64 ⟨(nI r_25), true, rt2, on2, lo2, hi2, son1_14, slo1_15, shi1_16, fs1_17, lf1_18, hf1_19, em1_20, le1_21, gr1_22, rfl, rfl, ?_⟩
          exact Or.inr ⟨hw1, rfl, hrt (by omega), hse, by rw [hct]⟩
        · skip
          have hkK := hch.mp c_13
          have hKm := hKK.2.1
          refine k_iload_n F (pc := 28) 2 rfl dX3_scan_28 rfl ?_
          refine k_sipush F (pc := 29) ((nI 10000)) dX3_scan_29 (by decide) ?_
          refine k_icmp_gt F (pc := 32) 51 dX3_scan_32 (by decide) (nI_toInt (by omega)) (show (nI 10000 : Int32).toInt = 10000 by decide) (fun c_28 => ?_) (fun c_28 => ?_)
          · skip
            exfalso; have := hKK.2.1; omega
          · skip
            refine k_aload_n F (pc := 35) 0 rfl dX3_scan_35 rfl ?_
            refine k_callV F (pc := 36) (C := RX3) (T := TX3) (N := 8) (ci := 3) [] [] 0 (wX3 E h cd n false rt2 on2 lo2 hi2 son slo shi fs2 lf2 hf2 em2 le2 gr2) [] [0, 1, 2, 3, 4, 5, 6, 7, 8, 9, 10, 11, 12, 13] [] (m_X3_runRound l E h cd n false rt2 on2 lo2 hi2 son slo shi fs2 lf2 hf2 em2 le2 gr2 (rndK cd n (k - 1)) (by omega) hok hw1 hrp (hoK _)) dX3_scan_36 gX3_scan_X3_runRound rfl (by decide +kernel) rfl ⟨rfl, rfl⟩ (by decide) rfl (Nat.le_of_ble_eq_true rfl) (by decide) rfl rfl rfl rfl (by decide) (by decide) (by decide) ?_
            rintro v_39 w_40 ⟨on1_29, lo1_30, hi1_31, fs1_32, lf1_33, hf1_34, em1_35, le1_36, gr1_37, r_38, rfl, rfl, hrr⟩
            refine k_perm (wX3 E h cd n false rt2 on1_29 lo1_30 hi1_31 son slo shi fs1_32 lf1_33 hf1_34 em1_35 le1_36 gr1_37) [0, 1, 2, 3, 4, 5, 6, 7, 8, 9, 10, 11, 12, 13] (by decide) rfl ?_
            show kK g (wX3 E h cd n false rt2 on1_29 lo1_30 hi1_31 son slo shi fs1_32 lf1_33 hf1_34 em1_35 le1_36 gr1_37) [(0, .ref (h 0)), (1, .int (bI ch)), (2, .int (nI k))] 0 0 39 [.int (bI r_38)]
            refine k_istore_n F (pc := 39) [(1, .int (bI r_38)), (0, .ref (h 0)), (2, .int (nI k))] dX3_scan_39 rfl (by decide) rfl ?_
            refine k_aload_n F (pc := 40) 1 rfl dX3_scan_40 rfl ?_
            refine k_iload_n F (pc := 41) 2 rfl dX3_scan_41 rfl ?_
            refine k_put F (pc := 42) (ref := RX3) (C := RX3) (T := TX3) (N := 8) (ci := 3) (ty := .int) (v := .int (nI k)) tyX3 0 3 (wX3 E h cd n false k on1_29 lo1_30 hi1_31 son slo shi fs1_32 lf1_33 hf1_34 em1_35 le1_36 gr1_37) dX3_scan_42 zin_X3_scan_X3 tyX3_ok nmX3 rfl rfl (by decide) zm_X3_scan_f21 rfl rfl (by decide +kernel) rfl rfl (Nat.le_of_ble_eq_true rfl) rfl ?_
            refine k_iinc F (pc := 45) 2 ((nI (k + 1))) [(2, .int (nI (k + 1))), (1, .int (bI r_38)), (0, .ref (h 0))] dX3_scan_45 rfl (nI_1 k) (by decide) rfl ?_
            refine k_goto F (pc := 48) 24 dX3_scan_48 (by decide) ?_
            refine k_lv [(0, .ref (h 0)), (1, .int (bI r_38)), (2, .int (nI (k + 1)))] [2, 1, 0] rfl ?_
            exact ih24 (k + 1) r_38 k on1_29 lo1_30 hi1_31 fs1_32 lf1_33 hf1_34 em1_35 le1_36 gr1_37 (by omega) (by omega) (by rw [show k + 1 - 1 = (k - 1) + 1 by omega, rndK]; exact hrr.1) (by exact scan_ch hKK (by omega) (by omega) hrr.2) (by omega)
    refine k_lv [(0, .ref (h 0)), (1, .int (nI 1)), (2, .int (nI 1))] [2, 1, 0] rfl ?_
    exact L24 (10001 - 1 + 1) 1 true 0 on1_8 lo1_9 hi1_10 fs lf hf em le gr (Nat.lt_succ_self _) (by omega) (by exact hbg) (by exact ⟨fun _ => hKK.1, fun _ => rfl⟩) (by intro h; have := hKK.1; omega)
  · skip
    have hb_41 := k_ff hwi c_6
    have hw0 := k_ff hwi c_6
    refine k_iconst F (pc := 11) ((-1)) dX3_scan_11 (by decide) ?_
    refine k_iret F Rr (pc := 12) dX3_scan_12 ⟨(-1), false, 0, on, lo, hi, son, slo, shi, fs, lf, hf, em, le, gr, rfl, rfl, ?_⟩
    exact Or.inl ⟨hw0, rfl, rfl, rfl⟩
end
