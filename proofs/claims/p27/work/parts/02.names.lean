-- ===== PART A: goes FIRST, ahead of the names: the tables' words, and 'selects' of the private methods out of them =====
/-- a private method of a class that the tables say can be made, by its rows of tables_1 -/
def lw_okq (q : MethodName × Nat) : Prop := (q.1.cls ≠ "java/lang/invoke/MethodHandle" ∧ q.1.cls ≠ "java/lang/invoke/VarHandle") ∧ Cond.instantiable q.1.cls q.2 ∈ tables_1 ∧ Cond.privateMethod q.1 ∈ tables_1 ∧ Cond.instanceMethod q.1 ∈ tables_1
theorem lw_p0 : lw_okq (⟨"java/lang/Throwable", "fillInStackTrace", "(I)Ljava/lang/Throwable;"⟩, 6) := ⟨⟨by decide +kernel, by decide +kernel⟩, List.mem_of_getElem? (i := 90) (by decide +kernel), List.mem_of_getElem? (i := 88) (by decide +kernel), List.mem_of_getElem? (i := 89) (by decide +kernel)⟩
theorem lw_p1 : lw_okq (⟨"NoticeBook", "beginTerm", "(LNoticeBook$Lot;)V"⟩, 8) := ⟨⟨by decide +kernel, by decide +kernel⟩, List.mem_of_getElem? (i := 11) (by decide +kernel), List.mem_of_getElem? (i := 202) (by decide +kernel), List.mem_of_getElem? (i := 203) (by decide +kernel)⟩
theorem lw_p2 : lw_okq (⟨"NoticeBook", "enter", "(LNoticeBook$Lot;)I"⟩, 8) := ⟨⟨by decide +kernel, by decide +kernel⟩, List.mem_of_getElem? (i := 11) (by decide +kernel), List.mem_of_getElem? (i := 206) (by decide +kernel), List.mem_of_getElem? (i := 207) (by decide +kernel)⟩
theorem lw_p3 : lw_okq (⟨"NoticeBook", "noteParts", "(I)V"⟩, 8) := ⟨⟨by decide +kernel, by decide +kernel⟩, List.mem_of_getElem? (i := 11) (by decide +kernel), List.mem_of_getElem? (i := 231) (by decide +kernel), List.mem_of_getElem? (i := 232) (by decide +kernel)⟩
theorem lw_p4 : lw_okq (⟨"NoticeBook", "totalOf", "(I)I"⟩, 8) := ⟨⟨by decide +kernel, by decide +kernel⟩, List.mem_of_getElem? (i := 11) (by decide +kernel), List.mem_of_getElem? (i := 235) (by decide +kernel), List.mem_of_getElem? (i := 236) (by decide +kernel)⟩
theorem lw_p5 : lw_okq (⟨"NoticeBook", "noticeLotAt", "(II)LNoticeBook$Lot;"⟩, 8) := ⟨⟨by decide +kernel, by decide +kernel⟩, List.mem_of_getElem? (i := 11) (by decide +kernel), List.mem_of_getElem? (i := 239) (by decide +kernel), List.mem_of_getElem? (i := 240) (by decide +kernel)⟩
theorem lw_p6 : lw_okq (⟨"NoticeBook", "lotAt", "(I)LNoticeBook$Lot;"⟩, 8) := ⟨⟨by decide +kernel, by decide +kernel⟩, List.mem_of_getElem? (i := 11) (by decide +kernel), List.mem_of_getElem? (i := 243) (by decide +kernel), List.mem_of_getElem? (i := 244) (by decide +kernel)⟩
theorem lw_p7 : lw_okq (⟨"NoticeBook$Lot", "isByTerm", "()Z"⟩, 10) := ⟨⟨by decide +kernel, by decide +kernel⟩, List.mem_of_getElem? (i := 155) (by decide +kernel), List.mem_of_getElem? (i := 247) (by decide +kernel), List.mem_of_getElem? (i := 248) (by decide +kernel)⟩
theorem lw_p8 : lw_okq (⟨"NoticeBook", "partsOfCents", "(III)J"⟩, 8) := ⟨⟨by decide +kernel, by decide +kernel⟩, List.mem_of_getElem? (i := 11) (by decide +kernel), List.mem_of_getElem? (i := 251) (by decide +kernel), List.mem_of_getElem? (i := 252) (by decide +kernel)⟩
theorem lw_p9 : lw_okq (⟨"NoticeBook", "partsByBands", "(I)J"⟩, 8) := ⟨⟨by decide +kernel, by decide +kernel⟩, List.mem_of_getElem? (i := 11) (by decide +kernel), List.mem_of_getElem? (i := 255) (by decide +kernel), List.mem_of_getElem? (i := 256) (by decide +kernel)⟩
theorem lw_p10 : lw_okq (⟨"NoticeBook", "rateByWholeSum", "(I)I"⟩, 8) := ⟨⟨by decide +kernel, by decide +kernel⟩, List.mem_of_getElem? (i := 11) (by decide +kernel), List.mem_of_getElem? (i := 264) (by decide +kernel), List.mem_of_getElem? (i := 265) (by decide +kernel)⟩
theorem lw_p11 : lw_okq (⟨"NoticeBook", "earnOneDay", "()V"⟩, 8) := ⟨⟨by decide +kernel, by decide +kernel⟩, List.mem_of_getElem? (i := 11) (by decide +kernel), List.mem_of_getElem? (i := 268) (by decide +kernel), List.mem_of_getElem? (i := 269) (by decide +kernel)⟩
theorem lw_p12 : lw_okq (⟨"NoticeBook", "beginDay", "()I"⟩, 8) := ⟨⟨by decide +kernel, by decide +kernel⟩, List.mem_of_getElem? (i := 11) (by decide +kernel), List.mem_of_getElem? (i := 272) (by decide +kernel), List.mem_of_getElem? (i := 273) (by decide +kernel)⟩
theorem lw_p13 : lw_okq (⟨"NoticeBook", "endTerm", "(LNoticeBook$Lot;)V"⟩, 8) := ⟨⟨by decide +kernel, by decide +kernel⟩, List.mem_of_getElem? (i := 11) (by decide +kernel), List.mem_of_getElem? (i := 276) (by decide +kernel), List.mem_of_getElem? (i := 277) (by decide +kernel)⟩
theorem lw_p14 : lw_okq (⟨"NoticeBook", "payOut", "(LNoticeBook$Lot;I)I"⟩, 8) := ⟨⟨by decide +kernel, by decide +kernel⟩, List.mem_of_getElem? (i := 11) (by decide +kernel), List.mem_of_getElem? (i := 280) (by decide +kernel), List.mem_of_getElem? (i := 281) (by decide +kernel)⟩
theorem lw_p15 : lw_okq (⟨"NoticeBook", "notePaid", "(II)V"⟩, 8) := ⟨⟨by decide +kernel, by decide +kernel⟩, List.mem_of_getElem? (i := 11) (by decide +kernel), List.mem_of_getElem? (i := 284) (by decide +kernel), List.mem_of_getElem? (i := 285) (by decide +kernel)⟩
def lw_privs_1 : List (MethodName × Nat) := [(⟨"java/lang/Throwable", "fillInStackTrace", "(I)Ljava/lang/Throwable;"⟩, 6), (⟨"NoticeBook", "beginTerm", "(LNoticeBook$Lot;)V"⟩, 8), (⟨"NoticeBook", "enter", "(LNoticeBook$Lot;)I"⟩, 8), (⟨"NoticeBook", "noteParts", "(I)V"⟩, 8), (⟨"NoticeBook", "totalOf", "(I)I"⟩, 8), (⟨"NoticeBook", "noticeLotAt", "(II)LNoticeBook$Lot;"⟩, 8), (⟨"NoticeBook", "lotAt", "(I)LNoticeBook$Lot;"⟩, 8), (⟨"NoticeBook$Lot", "isByTerm", "()Z"⟩, 10), (⟨"NoticeBook", "partsOfCents", "(III)J"⟩, 8), (⟨"NoticeBook", "partsByBands", "(I)J"⟩, 8), (⟨"NoticeBook", "rateByWholeSum", "(I)I"⟩, 8), (⟨"NoticeBook", "earnOneDay", "()V"⟩, 8), (⟨"NoticeBook", "beginDay", "()I"⟩, 8), (⟨"NoticeBook", "endTerm", "(LNoticeBook$Lot;)V"⟩, 8), (⟨"NoticeBook", "payOut", "(LNoticeBook$Lot;I)I"⟩, 8), (⟨"NoticeBook", "notePaid", "(II)V"⟩, 8)]
theorem lw_r1 : ∀ q ∈ lw_privs_1, lw_okq q := List.forall_mem_cons.mpr ⟨lw_p0, List.forall_mem_cons.mpr ⟨lw_p1, List.forall_mem_cons.mpr ⟨lw_p2, List.forall_mem_cons.mpr ⟨lw_p3, List.forall_mem_cons.mpr ⟨lw_p4, List.forall_mem_cons.mpr ⟨lw_p5, List.forall_mem_cons.mpr ⟨lw_p6, List.forall_mem_cons.mpr ⟨lw_p7, List.forall_mem_cons.mpr ⟨lw_p8, List.forall_mem_cons.mpr ⟨lw_p9, List.forall_mem_cons.mpr ⟨lw_p10, List.forall_mem_cons.mpr ⟨lw_p11, List.forall_mem_cons.mpr ⟨lw_p12, List.forall_mem_cons.mpr ⟨lw_p13, List.forall_mem_cons.mpr ⟨lw_p14, List.forall_mem_cons.mpr ⟨lw_p15, fun _ h => absurd h List.not_mem_nil⟩⟩⟩⟩⟩⟩⟩⟩⟩⟩⟩⟩⟩⟩⟩⟩
theorem lw_p16 : lw_okq (⟨"NoticeBook", "payInterest", "(LNoticeBook$Lot;)I"⟩, 8) := ⟨⟨by decide +kernel, by decide +kernel⟩, List.mem_of_getElem? (i := 11) (by decide +kernel), List.mem_of_getElem? (i := 288) (by decide +kernel), List.mem_of_getElem? (i := 289) (by decide +kernel)⟩
theorem lw_p17 : lw_okq (⟨"NoticeBook$Lot", "drawWholeCents", "()I"⟩, 10) := ⟨⟨by decide +kernel, by decide +kernel⟩, List.mem_of_getElem? (i := 155) (by decide +kernel), List.mem_of_getElem? (i := 292) (by decide +kernel), List.mem_of_getElem? (i := 293) (by decide +kernel)⟩
theorem lw_p18 : lw_okq (⟨"NoticeBook", "lose", "(LNoticeBook$Lot;J)V"⟩, 8) := ⟨⟨by decide +kernel, by decide +kernel⟩, List.mem_of_getElem? (i := 11) (by decide +kernel), List.mem_of_getElem? (i := 297) (by decide +kernel), List.mem_of_getElem? (i := 298) (by decide +kernel)⟩
theorem lw_p19 : lw_okq (⟨"NoticeBook", "demandLot", "(I)LNoticeBook$Lot;"⟩, 8) := ⟨⟨by decide +kernel, by decide +kernel⟩, List.mem_of_getElem? (i := 11) (by decide +kernel), List.mem_of_getElem? (i := 340) (by decide +kernel), List.mem_of_getElem? (i := 341) (by decide +kernel)⟩
theorem lw_p20 : lw_okq (⟨"NoticeBook", "demandNotice", "(I)LNoticeBook$Lot;"⟩, 8) := ⟨⟨by decide +kernel, by decide +kernel⟩, List.mem_of_getElem? (i := 11) (by decide +kernel), List.mem_of_getElem? (i := 350) (by decide +kernel), List.mem_of_getElem? (i := 351) (by decide +kernel)⟩
theorem lw_p21 : lw_okq (⟨"NoticeBook", "unfrozenOf", "(I)I"⟩, 8) := ⟨⟨by decide +kernel, by decide +kernel⟩, List.mem_of_getElem? (i := 11) (by decide +kernel), List.mem_of_getElem? (i := 365) (by decide +kernel), List.mem_of_getElem? (i := 366) (by decide +kernel)⟩
theorem lw_p22 : lw_okq (⟨"NoticeBook$Lot", "unfrozen", "()I"⟩, 10) := ⟨⟨by decide +kernel, by decide +kernel⟩, List.mem_of_getElem? (i := 155) (by decide +kernel), List.mem_of_getElem? (i := 369) (by decide +kernel), List.mem_of_getElem? (i := 370) (by decide +kernel)⟩
theorem lw_p23 : lw_okq (⟨"NoticeBook", "leastHarmful", "(I)LNoticeBook$Lot;"⟩, 8) := ⟨⟨by decide +kernel, by decide +kernel⟩, List.mem_of_getElem? (i := 11) (by decide +kernel), List.mem_of_getElem? (i := 374) (by decide +kernel), List.mem_of_getElem? (i := 375) (by decide +kernel)⟩
def lw_privs_2 : List (MethodName × Nat) := [(⟨"NoticeBook", "payInterest", "(LNoticeBook$Lot;)I"⟩, 8), (⟨"NoticeBook$Lot", "drawWholeCents", "()I"⟩, 10), (⟨"NoticeBook", "lose", "(LNoticeBook$Lot;J)V"⟩, 8), (⟨"NoticeBook", "demandLot", "(I)LNoticeBook$Lot;"⟩, 8), (⟨"NoticeBook", "demandNotice", "(I)LNoticeBook$Lot;"⟩, 8), (⟨"NoticeBook", "unfrozenOf", "(I)I"⟩, 8), (⟨"NoticeBook$Lot", "unfrozen", "()I"⟩, 10), (⟨"NoticeBook", "leastHarmful", "(I)LNoticeBook$Lot;"⟩, 8)]
theorem lw_r2 : ∀ q ∈ lw_privs_2, lw_okq q := List.forall_mem_cons.mpr ⟨lw_p16, List.forall_mem_cons.mpr ⟨lw_p17, List.forall_mem_cons.mpr ⟨lw_p18, List.forall_mem_cons.mpr ⟨lw_p19, List.forall_mem_cons.mpr ⟨lw_p20, List.forall_mem_cons.mpr ⟨lw_p21, List.forall_mem_cons.mpr ⟨lw_p22, List.forall_mem_cons.mpr ⟨lw_p23, fun _ h => absurd h List.not_mem_nil⟩⟩⟩⟩⟩⟩⟩⟩
def lw_privs : List (MethodName × Nat) := lw_privs_1 ++ (lw_privs_2)
def lw_tbl : List Cond := k2_sels lw_privs ++ tables_1
theorem lw_privs_ok : ∀ q ∈ lw_privs, lw_okq q := by
  show ∀ q ∈ lw_privs_1 ++ (lw_privs_2), lw_okq q
  exact List.forall_mem_append.mpr ⟨lw_r1, lw_r2⟩
def RX0 : String := "NoticeBook$Lot"
def TX0 : u_T := fun k => match k with
  | 0 => ("NoticeBook$Lot", "customer", "I", true)
  | 1 => ("NoticeBook$Lot", "termDays", "I", true)
  | 2 => ("NoticeBook$Lot", "principal", "I", false)
  | 3 => ("NoticeBook$Lot", "earned", "J", false)
  | 4 => ("NoticeBook$Lot", "parts", "J", false)
  | 5 => ("NoticeBook$Lot", "frozenCents", "I", false)
  | 6 => ("NoticeBook$Lot", "takeFrom", "I", false)
  | 7 => ("NoticeBook$Lot", "end", "I", false)
  | 8 => ("NoticeBook$Lot", "instruction", "I", false)
  | _ => ("NoticeBook$Lot", "renewedOn", "I", false)
def tyX0 : Nat → FieldType := fun k => match k with
  | 0 => .int
  | 1 => .int
  | 2 => .int
  | 3 => .long
  | 4 => .long
  | 5 => .int
  | 6 => .int
  | 7 => .int
  | 8 => .int
  | _ => .int
abbrev wsX00 : List Cond := u_ws RX0 TX0 10
theorem nmX0 : ∀ a, a < 10 → ∀ b, b < 10 → a ≠ b → (TX0 a).2.1 ≠ (TX0 b).2.1 := by decide +kernel
theorem tyX0_ok : ∀ k, k < 10 → parseFieldDescriptor (TX0 k).2.2.1 = some (tyX0 k) := by decide +kernel
abbrev cX0_init : ByteArray := prog_2_method_1_code
def yX0_init : MethodName := ⟨RX0, "<init>", "(III)V"⟩
abbrev cX0_isByTerm : ByteArray := prog_2_method_2_code
def yX0_isByTerm : MethodName := ⟨RX0, "isByTerm", "()Z"⟩
abbrev cX0_unfrozen : ByteArray := prog_2_method_3_code
def yX0_unfrozen : MethodName := ⟨RX0, "unfrozen", "()I"⟩
abbrev cX0_drawWholeCents : ByteArray := prog_2_method_4_code
def yX0_drawWholeCents : MethodName := ⟨RX0, "drawWholeCents", "()I"⟩
def RX1 : String := "NoticeBook"
def TX1 : u_T := fun k => match k with
  | 0 => ("NoticeBook", "rates", "[I", true)
  | 1 => ("NoticeBook", "paidCents", "[J", true)
  | 2 => ("NoticeBook", "lostParts", "[J", true)
  | 3 => ("NoticeBook", "book", "[LNoticeBook$Lot;", true)
  | 4 => ("NoticeBook", "tiersByBands", "Z", false)
  | 5 => ("NoticeBook", "termRate", "I", false)
  | 6 => ("NoticeBook", "lotsMade", "I", false)
  | _ => ("NoticeBook", "day", "I", false)
def tyX1 : Nat → FieldType := fun k => match k with
  | 0 => .array .int
  | 1 => .array .long
  | 2 => .array .long
  | 3 => .array (.object "NoticeBook$Lot")
  | 4 => .boolean
  | 5 => .int
  | 6 => .int
  | _ => .int
abbrev wsX10 : List Cond := u_ws RX1 TX1 8
theorem nmX1 : ∀ a, a < 8 → ∀ b, b < 8 → a ≠ b → (TX1 a).2.1 ≠ (TX1 b).2.1 := by decide +kernel
theorem tyX1_ok : ∀ k, k < 8 → parseFieldDescriptor (TX1 k).2.2.1 = some (tyX1 k) := by decide +kernel
abbrev cX1_init : ByteArray := prog_1_method_1_code
def yX1_init : MethodName := ⟨RX1, "<init>", "()V"⟩
abbrev cX1_setRate : ByteArray := prog_1_method_2_code
def yX1_setRate : MethodName := ⟨RX1, "setRate", "(II)I"⟩
abbrev cX1_setByBands : ByteArray := prog_1_method_3_code
def yX1_setByBands : MethodName := ⟨RX1, "setByBands", "(Z)Z"⟩
abbrev cX1_setTermRate : ByteArray := prog_1_method_4_code
def yX1_setTermRate : MethodName := ⟨RX1, "setTermRate", "(I)I"⟩
abbrev cX1_deposit : ByteArray := prog_1_method_5_code
def yX1_deposit : MethodName := ⟨RX1, "deposit", "(II)I"⟩
abbrev cX1_depositTerm : ByteArray := prog_1_method_6_code
def yX1_depositTerm : MethodName := ⟨RX1, "depositTerm", "(IIII)I"⟩
abbrev cX1_give : ByteArray := prog_1_method_7_code
def yX1_give : MethodName := ⟨RX1, "give", "(II)I"⟩
abbrev cX1_withdraw : ByteArray := prog_1_method_8_code
def yX1_withdraw : MethodName := ⟨RX1, "withdraw", "(I)I"⟩
abbrev cX1_take : ByteArray := prog_1_method_9_code
def yX1_take : MethodName := ⟨RX1, "take", "(I)I"⟩
abbrev cX1_early : ByteArray := prog_1_method_10_code
def yX1_early : MethodName := ⟨RX1, "early", "(II)I"⟩
abbrev cX1_instruct : ByteArray := prog_1_method_11_code
def yX1_instruct : MethodName := ⟨RX1, "instruct", "(II)I"⟩
abbrev cX1_letGo : ByteArray := prog_1_method_12_code
def yX1_letGo : MethodName := ⟨RX1, "letGo", "(I)I"⟩
abbrev cX1_join : ByteArray := prog_1_method_13_code
def yX1_join : MethodName := ⟨RX1, "join", "(II)I"⟩
abbrev cX1_pass : ByteArray := prog_1_method_14_code
def yX1_pass : MethodName := ⟨RX1, "pass", "(I)I"⟩
abbrev cX1_today : ByteArray := prog_1_method_15_code
def yX1_today : MethodName := ⟨RX1, "today", "()I"⟩
abbrev cX1_lots : ByteArray := prog_1_method_16_code
def yX1_lots : MethodName := ⟨RX1, "lots", "()I"⟩
abbrev cX1_principal : ByteArray := prog_1_method_17_code
def yX1_principal : MethodName := ⟨RX1, "principal", "(I)I"⟩
abbrev cX1_earned : ByteArray := prog_1_method_18_code
def yX1_earned : MethodName := ⟨RX1, "earned", "(I)J"⟩
abbrev cX1_partsOfDay : ByteArray := prog_1_method_19_code
def yX1_partsOfDay : MethodName := ⟨RX1, "partsOfDay", "(I)J"⟩
abbrev cX1_frozen : ByteArray := prog_1_method_20_code
def yX1_frozen : MethodName := ⟨RX1, "frozen", "(I)I"⟩
abbrev cX1_endOf : ByteArray := prog_1_method_21_code
def yX1_endOf : MethodName := ⟨RX1, "endOf", "(I)I"⟩
abbrev cX1_total : ByteArray := prog_1_method_22_code
def yX1_total : MethodName := ⟨RX1, "total", "(I)I"⟩
abbrev cX1_partsByTotal : ByteArray := prog_1_method_23_code
def yX1_partsByTotal : MethodName := ⟨RX1, "partsByTotal", "(I)J"⟩
abbrev cX1_paid : ByteArray := prog_1_method_24_code
def yX1_paid : MethodName := ⟨RX1, "paid", "(I)J"⟩
abbrev cX1_lost : ByteArray := prog_1_method_25_code
def yX1_lost : MethodName := ⟨RX1, "lost", "(I)J"⟩
abbrev cX1_demandCustomer : ByteArray := prog_1_method_26_code
def yX1_demandCustomer : MethodName := ⟨RX1, "demandCustomer", "(I)V"⟩
abbrev cX1_demandRange : ByteArray := prog_1_method_27_code
def yX1_demandRange : MethodName := ⟨RX1, "demandRange", "(III)V"⟩
abbrev cX1_demandLot : ByteArray := prog_1_method_28_code
def yX1_demandLot : MethodName := ⟨RX1, "demandLot", "(I)LNoticeBook$Lot;"⟩
abbrev cX1_demandNotice : ByteArray := prog_1_method_29_code
def yX1_demandNotice : MethodName := ⟨RX1, "demandNotice", "(I)LNoticeBook$Lot;"⟩
abbrev cX1_canJoin : ByteArray := prog_1_method_30_code
def yX1_canJoin : MethodName := ⟨RX1, "canJoin", "(LNoticeBook$Lot;LNoticeBook$Lot;)Z"⟩
abbrev cX1_lotAt : ByteArray := prog_1_method_31_code
def yX1_lotAt : MethodName := ⟨RX1, "lotAt", "(I)LNoticeBook$Lot;"⟩
abbrev cX1_noticeLotAt : ByteArray := prog_1_method_32_code
def yX1_noticeLotAt : MethodName := ⟨RX1, "noticeLotAt", "(II)LNoticeBook$Lot;"⟩
abbrev cX1_totalOf : ByteArray := prog_1_method_33_code
def yX1_totalOf : MethodName := ⟨RX1, "totalOf", "(I)I"⟩
abbrev cX1_unfrozenOf : ByteArray := prog_1_method_34_code
def yX1_unfrozenOf : MethodName := ⟨RX1, "unfrozenOf", "(I)I"⟩
abbrev cX1_leastHarmful : ByteArray := prog_1_method_35_code
def yX1_leastHarmful : MethodName := ⟨RX1, "leastHarmful", "(I)LNoticeBook$Lot;"⟩
abbrev cX1_harmsNoMore : ByteArray := prog_1_method_36_code
def yX1_harmsNoMore : MethodName := ⟨RX1, "harmsNoMore", "(LNoticeBook$Lot;LNoticeBook$Lot;)Z"⟩
abbrev cX1_noteParts : ByteArray := prog_1_method_37_code
def yX1_noteParts : MethodName := ⟨RX1, "noteParts", "(I)V"⟩
abbrev cX1_partsOfCents : ByteArray := prog_1_method_38_code
def yX1_partsOfCents : MethodName := ⟨RX1, "partsOfCents", "(III)J"⟩
abbrev cX1_partsByBands : ByteArray := prog_1_method_39_code
def yX1_partsByBands : MethodName := ⟨RX1, "partsByBands", "(I)J"⟩
abbrev cX1_rateByWholeSum : ByteArray := prog_1_method_40_code
def yX1_rateByWholeSum : MethodName := ⟨RX1, "rateByWholeSum", "(I)I"⟩
abbrev cX1_payOut : ByteArray := prog_1_method_41_code
def yX1_payOut : MethodName := ⟨RX1, "payOut", "(LNoticeBook$Lot;I)I"⟩
abbrev cX1_payInterest : ByteArray := prog_1_method_42_code
def yX1_payInterest : MethodName := ⟨RX1, "payInterest", "(LNoticeBook$Lot;)I"⟩
abbrev cX1_notePaid : ByteArray := prog_1_method_43_code
def yX1_notePaid : MethodName := ⟨RX1, "notePaid", "(II)V"⟩
abbrev cX1_lose : ByteArray := prog_1_method_44_code
def yX1_lose : MethodName := ⟨RX1, "lose", "(LNoticeBook$Lot;J)V"⟩
abbrev cX1_lossByEarly : ByteArray := prog_1_method_45_code
def yX1_lossByEarly : MethodName := ⟨RX1, "lossByEarly", "(LNoticeBook$Lot;I)J"⟩
abbrev cX1_enter : ByteArray := prog_1_method_46_code
def yX1_enter : MethodName := ⟨RX1, "enter", "(LNoticeBook$Lot;)I"⟩
abbrev cX1_beginTerm : ByteArray := prog_1_method_47_code
def yX1_beginTerm : MethodName := ⟨RX1, "beginTerm", "(LNoticeBook$Lot;)V"⟩
abbrev cX1_earnOneDay : ByteArray := prog_1_method_48_code
def yX1_earnOneDay : MethodName := ⟨RX1, "earnOneDay", "()V"⟩
abbrev cX1_beginDay : ByteArray := prog_1_method_49_code
def yX1_beginDay : MethodName := ⟨RX1, "beginDay", "()I"⟩
abbrev cX1_endTerm : ByteArray := prog_1_method_50_code
def yX1_endTerm : MethodName := ⟨RX1, "endTerm", "(LNoticeBook$Lot;)V"⟩
def RX2 : String := "NoticeBookModel"
def TX2 : u_T := fun k => match k with
  | _ => ("", "", "", false)
def tyX2 : Nat → FieldType := fun k => match k with
  | _ => .int
abbrev wsX20 : List Cond := u_ws RX2 TX2 0
theorem nmX2 : ∀ a, a < 0 → ∀ b, b < 0 → a ≠ b → (TX2 a).2.1 ≠ (TX2 b).2.1 := by decide +kernel
theorem tyX2_ok : ∀ k, k < 0 → parseFieldDescriptor (TX2 k).2.2.1 = some (tyX2 k) := by decide +kernel
def RJ9 : String := "java/lang/Math"
def TJ9 : u_T := fun k => match k with
  | _ => ("", "", "", false)
def tyJ9 : Nat → FieldType := fun k => match k with
  | _ => .int
abbrev wsJ90 : List Cond := u_ws RJ9 TJ9 0
theorem nmJ9 : ∀ a, a < 0 → ∀ b, b < 0 → a ≠ b → (TJ9 a).2.1 ≠ (TJ9 b).2.1 := by decide +kernel
theorem tyJ9_ok : ∀ k, k < 0 → parseFieldDescriptor (TJ9 k).2.2.1 = some (tyJ9 k) := by decide +kernel
abbrev cJ9_min_7cf53 : ByteArray := prog_9_method_69_code
def yJ9_min_7cf53 : MethodName := ⟨RJ9, "min", "(II)I"⟩
abbrev cJ9_min_f86c9 : ByteArray := prog_9_method_70_code
def yJ9_min_f86c9 : MethodName := ⟨RJ9, "min", "(JJ)J"⟩
def RJ0 : String := "java/lang/String"
def TJ0 : u_T := fun k => match k with
  | _ => ("", "", "", false)
def tyJ0 : Nat → FieldType := fun k => match k with
  | _ => .int
abbrev wsJ00 : List Cond := u_ws RJ0 TJ0 0
theorem nmJ0 : ∀ a, a < 0 → ∀ b, b < 0 → a ≠ b → (TJ0 a).2.1 ≠ (TJ0 b).2.1 := by decide +kernel
theorem tyJ0_ok : ∀ k, k < 0 → parseFieldDescriptor (TJ0 k).2.2.1 = some (tyJ0 k) := by decide +kernel
def RL : String := "NoticeBookLaw"
abbrev cL_total : ByteArray := method_2_code
def yL_total : MethodName := ⟨RL, "total", "([I[I[II)I"⟩
abbrev cL_within : ByteArray := method_3_code
def yL_within : MethodName := ⟨RL, "within", "(JJJJ)J"⟩
abbrev cL_parts : ByteArray := method_4_code
def yL_parts : MethodName := ⟨RL, "parts", "([I[I[I[I[JI)J"⟩
abbrev cL_ends : ByteArray := method_5_code
def yL_ends : MethodName := ⟨RL, "ends", "([I[I[J[JI)I"⟩
abbrev cL_takes : ByteArray := method_6_code
def yL_takes : MethodName := ⟨RL, "takes", "([I[I[I[I[I[J[J[JII)I"⟩
abbrev cL_passes : ByteArray := method_7_code
def yL_passes : MethodName := ⟨RL, "passes", "([I[I[I[I[I[I[I[J[J[JI)I"⟩
abbrev cL_does : ByteArray := method_8_code
def yL_does : MethodName := ⟨RL, "does", "(LNoticeBook;III)I"⟩
abbrev cL_isBook : ByteArray := method_9_code
def yL_isBook : MethodName := ⟨RL, "isBook", "(LNoticeBook;[I[I[I[I[I[I[J[J[J)Z"⟩
abbrev cL_law : ByteArray := code
def yL_law : MethodName := ⟨RL, "law", "([I)Z"⟩
abbrev vwCl : List vw_C := [(RX0, TX0, 10), (RX1, TX1, 8)]
