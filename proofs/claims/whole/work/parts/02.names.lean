-- ===== PART A: goes FIRST, ahead of the names: the tables' words, and 'selects' of the private methods out of them =====
/-- a private method of a class that the tables say can be made, by its rows of tables_1 -/
def lw_okq (q : MethodName × Nat) : Prop := (q.1.cls ≠ "java/lang/invoke/MethodHandle" ∧ q.1.cls ≠ "java/lang/invoke/VarHandle") ∧ Cond.instantiable q.1.cls q.2 ∈ tables_1 ∧ Cond.privateMethod q.1 ∈ tables_1 ∧ Cond.instanceMethod q.1 ∈ tables_1
theorem lw_p0 : lw_okq (⟨"NoticeBook", "lotAt", "(I)LNoticeBook$Lot;"⟩, 8) := ⟨⟨by decide +kernel, by decide +kernel⟩, List.mem_of_getElem? (i := 12) (by decide +kernel), List.mem_of_getElem? (i := 61) (by decide +kernel), List.mem_of_getElem? (i := 62) (by decide +kernel)⟩
theorem lw_p1 : lw_okq (⟨"java/lang/Throwable", "fillInStackTrace", "(I)Ljava/lang/Throwable;"⟩, 6) := ⟨⟨by decide +kernel, by decide +kernel⟩, List.mem_of_getElem? (i := 112) (by decide +kernel), List.mem_of_getElem? (i := 110) (by decide +kernel), List.mem_of_getElem? (i := 111) (by decide +kernel)⟩
theorem lw_p2 : lw_okq (⟨"NoticeBook", "enter", "(LNoticeBook$Lot;)I"⟩, 8) := ⟨⟨by decide +kernel, by decide +kernel⟩, List.mem_of_getElem? (i := 12) (by decide +kernel), List.mem_of_getElem? (i := 227) (by decide +kernel), List.mem_of_getElem? (i := 228) (by decide +kernel)⟩
theorem lw_p3 : lw_okq (⟨"NoticeBook", "beginTerm", "(LNoticeBook$Lot;)V"⟩, 8) := ⟨⟨by decide +kernel, by decide +kernel⟩, List.mem_of_getElem? (i := 12) (by decide +kernel), List.mem_of_getElem? (i := 254) (by decide +kernel), List.mem_of_getElem? (i := 255) (by decide +kernel)⟩
theorem lw_p4 : lw_okq (⟨"NoticeBook", "demandLot", "(I)LNoticeBook$Lot;"⟩, 8) := ⟨⟨by decide +kernel, by decide +kernel⟩, List.mem_of_getElem? (i := 12) (by decide +kernel), List.mem_of_getElem? (i := 265) (by decide +kernel), List.mem_of_getElem? (i := 266) (by decide +kernel)⟩
theorem lw_p5 : lw_okq (⟨"NoticeBook$Lot", "isByTerm", "()Z"⟩, 10) := ⟨⟨by decide +kernel, by decide +kernel⟩, List.mem_of_getElem? (i := 180) (by decide +kernel), List.mem_of_getElem? (i := 270) (by decide +kernel), List.mem_of_getElem? (i := 271) (by decide +kernel)⟩
theorem lw_p6 : lw_okq (⟨"NoticeBook", "demandNotice", "(I)LNoticeBook$Lot;"⟩, 8) := ⟨⟨by decide +kernel, by decide +kernel⟩, List.mem_of_getElem? (i := 12) (by decide +kernel), List.mem_of_getElem? (i := 282) (by decide +kernel), List.mem_of_getElem? (i := 283) (by decide +kernel)⟩
theorem lw_p7 : lw_okq (⟨"NoticeBook", "payOut", "(LNoticeBook$Lot;I)I"⟩, 8) := ⟨⟨by decide +kernel, by decide +kernel⟩, List.mem_of_getElem? (i := 12) (by decide +kernel), List.mem_of_getElem? (i := 295) (by decide +kernel), List.mem_of_getElem? (i := 296) (by decide +kernel)⟩
theorem lw_p8 : lw_okq (⟨"NoticeBook", "notePaid", "(II)V"⟩, 8) := ⟨⟨by decide +kernel, by decide +kernel⟩, List.mem_of_getElem? (i := 12) (by decide +kernel), List.mem_of_getElem? (i := 299) (by decide +kernel), List.mem_of_getElem? (i := 300) (by decide +kernel)⟩
theorem lw_p9 : lw_okq (⟨"NoticeBook", "payInterest", "(LNoticeBook$Lot;)I"⟩, 8) := ⟨⟨by decide +kernel, by decide +kernel⟩, List.mem_of_getElem? (i := 12) (by decide +kernel), List.mem_of_getElem? (i := 303) (by decide +kernel), List.mem_of_getElem? (i := 304) (by decide +kernel)⟩
theorem lw_p10 : lw_okq (⟨"NoticeBook$Lot", "drawWholeCents", "()I"⟩, 10) := ⟨⟨by decide +kernel, by decide +kernel⟩, List.mem_of_getElem? (i := 180) (by decide +kernel), List.mem_of_getElem? (i := 307) (by decide +kernel), List.mem_of_getElem? (i := 308) (by decide +kernel)⟩
theorem lw_p11 : lw_okq (⟨"NoticeBook", "lose", "(LNoticeBook$Lot;J)V"⟩, 8) := ⟨⟨by decide +kernel, by decide +kernel⟩, List.mem_of_getElem? (i := 12) (by decide +kernel), List.mem_of_getElem? (i := 312) (by decide +kernel), List.mem_of_getElem? (i := 313) (by decide +kernel)⟩
theorem lw_p12 : lw_okq (⟨"NoticeBook", "unfrozenOf", "(I)I"⟩, 8) := ⟨⟨by decide +kernel, by decide +kernel⟩, List.mem_of_getElem? (i := 12) (by decide +kernel), List.mem_of_getElem? (i := 324) (by decide +kernel), List.mem_of_getElem? (i := 325) (by decide +kernel)⟩
theorem lw_p13 : lw_okq (⟨"NoticeBook", "noticeLotAt", "(II)LNoticeBook$Lot;"⟩, 8) := ⟨⟨by decide +kernel, by decide +kernel⟩, List.mem_of_getElem? (i := 12) (by decide +kernel), List.mem_of_getElem? (i := 328) (by decide +kernel), List.mem_of_getElem? (i := 329) (by decide +kernel)⟩
theorem lw_p14 : lw_okq (⟨"NoticeBook$Lot", "unfrozen", "()I"⟩, 10) := ⟨⟨by decide +kernel, by decide +kernel⟩, List.mem_of_getElem? (i := 180) (by decide +kernel), List.mem_of_getElem? (i := 332) (by decide +kernel), List.mem_of_getElem? (i := 333) (by decide +kernel)⟩
theorem lw_p15 : lw_okq (⟨"NoticeBook", "noteParts", "(I)V"⟩, 8) := ⟨⟨by decide +kernel, by decide +kernel⟩, List.mem_of_getElem? (i := 12) (by decide +kernel), List.mem_of_getElem? (i := 337) (by decide +kernel), List.mem_of_getElem? (i := 338) (by decide +kernel)⟩
def lw_privs_1 : List (MethodName × Nat) := [(⟨"NoticeBook", "lotAt", "(I)LNoticeBook$Lot;"⟩, 8), (⟨"java/lang/Throwable", "fillInStackTrace", "(I)Ljava/lang/Throwable;"⟩, 6), (⟨"NoticeBook", "enter", "(LNoticeBook$Lot;)I"⟩, 8), (⟨"NoticeBook", "beginTerm", "(LNoticeBook$Lot;)V"⟩, 8), (⟨"NoticeBook", "demandLot", "(I)LNoticeBook$Lot;"⟩, 8), (⟨"NoticeBook$Lot", "isByTerm", "()Z"⟩, 10), (⟨"NoticeBook", "demandNotice", "(I)LNoticeBook$Lot;"⟩, 8), (⟨"NoticeBook", "payOut", "(LNoticeBook$Lot;I)I"⟩, 8), (⟨"NoticeBook", "notePaid", "(II)V"⟩, 8), (⟨"NoticeBook", "payInterest", "(LNoticeBook$Lot;)I"⟩, 8), (⟨"NoticeBook$Lot", "drawWholeCents", "()I"⟩, 10), (⟨"NoticeBook", "lose", "(LNoticeBook$Lot;J)V"⟩, 8), (⟨"NoticeBook", "unfrozenOf", "(I)I"⟩, 8), (⟨"NoticeBook", "noticeLotAt", "(II)LNoticeBook$Lot;"⟩, 8), (⟨"NoticeBook$Lot", "unfrozen", "()I"⟩, 10), (⟨"NoticeBook", "noteParts", "(I)V"⟩, 8)]
theorem lw_r1 : ∀ q ∈ lw_privs_1, lw_okq q := List.forall_mem_cons.mpr ⟨lw_p0, List.forall_mem_cons.mpr ⟨lw_p1, List.forall_mem_cons.mpr ⟨lw_p2, List.forall_mem_cons.mpr ⟨lw_p3, List.forall_mem_cons.mpr ⟨lw_p4, List.forall_mem_cons.mpr ⟨lw_p5, List.forall_mem_cons.mpr ⟨lw_p6, List.forall_mem_cons.mpr ⟨lw_p7, List.forall_mem_cons.mpr ⟨lw_p8, List.forall_mem_cons.mpr ⟨lw_p9, List.forall_mem_cons.mpr ⟨lw_p10, List.forall_mem_cons.mpr ⟨lw_p11, List.forall_mem_cons.mpr ⟨lw_p12, List.forall_mem_cons.mpr ⟨lw_p13, List.forall_mem_cons.mpr ⟨lw_p14, List.forall_mem_cons.mpr ⟨lw_p15, fun _ h => absurd h List.not_mem_nil⟩⟩⟩⟩⟩⟩⟩⟩⟩⟩⟩⟩⟩⟩⟩⟩
theorem lw_p16 : lw_okq (⟨"NoticeBook", "totalOf", "(I)I"⟩, 8) := ⟨⟨by decide +kernel, by decide +kernel⟩, List.mem_of_getElem? (i := 12) (by decide +kernel), List.mem_of_getElem? (i := 341) (by decide +kernel), List.mem_of_getElem? (i := 342) (by decide +kernel)⟩
theorem lw_p17 : lw_okq (⟨"NoticeBook", "partsOfCents", "(III)J"⟩, 8) := ⟨⟨by decide +kernel, by decide +kernel⟩, List.mem_of_getElem? (i := 12) (by decide +kernel), List.mem_of_getElem? (i := 345) (by decide +kernel), List.mem_of_getElem? (i := 346) (by decide +kernel)⟩
theorem lw_p18 : lw_okq (⟨"NoticeBook", "partsByBands", "(I)J"⟩, 8) := ⟨⟨by decide +kernel, by decide +kernel⟩, List.mem_of_getElem? (i := 12) (by decide +kernel), List.mem_of_getElem? (i := 349) (by decide +kernel), List.mem_of_getElem? (i := 350) (by decide +kernel)⟩
theorem lw_p19 : lw_okq (⟨"NoticeBook", "rateByWholeSum", "(I)I"⟩, 8) := ⟨⟨by decide +kernel, by decide +kernel⟩, List.mem_of_getElem? (i := 12) (by decide +kernel), List.mem_of_getElem? (i := 358) (by decide +kernel), List.mem_of_getElem? (i := 359) (by decide +kernel)⟩
theorem lw_p20 : lw_okq (⟨"NoticeBook", "leastHarmful", "(I)LNoticeBook$Lot;"⟩, 8) := ⟨⟨by decide +kernel, by decide +kernel⟩, List.mem_of_getElem? (i := 12) (by decide +kernel), List.mem_of_getElem? (i := 362) (by decide +kernel), List.mem_of_getElem? (i := 363) (by decide +kernel)⟩
theorem lw_p21 : lw_okq (⟨"NoticeBook", "earnOneDay", "()V"⟩, 8) := ⟨⟨by decide +kernel, by decide +kernel⟩, List.mem_of_getElem? (i := 12) (by decide +kernel), List.mem_of_getElem? (i := 413) (by decide +kernel), List.mem_of_getElem? (i := 414) (by decide +kernel)⟩
theorem lw_p22 : lw_okq (⟨"NoticeBook", "beginDay", "()I"⟩, 8) := ⟨⟨by decide +kernel, by decide +kernel⟩, List.mem_of_getElem? (i := 12) (by decide +kernel), List.mem_of_getElem? (i := 417) (by decide +kernel), List.mem_of_getElem? (i := 418) (by decide +kernel)⟩
theorem lw_p23 : lw_okq (⟨"NoticeBook", "endTerm", "(LNoticeBook$Lot;)V"⟩, 8) := ⟨⟨by decide +kernel, by decide +kernel⟩, List.mem_of_getElem? (i := 12) (by decide +kernel), List.mem_of_getElem? (i := 421) (by decide +kernel), List.mem_of_getElem? (i := 422) (by decide +kernel)⟩
theorem lw_p24 : lw_okq (⟨"NoticeBookModel", "open", "(II)I"⟩, 23) := ⟨⟨by decide +kernel, by decide +kernel⟩, List.mem_of_getElem? (i := 488) (by decide +kernel), List.mem_of_getElem? (i := 592) (by decide +kernel), List.mem_of_getElem? (i := 593) (by decide +kernel)⟩
theorem lw_p25 : lw_okq (⟨"NoticeBookModel", "beginTerm", "(I)V"⟩, 23) := ⟨⟨by decide +kernel, by decide +kernel⟩, List.mem_of_getElem? (i := 488) (by decide +kernel), List.mem_of_getElem? (i := 600) (by decide +kernel), List.mem_of_getElem? (i := 601) (by decide +kernel)⟩
theorem lw_p26 : lw_okq (⟨"NoticeBookModel", "isLot", "(I)Z"⟩, 23) := ⟨⟨by decide +kernel, by decide +kernel⟩, List.mem_of_getElem? (i := 488) (by decide +kernel), List.mem_of_getElem? (i := 608) (by decide +kernel), List.mem_of_getElem? (i := 609) (by decide +kernel)⟩
theorem lw_p27 : lw_okq (⟨"NoticeBookModel", "end", "(I)I"⟩, 23) := ⟨⟨by decide +kernel, by decide +kernel⟩, List.mem_of_getElem? (i := 488) (by decide +kernel), List.mem_of_getElem? (i := 620) (by decide +kernel), List.mem_of_getElem? (i := 621) (by decide +kernel)⟩
theorem lw_p28 : lw_okq (⟨"NoticeBookModel", "takeInterest", "(I)I"⟩, 23) := ⟨⟨by decide +kernel, by decide +kernel⟩, List.mem_of_getElem? (i := 488) (by decide +kernel), List.mem_of_getElem? (i := 624) (by decide +kernel), List.mem_of_getElem? (i := 625) (by decide +kernel)⟩
theorem lw_p29 : lw_okq (⟨"NoticeBookModel", "pay", "(II)I"⟩, 23) := ⟨⟨by decide +kernel, by decide +kernel⟩, List.mem_of_getElem? (i := 488) (by decide +kernel), List.mem_of_getElem? (i := 629) (by decide +kernel), List.mem_of_getElem? (i := 630) (by decide +kernel)⟩
theorem lw_p30 : lw_okq (⟨"NoticeBookModel", "isNotice", "(II)Z"⟩, 23) := ⟨⟨by decide +kernel, by decide +kernel⟩, List.mem_of_getElem? (i := 488) (by decide +kernel), List.mem_of_getElem? (i := 638) (by decide +kernel), List.mem_of_getElem? (i := 639) (by decide +kernel)⟩
theorem lw_p31 : lw_okq (⟨"NoticeBookModel", "partsNow", "(I)J"⟩, 23) := ⟨⟨by decide +kernel, by decide +kernel⟩, List.mem_of_getElem? (i := 488) (by decide +kernel), List.mem_of_getElem? (i := 642) (by decide +kernel), List.mem_of_getElem? (i := 643) (by decide +kernel)⟩
def lw_privs_2 : List (MethodName × Nat) := [(⟨"NoticeBook", "totalOf", "(I)I"⟩, 8), (⟨"NoticeBook", "partsOfCents", "(III)J"⟩, 8), (⟨"NoticeBook", "partsByBands", "(I)J"⟩, 8), (⟨"NoticeBook", "rateByWholeSum", "(I)I"⟩, 8), (⟨"NoticeBook", "leastHarmful", "(I)LNoticeBook$Lot;"⟩, 8), (⟨"NoticeBook", "earnOneDay", "()V"⟩, 8), (⟨"NoticeBook", "beginDay", "()I"⟩, 8), (⟨"NoticeBook", "endTerm", "(LNoticeBook$Lot;)V"⟩, 8), (⟨"NoticeBookModel", "open", "(II)I"⟩, 23), (⟨"NoticeBookModel", "beginTerm", "(I)V"⟩, 23), (⟨"NoticeBookModel", "isLot", "(I)Z"⟩, 23), (⟨"NoticeBookModel", "end", "(I)I"⟩, 23), (⟨"NoticeBookModel", "takeInterest", "(I)I"⟩, 23), (⟨"NoticeBookModel", "pay", "(II)I"⟩, 23), (⟨"NoticeBookModel", "isNotice", "(II)Z"⟩, 23), (⟨"NoticeBookModel", "partsNow", "(I)J"⟩, 23)]
theorem lw_r2 : ∀ q ∈ lw_privs_2, lw_okq q := List.forall_mem_cons.mpr ⟨lw_p16, List.forall_mem_cons.mpr ⟨lw_p17, List.forall_mem_cons.mpr ⟨lw_p18, List.forall_mem_cons.mpr ⟨lw_p19, List.forall_mem_cons.mpr ⟨lw_p20, List.forall_mem_cons.mpr ⟨lw_p21, List.forall_mem_cons.mpr ⟨lw_p22, List.forall_mem_cons.mpr ⟨lw_p23, List.forall_mem_cons.mpr ⟨lw_p24, List.forall_mem_cons.mpr ⟨lw_p25, List.forall_mem_cons.mpr ⟨lw_p26, List.forall_mem_cons.mpr ⟨lw_p27, List.forall_mem_cons.mpr ⟨lw_p28, List.forall_mem_cons.mpr ⟨lw_p29, List.forall_mem_cons.mpr ⟨lw_p30, List.forall_mem_cons.mpr ⟨lw_p31, fun _ h => absurd h List.not_mem_nil⟩⟩⟩⟩⟩⟩⟩⟩⟩⟩⟩⟩⟩⟩⟩⟩
theorem lw_p32 : lw_okq (⟨"NoticeBookModel", "sumBelow", "(II)I"⟩, 23) := ⟨⟨by decide +kernel, by decide +kernel⟩, List.mem_of_getElem? (i := 488) (by decide +kernel), List.mem_of_getElem? (i := 646) (by decide +kernel), List.mem_of_getElem? (i := 647) (by decide +kernel)⟩
theorem lw_p33 : lw_okq (⟨"NoticeBookModel", "rateFor", "(I)I"⟩, 23) := ⟨⟨by decide +kernel, by decide +kernel⟩, List.mem_of_getElem? (i := 488) (by decide +kernel), List.mem_of_getElem? (i := 650) (by decide +kernel), List.mem_of_getElem? (i := 651) (by decide +kernel)⟩
theorem lw_p34 : lw_okq (⟨"NoticeBookModel", "partsOf", "(I)J"⟩, 23) := ⟨⟨by decide +kernel, by decide +kernel⟩, List.mem_of_getElem? (i := 488) (by decide +kernel), List.mem_of_getElem? (i := 656) (by decide +kernel), List.mem_of_getElem? (i := 657) (by decide +kernel)⟩
theorem lw_p35 : lw_okq (⟨"NoticeBookModel", "nextFor", "(I)I"⟩, 23) := ⟨⟨by decide +kernel, by decide +kernel⟩, List.mem_of_getElem? (i := 488) (by decide +kernel), List.mem_of_getElem? (i := 662) (by decide +kernel), List.mem_of_getElem? (i := 663) (by decide +kernel)⟩
theorem lw_p36 : lw_okq (⟨"NoticeBookModel", "endTerm", "(I)V"⟩, 23) := ⟨⟨by decide +kernel, by decide +kernel⟩, List.mem_of_getElem? (i := 488) (by decide +kernel), List.mem_of_getElem? (i := 684) (by decide +kernel), List.mem_of_getElem? (i := 685) (by decide +kernel)⟩
theorem lw_p37 : lw_okq (⟨"NoticeBookModel", "asksFor", "(I)Z"⟩, 23) := ⟨⟨by decide +kernel, by decide +kernel⟩, List.mem_of_getElem? (i := 488) (by decide +kernel), List.mem_of_getElem? (i := 700) (by decide +kernel), List.mem_of_getElem? (i := 701) (by decide +kernel)⟩
def lw_privs_3 : List (MethodName × Nat) := [(⟨"NoticeBookModel", "sumBelow", "(II)I"⟩, 23), (⟨"NoticeBookModel", "rateFor", "(I)I"⟩, 23), (⟨"NoticeBookModel", "partsOf", "(I)J"⟩, 23), (⟨"NoticeBookModel", "nextFor", "(I)I"⟩, 23), (⟨"NoticeBookModel", "endTerm", "(I)V"⟩, 23), (⟨"NoticeBookModel", "asksFor", "(I)Z"⟩, 23)]
theorem lw_r3 : ∀ q ∈ lw_privs_3, lw_okq q := List.forall_mem_cons.mpr ⟨lw_p32, List.forall_mem_cons.mpr ⟨lw_p33, List.forall_mem_cons.mpr ⟨lw_p34, List.forall_mem_cons.mpr ⟨lw_p35, List.forall_mem_cons.mpr ⟨lw_p36, List.forall_mem_cons.mpr ⟨lw_p37, fun _ h => absurd h List.not_mem_nil⟩⟩⟩⟩⟩⟩
def lw_privs : List (MethodName × Nat) := lw_privs_1 ++ (lw_privs_2 ++ (lw_privs_3))
def lw_tbl : List Cond := k2_sels lw_privs ++ tables_1
theorem lw_privs_ok : ∀ q ∈ lw_privs, lw_okq q := by
  show ∀ q ∈ lw_privs_1 ++ (lw_privs_2 ++ (lw_privs_3)), lw_okq q
  exact List.forall_mem_append.mpr ⟨lw_r1, List.forall_mem_append.mpr ⟨lw_r2, lw_r3⟩⟩
def RX0 : String := "NoticeBook$Lot"
def TX0 : u_T := fun k => match k with
  | 0 => ("NoticeBook$Lot", "customer", "I", true)
  | 1 => ("NoticeBook$Lot", "termDays", "I", true)
  | 2 => ("NoticeBook$Lot", "principal", "I", false)
  | 3 => ("NoticeBook$Lot", "earned", "J", false)
  | 4 => ("NoticeBook$Lot", "parts", "J", false)
  | 5 => ("NoticeBook$Lot", "frozenCents", "I", false)
  | 6 => ("NoticeBook$Lot", "takeFrom", "I", false)
  | 7 => ("NoticeBook$Lot", "end", "I", false)
  | 8 => ("NoticeBook$Lot", "instruction", "I", false)
  | _ => ("NoticeBook$Lot", "renewedOn", "I", false)
def tyX0 : Nat → FieldType := fun k => match k with
  | 0 => .int
  | 1 => .int
  | 2 => .int
  | 3 => .long
  | 4 => .long
  | 5 => .int
  | 6 => .int
  | 7 => .int
  | 8 => .int
  | _ => .int
abbrev wsX00 : List Cond := u_ws RX0 TX0 10
theorem nmX0 : ∀ a, a < 10 → ∀ b, b < 10 → a ≠ b → (TX0 a).2.1 ≠ (TX0 b).2.1 := by decide +kernel
theorem tyX0_ok : ∀ k, k < 10 → parseFieldDescriptor (TX0 k).2.2.1 = some (tyX0 k) := by decide +kernel
abbrev cX0_init : ByteArray := prog_2_method_1_code
def yX0_init : MethodName := ⟨RX0, "<init>", "(III)V"⟩
abbrev cX0_isByTerm : ByteArray := prog_2_method_2_code
def yX0_isByTerm : MethodName := ⟨RX0, "isByTerm", "()Z"⟩
abbrev cX0_unfrozen : ByteArray := prog_2_method_3_code
def yX0_unfrozen : MethodName := ⟨RX0, "unfrozen", "()I"⟩
abbrev cX0_drawWholeCents : ByteArray := prog_2_method_4_code
def yX0_drawWholeCents : MethodName := ⟨RX0, "drawWholeCents", "()I"⟩
def RX1 : String := "NoticeBook"
def TX1 : u_T := fun k => match k with
  | 0 => ("NoticeBook", "rates", "[I", true)
  | 1 => ("NoticeBook", "paidCents", "[J", true)
  | 2 => ("NoticeBook", "lostParts", "[J", true)
  | 3 => ("NoticeBook", "book", "[LNoticeBook$Lot;", true)
  | 4 => ("NoticeBook", "tiersByBands", "Z", false)
  | 5 => ("NoticeBook", "termRate", "I", false)
  | 6 => ("NoticeBook", "lotsMade", "I", false)
  | _ => ("NoticeBook", "day", "I", false)
def tyX1 : Nat → FieldType := fun k => match k with
  | 0 => .array .int
  | 1 => .array .long
  | 2 => .array .long
  | 3 => .array (.object "NoticeBook$Lot")
  | 4 => .boolean
  | 5 => .int
  | 6 => .int
  | _ => .int
abbrev wsX10 : List Cond := u_ws RX1 TX1 8
theorem nmX1 : ∀ a, a < 8 → ∀ b, b < 8 → a ≠ b → (TX1 a).2.1 ≠ (TX1 b).2.1 := by decide +kernel
theorem tyX1_ok : ∀ k, k < 8 → parseFieldDescriptor (TX1 k).2.2.1 = some (tyX1 k) := by decide +kernel
abbrev cX1_init : ByteArray := prog_1_method_1_code
def yX1_init : MethodName := ⟨RX1, "<init>", "()V"⟩
abbrev cX1_setRate : ByteArray := prog_1_method_2_code
def yX1_setRate : MethodName := ⟨RX1, "setRate", "(II)I"⟩
abbrev cX1_setByBands : ByteArray := prog_1_method_3_code
def yX1_setByBands : MethodName := ⟨RX1, "setByBands", "(Z)Z"⟩
abbrev cX1_setTermRate : ByteArray := prog_1_method_4_code
def yX1_setTermRate : MethodName := ⟨RX1, "setTermRate", "(I)I"⟩
abbrev cX1_deposit : ByteArray := prog_1_method_5_code
def yX1_deposit : MethodName := ⟨RX1, "deposit", "(II)I"⟩
abbrev cX1_depositTerm : ByteArray := prog_1_method_6_code
def yX1_depositTerm : MethodName := ⟨RX1, "depositTerm", "(IIII)I"⟩
abbrev cX1_give : ByteArray := prog_1_method_7_code
def yX1_give : MethodName := ⟨RX1, "give", "(II)I"⟩
abbrev cX1_withdraw : ByteArray := prog_1_method_8_code
def yX1_withdraw : MethodName := ⟨RX1, "withdraw", "(I)I"⟩
abbrev cX1_take : ByteArray := prog_1_method_9_code
def yX1_take : MethodName := ⟨RX1, "take", "(I)I"⟩
abbrev cX1_early : ByteArray := prog_1_method_10_code
def yX1_early : MethodName := ⟨RX1, "early", "(II)I"⟩
abbrev cX1_instruct : ByteArray := prog_1_method_11_code
def yX1_instruct : MethodName := ⟨RX1, "instruct", "(II)I"⟩
abbrev cX1_letGo : ByteArray := prog_1_method_12_code
def yX1_letGo : MethodName := ⟨RX1, "letGo", "(I)I"⟩
abbrev cX1_join : ByteArray := prog_1_method_13_code
def yX1_join : MethodName := ⟨RX1, "join", "(II)I"⟩
abbrev cX1_pass : ByteArray := prog_1_method_14_code
def yX1_pass : MethodName := ⟨RX1, "pass", "(I)I"⟩
abbrev cX1_today : ByteArray := prog_1_method_15_code
def yX1_today : MethodName := ⟨RX1, "today", "()I"⟩
abbrev cX1_lots : ByteArray := prog_1_method_16_code
def yX1_lots : MethodName := ⟨RX1, "lots", "()I"⟩
abbrev cX1_principal : ByteArray := prog_1_method_17_code
def yX1_principal : MethodName := ⟨RX1, "principal", "(I)I"⟩
abbrev cX1_earned : ByteArray := prog_1_method_18_code
def yX1_earned : MethodName := ⟨RX1, "earned", "(I)J"⟩
abbrev cX1_partsOfDay : ByteArray := prog_1_method_19_code
def yX1_partsOfDay : MethodName := ⟨RX1, "partsOfDay", "(I)J"⟩
abbrev cX1_frozen : ByteArray := prog_1_method_20_code
def yX1_frozen : MethodName := ⟨RX1, "frozen", "(I)I"⟩
abbrev cX1_endOf : ByteArray := prog_1_method_21_code
def yX1_endOf : MethodName := ⟨RX1, "endOf", "(I)I"⟩
abbrev cX1_total : ByteArray := prog_1_method_22_code
def yX1_total : MethodName := ⟨RX1, "total", "(I)I"⟩
abbrev cX1_partsByTotal : ByteArray := prog_1_method_23_code
def yX1_partsByTotal : MethodName := ⟨RX1, "partsByTotal", "(I)J"⟩
abbrev cX1_paid : ByteArray := prog_1_method_24_code
def yX1_paid : MethodName := ⟨RX1, "paid", "(I)J"⟩
abbrev cX1_lost : ByteArray := prog_1_method_25_code
def yX1_lost : MethodName := ⟨RX1, "lost", "(I)J"⟩
abbrev cX1_demandCustomer : ByteArray := prog_1_method_26_code
def yX1_demandCustomer : MethodName := ⟨RX1, "demandCustomer", "(I)V"⟩
abbrev cX1_demandRange : ByteArray := prog_1_method_27_code
def yX1_demandRange : MethodName := ⟨RX1, "demandRange", "(III)V"⟩
abbrev cX1_demandLot : ByteArray := prog_1_method_28_code
def yX1_demandLot : MethodName := ⟨RX1, "demandLot", "(I)LNoticeBook$Lot;"⟩
abbrev cX1_demandNotice : ByteArray := prog_1_method_29_code
def yX1_demandNotice : MethodName := ⟨RX1, "demandNotice", "(I)LNoticeBook$Lot;"⟩
abbrev cX1_canJoin : ByteArray := prog_1_method_30_code
def yX1_canJoin : MethodName := ⟨RX1, "canJoin", "(LNoticeBook$Lot;LNoticeBook$Lot;)Z"⟩
abbrev cX1_lotAt : ByteArray := prog_1_method_31_code
def yX1_lotAt : MethodName := ⟨RX1, "lotAt", "(I)LNoticeBook$Lot;"⟩
abbrev cX1_noticeLotAt : ByteArray := prog_1_method_32_code
def yX1_noticeLotAt : MethodName := ⟨RX1, "noticeLotAt", "(II)LNoticeBook$Lot;"⟩
abbrev cX1_totalOf : ByteArray := prog_1_method_33_code
def yX1_totalOf : MethodName := ⟨RX1, "totalOf", "(I)I"⟩
abbrev cX1_unfrozenOf : ByteArray := prog_1_method_34_code
def yX1_unfrozenOf : MethodName := ⟨RX1, "unfrozenOf", "(I)I"⟩
abbrev cX1_leastHarmful : ByteArray := prog_1_method_35_code
def yX1_leastHarmful : MethodName := ⟨RX1, "leastHarmful", "(I)LNoticeBook$Lot;"⟩
abbrev cX1_harmsNoMore : ByteArray := prog_1_method_36_code
def yX1_harmsNoMore : MethodName := ⟨RX1, "harmsNoMore", "(LNoticeBook$Lot;LNoticeBook$Lot;)Z"⟩
abbrev cX1_noteParts : ByteArray := prog_1_method_37_code
def yX1_noteParts : MethodName := ⟨RX1, "noteParts", "(I)V"⟩
abbrev cX1_partsOfCents : ByteArray := prog_1_method_38_code
def yX1_partsOfCents : MethodName := ⟨RX1, "partsOfCents", "(III)J"⟩
abbrev cX1_partsByBands : ByteArray := prog_1_method_39_code
def yX1_partsByBands : MethodName := ⟨RX1, "partsByBands", "(I)J"⟩
abbrev cX1_rateByWholeSum : ByteArray := prog_1_method_40_code
def yX1_rateByWholeSum : MethodName := ⟨RX1, "rateByWholeSum", "(I)I"⟩
abbrev cX1_payOut : ByteArray := prog_1_method_41_code
def yX1_payOut : MethodName := ⟨RX1, "payOut", "(LNoticeBook$Lot;I)I"⟩
abbrev cX1_payInterest : ByteArray := prog_1_method_42_code
def yX1_payInterest : MethodName := ⟨RX1, "payInterest", "(LNoticeBook$Lot;)I"⟩
abbrev cX1_notePaid : ByteArray := prog_1_method_43_code
def yX1_notePaid : MethodName := ⟨RX1, "notePaid", "(II)V"⟩
abbrev cX1_lose : ByteArray := prog_1_method_44_code
def yX1_lose : MethodName := ⟨RX1, "lose", "(LNoticeBook$Lot;J)V"⟩
abbrev cX1_lossByEarly : ByteArray := prog_1_method_45_code
def yX1_lossByEarly : MethodName := ⟨RX1, "lossByEarly", "(LNoticeBook$Lot;I)J"⟩
abbrev cX1_enter : ByteArray := prog_1_method_46_code
def yX1_enter : MethodName := ⟨RX1, "enter", "(LNoticeBook$Lot;)I"⟩
abbrev cX1_beginTerm : ByteArray := prog_1_method_47_code
def yX1_beginTerm : MethodName := ⟨RX1, "beginTerm", "(LNoticeBook$Lot;)V"⟩
abbrev cX1_earnOneDay : ByteArray := prog_1_method_48_code
def yX1_earnOneDay : MethodName := ⟨RX1, "earnOneDay", "()V"⟩
abbrev cX1_beginDay : ByteArray := prog_1_method_49_code
def yX1_beginDay : MethodName := ⟨RX1, "beginDay", "()I"⟩
abbrev cX1_endTerm : ByteArray := prog_1_method_50_code
def yX1_endTerm : MethodName := ⟨RX1, "endTerm", "(LNoticeBook$Lot;)V"⟩
def RX2 : String := "NoticeBookModel"
def TX2 : u_T := fun k => match k with
  | 0 => ("NoticeBookModel", "rates", "[I", true)
  | 1 => ("NoticeBookModel", "isByBands", "Z", false)
  | 2 => ("NoticeBookModel", "termRate", "I", false)
  | 3 => ("NoticeBookModel", "lotMany", "I", false)
  | 4 => ("NoticeBookModel", "isThere", "[Z", true)
  | 5 => ("NoticeBookModel", "isTerm", "[Z", true)
  | 6 => ("NoticeBookModel", "owners", "[I", true)
  | 7 => ("NoticeBookModel", "principals", "[I", true)
  | 8 => ("NoticeBookModel", "earnings", "[J", true)
  | 9 => ("NoticeBookModel", "frozenOf", "[I", true)
  | 10 => ("NoticeBookModel", "noticeDays", "[I", true)
  | 11 => ("NoticeBookModel", "termParts", "[J", true)
  | 12 => ("NoticeBookModel", "lengths", "[I", true)
  | 13 => ("NoticeBookModel", "ends", "[I", true)
  | 14 => ("NoticeBookModel", "instructions", "[I", true)
  | 15 => ("NoticeBookModel", "begun", "[I", true)
  | 16 => ("NoticeBookModel", "paidTo", "[J", true)
  | 17 => ("NoticeBookModel", "lostBy", "[J", true)
  | 18 => ("NoticeBookModel", "now", "I", false)
  | 19 => ("NoticeBookModel", "thrown", "I", false)
  | 20 => ("NoticeBookModel", "partsAhead", "[J", true)
  | 21 => ("NoticeBookModel", "principalsAhead", "[I", true)
  | _ => ("NoticeBookModel", "isDone", "[Z", true)
def tyX2 : Nat → FieldType := fun k => match k with
  | 0 => .array .int
  | 1 => .boolean
  | 2 => .int
  | 3 => .int
  | 4 => .array .boolean
  | 5 => .array .boolean
  | 6 => .array .int
  | 7 => .array .int
  | 8 => .array .long
  | 9 => .array .int
  | 10 => .array .int
  | 11 => .array .long
  | 12 => .array .int
  | 13 => .array .int
  | 14 => .array .int
  | 15 => .array .int
  | 16 => .array .long
  | 17 => .array .long
  | 18 => .int
  | 19 => .int
  | 20 => .array .long
  | 21 => .array .int
  | _ => .array .boolean
abbrev wsX20 : List Cond := u_ws RX2 TX2 23
theorem nmX2 : ∀ a, a < 23 → ∀ b, b < 23 → a ≠ b → (TX2 a).2.1 ≠ (TX2 b).2.1 := by decide +kernel
theorem tyX2_ok : ∀ k, k < 23 → parseFieldDescriptor (TX2 k).2.2.1 = some (tyX2 k) := by decide +kernel
abbrev cX2_init : ByteArray := prog_4_method_1_code
def yX2_init : MethodName := ⟨RX2, "<init>", "()V"⟩
abbrev cX2_thrown : ByteArray := prog_4_method_2_code
def yX2_thrown : MethodName := ⟨RX2, "thrown", "()I"⟩
abbrev cX2_in : ByteArray := prog_4_method_3_code
def yX2_in : MethodName := ⟨RX2, "in", "(III)Z"⟩
abbrev cX2_isCustomer : ByteArray := prog_4_method_4_code
def yX2_isCustomer : MethodName := ⟨RX2, "isCustomer", "(I)Z"⟩
abbrev cX2_isLot : ByteArray := prog_4_method_5_code
def yX2_isLot : MethodName := ⟨RX2, "isLot", "(I)Z"⟩
abbrev cX2_setRate : ByteArray := prog_4_method_6_code
def yX2_setRate : MethodName := ⟨RX2, "setRate", "(II)I"⟩
abbrev cX2_setByBands : ByteArray := prog_4_method_7_code
def yX2_setByBands : MethodName := ⟨RX2, "setByBands", "(Z)Z"⟩
abbrev cX2_setTermRate : ByteArray := prog_4_method_8_code
def yX2_setTermRate : MethodName := ⟨RX2, "setTermRate", "(I)I"⟩
abbrev cX2_isNotice : ByteArray := prog_4_method_9_code
def yX2_isNotice : MethodName := ⟨RX2, "isNotice", "(II)Z"⟩
abbrev cX2_sumBelow : ByteArray := prog_4_method_10_code
def yX2_sumBelow : MethodName := ⟨RX2, "sumBelow", "(II)I"⟩
abbrev cX2_partsOf : ByteArray := prog_4_method_11_code
def yX2_partsOf : MethodName := ⟨RX2, "partsOf", "(I)J"⟩
abbrev cX2_rateFor : ByteArray := prog_4_method_12_code
def yX2_rateFor : MethodName := ⟨RX2, "rateFor", "(I)I"⟩
abbrev cX2_partsNow : ByteArray := prog_4_method_13_code
def yX2_partsNow : MethodName := ⟨RX2, "partsNow", "(I)J"⟩
abbrev cX2_takeInterest : ByteArray := prog_4_method_14_code
def yX2_takeInterest : MethodName := ⟨RX2, "takeInterest", "(I)I"⟩
abbrev cX2_end : ByteArray := prog_4_method_15_code
def yX2_end : MethodName := ⟨RX2, "end", "(I)I"⟩
abbrev cX2_pay : ByteArray := prog_4_method_16_code
def yX2_pay : MethodName := ⟨RX2, "pay", "(II)I"⟩
abbrev cX2_open : ByteArray := prog_4_method_17_code
def yX2_open : MethodName := ⟨RX2, "open", "(II)I"⟩
abbrev cX2_deposit : ByteArray := prog_4_method_18_code
def yX2_deposit : MethodName := ⟨RX2, "deposit", "(II)I"⟩
abbrev cX2_beginTerm : ByteArray := prog_4_method_19_code
def yX2_beginTerm : MethodName := ⟨RX2, "beginTerm", "(I)V"⟩
abbrev cX2_depositTerm : ByteArray := prog_4_method_20_code
def yX2_depositTerm : MethodName := ⟨RX2, "depositTerm", "(IIII)I"⟩
abbrev cX2_give : ByteArray := prog_4_method_21_code
def yX2_give : MethodName := ⟨RX2, "give", "(II)I"⟩
abbrev cX2_withdraw : ByteArray := prog_4_method_22_code
def yX2_withdraw : MethodName := ⟨RX2, "withdraw", "(I)I"⟩
abbrev cX2_take : ByteArray := prog_4_method_23_code
def yX2_take : MethodName := ⟨RX2, "take", "(I)I"⟩
abbrev cX2_nextFor : ByteArray := prog_4_method_24_code
def yX2_nextFor : MethodName := ⟨RX2, "nextFor", "(I)I"⟩
abbrev cX2_early : ByteArray := prog_4_method_25_code
def yX2_early : MethodName := ⟨RX2, "early", "(II)I"⟩
abbrev cX2_instruct : ByteArray := prog_4_method_26_code
def yX2_instruct : MethodName := ⟨RX2, "instruct", "(II)I"⟩
abbrev cX2_letGo : ByteArray := prog_4_method_27_code
def yX2_letGo : MethodName := ⟨RX2, "letGo", "(I)I"⟩
abbrev cX2_join : ByteArray := prog_4_method_28_code
def yX2_join : MethodName := ⟨RX2, "join", "(II)I"⟩
abbrev cX2_endTerm : ByteArray := prog_4_method_29_code
def yX2_endTerm : MethodName := ⟨RX2, "endTerm", "(I)V"⟩
abbrev cX2_pass : ByteArray := prog_4_method_30_code
def yX2_pass : MethodName := ⟨RX2, "pass", "(I)I"⟩
abbrev cX2_today : ByteArray := prog_4_method_31_code
def yX2_today : MethodName := ⟨RX2, "today", "()I"⟩
abbrev cX2_lots : ByteArray := prog_4_method_32_code
def yX2_lots : MethodName := ⟨RX2, "lots", "()I"⟩
abbrev cX2_asksFor : ByteArray := prog_4_method_33_code
def yX2_asksFor : MethodName := ⟨RX2, "asksFor", "(I)Z"⟩
abbrev cX2_principal : ByteArray := prog_4_method_34_code
def yX2_principal : MethodName := ⟨RX2, "principal", "(I)I"⟩
abbrev cX2_earned : ByteArray := prog_4_method_35_code
def yX2_earned : MethodName := ⟨RX2, "earned", "(I)J"⟩
abbrev cX2_partsOfDay : ByteArray := prog_4_method_36_code
def yX2_partsOfDay : MethodName := ⟨RX2, "partsOfDay", "(I)J"⟩
abbrev cX2_frozen : ByteArray := prog_4_method_37_code
def yX2_frozen : MethodName := ⟨RX2, "frozen", "(I)I"⟩
abbrev cX2_endOf : ByteArray := prog_4_method_38_code
def yX2_endOf : MethodName := ⟨RX2, "endOf", "(I)I"⟩
abbrev cX2_total : ByteArray := prog_4_method_39_code
def yX2_total : MethodName := ⟨RX2, "total", "(I)I"⟩
abbrev cX2_partsByTotal : ByteArray := prog_4_method_40_code
def yX2_partsByTotal : MethodName := ⟨RX2, "partsByTotal", "(I)J"⟩
abbrev cX2_paid : ByteArray := prog_4_method_41_code
def yX2_paid : MethodName := ⟨RX2, "paid", "(I)J"⟩
abbrev cX2_lost : ByteArray := prog_4_method_42_code
def yX2_lost : MethodName := ⟨RX2, "lost", "(I)J"⟩
def RJ9 : String := "java/lang/Math"
def TJ9 : u_T := fun k => match k with
  | _ => ("", "", "", false)
def tyJ9 : Nat → FieldType := fun k => match k with
  | _ => .int
abbrev wsJ90 : List Cond := u_ws RJ9 TJ9 0
theorem nmJ9 : ∀ a, a < 0 → ∀ b, b < 0 → a ≠ b → (TJ9 a).2.1 ≠ (TJ9 b).2.1 := by decide +kernel
theorem tyJ9_ok : ∀ k, k < 0 → parseFieldDescriptor (TJ9 k).2.2.1 = some (tyJ9 k) := by decide +kernel
abbrev cJ9_min_7cf53 : ByteArray := prog_9_method_69_code
def yJ9_min_7cf53 : MethodName := ⟨RJ9, "min", "(II)I"⟩
abbrev cJ9_min_f86c9 : ByteArray := prog_9_method_70_code
def yJ9_min_f86c9 : MethodName := ⟨RJ9, "min", "(JJ)J"⟩
def RJ0 : String := "java/lang/String"
def TJ0 : u_T := fun k => match k with
  | _ => ("", "", "", false)
def tyJ0 : Nat → FieldType := fun k => match k with
  | _ => .int
abbrev wsJ00 : List Cond := u_ws RJ0 TJ0 0
theorem nmJ0 : ∀ a, a < 0 → ∀ b, b < 0 → a ≠ b → (TJ0 a).2.1 ≠ (TJ0 b).2.1 := by decide +kernel
theorem tyJ0_ok : ∀ k, k < 0 → parseFieldDescriptor (TJ0 k).2.2.1 = some (tyJ0 k) := by decide +kernel
def RL : String := "NoticeBookLaw"
abbrev cL_setRate : ByteArray := method_3_code
def yL_setRate : MethodName := ⟨RL, "setRate", "(LNoticeBook;II[J)I"⟩
abbrev cL_setTermRate : ByteArray := method_4_code
def yL_setTermRate : MethodName := ⟨RL, "setTermRate", "(LNoticeBook;I[J)I"⟩
abbrev cL_deposit : ByteArray := method_5_code
def yL_deposit : MethodName := ⟨RL, "deposit", "(LNoticeBook;II[J)I"⟩
abbrev cL_depositTerm : ByteArray := method_6_code
def yL_depositTerm : MethodName := ⟨RL, "depositTerm", "(LNoticeBook;IIII[J)I"⟩
abbrev cL_give : ByteArray := method_7_code
def yL_give : MethodName := ⟨RL, "give", "(LNoticeBook;II[J)I"⟩
abbrev cL_withdraw : ByteArray := method_8_code
def yL_withdraw : MethodName := ⟨RL, "withdraw", "(LNoticeBook;I[J)I"⟩
abbrev cL_take : ByteArray := method_9_code
def yL_take : MethodName := ⟨RL, "take", "(LNoticeBook;I[J)I"⟩
abbrev cL_early : ByteArray := method_10_code
def yL_early : MethodName := ⟨RL, "early", "(LNoticeBook;II[J)I"⟩
abbrev cL_instruct : ByteArray := method_11_code
def yL_instruct : MethodName := ⟨RL, "instruct", "(LNoticeBook;II[J)I"⟩
abbrev cL_letGo : ByteArray := method_12_code
def yL_letGo : MethodName := ⟨RL, "letGo", "(LNoticeBook;I[J)I"⟩
abbrev cL_join : ByteArray := method_13_code
def yL_join : MethodName := ⟨RL, "join", "(LNoticeBook;II[J)I"⟩
abbrev cL_pass : ByteArray := method_14_code
def yL_pass : MethodName := ⟨RL, "pass", "(LNoticeBook;I[J)I"⟩
abbrev cL_principal : ByteArray := method_15_code
def yL_principal : MethodName := ⟨RL, "principal", "(LNoticeBook;I[J)I"⟩
abbrev cL_earned : ByteArray := method_16_code
def yL_earned : MethodName := ⟨RL, "earned", "(LNoticeBook;I[J)I"⟩
abbrev cL_partsOfDay : ByteArray := method_17_code
def yL_partsOfDay : MethodName := ⟨RL, "partsOfDay", "(LNoticeBook;I[J)I"⟩
abbrev cL_frozen : ByteArray := method_18_code
def yL_frozen : MethodName := ⟨RL, "frozen", "(LNoticeBook;I[J)I"⟩
abbrev cL_endOf : ByteArray := method_19_code
def yL_endOf : MethodName := ⟨RL, "endOf", "(LNoticeBook;I[J)I"⟩
abbrev cL_total : ByteArray := method_20_code
def yL_total : MethodName := ⟨RL, "total", "(LNoticeBook;I[J)I"⟩
abbrev cL_partsByTotal : ByteArray := method_21_code
def yL_partsByTotal : MethodName := ⟨RL, "partsByTotal", "(LNoticeBook;I[J)I"⟩
abbrev cL_paid : ByteArray := method_22_code
def yL_paid : MethodName := ⟨RL, "paid", "(LNoticeBook;I[J)I"⟩
abbrev cL_lost : ByteArray := method_23_code
def yL_lost : MethodName := ⟨RL, "lost", "(LNoticeBook;I[J)I"⟩
abbrev cL_law : ByteArray := code
def yL_law : MethodName := ⟨RL, "law", "([I)Z"⟩
abbrev vwCl : List vw_C := [(RX0, TX0, 10), (RX1, TX1, 8), (RX2, TX2, 23)]
