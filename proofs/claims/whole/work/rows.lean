section
-- ===== PART A: goes FIRST, ahead of the names: the tables' words, and 'selects' of the private methods out of them =====
/-- a private method of a class that the tables say can be made, by its rows of tables_1 -/
def lw_okq (q : MethodName × Nat) : Prop := (q.1.cls ≠ "java/lang/invoke/MethodHandle" ∧ q.1.cls ≠ "java/lang/invoke/VarHandle") ∧ Cond.instantiable q.1.cls q.2 ∈ tables_1 ∧ Cond.privateMethod q.1 ∈ tables_1 ∧ Cond.instanceMethod q.1 ∈ tables_1
theorem lw_p0 : lw_okq (⟨"TicketTag$Memory", "isNear", "()Z"⟩, 8) := ⟨⟨by decide +kernel, by decide +kernel⟩, List.mem_of_getElem? (i := 21) (by decide +kernel), List.mem_of_getElem? (i := 81) (by decide +kernel), List.mem_of_getElem? (i := 82) (by decide +kernel)⟩
theorem lw_p1 : lw_okq (⟨"TicketTag$Memory", "goAway", "()V"⟩, 8) := ⟨⟨by decide +kernel, by decide +kernel⟩, List.mem_of_getElem? (i := 21) (by decide +kernel), List.mem_of_getElem? (i := 85) (by decide +kernel), List.mem_of_getElem? (i := 86) (by decide +kernel)⟩
theorem lw_p2 : lw_okq (⟨"TicketTag", "kindOfTag", "()I"⟩, 6) := ⟨⟨by decide +kernel, by decide +kernel⟩, List.mem_of_getElem? (i := 13) (by decide +kernel), List.mem_of_getElem? (i := 93) (by decide +kernel), List.mem_of_getElem? (i := 94) (by decide +kernel)⟩
theorem lw_p3 : lw_okq (⟨"TicketTag$Memory", "at", "(II)I"⟩, 8) := ⟨⟨by decide +kernel, by decide +kernel⟩, List.mem_of_getElem? (i := 21) (by decide +kernel), List.mem_of_getElem? (i := 97) (by decide +kernel), List.mem_of_getElem? (i := 98) (by decide +kernel)⟩
theorem lw_p4 : lw_okq (⟨"TicketTag", "parameter", "(I)I"⟩, 6) := ⟨⟨by decide +kernel, by decide +kernel⟩, List.mem_of_getElem? (i := 13) (by decide +kernel), List.mem_of_getElem? (i := 101) (by decide +kernel), List.mem_of_getElem? (i := 102) (by decide +kernel)⟩
theorem lw_p5 : lw_okq (⟨"TicketTag", "bitsOn", "()I"⟩, 6) := ⟨⟨by decide +kernel, by decide +kernel⟩, List.mem_of_getElem? (i := 13) (by decide +kernel), List.mem_of_getElem? (i := 105) (by decide +kernel), List.mem_of_getElem? (i := 106) (by decide +kernel)⟩
theorem lw_p6 : lw_okq (⟨"TicketTag", "latestValue", "()I"⟩, 6) := ⟨⟨by decide +kernel, by decide +kernel⟩, List.mem_of_getElem? (i := 13) (by decide +kernel), List.mem_of_getElem? (i := 122) (by decide +kernel), List.mem_of_getElem? (i := 123) (by decide +kernel)⟩
theorem lw_p7 : lw_okq (⟨"TicketTag$Memory", "latestOf", "(I)I"⟩, 8) := ⟨⟨by decide +kernel, by decide +kernel⟩, List.mem_of_getElem? (i := 21) (by decide +kernel), List.mem_of_getElem? (i := 126) (by decide +kernel), List.mem_of_getElem? (i := 127) (by decide +kernel)⟩
theorem lw_p8 : lw_okq (⟨"TicketTag$Memory", "isRight", "(I)Z"⟩, 8) := ⟨⟨by decide +kernel, by decide +kernel⟩, List.mem_of_getElem? (i := 21) (by decide +kernel), List.mem_of_getElem? (i := 133) (by decide +kernel), List.mem_of_getElem? (i := 134) (by decide +kernel)⟩
theorem lw_p9 : lw_okq (⟨"TicketTag", "centsOf", "(I)I"⟩, 6) := ⟨⟨by decide +kernel, by decide +kernel⟩, List.mem_of_getElem? (i := 13) (by decide +kernel), List.mem_of_getElem? (i := 142) (by decide +kernel), List.mem_of_getElem? (i := 143) (by decide +kernel)⟩
theorem lw_p10 : lw_okq (⟨"TicketTag", "capLeftBy", "(II)I"⟩, 6) := ⟨⟨by decide +kernel, by decide +kernel⟩, List.mem_of_getElem? (i := 13) (by decide +kernel), List.mem_of_getElem? (i := 150) (by decide +kernel), List.mem_of_getElem? (i := 151) (by decide +kernel)⟩
theorem lw_p11 : lw_okq (⟨"TicketTag", "chargedOn", "(II)I"⟩, 6) := ⟨⟨by decide +kernel, by decide +kernel⟩, List.mem_of_getElem? (i := 13) (by decide +kernel), List.mem_of_getElem? (i := 154) (by decide +kernel), List.mem_of_getElem? (i := 155) (by decide +kernel)⟩
theorem lw_p12 : lw_okq (⟨"TicketTag", "lastRideRecord", "()I"⟩, 6) := ⟨⟨by decide +kernel, by decide +kernel⟩, List.mem_of_getElem? (i := 13) (by decide +kernel), List.mem_of_getElem? (i := 162) (by decide +kernel), List.mem_of_getElem? (i := 163) (by decide +kernel)⟩
theorem lw_p13 : lw_okq (⟨"TicketTag", "isVoid", "(I)Z"⟩, 6) := ⟨⟨by decide +kernel, by decide +kernel⟩, List.mem_of_getElem? (i := 13) (by decide +kernel), List.mem_of_getElem? (i := 166) (by decide +kernel), List.mem_of_getElem? (i := 167) (by decide +kernel)⟩
theorem lw_p14 : lw_okq (⟨"TicketTag", "codeOf", "(I)I"⟩, 6) := ⟨⟨by decide +kernel, by decide +kernel⟩, List.mem_of_getElem? (i := 13) (by decide +kernel), List.mem_of_getElem? (i := 170) (by decide +kernel), List.mem_of_getElem? (i := 171) (by decide +kernel)⟩
theorem lw_p15 : lw_okq (⟨"TicketTag", "counterOf", "(I)I"⟩, 6) := ⟨⟨by decide +kernel, by decide +kernel⟩, List.mem_of_getElem? (i := 13) (by decide +kernel), List.mem_of_getElem? (i := 174) (by decide +kernel), List.mem_of_getElem? (i := 175) (by decide +kernel)⟩
def lw_privs_1 : List (MethodName × Nat) := [(⟨"TicketTag$Memory", "isNear", "()Z"⟩, 8), (⟨"TicketTag$Memory", "goAway", "()V"⟩, 8), (⟨"TicketTag", "kindOfTag", "()I"⟩, 6), (⟨"TicketTag$Memory", "at", "(II)I"⟩, 8), (⟨"TicketTag", "parameter", "(I)I"⟩, 6), (⟨"TicketTag", "bitsOn", "()I"⟩, 6), (⟨"TicketTag", "latestValue", "()I"⟩, 6), (⟨"TicketTag$Memory", "latestOf", "(I)I"⟩, 8), (⟨"TicketTag$Memory", "isRight", "(I)Z"⟩, 8), (⟨"TicketTag", "centsOf", "(I)I"⟩, 6), (⟨"TicketTag", "capLeftBy", "(II)I"⟩, 6), (⟨"TicketTag", "chargedOn", "(II)I"⟩, 6), (⟨"TicketTag", "lastRideRecord", "()I"⟩, 6), (⟨"TicketTag", "isVoid", "(I)Z"⟩, 6), (⟨"TicketTag", "codeOf", "(I)I"⟩, 6), (⟨"TicketTag", "counterOf", "(I)I"⟩, 6)]
theorem lw_r1 : ∀ q ∈ lw_privs_1, lw_okq q := List.forall_mem_cons.mpr ⟨lw_p0, List.forall_mem_cons.mpr ⟨lw_p1, List.forall_mem_cons.mpr ⟨lw_p2, List.forall_mem_cons.mpr ⟨lw_p3, List.forall_mem_cons.mpr ⟨lw_p4, List.forall_mem_cons.mpr ⟨lw_p5, List.forall_mem_cons.mpr ⟨lw_p6, List.forall_mem_cons.mpr ⟨lw_p7, List.forall_mem_cons.mpr ⟨lw_p8, List.forall_mem_cons.mpr ⟨lw_p9, List.forall_mem_cons.mpr ⟨lw_p10, List.forall_mem_cons.mpr ⟨lw_p11, List.forall_mem_cons.mpr ⟨lw_p12, List.forall_mem_cons.mpr ⟨lw_p13, List.forall_mem_cons.mpr ⟨lw_p14, List.forall_mem_cons.mpr ⟨lw_p15, fun _ h => absurd h List.not_mem_nil⟩⟩⟩⟩⟩⟩⟩⟩⟩⟩⟩⟩⟩⟩⟩⟩
theorem lw_p16 : lw_okq (⟨"TicketTag", "numberOf", "(I)I"⟩, 6) := ⟨⟨by decide +kernel, by decide +kernel⟩, List.mem_of_getElem? (i := 13) (by decide +kernel), List.mem_of_getElem? (i := 183) (by decide +kernel), List.mem_of_getElem? (i := 184) (by decide +kernel)⟩
theorem lw_p17 : lw_okq (⟨"TicketTag", "journeyRecord", "(I)I"⟩, 6) := ⟨⟨by decide +kernel, by decide +kernel⟩, List.mem_of_getElem? (i := 13) (by decide +kernel), List.mem_of_getElem? (i := 188) (by decide +kernel), List.mem_of_getElem? (i := 189) (by decide +kernel)⟩
theorem lw_p18 : lw_okq (⟨"TicketTag", "lineOf", "(I)I"⟩, 6) := ⟨⟨by decide +kernel, by decide +kernel⟩, List.mem_of_getElem? (i := 13) (by decide +kernel), List.mem_of_getElem? (i := 195) (by decide +kernel), List.mem_of_getElem? (i := 196) (by decide +kernel)⟩
theorem lw_p19 : lw_okq (⟨"TicketTag", "zoneOf", "(I)I"⟩, 6) := ⟨⟨by decide +kernel, by decide +kernel⟩, List.mem_of_getElem? (i := 13) (by decide +kernel), List.mem_of_getElem? (i := 199) (by decide +kernel), List.mem_of_getElem? (i := 200) (by decide +kernel)⟩
theorem lw_p20 : lw_okq (⟨"TicketTag", "directionOf", "(I)I"⟩, 6) := ⟨⟨by decide +kernel, by decide +kernel⟩, List.mem_of_getElem? (i := 13) (by decide +kernel), List.mem_of_getElem? (i := 203) (by decide +kernel), List.mem_of_getElem? (i := 204) (by decide +kernel)⟩
theorem lw_p21 : lw_okq (⟨"TicketTag", "gateOf", "(I)I"⟩, 6) := ⟨⟨by decide +kernel, by decide +kernel⟩, List.mem_of_getElem? (i := 13) (by decide +kernel), List.mem_of_getElem? (i := 207) (by decide +kernel), List.mem_of_getElem? (i := 208) (by decide +kernel)⟩
theorem lw_p22 : lw_okq (⟨"TicketTag", "beganMinuteOf", "(I)I"⟩, 6) := ⟨⟨by decide +kernel, by decide +kernel⟩, List.mem_of_getElem? (i := 13) (by decide +kernel), List.mem_of_getElem? (i := 215) (by decide +kernel), List.mem_of_getElem? (i := 216) (by decide +kernel)⟩
theorem lw_p23 : lw_okq (⟨"TicketTag", "usedOf", "(I)I"⟩, 6) := ⟨⟨by decide +kernel, by decide +kernel⟩, List.mem_of_getElem? (i := 13) (by decide +kernel), List.mem_of_getElem? (i := 219) (by decide +kernel), List.mem_of_getElem? (i := 220) (by decide +kernel)⟩
theorem lw_p24 : lw_okq (⟨"TicketTag", "isJourneyWanting", "(I)Z"⟩, 6) := ⟨⟨by decide +kernel, by decide +kernel⟩, List.mem_of_getElem? (i := 13) (by decide +kernel), List.mem_of_getElem? (i := 223) (by decide +kernel), List.mem_of_getElem? (i := 224) (by decide +kernel)⟩
theorem lw_p25 : lw_okq (⟨"TicketTag$Memory", "wordsWritten", "()I"⟩, 8) := ⟨⟨by decide +kernel, by decide +kernel⟩, List.mem_of_getElem? (i := 21) (by decide +kernel), List.mem_of_getElem? (i := 231) (by decide +kernel), List.mem_of_getElem? (i := 232) (by decide +kernel)⟩
theorem lw_p26 : lw_okq (⟨"TicketTag$Memory", "timesTorn", "()I"⟩, 8) := ⟨⟨by decide +kernel, by decide +kernel⟩, List.mem_of_getElem? (i := 21) (by decide +kernel), List.mem_of_getElem? (i := 235) (by decide +kernel), List.mem_of_getElem? (i := 236) (by decide +kernel)⟩
theorem lw_p27 : lw_okq (⟨"java/lang/Throwable", "fillInStackTrace", "(I)Ljava/lang/Throwable;"⟩, 6) := ⟨⟨by decide +kernel, by decide +kernel⟩, List.mem_of_getElem? (i := 289) (by decide +kernel), List.mem_of_getElem? (i := 287) (by decide +kernel), List.mem_of_getElem? (i := 288) (by decide +kernel)⟩
theorem lw_p28 : lw_okq (⟨"TicketTag", "writeProduct", "(IIII)V"⟩, 6) := ⟨⟨by decide +kernel, by decide +kernel⟩, List.mem_of_getElem? (i := 13) (by decide +kernel), List.mem_of_getElem? (i := 335) (by decide +kernel), List.mem_of_getElem? (i := 336) (by decide +kernel)⟩
theorem lw_p29 : lw_okq (⟨"TicketTag$Memory", "write", "(III)Z"⟩, 8) := ⟨⟨by decide +kernel, by decide +kernel⟩, List.mem_of_getElem? (i := 21) (by decide +kernel), List.mem_of_getElem? (i := 339) (by decide +kernel), List.mem_of_getElem? (i := 340) (by decide +kernel)⟩
theorem lw_p30 : lw_okq (⟨"TicketTag$Memory", "isTearDue", "()Z"⟩, 8) := ⟨⟨by decide +kernel, by decide +kernel⟩, List.mem_of_getElem? (i := 21) (by decide +kernel), List.mem_of_getElem? (i := 343) (by decide +kernel), List.mem_of_getElem? (i := 344) (by decide +kernel)⟩
theorem lw_p31 : lw_okq (⟨"TicketTag", "draftValue", "(III)V"⟩, 6) := ⟨⟨by decide +kernel, by decide +kernel⟩, List.mem_of_getElem? (i := 13) (by decide +kernel), List.mem_of_getElem? (i := 348) (by decide +kernel), List.mem_of_getElem? (i := 349) (by decide +kernel)⟩
def lw_privs_2 : List (MethodName × Nat) := [(⟨"TicketTag", "numberOf", "(I)I"⟩, 6), (⟨"TicketTag", "journeyRecord", "(I)I"⟩, 6), (⟨"TicketTag", "lineOf", "(I)I"⟩, 6), (⟨"TicketTag", "zoneOf", "(I)I"⟩, 6), (⟨"TicketTag", "directionOf", "(I)I"⟩, 6), (⟨"TicketTag", "gateOf", "(I)I"⟩, 6), (⟨"TicketTag", "beganMinuteOf", "(I)I"⟩, 6), (⟨"TicketTag", "usedOf", "(I)I"⟩, 6), (⟨"TicketTag", "isJourneyWanting", "(I)Z"⟩, 6), (⟨"TicketTag$Memory", "wordsWritten", "()I"⟩, 8), (⟨"TicketTag$Memory", "timesTorn", "()I"⟩, 8), (⟨"java/lang/Throwable", "fillInStackTrace", "(I)Ljava/lang/Throwable;"⟩, 6), (⟨"TicketTag", "writeProduct", "(IIII)V"⟩, 6), (⟨"TicketTag$Memory", "write", "(III)Z"⟩, 8), (⟨"TicketTag$Memory", "isTearDue", "()Z"⟩, 8), (⟨"TicketTag", "draftValue", "(III)V"⟩, 6)]
theorem lw_r2 : ∀ q ∈ lw_privs_2, lw_okq q := List.forall_mem_cons.mpr ⟨lw_p16, List.forall_mem_cons.mpr ⟨lw_p17, List.forall_mem_cons.mpr ⟨lw_p18, List.forall_mem_cons.mpr ⟨lw_p19, List.forall_mem_cons.mpr ⟨lw_p20, List.forall_mem_cons.mpr ⟨lw_p21, List.forall_mem_cons.mpr ⟨lw_p22, List.forall_mem_cons.mpr ⟨lw_p23, List.forall_mem_cons.mpr ⟨lw_p24, List.forall_mem_cons.mpr ⟨lw_p25, List.forall_mem_cons.mpr ⟨lw_p26, List.forall_mem_cons.mpr ⟨lw_p27, List.forall_mem_cons.mpr ⟨lw_p28, List.forall_mem_cons.mpr ⟨lw_p29, List.forall_mem_cons.mpr ⟨lw_p30, List.forall_mem_cons.mpr ⟨lw_p31, fun _ h => absurd h List.not_mem_nil⟩⟩⟩⟩⟩⟩⟩⟩⟩⟩⟩⟩⟩⟩⟩⟩
theorem lw_p32 : lw_okq (⟨"TicketTag$Memory", "draft", "(IIIIII)V"⟩, 8) := ⟨⟨by decide +kernel, by decide +kernel⟩, List.mem_of_getElem? (i := 21) (by decide +kernel), List.mem_of_getElem? (i := 352) (by decide +kernel), List.mem_of_getElem? (i := 353) (by decide +kernel)⟩
theorem lw_p33 : lw_okq (⟨"TicketTag$Memory", "writeTwin", "(I)Z"⟩, 8) := ⟨⟨by decide +kernel, by decide +kernel⟩, List.mem_of_getElem? (i := 21) (by decide +kernel), List.mem_of_getElem? (i := 356) (by decide +kernel), List.mem_of_getElem? (i := 357) (by decide +kernel)⟩
theorem lw_p34 : lw_okq (⟨"TicketTag$Memory", "writeDraft", "(II)Z"⟩, 8) := ⟨⟨by decide +kernel, by decide +kernel⟩, List.mem_of_getElem? (i := 21) (by decide +kernel), List.mem_of_getElem? (i := 361) (by decide +kernel), List.mem_of_getElem? (i := 362) (by decide +kernel)⟩
theorem lw_p35 : lw_okq (⟨"TicketTag$Memory", "comeNear", "()V"⟩, 8) := ⟨⟨by decide +kernel, by decide +kernel⟩, List.mem_of_getElem? (i := 21) (by decide +kernel), List.mem_of_getElem? (i := 395) (by decide +kernel), List.mem_of_getElem? (i := 396) (by decide +kernel)⟩
theorem lw_p36 : lw_okq (⟨"TicketTag", "takeBackVoidRide", "()Z"⟩, 6) := ⟨⟨by decide +kernel, by decide +kernel⟩, List.mem_of_getElem? (i := 13) (by decide +kernel), List.mem_of_getElem? (i := 399) (by decide +kernel), List.mem_of_getElem? (i := 400) (by decide +kernel)⟩
theorem lw_p37 : lw_okq (⟨"TicketTag$Memory", "erase", "(I)Z"⟩, 8) := ⟨⟨by decide +kernel, by decide +kernel⟩, List.mem_of_getElem? (i := 21) (by decide +kernel), List.mem_of_getElem? (i := 403) (by decide +kernel), List.mem_of_getElem? (i := 404) (by decide +kernel)⟩
theorem lw_p38 : lw_okq (⟨"TicketTag", "finishLastRide", "()Z"⟩, 6) := ⟨⟨by decide +kernel, by decide +kernel⟩, List.mem_of_getElem? (i := 13) (by decide +kernel), List.mem_of_getElem? (i := 407) (by decide +kernel), List.mem_of_getElem? (i := 408) (by decide +kernel)⟩
theorem lw_p39 : lw_okq (⟨"TicketTag", "writeJourneyOf", "(I)Z"⟩, 6) := ⟨⟨by decide +kernel, by decide +kernel⟩, List.mem_of_getElem? (i := 13) (by decide +kernel), List.mem_of_getElem? (i := 411) (by decide +kernel), List.mem_of_getElem? (i := 412) (by decide +kernel)⟩
theorem lw_p40 : lw_okq (⟨"TicketTag", "rodeAt", "(I)I"⟩, 6) := ⟨⟨by decide +kernel, by decide +kernel⟩, List.mem_of_getElem? (i := 13) (by decide +kernel), List.mem_of_getElem? (i := 415) (by decide +kernel), List.mem_of_getElem? (i := 416) (by decide +kernel)⟩
theorem lw_p41 : lw_okq (⟨"TicketTag", "beganAt", "(I)I"⟩, 6) := ⟨⟨by decide +kernel, by decide +kernel⟩, List.mem_of_getElem? (i := 13) (by decide +kernel), List.mem_of_getElem? (i := 419) (by decide +kernel), List.mem_of_getElem? (i := 420) (by decide +kernel)⟩
theorem lw_p42 : lw_okq (⟨"TicketTag", "reasonAtGate", "()I"⟩, 6) := ⟨⟨by decide +kernel, by decide +kernel⟩, List.mem_of_getElem? (i := 13) (by decide +kernel), List.mem_of_getElem? (i := 433) (by decide +kernel), List.mem_of_getElem? (i := 434) (by decide +kernel)⟩
theorem lw_p43 : lw_okq (⟨"TicketTag", "isOpenFor", "(II)Z"⟩, 6) := ⟨⟨by decide +kernel, by decide +kernel⟩, List.mem_of_getElem? (i := 13) (by decide +kernel), List.mem_of_getElem? (i := 437) (by decide +kernel), List.mem_of_getElem? (i := 438) (by decide +kernel)⟩
theorem lw_p44 : lw_okq (⟨"TicketTag", "now", "()I"⟩, 6) := ⟨⟨by decide +kernel, by decide +kernel⟩, List.mem_of_getElem? (i := 13) (by decide +kernel), List.mem_of_getElem? (i := 441) (by decide +kernel), List.mem_of_getElem? (i := 442) (by decide +kernel)⟩
theorem lw_p45 : lw_okq (⟨"TicketTag", "takeRide", "(IIII)I"⟩, 6) := ⟨⟨by decide +kernel, by decide +kernel⟩, List.mem_of_getElem? (i := 13) (by decide +kernel), List.mem_of_getElem? (i := 445) (by decide +kernel), List.mem_of_getElem? (i := 446) (by decide +kernel)⟩
theorem lw_p46 : lw_okq (⟨"TicketTag", "isFreeAfter", "(II)Z"⟩, 6) := ⟨⟨by decide +kernel, by decide +kernel⟩, List.mem_of_getElem? (i := 13) (by decide +kernel), List.mem_of_getElem? (i := 449) (by decide +kernel), List.mem_of_getElem? (i := 450) (by decide +kernel)⟩
theorem lw_p47 : lw_okq (⟨"TicketTag", "beganWithin", "(III)Z"⟩, 6) := ⟨⟨by decide +kernel, by decide +kernel⟩, List.mem_of_getElem? (i := 13) (by decide +kernel), List.mem_of_getElem? (i := 453) (by decide +kernel), List.mem_of_getElem? (i := 454) (by decide +kernel)⟩
def lw_privs_3 : List (MethodName × Nat) := [(⟨"TicketTag$Memory", "draft", "(IIIIII)V"⟩, 8), (⟨"TicketTag$Memory", "writeTwin", "(I)Z"⟩, 8), (⟨"TicketTag$Memory", "writeDraft", "(II)Z"⟩, 8), (⟨"TicketTag$Memory", "comeNear", "()V"⟩, 8), (⟨"TicketTag", "takeBackVoidRide", "()Z"⟩, 6), (⟨"TicketTag$Memory", "erase", "(I)Z"⟩, 8), (⟨"TicketTag", "finishLastRide", "()Z"⟩, 6), (⟨"TicketTag", "writeJourneyOf", "(I)Z"⟩, 6), (⟨"TicketTag", "rodeAt", "(I)I"⟩, 6), (⟨"TicketTag", "beganAt", "(I)I"⟩, 6), (⟨"TicketTag", "reasonAtGate", "()I"⟩, 6), (⟨"TicketTag", "isOpenFor", "(II)Z"⟩, 6), (⟨"TicketTag", "now", "()I"⟩, 6), (⟨"TicketTag", "takeRide", "(IIII)I"⟩, 6), (⟨"TicketTag", "isFreeAfter", "(II)Z"⟩, 6), (⟨"TicketTag", "beganWithin", "(III)Z"⟩, 6)]
theorem lw_r3 : ∀ q ∈ lw_privs_3, lw_okq q := List.forall_mem_cons.mpr ⟨lw_p32, List.forall_mem_cons.mpr ⟨lw_p33, List.forall_mem_cons.mpr ⟨lw_p34, List.forall_mem_cons.mpr ⟨lw_p35, List.forall_mem_cons.mpr ⟨lw_p36, List.forall_mem_cons.mpr ⟨lw_p37, List.forall_mem_cons.mpr ⟨lw_p38, List.forall_mem_cons.mpr ⟨lw_p39, List.forall_mem_cons.mpr ⟨lw_p40, List.forall_mem_cons.mpr ⟨lw_p41, List.forall_mem_cons.mpr ⟨lw_p42, List.forall_mem_cons.mpr ⟨lw_p43, List.forall_mem_cons.mpr ⟨lw_p44, List.forall_mem_cons.mpr ⟨lw_p45, List.forall_mem_cons.mpr ⟨lw_p46, List.forall_mem_cons.mpr ⟨lw_p47, fun _ h => absurd h List.not_mem_nil⟩⟩⟩⟩⟩⟩⟩⟩⟩⟩⟩⟩⟩⟩⟩⟩
theorem lw_p48 : lw_okq (⟨"TicketTag", "rideFree", "(III)I"⟩, 6) := ⟨⟨by decide +kernel, by decide +kernel⟩, List.mem_of_getElem? (i := 13) (by decide +kernel), List.mem_of_getElem? (i := 457) (by decide +kernel), List.mem_of_getElem? (i := 458) (by decide +kernel)⟩
theorem lw_p49 : lw_okq (⟨"TicketTag", "manner", "(II)I"⟩, 6) := ⟨⟨by decide +kernel, by decide +kernel⟩, List.mem_of_getElem? (i := 13) (by decide +kernel), List.mem_of_getElem? (i := 461) (by decide +kernel), List.mem_of_getElem? (i := 462) (by decide +kernel)⟩
theorem lw_p50 : lw_okq (⟨"TicketTag", "newestRide", "()I"⟩, 6) := ⟨⟨by decide +kernel, by decide +kernel⟩, List.mem_of_getElem? (i := 13) (by decide +kernel), List.mem_of_getElem? (i := 465) (by decide +kernel), List.mem_of_getElem? (i := 466) (by decide +kernel)⟩
theorem lw_p51 : lw_okq (⟨"TicketTag", "rideOnPass", "(III)I"⟩, 6) := ⟨⟨by decide +kernel, by decide +kernel⟩, List.mem_of_getElem? (i := 13) (by decide +kernel), List.mem_of_getElem? (i := 469) (by decide +kernel), List.mem_of_getElem? (i := 470) (by decide +kernel)⟩
theorem lw_p52 : lw_okq (⟨"TicketTag", "reasonByPass", "(II)I"⟩, 6) := ⟨⟨by decide +kernel, by decide +kernel⟩, List.mem_of_getElem? (i := 13) (by decide +kernel), List.mem_of_getElem? (i := 473) (by decide +kernel), List.mem_of_getElem? (i := 474) (by decide +kernel)⟩
theorem lw_p53 : lw_okq (⟨"TicketTag", "refuse", "(I)I"⟩, 6) := ⟨⟨by decide +kernel, by decide +kernel⟩, List.mem_of_getElem? (i := 13) (by decide +kernel), List.mem_of_getElem? (i := 477) (by decide +kernel), List.mem_of_getElem? (i := 478) (by decide +kernel)⟩
theorem lw_p54 : lw_okq (⟨"TicketTag", "draftNewTransfer", "(IIII)V"⟩, 6) := ⟨⟨by decide +kernel, by decide +kernel⟩, List.mem_of_getElem? (i := 13) (by decide +kernel), List.mem_of_getElem? (i := 481) (by decide +kernel), List.mem_of_getElem? (i := 482) (by decide +kernel)⟩
theorem lw_p55 : lw_okq (⟨"TicketTag", "rideOnCarnet", "(II)I"⟩, 6) := ⟨⟨by decide +kernel, by decide +kernel⟩, List.mem_of_getElem? (i := 13) (by decide +kernel), List.mem_of_getElem? (i := 485) (by decide +kernel), List.mem_of_getElem? (i := 486) (by decide +kernel)⟩
theorem lw_p56 : lw_okq (⟨"TicketTag", "writeNextBit", "()Z"⟩, 6) := ⟨⟨by decide +kernel, by decide +kernel⟩, List.mem_of_getElem? (i := 13) (by decide +kernel), List.mem_of_getElem? (i := 489) (by decide +kernel), List.mem_of_getElem? (i := 490) (by decide +kernel)⟩
theorem lw_p57 : lw_okq (⟨"TicketTag", "rideOnPurse", "(III)I"⟩, 6) := ⟨⟨by decide +kernel, by decide +kernel⟩, List.mem_of_getElem? (i := 13) (by decide +kernel), List.mem_of_getElem? (i := 496) (by decide +kernel), List.mem_of_getElem? (i := 497) (by decide +kernel)⟩
theorem lw_p58 : lw_okq (⟨"TicketTag", "chargeBy", "(III)I"⟩, 6) := ⟨⟨by decide +kernel, by decide +kernel⟩, List.mem_of_getElem? (i := 13) (by decide +kernel), List.mem_of_getElem? (i := 500) (by decide +kernel), List.mem_of_getElem? (i := 501) (by decide +kernel)⟩
theorem lw_p59 : lw_okq (⟨"TicketTag", "reasonAgainstTopUp", "(II)I"⟩, 6) := ⟨⟨by decide +kernel, by decide +kernel⟩, List.mem_of_getElem? (i := 13) (by decide +kernel), List.mem_of_getElem? (i := 515) (by decide +kernel), List.mem_of_getElem? (i := 516) (by decide +kernel)⟩
theorem lw_p60 : lw_okq (⟨"TicketTag$Memory", "planTear", "(II)V"⟩, 8) := ⟨⟨by decide +kernel, by decide +kernel⟩, List.mem_of_getElem? (i := 21) (by decide +kernel), List.mem_of_getElem? (i := 527) (by decide +kernel), List.mem_of_getElem? (i := 528) (by decide +kernel)⟩
theorem lw_p61 : lw_okq (⟨"TicketTagModel", "isProduct", "(IIII)Z"⟩, 14) := ⟨⟨by decide +kernel, by decide +kernel⟩, List.mem_of_getElem? (i := 563) (by decide +kernel), List.mem_of_getElem? (i := 620) (by decide +kernel), List.mem_of_getElem? (i := 621) (by decide +kernel)⟩
theorem lw_p62 : lw_okq (⟨"TicketTagModel", "fails", "(IZ)Z"⟩, 14) := ⟨⟨by decide +kernel, by decide +kernel⟩, List.mem_of_getElem? (i := 563) (by decide +kernel), List.mem_of_getElem? (i := 628) (by decide +kernel), List.mem_of_getElem? (i := 629) (by decide +kernel)⟩
theorem lw_p63 : lw_okq (⟨"TicketTagModel", "kind", "()I"⟩, 14) := ⟨⟨by decide +kernel, by decide +kernel⟩, List.mem_of_getElem? (i := 563) (by decide +kernel), List.mem_of_getElem? (i := 632) (by decide +kernel), List.mem_of_getElem? (i := 633) (by decide +kernel)⟩
def lw_privs_4 : List (MethodName × Nat) := [(⟨"TicketTag", "rideFree", "(III)I"⟩, 6), (⟨"TicketTag", "manner", "(II)I"⟩, 6), (⟨"TicketTag", "newestRide", "()I"⟩, 6), (⟨"TicketTag", "rideOnPass", "(III)I"⟩, 6), (⟨"TicketTag", "reasonByPass", "(II)I"⟩, 6), (⟨"TicketTag", "refuse", "(I)I"⟩, 6), (⟨"TicketTag", "draftNewTransfer", "(IIII)V"⟩, 6), (⟨"TicketTag", "rideOnCarnet", "(II)I"⟩, 6), (⟨"TicketTag", "writeNextBit", "()Z"⟩, 6), (⟨"TicketTag", "rideOnPurse", "(III)I"⟩, 6), (⟨"TicketTag", "chargeBy", "(III)I"⟩, 6), (⟨"TicketTag", "reasonAgainstTopUp", "(II)I"⟩, 6), (⟨"TicketTag$Memory", "planTear", "(II)V"⟩, 8), (⟨"TicketTagModel", "isProduct", "(IIII)Z"⟩, 14), (⟨"TicketTagModel", "fails", "(IZ)Z"⟩, 14), (⟨"TicketTagModel", "kind", "()I"⟩, 14)]
theorem lw_r4 : ∀ q ∈ lw_privs_4, lw_okq q := List.forall_mem_cons.mpr ⟨lw_p48, List.forall_mem_cons.mpr ⟨lw_p49, List.forall_mem_cons.mpr ⟨lw_p50, List.forall_mem_cons.mpr ⟨lw_p51, List.forall_mem_cons.mpr ⟨lw_p52, List.forall_mem_cons.mpr ⟨lw_p53, List.forall_mem_cons.mpr ⟨lw_p54, List.forall_mem_cons.mpr ⟨lw_p55, List.forall_mem_cons.mpr ⟨lw_p56, List.forall_mem_cons.mpr ⟨lw_p57, List.forall_mem_cons.mpr ⟨lw_p58, List.forall_mem_cons.mpr ⟨lw_p59, List.forall_mem_cons.mpr ⟨lw_p60, List.forall_mem_cons.mpr ⟨lw_p61, List.forall_mem_cons.mpr ⟨lw_p62, List.forall_mem_cons.mpr ⟨lw_p63, fun _ h => absurd h List.not_mem_nil⟩⟩⟩⟩⟩⟩⟩⟩⟩⟩⟩⟩⟩⟩⟩⟩
theorem lw_p64 : lw_okq (⟨"TicketTagModel", "at", "(II)I"⟩, 14) := ⟨⟨by decide +kernel, by decide +kernel⟩, List.mem_of_getElem? (i := 563) (by decide +kernel), List.mem_of_getElem? (i := 636) (by decide +kernel), List.mem_of_getElem? (i := 637) (by decide +kernel)⟩
theorem lw_p65 : lw_okq (⟨"TicketTagModel", "write", "(III)V"⟩, 14) := ⟨⟨by decide +kernel, by decide +kernel⟩, List.mem_of_getElem? (i := 563) (by decide +kernel), List.mem_of_getElem? (i := 640) (by decide +kernel), List.mem_of_getElem? (i := 641) (by decide +kernel)⟩
theorem lw_p66 : lw_okq (⟨"TicketTagModel", "clear", "()V"⟩, 14) := ⟨⟨by decide +kernel, by decide +kernel⟩, List.mem_of_getElem? (i := 563) (by decide +kernel), List.mem_of_getElem? (i := 644) (by decide +kernel), List.mem_of_getElem? (i := 645) (by decide +kernel)⟩
theorem lw_p67 : lw_okq (⟨"TicketTagModel", "writeTwin", "(I)V"⟩, 14) := ⟨⟨by decide +kernel, by decide +kernel⟩, List.mem_of_getElem? (i := 563) (by decide +kernel), List.mem_of_getElem? (i := 648) (by decide +kernel), List.mem_of_getElem? (i := 649) (by decide +kernel)⟩
theorem lw_p68 : lw_okq (⟨"TicketTagModel", "latest", "(I)I"⟩, 14) := ⟨⟨by decide +kernel, by decide +kernel⟩, List.mem_of_getElem? (i := 563) (by decide +kernel), List.mem_of_getElem? (i := 652) (by decide +kernel), List.mem_of_getElem? (i := 653) (by decide +kernel)⟩
theorem lw_p69 : lw_okq (⟨"TicketTagModel", "isRight", "(I)Z"⟩, 14) := ⟨⟨by decide +kernel, by decide +kernel⟩, List.mem_of_getElem? (i := 563) (by decide +kernel), List.mem_of_getElem? (i := 656) (by decide +kernel), List.mem_of_getElem? (i := 657) (by decide +kernel)⟩
theorem lw_p70 : lw_okq (⟨"TicketTagModel", "writeRecord", "(I)V"⟩, 14) := ⟨⟨by decide +kernel, by decide +kernel⟩, List.mem_of_getElem? (i := 563) (by decide +kernel), List.mem_of_getElem? (i := 664) (by decide +kernel), List.mem_of_getElem? (i := 665) (by decide +kernel)⟩
theorem lw_p71 : lw_okq (⟨"TicketTagModel", "isVoid", "(I)Z"⟩, 14) := ⟨⟨by decide +kernel, by decide +kernel⟩, List.mem_of_getElem? (i := 563) (by decide +kernel), List.mem_of_getElem? (i := 680) (by decide +kernel), List.mem_of_getElem? (i := 681) (by decide +kernel)⟩
theorem lw_p72 : lw_okq (⟨"TicketTagModel", "ridesTaken", "()I"⟩, 14) := ⟨⟨by decide +kernel, by decide +kernel⟩, List.mem_of_getElem? (i := 563) (by decide +kernel), List.mem_of_getElem? (i := 684) (by decide +kernel), List.mem_of_getElem? (i := 685) (by decide +kernel)⟩
theorem lw_p73 : lw_okq (⟨"TicketTagModel", "lastBlock", "()I"⟩, 14) := ⟨⟨by decide +kernel, by decide +kernel⟩, List.mem_of_getElem? (i := 563) (by decide +kernel), List.mem_of_getElem? (i := 688) (by decide +kernel), List.mem_of_getElem? (i := 689) (by decide +kernel)⟩
theorem lw_p74 : lw_okq (⟨"TicketTagModel", "hasJourney", "(I)Z"⟩, 14) := ⟨⟨by decide +kernel, by decide +kernel⟩, List.mem_of_getElem? (i := 563) (by decide +kernel), List.mem_of_getElem? (i := 692) (by decide +kernel), List.mem_of_getElem? (i := 693) (by decide +kernel)⟩
theorem lw_p75 : lw_okq (⟨"TicketTagModel", "placeOf", "(I)I"⟩, 14) := ⟨⟨by decide +kernel, by decide +kernel⟩, List.mem_of_getElem? (i := 563) (by decide +kernel), List.mem_of_getElem? (i := 696) (by decide +kernel), List.mem_of_getElem? (i := 697) (by decide +kernel)⟩
theorem lw_p76 : lw_okq (⟨"TicketTagModel", "writeJourney", "(I)V"⟩, 14) := ⟨⟨by decide +kernel, by decide +kernel⟩, List.mem_of_getElem? (i := 563) (by decide +kernel), List.mem_of_getElem? (i := 700) (by decide +kernel), List.mem_of_getElem? (i := 701) (by decide +kernel)⟩
theorem lw_p77 : lw_okq (⟨"TicketTagModel", "began", "(I)I"⟩, 14) := ⟨⟨by decide +kernel, by decide +kernel⟩, List.mem_of_getElem? (i := 563) (by decide +kernel), List.mem_of_getElem? (i := 704) (by decide +kernel), List.mem_of_getElem? (i := 705) (by decide +kernel)⟩
theorem lw_p78 : lw_okq (⟨"TicketTagModel", "used", "(I)I"⟩, 14) := ⟨⟨by decide +kernel, by decide +kernel⟩, List.mem_of_getElem? (i := 563) (by decide +kernel), List.mem_of_getElem? (i := 708) (by decide +kernel), List.mem_of_getElem? (i := 709) (by decide +kernel)⟩
theorem lw_p79 : lw_okq (⟨"TicketTagModel", "refuse", "(I)I"⟩, 14) := ⟨⟨by decide +kernel, by decide +kernel⟩, List.mem_of_getElem? (i := 563) (by decide +kernel), List.mem_of_getElem? (i := 716) (by decide +kernel), List.mem_of_getElem? (i := 717) (by decide +kernel)⟩
def lw_privs_5 : List (MethodName × Nat) := [(⟨"TicketTagModel", "at", "(II)I"⟩, 14), (⟨"TicketTagModel", "write", "(III)V"⟩, 14), (⟨"TicketTagModel", "clear", "()V"⟩, 14), (⟨"TicketTagModel", "writeTwin", "(I)V"⟩, 14), (⟨"TicketTagModel", "latest", "(I)I"⟩, 14), (⟨"TicketTagModel", "isRight", "(I)Z"⟩, 14), (⟨"TicketTagModel", "writeRecord", "(I)V"⟩, 14), (⟨"TicketTagModel", "isVoid", "(I)Z"⟩, 14), (⟨"TicketTagModel", "ridesTaken", "()I"⟩, 14), (⟨"TicketTagModel", "lastBlock", "()I"⟩, 14), (⟨"TicketTagModel", "hasJourney", "(I)Z"⟩, 14), (⟨"TicketTagModel", "placeOf", "(I)I"⟩, 14), (⟨"TicketTagModel", "writeJourney", "(I)V"⟩, 14), (⟨"TicketTagModel", "began", "(I)I"⟩, 14), (⟨"TicketTagModel", "used", "(I)I"⟩, 14), (⟨"TicketTagModel", "refuse", "(I)I"⟩, 14)]
theorem lw_r5 : ∀ q ∈ lw_privs_5, lw_okq q := List.forall_mem_cons.mpr ⟨lw_p64, List.forall_mem_cons.mpr ⟨lw_p65, List.forall_mem_cons.mpr ⟨lw_p66, List.forall_mem_cons.mpr ⟨lw_p67, List.forall_mem_cons.mpr ⟨lw_p68, List.forall_mem_cons.mpr ⟨lw_p69, List.forall_mem_cons.mpr ⟨lw_p70, List.forall_mem_cons.mpr ⟨lw_p71, List.forall_mem_cons.mpr ⟨lw_p72, List.forall_mem_cons.mpr ⟨lw_p73, List.forall_mem_cons.mpr ⟨lw_p74, List.forall_mem_cons.mpr ⟨lw_p75, List.forall_mem_cons.mpr ⟨lw_p76, List.forall_mem_cons.mpr ⟨lw_p77, List.forall_mem_cons.mpr ⟨lw_p78, List.forall_mem_cons.mpr ⟨lw_p79, fun _ h => absurd h List.not_mem_nil⟩⟩⟩⟩⟩⟩⟩⟩⟩⟩⟩⟩⟩⟩⟩⟩
theorem lw_p80 : lw_okq (⟨"TicketTagModel", "now", "()I"⟩, 14) := ⟨⟨by decide +kernel, by decide +kernel⟩, List.mem_of_getElem? (i := 563) (by decide +kernel), List.mem_of_getElem? (i := 720) (by decide +kernel), List.mem_of_getElem? (i := 721) (by decide +kernel)⟩
theorem lw_p81 : lw_okq (⟨"TicketTagModel", "ride", "(IIIIIIII)V"⟩, 14) := ⟨⟨by decide +kernel, by decide +kernel⟩, List.mem_of_getElem? (i := 563) (by decide +kernel), List.mem_of_getElem? (i := 727) (by decide +kernel), List.mem_of_getElem? (i := 728) (by decide +kernel)⟩
theorem lw_p82 : lw_okq (⟨"TicketTagModel", "done", "(I)I"⟩, 14) := ⟨⟨by decide +kernel, by decide +kernel⟩, List.mem_of_getElem? (i := 563) (by decide +kernel), List.mem_of_getElem? (i := 731) (by decide +kernel), List.mem_of_getElem? (i := 732) (by decide +kernel)⟩
theorem lw_p83 : lw_okq (⟨"TicketTagModel", "pass", "(III)I"⟩, 14) := ⟨⟨by decide +kernel, by decide +kernel⟩, List.mem_of_getElem? (i := 563) (by decide +kernel), List.mem_of_getElem? (i := 735) (by decide +kernel), List.mem_of_getElem? (i := 736) (by decide +kernel)⟩
theorem lw_p84 : lw_okq (⟨"TicketTagModel", "carnet", "(III)I"⟩, 14) := ⟨⟨by decide +kernel, by decide +kernel⟩, List.mem_of_getElem? (i := 563) (by decide +kernel), List.mem_of_getElem? (i := 739) (by decide +kernel), List.mem_of_getElem? (i := 740) (by decide +kernel)⟩
theorem lw_p85 : lw_okq (⟨"TicketTagModel", "purse", "(IIII)I"⟩, 14) := ⟨⟨by decide +kernel, by decide +kernel⟩, List.mem_of_getElem? (i := 563) (by decide +kernel), List.mem_of_getElem? (i := 743) (by decide +kernel), List.mem_of_getElem? (i := 744) (by decide +kernel)⟩
def lw_privs_6 : List (MethodName × Nat) := [(⟨"TicketTagModel", "now", "()I"⟩, 14), (⟨"TicketTagModel", "ride", "(IIIIIIII)V"⟩, 14), (⟨"TicketTagModel", "done", "(I)I"⟩, 14), (⟨"TicketTagModel", "pass", "(III)I"⟩, 14), (⟨"TicketTagModel", "carnet", "(III)I"⟩, 14), (⟨"TicketTagModel", "purse", "(IIII)I"⟩, 14)]
theorem lw_r6 : ∀ q ∈ lw_privs_6, lw_okq q := List.forall_mem_cons.mpr ⟨lw_p80, List.forall_mem_cons.mpr ⟨lw_p81, List.forall_mem_cons.mpr ⟨lw_p82, List.forall_mem_cons.mpr ⟨lw_p83, List.forall_mem_cons.mpr ⟨lw_p84, List.forall_mem_cons.mpr ⟨lw_p85, fun _ h => absurd h List.not_mem_nil⟩⟩⟩⟩⟩⟩
def lw_privs : List (MethodName × Nat) := lw_privs_1 ++ (lw_privs_2 ++ (lw_privs_3 ++ (lw_privs_4 ++ (lw_privs_5 ++ (lw_privs_6)))))
def lw_tbl : List Cond := k2_sels lw_privs ++ tables_1
theorem lw_privs_ok : ∀ q ∈ lw_privs, lw_okq q := by
  show ∀ q ∈ lw_privs_1 ++ (lw_privs_2 ++ (lw_privs_3 ++ (lw_privs_4 ++ (lw_privs_5 ++ (lw_privs_6))))), lw_okq q
  exact List.forall_mem_append.mpr ⟨lw_r1, List.forall_mem_append.mpr ⟨lw_r2, List.forall_mem_append.mpr ⟨lw_r3, List.forall_mem_append.mpr ⟨lw_r4, List.forall_mem_append.mpr ⟨lw_r5, lw_r6⟩⟩⟩⟩⟩
end
section
/-! OWN ROWS OVER THE MACHINE: a contract whose method may throw; a call of it; a catch; the ends of a method -/
section EVM
variable {p : Program} {l : Launch} {e : Env} {R : Room} {s : State} {m : MethodId} {args : Array Value} {below : List Frame} {meth : Method} {c : Code} {H : Heap} {locs : List Loc} {cells slots : Nat} {Q : State → Prop}
/-- how a method ends, by returning or by throwing -/
def ev_QE (Qc : Nat → Array Value → State → Outcome → State → Prop) (free : Addr → Prop) (a : Array Value) (st : State) (o : Outcome) (t : State) : Prop :=
  ∃ (k : Nat) (L : List Loc), Qc k a st o t ∧ st.WarmedH t.vm ∧ st.sameButNew ({ t with vm := st.vm } : State) L k (6 * k) ∧ ∀ q ∈ L, free q.base
def ev_Met (l : Launch) (y : MethodName) (cw : Jvm.Cond) (rm : Room) (Pc : Array Value → State → Prop) (Qc : Nat → Array Value → State → Outcome → State → Prop) (free : Addr → Prop) : Prop :=
  MetFree l y (headSpec [cw] rm) Pc (fun _ _ _ _ _ => True) (ev_QE Qc free)
def ev_MQ (below : List Frame) (Qc : Nat → Array Value → State → Outcome → State → Prop) (a : Array Value) (s : State) (free : Addr → Prop) : State → Prop := fun t =>
  ∃ o, t.status = .running ∧ Ended t below o ∧ ev_QE Qc free a s o t
theorem ev_mono {Q Q2 : State → Prop} {g : JFrame} (h : ∀ t, Q t → Q2 t) (k : W p l e R s m args below meth c H locs cells slots Q g) : W p l e R s m args below meth c H locs cells slots Q2 g := by
  intro T hT X
  obtain ⟨t, a, b⟩ := k T hT X
  exact ⟨t, a, h t b⟩
/-- a contract out of a walk of the body -/
theorem ev_ofW {y : MethodName} {cw : Jvm.Cond} {rm : Room} {Pc : Array Value → State → Prop} {Qc : Nat → Array Value → State → Outcome → State → Prop} {free : Addr → Prop} {cc : ByteArray} {maxL : Nat} {ret : Option FieldType}
    (hy : plainName y.cls = true) (hcw : cw = .code y cc maxL ret ∨ ∃ hh, cw = .codeWith y cc maxL ret hh)
    (body : ∀ p e s m args below meth c s₁, BodyLoose p l y (headSpec [cw] rm) cc maxL ret e s m args below meth c s₁ → c.maxLocals = maxL → Pc args s →
      W p l e rm s m args below meth c s.heap [] 0 0 (ev_MQ below Qc args s free) (entryFrame m args maxL)) : ev_Met l y cw rm Pc Qc free := by
  refine MetFree.of_bodyS (code := cc) (maxLocals := maxL) (ret := ret) hy ?_ ?_
  · intro args s m h hn
    have h1 : cw.before args s = true := atoms_spec (ws := [cw]) h _ List.mem_cons_self
    rcases hcw with rfl | ⟨hh, rfl⟩
    · obtain ⟨meth, c, h1, h2, h3, h4, h5, h6, -, -⟩ := Cond.code_spec hn h1
      exact ⟨meth, c, h1, h2, h3, h4, h5, h6⟩
    · obtain ⟨m', meth, c, hn', h1, h2, h3, h4, -, h5, h6, -⟩ := Cond.codeWith_spec h1
      cases hn.symm.trans hn'
      exact ⟨meth, c, h1, h2, h3, h4, h5, h6⟩
  · intro p e s m args below meth c s₁ B hml hP _
    have hh0 : s₁.heap = s.heap := by rw [B.state]; rfl
    obtain ⟨t, a1, o, b1, b2, b3⟩ := body p e s m args below meth c s₁ B hml hP s₁ hh0 (Stand.of_body B)
    exact ⟨t, o, a1, b1, b2, b3⟩
/-- a call: it comes back, or it throws -/
theorem ev_called {T : State} (X : Stand p l e R s m args below meth c T locs cells slots) {y : MethodName} {cw : Jvm.Cond} {rm : Room} {Pc : Array Value → State → Prop} {Qc : Nat → Array Value → State → Outcome → State → Prop} {maxL : Nat} {free : Addr → Prop} (hM : ev_Met l y cw rm Pc Qc free)
    (hframes : rm.frames + 1 ≤ R.frames) (hlocals : 12 + (maxL + 11) + rm.locals ≤ R.locals) (hcells : cells + rm.cells ≤ R.cells) (hslots : slots + rm.slots ≤ R.slots)
    {g : JFrame} (hg : g.method = m) (hsize : g.locals.size = c.maxLocals) {ig : Instr} {len : Nat} (hdg : decode c.code g.pc = .ok (ig, len)) (hw : 2 * g.monitorRoom + (g.stack.map fun v => v.category).sum ≤ 12)
    {mk : MethodId} {methY : Method} {cY : Code} {kY : Class} (hn : T.methodNamed? y = some mk) (hmY : T.vm.method? mk = some methY) (hcY : methY.code = some cY) (hlY : cY.maxLocals = maxL) (hkY : T.vm.classes[mk.cls]? = some kY) (hiY : kY.init = .initialized)
    {a : Array Value} (hcw : cw.before a T = true) (hPc : Pc a (T.calling g mk a)) :
    ∃ (o : Outcome) (t T' : State) (k : Nat) (L : List Loc), Qc k a (T.calling g mk a) o t ∧ T.WarmedH T'.vm ∧ (∀ q ∈ L, free q.base) ∧ Stand p l e R s m args below meth c T' (locs ++ L) (cells + k) (slots + 6 * k) ∧ T'.heap = t.heap ∧
      ((∃ v, o = .returned v ∧ Steps p.tables e below (doInvoke e (T.setTop g) [] mk a).1 (T'.setTop { g with pc := g.pc + len, stack := v.toList ++ g.stack })) ∨
       (∃ x, o = .threw x ∧ Steps p.tables e below (doInvoke e (T.setTop g) [] mk a).1 ((T'.setTop g).pushFrame (.throwing x)))) := by
  have h : At T g.method c below := by rw [hg]; exact X.here
  have happ : (headSpec [cw] rm).appliesLoose y e.platform (T.calling g mk a) = true :=
    Spec.appliesLoose_calling (g := g) h hdg hn hkY hiY
      (X.room_calling (g := g) (R' := rm) hsize hmY hcY hframes (by rw [hlY]; omega) hcells hslots) (atoms_intro fun w hw => by rw [List.mem_singleton.mp hw]; exact hcw)
  obtain ⟨mid, hmid⟩ := h.above
  have hfr : (T.setTop g).frames = (.java g :: mid) ++ below := by rw [State.frames_setTop' g h.top, hmid]; rfl
  obtain ⟨o, s₂, hsteps, -, hend, hq⟩ := Steps.callFree hM p X.admits X.cas X.clock (acts := []) hfr happ hPc trivial
  have hq' : ev_QE Qc free a (T.calling g mk a) o s₂ := hq
  obtain ⟨k, L, hqc, hWm, hsame, hL⟩ := hq'
  rw [State.frames_setTop' g h.top, X.tail] at hend
  cases o with
  | returned v =>
    obtain ⟨T', X', hW', -, e1⟩ := X.outOf hg hdg hend hWm hsame
    refine ⟨_, s₂, T', k, L, hqc, hW', hL, X', ?_, Or.inl ⟨v, rfl, ?_⟩⟩
    · rw [e1]; first | rfl | simp [State.setTop, State.modifyTopJava]
    · rw [e1] at hsteps; exact hsteps
  | threw x =>
    obtain ⟨T', X', hW', -, e1⟩ := X.outOfThrown hg hend hWm hsame
    refine ⟨_, s₂, T', k, L, hqc, hW', hL, X', ?_, Or.inr ⟨x, rfl, ?_⟩⟩
    · rw [e1]; first | rfl | simp [State.pushFrame, State.setFrames, State.setTop, State.modifyTopJava]
    · rw [e1] at hsteps; exact hsteps
/-- what a call gives back to the walk: behind a return, behind a throw -/
def ev_Kr (p : Program) (l : Launch) (e : Env) (R : Room) (s : State) (m : MethodId) (args : Array Value) (below : List Frame) (meth : Method) (c : Code) (H : Heap) (locs : List Loc) (cells slots : Nat) (Q : State → Prop) (a : Array Value) (Qc : Nat → Array Value → State → Outcome → State → Prop) (free : Addr → Prop) (g : Option Value → JFrame) : Prop :=
  ∀ (v : Option Value) (st t : State) (k : Nat) (L : List Loc), st.heap = H → s.WarmedH st.vm → Qc k a st (.returned v) t → (∀ q ∈ L, free q.base) → W p l e R s m args below meth c t.heap (locs ++ L) (cells + k) (slots + 6 * k) Q (g v)
def ev_Kt (p : Program) (l : Launch) (e : Env) (R : Room) (s : State) (m : MethodId) (args : Array Value) (below : List Frame) (meth : Method) (c : Code) (H : Heap) (locs : List Loc) (cells slots : Nat) (Q : State → Prop) (a : Array Value) (Qc : Nat → Array Value → State → Outcome → State → Prop) (free : Addr → Prop) (g : JFrame) : Prop :=
  ∀ (x : Addr) (st t T' : State) (k : Nat) (L : List Loc), st.heap = H → s.WarmedH st.vm → Qc k a st (.threw x) t → (∀ q ∈ L, free q.base) → T'.heap = t.heap → Stand p l e R s m args below meth c T' (locs ++ L) (cells + k) (slots + 6 * k) → ∃ t2, Steps p.tables e below ((T'.setTop g).pushFrame (.throwing x)) t2 ∧ Q t2
theorem ev_join {T : State} {vm₁ : Vm} (hT : T.heap = H) (X₁ : Stand p l e R s m args below meth c (T.setVm vm₁) locs cells slots) {pc : Nat} {ls : Array Slot} {st0 rest : List Value} {y : MethodName} {mk : MethodId} {a : Array Value}
    (hstep : ∀ target, (∀ acts, Steps p.tables e below (doInvoke e ((T.setVm vm₁).setTop (F0 m pc ls rest)) acts mk a).1 target) → Steps p.tables e below (T.setTop (F0 m pc ls st0)) target)
    {cw : Jvm.Cond} {rm : Room} {Pc : Array Value → State → Prop} {Qc : Nat → Array Value → State → Outcome → State → Prop} {maxL : Nat} {free : Addr → Prop} (hM : ev_Met l y cw rm Pc Qc free)
    (hframes : rm.frames + 1 ≤ R.frames) (hlocals : 12 + (maxL + 11) + rm.locals ≤ R.locals) (hcells : cells + rm.cells ≤ R.cells) (hslots : slots + rm.slots ≤ R.slots)
    (hsize : ls.size = c.maxLocals) {ig : Instr} {len : Nat} (hdg : decode c.code pc = .ok (ig, len)) (hw : (rest.map fun v => v.category).sum ≤ 12)
    {methY : Method} {cY : Code} {kY : Class} (hn : s.methodNamed? y = some mk) (hmY : s.vm.method? mk = some methY) (hcY : methY.code = some cY) (hlY : cY.maxLocals = maxL) (hkY : s.vm.classes[mk.cls]? = some kY) (hiY : kY.init = .initialized)
    (hcw : ∀ (a' : Array Value) (U : State), s.WarmedH U.vm → cw.before a' U = true) (hPc : ∀ U : State, U.heap = H → s.WarmedH U.vm → Pc a U)
    (kr : ev_Kr p l e R s m args below meth c H locs cells slots Q a Qc free (fun v => F0 m (pc + len) ls (v.toList ++ rest)))
    (kt : ev_Kt p l e R s m args below meth c H locs cells slots Q a Qc free (F0 m pc ls rest)) : ∃ t2, Steps p.tables e below (T.setTop (F0 m pc ls st0)) t2 ∧ Q t2 := by
  obtain ⟨kY', hkY', heY⟩ := X₁.warmed.alike.2.2 _ _ hkY
  obtain ⟨o, t, T', k, L, hq, hW', hL, X', ht, hr⟩ := ev_called X₁ (g := F0 m pc ls rest) (mk := mk) (maxL := maxL) (kY := kY') hM hframes hlocals hcells hslots rfl hsize hdg (by show 2 * 0 + (rest.map fun v => v.category).sum ≤ 12; omega) (X₁.named hn) (by rw [X₁.warmed.alike.method?]; exact hmY) hcY hlY hkY' (by rw [heY]; exact hiY) (hcw a _ X₁.warmed) (hPc _ hT X₁.warmed)
  rcases hr with ⟨v, rfl, hs⟩ | ⟨x, rfl, hs⟩
  · obtain ⟨t2, a1, b1⟩ := kr v ((T.setVm vm₁).calling (F0 m pc ls rest) mk a) t k L hT X₁.warmed hq hL T' ht X'
    exact ⟨t2, hstep _ fun acts => by rw [doInvoke_state]; exact hs.trans a1, b1⟩
  · obtain ⟨t2, a1, b1⟩ := kt x ((T.setVm vm₁).calling (F0 m pc ls rest) mk a) t T' k L hT X₁.warmed hq hL ht X'
    exact ⟨t2, hstep _ fun acts => by rw [doInvoke_state]; exact hs.trans a1, b1⟩
section EVC
variable {y : MethodName} {cw : Jvm.Cond} {rm : Room} {Pc : Array Value → State → Prop} {Qc : Nat → Array Value → State → Outcome → State → Prop} {maxL : Nat} {free : Addr → Prop} {own : String} {index pc : Nat} {ls : Array Slot} {As rest : List Value}
/-- invokevirtual of a method of the receiver's own class -/
theorem ev_callV (hx : p.tables.exec = Jvm.exec) (hown : s.vm.findClass own = some m.cls) (hlink : (Jvm.Cond.methodLink own index y).before args s = true ∨ ∃ host, (Jvm.Cond.methodLinkNest own index y host).before args s = true)
    (hinst : (Jvm.Cond.instanceMethod y).before args s = true) (hsel : (Jvm.Cond.selects y.cls y y).before args s = true) (hini : (Jvm.Cond.initialized y.cls).before args s = true) (hy : y.cls ≠ "java/lang/invoke/MethodHandle" ∧ y.cls ≠ "java/lang/invoke/VarHandle")
    {bytes : ByteArray} {ret : Option FieldType} (hcode : (Jvm.Cond.code y bytes maxL ret).before args s = true)
    (hM : ev_Met l y cw rm Pc Qc free) (hframes : rm.frames + 1 ≤ R.frames) (hlocals : 12 + (maxL + 11) + rm.locals ≤ R.locals) (hcells : cells + rm.cells ≤ R.cells) (hslots : slots + rm.slots ≤ R.slots)
    {b : Addr} (hcell : ∃ cellB : Cell, H[b]? = some cellB ∧ cellB.vm.isStatics = false ∧ s.vm.findClass y.cls = some cellB.cls)
    (hsize : ls.size = c.maxLocals) (hdg : decode c.code pc = .ok (.invokevirtual index, 3)) (hlen : ∀ sig, parseMethodDescriptor y.desc = some sig → As.length = sig.parameters.length) (hw : (rest.map fun v => v.category).sum ≤ 12)
    (hcw : ∀ (a' : Array Value) (U : State), s.WarmedH U.vm → cw.before a' U = true) (hPc : ∀ U : State, U.heap = H → s.WarmedH U.vm → Pc (Value.ref b :: As).toArray U)
    (kr : ev_Kr p l e R s m args below meth c H locs cells slots Q (Value.ref b :: As).toArray Qc free (fun v => F0 m (pc + 3) ls (v.toList ++ rest)))
    (kt : ev_Kt p l e R s m args below meth c H locs cells slots Q (Value.ref b :: As).toArray Qc free (F0 m pc ls rest)) :
    W p l e R s m args below meth c H locs cells slots Q (F0 m pc ls (As.reverse ++ .ref b :: rest)) := by
  intro T hT X
  obtain ⟨cellB, hcB, hoB, hclB⟩ := hcell
  obtain ⟨mk, methM, hnamed, hmethM, hstM, habM⟩ := Cond.instanceMethod_spec hinst
  obtain ⟨methM', cM, hmethM', hcM, -, hlM, -, -, -, hsigM⟩ := Cond.code_spec hnamed hcode
  cases hmethM.symm.trans hmethM'
  obtain ⟨c2, r2, m2, q1, q2, q3, q4, kP, hkP, hkPi⟩ := Cond.selects_spec hsel
  cases hclB.symm.trans q1
  cases (State.methodFound?_of_named hnamed hy).symm.trans q2
  cases hnamed.symm.trans q3
  have hselP : selectMethod e.platform s.vm cellB.cls mk = .method mk := by rw [Launch.admits_selectMethod X.admits]; exact q4
  have hkI : kP.init = .initialized := Cond.initialized_spec (findClass_of_methodNamed hnamed) hkP hini
  have hcB' : T.heap[b]? = some cellB := by rw [hT]; exact hcB
  have hob : ∀ z, cellB.vm ≠ .statics z := fun z h => by rw [h] at hoB; cases hoB
  rcases hlink with hlink | ⟨host, hlink⟩
  · obtain ⟨vm₁, X₁, hstep⟩ := X.invokevirtual hx hown hlink hnamed hmethM hstM hkP hkPi hy (a := b) (cell := cellB) hcB' hob hselP hmethM habM hkP hkPi (g := F0 m pc ls (As.reverse ++ .ref b :: rest)) rfl (argsL := As) (rest := rest) (hlen _ hsigM) rfl hdg
    exact ev_join hT X₁ hstep hM hframes hlocals hcells hslots hsize hdg hw hnamed hmethM hcM hlM hkP hkI hcw hPc kr kt
  · obtain ⟨vm₁, X₁, hstep⟩ := X.invokevirtualNest hx hown hlink hnamed hmethM hstM hkP hkPi hy (a := b) (cell := cellB) hcB' hob hselP hmethM habM hkP hkPi (g := F0 m pc ls (As.reverse ++ .ref b :: rest)) rfl (argsL := As) (rest := rest) (hlen _ hsigM) rfl hdg
    exact ev_join hT X₁ hstep hM hframes hlocals hcells hslots hsize hdg hw hnamed hmethM hcM hlM hkP hkI hcw hPc kr kt
/-- invokestatic -/
theorem ev_callS (hx : p.tables.exec = Jvm.exec) (hown : s.vm.findClass own = some m.cls) (hlink : (Jvm.Cond.methodLink own index y).before args s = true ∨ ∃ host, (Jvm.Cond.methodLinkNest own index y host).before args s = true)
    (hstat : (Jvm.Cond.static y).before args s = true) (hini : (Jvm.Cond.initialized y.cls).before args s = true) (hy : y.cls ≠ "java/lang/invoke/MethodHandle" ∧ y.cls ≠ "java/lang/invoke/VarHandle")
    (hcode : ∃ (mk : MethodId) (methM : Method) (cM : Code), s.methodNamed? y = some mk ∧ s.vm.method? mk = some methM ∧ methM.code = some cM ∧ cM.maxLocals = maxL ∧ parseMethodDescriptor y.desc = some methM.sig)
    (hM : ev_Met l y cw rm Pc Qc free) (hframes : rm.frames + 1 ≤ R.frames) (hlocals : 12 + (maxL + 11) + rm.locals ≤ R.locals) (hcells : cells + rm.cells ≤ R.cells) (hslots : slots + rm.slots ≤ R.slots)
    (hsize : ls.size = c.maxLocals) (hdg : decode c.code pc = .ok (.invokestatic index, 3)) (hlen : ∀ sig, parseMethodDescriptor y.desc = some sig → As.length = sig.parameters.length) (hw : (rest.map fun v => v.category).sum ≤ 12)
    (hcw : ∀ (a' : Array Value) (U : State), s.WarmedH U.vm → cw.before a' U = true) (hPc : ∀ U : State, U.heap = H → s.WarmedH U.vm → Pc As.toArray U)
    (kr : ev_Kr p l e R s m args below meth c H locs cells slots Q As.toArray Qc free (fun v => F0 m (pc + 3) ls (v.toList ++ rest)))
    (kt : ev_Kt p l e R s m args below meth c H locs cells slots Q As.toArray Qc free (F0 m pc ls rest)) :
    W p l e R s m args below meth c H locs cells slots Q (F0 m pc ls (As.reverse ++ rest)) := by
  intro T hT X
  obtain ⟨mk, methM, cM, hnamed, hmethM, hcM, hlM, hsigM⟩ := hcode
  have hstatic : methM.isStatic = true := Cond.static_spec hnamed hmethM hstat
  obtain ⟨kP, hkP, -⟩ := className_of_methodNamed hnamed
  have hkI : kP.init = .initialized := Cond.initialized_spec (findClass_of_methodNamed hnamed) hkP hini
  rcases hlink with hlink | ⟨host, hlink⟩
  · obtain ⟨vm₁, X₁, hstep⟩ := X.invokestatic hx hown hlink hnamed hmethM hstatic hkP hkI hy (g := F0 m pc ls (As.reverse ++ rest)) rfl (argsL := As) (rest := rest) (hlen _ hsigM) rfl hdg
    exact ev_join hT X₁ hstep hM hframes hlocals hcells hslots hsize hdg hw hnamed hmethM hcM hlM hkP hkI hcw hPc kr kt
  · obtain ⟨vm₁, X₁, hstep⟩ := X.invokestaticNest hx hown hlink hnamed hmethM hstatic hkP hkI hy (g := F0 m pc ls (As.reverse ++ rest)) rfl (argsL := As) (rest := rest) (hlen _ hsigM) rfl hdg
    exact ev_join hT X₁ hstep hM hframes hlocals hcells hslots hsize hdg hw hnamed hmethM hcM hlM hkP hkI hcw hPc kr kt
end EVC
/-! the ends -/
theorem ev_end {k : Nat} {Qc : Nat → Array Value → State → Outcome → State → Prop} {free : Addr → Prop} {g : JFrame} (h : W p l e R s m args below meth c H locs cells slots (MQ below (Qc k) args s k (6 * k) free) g) : W p l e R s m args below meth c H locs cells slots (ev_MQ below Qc args s free) g :=
  ev_mono (fun t ⟨o, h1, h2, h3, L, ⟨_, h5, h6⟩, h7⟩ => ⟨o, h1, h2, k, L, h3, h5, h6, h7⟩) h
/-! a catch: each row of the table covers the pc; the classes of the rows link -/
def ev_tk (e : Env) (s : State) (m : MethodId) (k : ClassId) (pc : Nat) : List ExceptionTableEntry → Nat → Prop
  | [], _ => False
  | x :: t, pc' => covers x pc = true ∧ x.catchType ≠ 0 ∧ ∃ kc : ClassId, s.vm.ClassLinks e.platform m.cls x.catchType kc ∧ ((s.vm.assignable k kc = true ∧ pc' = x.handlerPc) ∨ (s.vm.assignable k kc = false ∧ ev_tk e s m k pc t pc'))
theorem ev_row {S : State} {f : JFrame} {a : Addr} {x : ExceptionTableEntry} {t : List ExceptionTableEntry} {kc : ClassId} {cell : Cell} {Q : Handler → Pre} {E : CtlPost} {d : Bool} {acts : List Action} (hx : covers x f.pc = true) (h0 : x.catchType ≠ 0)
    (hl : S.vm.ClassLinks e.platform f.method.cls x.catchType kc) (hcell : S.heap[a]? = some cell) (hv : cell.vm = .none) (h1 : ∃ q, S.vm.classes[cell.cls]? = some q) (h2 : ∃ q, S.vm.classes[kc]? = some q) :
    wp (findHandler.go f a (x :: t)) Q E e d acts S ↔ (if S.vm.assignable cell.cls kc = true then Q (.found x.handlerPc) d acts (S.setVm (S.vm.noted f.method.cls x.catchType (.cls kc))) else wp (findHandler.go f a t) Q E e d acts (S.setVm (S.vm.noted f.method.cls x.catchType (.cls kc)))) := by
  simp only [covers] at hx
  obtain ⟨ha, ht⟩ := (resolveClass_links e.toSetting hl).op (op := VmOp.resolveClass f.method.cls x.catchType) rfl
  have hal : S.vm.Alike (S.vm.noted f.method.cls x.catchType (.cls kc)) := (Vm.Alike.refl S.vm).noted _ _ _
  obtain ⟨k1, hk1⟩ := h1
  obtain ⟨k2, hk2⟩ := h2
  obtain ⟨k1', hk1', -⟩ := hal.2.2 _ _ hk1
  obtain ⟨k2', hk2', -⟩ := hal.2.2 _ _ hk2
  have hobj : ∀ k, cell.vm ≠ .statics k := fun k h => by rw [hv] at h; cases h
  have has : (S.vm.noted f.method.cls x.catchType (.cls kc)).assignable cell.cls kc = S.vm.assignable cell.cls kc := hal.assignable _ _
  cases hf : S.vm.assignable cell.cls kc <;> simp [findHandler.go, hx, h0, ha, ht, hcell, hobj, hk1', hk2', has, hf, VmOp.dirties, VmOp.acts]
theorem ev_rows {f : JFrame} (hfm : f.method = m) {a : Addr} {cell : Cell} (hv : cell.vm = .none) (h1 : ∃ q, s.vm.classes[cell.cls]? = some q) {pc' : Nat} :
    ∀ (rows : List ExceptionTableEntry) (S : State), s.WarmedH S.vm → S.heap[a]? = some cell → ev_tk e s m cell.cls f.pc rows pc' →
      ∃ vm', s.WarmedH vm' ∧ ∀ (Q : Handler → Pre) (E : CtlPost) (d : Bool) (acts : List Action), wp (findHandler.go f a rows) Q E e d acts S ↔ Q (.found pc') d acts (S.setVm vm') := by
  obtain ⟨k0, hk0⟩ := h1
  intro rows
  induction rows with
  | nil => intro S _ _ h; exact h.elim
  | cons x t ih =>
    intro S hW hcell ⟨hx, h0, kc, hl, hh⟩
    subst hfm
    obtain ⟨dk, _, _, kt, hd, _, _, _, _, hkt, _, hopen⟩ := hl.here
    obtain ⟨k0', hk0', -⟩ := hW.alike.2.2 _ _ hk0
    obtain ⟨kt', hkt', -⟩ := hW.alike.2.2 _ _ hkt
    have hW2 := hW.noted hd hopen (State.rightAt_cls hl)
    rcases hh with ⟨hy, rfl⟩ | ⟨hno, hrest⟩
    · refine ⟨_, hW2, fun Q E d acts => ?_⟩
      rw [ev_row hx h0 (hW.classLinks hl) hcell hv ⟨k0', hk0'⟩ ⟨kt', hkt'⟩, if_pos (by rw [hW.alike.assignable]; exact hy)]
    · obtain ⟨vm', hW', hq⟩ := ih (S.setVm (S.vm.noted f.method.cls x.catchType (.cls kc))) hW2 hcell hrest
      refine ⟨vm', hW', fun Q E d acts => ?_⟩
      rw [ev_row hx h0 (hW.classLinks hl) hcell hv ⟨k0', hk0'⟩ ⟨kt', hkt'⟩, if_neg (by rw [hW.alike.assignable, hno]; decide)]
      exact hq Q E d acts
/-- the exception is caught in the walked method -/
theorem ev_catch {T : State} (X : Stand p l e R s m args below meth c T locs cells slots) {x : Addr} {g : JFrame} (hg : g.method = m) {cell : Cell} (hcell : T.heap[x]? = some cell) (hv : cell.vm = .none) (h1 : ∃ q, s.vm.classes[cell.cls]? = some q) {pc' : Nat}
    (htk : ev_tk e s m cell.cls g.pc c.exceptionTable.toList pc') :
    ∃ vm', Stand p l e R s m args below meth c (T.setVm vm') locs cells slots ∧
      ∀ target, Steps p.tables e below ((T.setVm vm').setTop { g with pc := pc', stack := [.ref x] }) target → Steps p.tables e below ((T.setTop g).pushFrame (.throwing x)) target := by
  have h : At T g.method c below := by rw [hg]; exact X.here
  have hvm : ((T.setTop g).pushFrame (.throwing x)).vm = T.vm := Stand.throwing_vm T g x
  have hhp : ((T.setTop g).pushFrame (.throwing x)).heap = T.heap := Stand.throwing_heap T g x
  obtain ⟨vm', hW', hq⟩ := ev_rows (e := e) (f := g) hg hv h1 c.exceptionTable.toList ((T.setTop g).pushFrame (.throwing x)) (by rw [hvm]; exact X.warmed) (by rw [hhp]; exact hcell) htk
  refine ⟨vm', X.noted hW', fun target hrest => ?_⟩
  obtain ⟨hgo, hw⟩ := h.throwing x
  have hfind : ∀ (Q : Handler → Pre) (E : CtlPost) (d : Bool) (acts : List Action), wp (findHandler g x) Q E e d acts ((T.setTop g).pushFrame (.throwing x)) ↔ Q (.found pc') d acts (((T.setTop g).pushFrame (.throwing x)).setVm vm') := fun Q E d acts => by
    rw [W.findHandler_eq (meth := meth) (code := c) (by rw [hvm, hg]; exact X.method') X.code]
    exact hq Q E d acts
  refine Steps.head hgo hw ?_
  rw [stepThread_throwing (frames_entered h.top _)]
  have hIs : ∀ r, (stepThrowing e ((T.setTop g).pushFrame (.throwing x)) x (.java g :: r)).1 = (((T.setTop g).pushFrame (.throwing x)).setVm vm').setFrames (.java { g with pc := pc', stack := [.ref x] } :: r) := by
    intro r
    simp only [stepThrowing, searchFrame, vmDo]
    generalize hr : Sem.go _ e false [] ((T.setTop g).pushFrame (.throwing x)) = res
    obtain ⟨as, rfl, ha⟩ := Sem.eq_ok_of hr (a := Handler.found pc') (s' := ((T.setTop g).pushFrame (.throwing x)).setVm vm') (acts' := []) (by simp [hfind _ _ _ _])
    rfl
  obtain ⟨g₀, hg0⟩ := Option.isSome_iff_exists.mp h.top
  obtain ⟨r, hr⟩ := State.topJava?_eq_some.mp hg0
  have hr' : (T.setVm vm').frames = .java g₀ :: r := hr
  have e2 : ∀ (u : State) (F G : List Frame), ((u.setFrames F).setVm vm').setFrames G = (u.setVm vm').setFrames G := fun u F G => by
    rw [show (u.setFrames F).setVm vm' = (u.setVm vm').setFrames F from rfl, State.setFrames_setFrames]
  rw [hr, List.tail_cons, hIs, State.pushFrame, e2, State.setTop_of_frames _ hr, e2]
  rw [State.setTop_of_frames _ hr'] at hrest
  exact hrest
end EVM
end
section
/-! THE EVALUATOR: what the instructions of a method do to a world of fixed shape, as a predicate to be computed; and that it is so of the machine -/
/-- a world: the ints of each cell (fields or elements), the longs of each cell, how many cells may still be made -/
abbrev ev_W : Type := (Nat → Nat → Int32) × (Nat → Nat → Int64) × Nat
/-- a cell's shape: an array (type, length), or an object (class number, its fields: none: an int, some k: the cell k) -/
abbrev ev_C : Type := (FieldType × Nat) ⊕ (Nat × List (Option Nat))
abbrev ev_V : Type := List (Option Value)
abbrev ev_K : Type := Nat → ev_V → List Value → ev_W → Prop
/-- what the methods do: number, arguments, world: where they may be called, what is known of what comes back (returned, or the kind that was thrown) and of the world behind it -/
abbrev ev_F : Type := Nat → List Value → ev_W → Option (Prop × ((Option Value ⊕ Nat) → ev_W → Prop))
/-- an instruction, its length, two numbers, a constant, the roads of a switch -/
abbrev ev_I : Type := Instr × Nat × Nat × Nat × Int32 × List (Int32 × Nat)
def ev_tr (ad : Nat → Nat) (v : Value) : Value := match v with
  | .ref k => .ref (ad k)
  | v => v
def ev_up (σ : ev_W) (k j : Nat) (x : Int32) : ev_W := (fun q => if q = k then upd (σ.1 k) j x else σ.1 q, σ.2)
def ev_uL (σ : ev_W) (k j : Nat) (x : Int64) : ev_W := (σ.1, fun q => if q = k then vp_updL (σ.2.1 k) j x else σ.2.1 q, σ.2.2)
def ev_fv (ad : Nat → Nat) (σ : ev_W) (k j : Nat) (f : Option Nat) : Value := match f with
  | none => .int (σ.1 k j)
  | some r => .ref (ad r)
def ev_ce (ad : Nat → Nat) (ca : Nat → ClassId) (σ : ev_W) (k : Nat) (q : ev_C) : Nat × va_E := (ad k, match q with
  | .inl (.long, n) => .inl (ca k, n, .inr (.inl (σ.2.1 k)))
  | .inl (_, n) => .inl (ca k, n, .inl (σ.1 k))
  | .inr (ci, fs) => .inr (ci, fs.mapIdx (fun j f => ev_fv ad σ k j f)))
def ev_ws (ad : Nat → Nat) (ca : Nat → ClassId) (lay : List ev_C) (σ : ev_W) : va_W := lay.mapIdx (fun k q => ev_ce ad ca σ k q)
/-! the instructions -/
def ev_b2 (f : Int32 → Int32 → Int32) (pc : Nat) (ls : ev_V) (st : List Value) (σ : ev_W) (K : ev_K) : Prop := match st with
  | .int y :: .int x :: r => K (pc + 1) ls (.int (f x y) :: r) σ
  | _ => False
def ev_dv (f : Int32 → Int32 → Int32) (pc : Nat) (ls : ev_V) (st : List Value) (σ : ev_W) (K : ev_K) : Prop := match st with
  | .int y :: .int x :: r => if y = 0 then False else K (pc + 1) ls (.int (f x y) :: r) σ
  | _ => False
def ev_c1 (P : Int32 → Prop) (t1 t2 : Nat) (ls : ev_V) (st : List Value) (σ : ev_W) (K : ev_K) : Prop := match st with
  | .int x :: r => (P x → K t1 ls r σ) ∧ (¬ P x → K t2 ls r σ)
  | _ => False
def ev_c2 (P : Int32 → Int32 → Prop) (t1 t2 : Nat) (ls : ev_V) (st : List Value) (σ : ev_W) (K : ev_K) : Prop := match st with
  | .int y :: .int x :: r => (P x y → K t1 ls r σ) ∧ (¬ P x y → K t2 ls r σ)
  | _ => False
def ev_li (pc' i : Nat) (ls : ev_V) (st : List Value) (σ : ev_W) (K : ev_K) : Prop := match ls[i]? with
  | some (some (.int x)) => K pc' ls (.int x :: st) σ
  | _ => False
def ev_la (pc' i : Nat) (ls : ev_V) (st : List Value) (σ : ev_W) (K : ev_K) : Prop := match ls[i]? with
  | some (some (.ref x)) => K pc' ls (.ref x :: st) σ
  | _ => False
def ev_si (pc' i : Nat) (ls : ev_V) (st : List Value) (σ : ev_W) (K : ev_K) : Prop := match st with
  | .int x :: r => K pc' (ls.set i (some (.int x))) r σ
  | _ => False
def ev_sa (pc' i : Nat) (ls : ev_V) (st : List Value) (σ : ev_W) (K : ev_K) : Prop := match st with
  | .ref x :: r => K pc' (ls.set i (some (.ref x))) r σ
  | _ => False
def ev_sw (x : Int32) (K : Nat → Prop) (d : Nat) : List (Int32 × Nat) → Prop
  | [] => K d
  | (v, t) :: r => (x = v → K t) ∧ (¬ x = v → ev_sw x K d r)
def ev_gf (lay : List ev_C) (ci k pc : Nat) (ls : ev_V) (st : List Value) (σ : ev_W) (K : ev_K) : Prop := match st with
  | .ref a :: r => match lay[a]? with
    | some (.inr (cj, fs)) => if cj = ci then match fs[k]? with
      | some none => K (pc + 3) ls (.int (σ.1 a k) :: r) σ
      | some (some b) => K (pc + 3) ls (.ref b :: r) σ
      | none => False else False
    | _ => False
  | _ => False
def ev_pf (lay : List ev_C) (ci k : Nat) (z : Int32) (pc : Nat) (ls : ev_V) (st : List Value) (σ : ev_W) (K : ev_K) : Prop := match st with
  | .int x :: .ref a :: r => match lay[a]? with
    | some (.inr (cj, fs)) => if cj = ci then match fs[k]? with
      | some none => if z = 0 then K (pc + 3) ls r (ev_up σ a k x) else (x = 0 ∨ x = 1) ∧ K (pc + 3) ls r (ev_up σ a k x)
      | _ => False else False
    | _ => False
  | _ => False
def ev_ia (lay : List ev_C) (xo : Option (Nat × (Nat → Int32))) (pc : Nat) (ls : ev_V) (st : List Value) (σ : ev_W) (K : ev_K) : Prop := match st with
  | .int i :: .ref a :: r => match lay[a]? with
    | some (.inl (.int, n)) => vp_in i n ∧ K (pc + 1) ls (.int (σ.1 a i.toNatClampNeg) :: r) σ
    | none => match xo with
      | some (L, xs) => if a = 999 then vp_in i L ∧ K (pc + 1) ls (.int (xs i.toNatClampNeg) :: r) σ else False
      | none => False
    | _ => False
  | _ => False
def ev_za (lay : List ev_C) (pc : Nat) (ls : ev_V) (st : List Value) (σ : ev_W) (K : ev_K) : Prop := match st with
  | .int i :: .ref a :: r => match lay[a]? with
    | some (.inl (.boolean, n)) => vp_in i n ∧ K (pc + 1) ls (.int (σ.1 a i.toNatClampNeg) :: r) σ
    | _ => False
  | _ => False
def ev_ja (lay : List ev_C) (pc : Nat) (ls : ev_V) (st : List Value) (σ : ev_W) (K : ev_K) : Prop := match st with
  | .int i :: .ref a :: r => match lay[a]? with
    | some (.inl (.long, n)) => vp_in i n ∧ K (pc + 1) ls (.long (σ.2.1 a i.toNatClampNeg) :: r) σ
    | _ => False
  | _ => False
def ev_is (lay : List ev_C) (pc : Nat) (ls : ev_V) (st : List Value) (σ : ev_W) (K : ev_K) : Prop := match st with
  | .int x :: .int i :: .ref a :: r => match lay[a]? with
    | some (.inl (.int, n)) => vp_in i n ∧ K (pc + 1) ls r (ev_up σ a i.toNatClampNeg x)
    | _ => False
  | _ => False
def ev_zs (lay : List ev_C) (pc : Nat) (ls : ev_V) (st : List Value) (σ : ev_W) (K : ev_K) : Prop := match st with
  | .int x :: .int i :: .ref a :: r => match lay[a]? with
    | some (.inl (.boolean, n)) => vp_in i n ∧ K (pc + 1) ls r (ev_up σ a i.toNatClampNeg (vp_nar .boolean x))
    | _ => False
  | _ => False
def ev_js (lay : List ev_C) (pc : Nat) (ls : ev_V) (st : List Value) (σ : ev_W) (K : ev_K) : Prop := match st with
  | .long x :: .int i :: .ref a :: r => match lay[a]? with
    | some (.inl (.long, n)) => vp_in i n ∧ K (pc + 1) ls r (ev_uL σ a i.toNatClampNeg x)
    | _ => False
  | _ => False
def ev_al (lay : List ev_C) (xo : Option (Nat × (Nat → Int32))) (pc : Nat) (ls : ev_V) (st : List Value) (σ : ev_W) (K : ev_K) : Prop := match st with
  | .ref a :: r => match lay[a]? with
    | some (.inl (_, n)) => K (pc + 1) ls (.int (Int32.ofNat n) :: r) σ
    | none => match xo with
      | some (L, _) => if a = 999 then K (pc + 1) ls (.int (Int32.ofNat L) :: r) σ else False
      | none => False
    | _ => False
  | _ => False
def ev_ca (F : ev_F) (hd : List (Nat × Nat × Nat × Nat)) (i n pc : Nat) (ls : ev_V) (st : List Value) (σ : ev_W) (K : ev_K) : Prop :=
  if n ≤ st.length ∧ st.length ≤ n + 6 then match F i (st.take n).reverse σ with
    | some P => P.1 ∧ ∀ (o : Option Value ⊕ Nat) (σ' : ev_W), P.2 o σ' → match o with
      | .inl v => K (pc + 3) ls (v.toList ++ st.drop n) σ'
      | .inr k => match hd.find? (fun q => q.1 == pc && q.2.1 == k) with
        | some q => K q.2.2.1 (ls.set q.2.2.2 none) [] σ'
        | none => False
    | none => False else False
def ev_cv (F : ev_F) (lay : List ev_C) (hd : List (Nat × Nat × Nat × Nat)) (i n : Nat) (sw : List (Int32 × Nat)) (pc : Nat) (ls : ev_V) (st : List Value) (σ : ev_W) (K : ev_K) : Prop := match (st.take n).reverse with
  | .ref b :: _ => match lay[b]? with
    | some (.inr (cj, _)) => match sw with
      | (_, ci) :: _ => if cj = ci then ev_ca F hd i n pc ls st σ K else False
      | [] => False
    | _ => False
  | _ => False
/-- one instruction -/
def ev_st (F : ev_F) (lay : List ev_C) (xo : Option (Nat × (Nat → Int32))) (hd : List (Nat × Nat × Nat × Nat)) (q : ev_I) (pc : Nat) (ls : ev_V) (st : List Value) (σ : ev_W) (K : ev_K) : Prop :=
  match q.1 with
  | .iconst _ => K (pc + 1) ls (.int q.2.2.2.2.1 :: st) σ
  | .bipush _ => K (pc + 2) ls (.int q.2.2.2.2.1 :: st) σ
  | .sipush _ => K (pc + 3) ls (.int q.2.2.2.2.1 :: st) σ
  | .ldc _ => K (pc + 2) ls (.int q.2.2.2.2.1 :: st) σ
  | .ldc_w _ => K (pc + 3) ls (.int q.2.2.2.2.1 :: st) σ
  | .lconst n => K (pc + 1) ls (.long (Int64.ofNat n) :: st) σ
  | .iload _ => ev_li (pc + 2) q.2.2.1 ls st σ K
  | .iload_n _ => ev_li (pc + 1) q.2.2.1 ls st σ K
  | .aload _ => ev_la (pc + 2) q.2.2.1 ls st σ K
  | .aload_n _ => ev_la (pc + 1) q.2.2.1 ls st σ K
  | .istore _ => ev_si (pc + 2) q.2.2.1 ls st σ K
  | .istore_n _ => ev_si (pc + 1) q.2.2.1 ls st σ K
  | .astore _ => ev_sa (pc + 2) q.2.2.1 ls st σ K
  | .astore_n _ => ev_sa (pc + 1) q.2.2.1 ls st σ K
  | .iinc _ _ => match ls[q.2.2.1]? with
    | some (some (.int x)) => K (pc + 3) (ls.set q.2.2.1 (some (.int (x + q.2.2.2.2.1)))) st σ
    | _ => False
  | .iadd => ev_b2 (fun x y => x + y) pc ls st σ K
  | .isub => ev_b2 (fun x y => x - y) pc ls st σ K
  | .imul => ev_b2 (fun x y => x * y) pc ls st σ K
  | .iand => ev_b2 (fun x y => x &&& y) pc ls st σ K
  | .ior => ev_b2 (fun x y => x ||| y) pc ls st σ K
  | .ixor => ev_b2 (fun x y => x ^^^ y) pc ls st σ K
  | .ishl => ev_b2 (fun x y => x <<< (y &&& 31)) pc ls st σ K
  | .ishr => ev_b2 (fun x y => x >>> (y &&& 31)) pc ls st σ K
  | .iushr => ev_b2 (fun x y => (x.toUInt32 >>> (y.toUInt32 &&& Int32.toUInt32 31)).toInt32) pc ls st σ K
  | .idiv => ev_dv (fun x y => x / y) pc ls st σ K
  | .irem => ev_dv (fun x y => x - x / y * y) pc ls st σ K
  | .i2l => match st with
    | .int x :: r => K (pc + 1) ls (.long x.toInt64 :: r) σ
    | _ => False
  | .lcmp => match st with
    | .long y :: .long x :: r => K (pc + 1) ls (.int (lg_cmp x y) :: r) σ
    | _ => False
  | .dup => match st with
    | .int x :: r => K (pc + 1) ls (.int x :: .int x :: r) σ
    | .ref x :: r => K (pc + 1) ls (.ref x :: .ref x :: r) σ
    | _ => False
  | .dup2 => match st with
    | .int i :: .ref a :: r => K (pc + 1) ls (.int i :: .ref a :: .int i :: .ref a :: r) σ
    | _ => False
  | .pop => match st with
    | .int _ :: r => K (pc + 1) ls r σ
    | .ref _ :: r => K (pc + 1) ls r σ
    | _ => False
  | .ifCond .eq _ => ev_c1 (fun x => x = 0) q.2.2.1 (pc + 3) ls st σ K
  | .ifCond .ne _ => ev_c1 (fun x => x = 0) (pc + 3) q.2.2.1 ls st σ K
  | .ifCond .lt _ => ev_c1 (fun x => x < 0) q.2.2.1 (pc + 3) ls st σ K
  | .ifCond .ge _ => ev_c1 (fun x => 0 ≤ x) q.2.2.1 (pc + 3) ls st σ K
  | .ifCond .gt _ => ev_c1 (fun x => 0 < x) q.2.2.1 (pc + 3) ls st σ K
  | .ifCond .le _ => ev_c1 (fun x => x ≤ 0) q.2.2.1 (pc + 3) ls st σ K
  | .if_icmp .eq _ => ev_c2 (fun x y => x = y) q.2.2.1 (pc + 3) ls st σ K
  | .if_icmp .ne _ => ev_c2 (fun x y => x = y) (pc + 3) q.2.2.1 ls st σ K
  | .if_icmp .lt _ => ev_c2 (fun x y => x < y) q.2.2.1 (pc + 3) ls st σ K
  | .if_icmp .ge _ => ev_c2 (fun x y => y ≤ x) q.2.2.1 (pc + 3) ls st σ K
  | .if_icmp .gt _ => ev_c2 (fun x y => y < x) q.2.2.1 (pc + 3) ls st σ K
  | .if_icmp .le _ => ev_c2 (fun x y => x ≤ y) q.2.2.1 (pc + 3) ls st σ K
  | .goto _ => K q.2.2.1 ls st σ
  | .tableswitch _ _ _ _ => match st with
    | .int x :: r => ev_sw x (fun t => K t ls r σ) q.2.2.1 q.2.2.2.2.2
    | _ => False
  | .lookupswitch _ _ => match st with
    | .int x :: r => ev_sw x (fun t => K t ls r σ) q.2.2.1 q.2.2.2.2.2
    | _ => False
  | .getfield _ => ev_gf lay q.2.2.1 q.2.2.2.1 pc ls st σ K
  | .putfield _ => ev_pf lay q.2.2.1 q.2.2.2.1 q.2.2.2.2.1 pc ls st σ K
  | .iaload => ev_ia lay xo pc ls st σ K
  | .baload => ev_za lay pc ls st σ K
  | .laload => ev_ja lay pc ls st σ K
  | .iastore => ev_is lay pc ls st σ K
  | .bastore => ev_zs lay pc ls st σ K
  | .lastore => ev_js lay pc ls st σ K
  | .arraylength => ev_al lay xo pc ls st σ K
  | .invokevirtual _ => ev_cv F lay hd q.2.2.1 q.2.2.2.1 q.2.2.2.2.2 pc ls st σ K
  | .invokestatic _ => ev_ca F hd q.2.2.1 q.2.2.2.1 pc ls st σ K
  | _ => False
/-- many instructions: as far as the table cd goes, or to a place where one stops -/
def ev_wp (F : ev_F) (lay : List ev_C) (xo : Option (Nat × (Nat → Int32))) (hd : List (Nat × Nat × Nat × Nat)) (cd : Nat → Option ev_I) (stp : Nat → Bool) (Q : ev_K) : Nat → ev_K
  | 0 => fun _ _ _ _ => False
  | n + 1 => fun pc ls st σ => match cd pc with
    | none => Q pc ls st σ
    | some q => ev_st F lay xo hd q pc ls st σ (fun pc' ls' st' σ' => match stp pc' with
      | true => Q pc' ls' st' σ'
      | false => ev_wp F lay xo hd cd stp Q n pc' ls' st' σ')
/-- a table of a method's instructions, and how it is read -/
def ev_lu : List (Nat × ev_I) → Nat → Option ev_I
  | [], _ => none
  | (k, q) :: t, pc => match Nat.beq k pc with
    | true => some q
    | false => ev_lu t pc
def ev_tl : List (Nat × Nat) → Nat → Option Nat
  | [], _ => none
  | (k, q) :: t, pc => match Nat.beq k pc with
    | true => some q
    | false => ev_tl t pc
theorem ev_lu_mem : ∀ {l : List (Nat × ev_I)} {pc : Nat} {q : ev_I}, ev_lu l pc = some q → (pc, q) ∈ l
  | [], _, _, h => by cases h
  | (k, z) :: t, pc, q, h => by
    unfold ev_lu at h
    split at h
    · rename_i hb
      have : k = pc := Nat.eq_of_beq_eq_true hb
      subst this
      cases h
      exact List.mem_cons_self
    · exact List.mem_cons_of_mem _ (ev_lu_mem h)
theorem ev_tl_mem : ∀ {l : List (Nat × Nat)} {pc q : Nat}, ev_tl l pc = some q → (pc, q) ∈ l
  | [], _, _, h => by cases h
  | (k, z) :: t, pc, q, h => by
    unfold ev_tl at h
    split at h
    · rename_i hb
      have : k = pc := Nat.eq_of_beq_eq_true hb
      subst this
      cases h
      exact List.mem_cons_self
    · exact List.mem_cons_of_mem _ (ev_tl_mem h)
end
section
/-! THE EVALUATOR IS RIGHT: lists, locals, switches -/
section EVL
variable {ad : Nat → Nat} {ca : Nat → ClassId} {lay : List ev_C} {σ σ' : ev_W}
theorem ev_ws_at {k : Nat} {q : ev_C} (h : lay[k]? = some q) : (ev_ws ad ca lay σ)[k]? = some (ev_ce ad ca σ k q) := by
  simp [ev_ws, h]
theorem ev_ws_get {k : Nat} {z : Nat × va_E} (h : (ev_ws ad ca lay σ)[k]? = some z) : ∃ q, lay[k]? = some q ∧ z = ev_ce ad ca σ k q := by
  simp only [ev_ws, List.getElem?_mapIdx] at h
  cases hq : lay[k]? with
  | none => rw [hq] at h; cases h
  | some q => rw [hq] at h; exact ⟨q, rfl, (Option.some.inj h).symm⟩
theorem ev_ce_congr {i : Nat} (q : ev_C) (h1 : σ'.1 i = σ.1 i) (h2 : σ'.2.1 i = σ.2.1 i) : ev_ce ad ca σ' i q = ev_ce ad ca σ i q := by
  have h3 : (fun j f => ev_fv ad σ' i j f) = (fun j f => ev_fv ad σ i j f) := by
    funext j f
    cases f <;> simp [ev_fv, h1]
  rcases q with ⟨ty, n⟩ | ⟨ci, fs⟩
  · cases ty <;> simp [ev_ce, h1, h2]
  · simp only [ev_ce, h3]
theorem ev_ws_set {k : Nat} {q : ev_C} (h : lay[k]? = some q) (hs : ∀ i, i ≠ k → σ'.1 i = σ.1 i ∧ σ'.2.1 i = σ.2.1 i) : (ev_ws ad ca lay σ).set k (ev_ce ad ca σ' k q) = ev_ws ad ca lay σ' := by
  have hl : k < (ev_ws ad ca lay σ).length := (List.getElem?_eq_some_iff.mp (ev_ws_at h)).1
  apply List.ext_getElem?
  intro i
  by_cases hi : k = i
  · subst hi
    rw [List.getElem?_set_self hl, ev_ws_at h]
  · rw [List.getElem?_set_ne hi]
    simp only [ev_ws, List.getElem?_mapIdx]
    cases hq : lay[i]? with
    | none => rfl
    | some c =>
      obtain ⟨e1, e2⟩ := hs i (Ne.symm hi)
      exact congrArg some (ev_ce_congr c e1 e2).symm
theorem ev_ws_bud {n : Nat} : ev_ws ad ca lay (σ.1, σ.2.1, n) = ev_ws ad ca lay σ := by
  rfl
theorem ev_up_other {k j : Nat} {x : Int32} : ∀ i, i ≠ k → (ev_up σ k j x).1 i = σ.1 i ∧ (ev_up σ k j x).2.1 i = σ.2.1 i := fun i hi => ⟨by simp [ev_up, hi], rfl⟩
theorem ev_uL_other {k j : Nat} {x : Int64} : ∀ i, i ≠ k → (ev_uL σ k j x).1 i = σ.1 i ∧ (ev_uL σ k j x).2.1 i = σ.2.1 i := fun i hi => ⟨rfl, by simp [ev_uL, hi]⟩
theorem ev_up_self {k j : Nat} {x : Int32} : (ev_up σ k j x).1 k = upd (σ.1 k) j x := by simp [ev_up]
theorem ev_uL_self {k j : Nat} {x : Int64} : (ev_uL σ k j x).2.1 k = vp_updL (σ.2.1 k) j x := by simp [ev_uL]
theorem ev_ws_field {k ci j : Nat} {fs : List (Option Nat)} {x : Int32} (h : lay[k]? = some (.inr (ci, fs))) (hj : fs[j]? = some none) : (ev_ws ad ca lay σ).set k (ad k, .inr (ci, (fs.mapIdx (fun j f => ev_fv ad σ k j f)).set j (.int x))) = ev_ws ad ca lay (ev_up σ k j x) := by
  rw [← ev_ws_set (σ := σ) (σ' := ev_up σ k j x) h ev_up_other]
  congr 1
  show (ad k, _) = (ad k, _)
  congr 3
  apply List.ext_getElem?
  intro i
  have hl : j < (fs.mapIdx (fun j f => ev_fv ad σ k j f)).length := by
    have := (List.getElem?_eq_some_iff.mp hj).1
    simpa using this
  by_cases hi : j = i
  · subst hi
    rw [List.getElem?_set_self hl]
    simp [hj, ev_fv, ev_up, upd]
  · rw [List.getElem?_set_ne hi]
    simp only [List.getElem?_mapIdx]
    cases hq : fs[i]? with
    | none => rfl
    | some f => cases f <;> simp [ev_fv, ev_up, upd, Ne.symm hi]
/-! locals -/
def ev_pl (ad : Nat → Nat) (ls : ev_V) : List (Nat × Value) := ls.zipIdx.filterMap (fun q => q.1.map (fun v => (q.2, ev_tr ad v)))
theorem ev_pl_mem {ls : ev_V} {i : Nat} {w : Value} : (i, w) ∈ ev_pl ad ls ↔ ∃ v, ls[i]? = some (some v) ∧ w = ev_tr ad v := by
  simp only [ev_pl, List.mem_filterMap]
  constructor
  · rintro ⟨⟨o, j⟩, hj, ho⟩
    rw [List.mk_mem_zipIdx_iff_getElem?] at hj
    cases o with
    | none => cases ho
    | some v => cases ho; exact ⟨v, hj, rfl⟩
  · rintro ⟨v, h, rfl⟩
    exact ⟨(some v, i), List.mk_mem_zipIdx_iff_getElem?.mpr h, rfl⟩
theorem ev_tr_cat (v : Value) : (ev_tr ad v).category = v.category := by cases v <;> rfl
def ev_L (lsA : Array Slot) (nL : Nat) (ad : Nat → Nat) (ls : ev_V) : Prop := lv_has lsA nL (ev_pl ad ls) ∧ ∀ (i : Nat) (v : Value), ls[i]? = some (some v) → v.category = 1
variable {lsA ls2 : Array Slot} {nL : Nat} {ls : ev_V}
theorem ev_L.get (h : ev_L lsA nL ad ls) {i : Nat} {v : Value} (hi : ls[i]? = some (some v)) : lsA[i]? = some (.val (ev_tr ad v)) := h.1.2.2 (i, ev_tr ad v) (ev_pl_mem.mpr ⟨v, hi, rfl⟩)
theorem ev_set_get {ls : ev_V} {i j : Nat} {o : Option Value} {u : Value} (h : (ls.set i o)[j]? = some (some u)) : (j = i ∧ o = some u) ∨ (j ≠ i ∧ ls[j]? = some (some u)) := by
  by_cases hj : i = j
  · subst hj
    left
    by_cases hl : i < ls.length
    · rw [List.getElem?_set_self hl] at h
      exact ⟨rfl, Option.some.inj h⟩
    · rw [List.getElem?_eq_none (by simpa using hl)] at h
      cases h
  · rw [List.getElem?_set_ne hj] at h
    exact Or.inr ⟨Ne.symm hj, h⟩
theorem ev_L.kept (h : ev_L lsA nL ad ls) {i j : Nat} {w u : Value} (h2 : lv_has ls2 nL ((i, w) :: (ev_pl ad ls).filter (fun q => !(q.1 == i) && !(q.1 + 1 == i && q.2.category == 2)))) (hj : j ≠ i) (hu : ls[j]? = some (some u)) : ls2[j]? = some (.val (ev_tr ad u)) := by
  refine h2.2.2 (j, ev_tr ad u) (List.mem_cons_of_mem _ (List.mem_filter.mpr ⟨ev_pl_mem.mpr ⟨u, hu, rfl⟩, ?_⟩))
  have hc := h.2 j u hu
  simp [hj, ev_tr_cat, hc]
theorem ev_L.set (h : ev_L lsA nL ad ls) {i : Nat} {v : Value} (hv : v.category = 1) (h2 : lv_has ls2 nL ((i, ev_tr ad v) :: (ev_pl ad ls).filter (fun q => !(q.1 == i) && !(q.1 + 1 == i && q.2.category == 2)))) : ev_L ls2 nL ad (ls.set i (some v)) := by
  refine ⟨⟨h2.1, h2.2.1, fun q hq => ?_⟩, fun j u hu => ?_⟩
  · obtain ⟨j, w⟩ := q
    obtain ⟨u, hu, rfl⟩ := ev_pl_mem.mp hq
    rcases ev_set_get hu with ⟨rfl, hx⟩ | ⟨hj, hu⟩
    · cases hx
      exact h2.2.2 _ List.mem_cons_self
    · exact h.kept h2 hj hu
  · rcases ev_set_get hu with ⟨rfl, hx⟩ | ⟨hj, hu⟩
    · cases hx
      exact hv
    · exact h.2 j u hu
theorem ev_L.unset (h : ev_L lsA nL ad ls) {i : Nat} {w : Value} (h2 : lv_has ls2 nL ((i, w) :: (ev_pl ad ls).filter (fun q => !(q.1 == i) && !(q.1 + 1 == i && q.2.category == 2)))) : ev_L ls2 nL ad (ls.set i none) := by
  refine ⟨⟨h2.1, h2.2.1, fun q hq => ?_⟩, fun j u hu => ?_⟩
  · obtain ⟨j, w⟩ := q
    obtain ⟨u, hu, rfl⟩ := ev_pl_mem.mp hq
    rcases ev_set_get hu with ⟨rfl, hx⟩ | ⟨hj, hu⟩
    · cases hx
    · exact h.kept h2 hj hu
  · rcases ev_set_get hu with ⟨rfl, hx⟩ | ⟨hj, hu⟩
    · cases hx
    · exact h.2 j u hu
theorem ev_args_mem : ∀ (vs : List Value) (k i : Nat) (v : Value), (∀ u ∈ vs, u.category = 1) → vs[i]? = some v → (k + i, v) ∈ lv_args k vs := by
  intro vs
  induction vs with
  | nil => intro k i v _ h; simp at h
  | cons u t ih =>
    intro k i v hc h
    have hu : u.category = 1 := hc u List.mem_cons_self
    have e1 : lv_args k (u :: t) = (k, u) :: lv_args (k + 1) t := by simp [lv_args, hu]
    rw [e1]
    cases i with
    | zero =>
      rw [List.getElem?_cons_zero] at h
      cases h
      exact List.mem_cons_self
    | succ i =>
      rw [List.getElem?_cons_succ] at h
      have := ih (k + 1) i v (fun w hw => hc w (List.mem_cons_of_mem _ hw)) h
      rw [show k + (i + 1) = k + 1 + i by omega]
      exact List.mem_cons_of_mem _ this
theorem ev_sl_len : ∀ (vs : List Value), (∀ u ∈ vs, u.category = 1) → (lg_sl vs).length = vs.length := by
  intro vs
  induction vs with
  | nil => intro _; rfl
  | cons u t ih =>
    intro hc
    have hu : u.category = 1 := hc u List.mem_cons_self
    have := ih (fun w hw => hc w (List.mem_cons_of_mem _ hw))
    simp only [lg_sl, List.flatMap_cons, hu] at this ⊢
    simp [this]
/-- the locals at a method's entry -/
def ev_ent (vs : List Value) (nL : Nat) : ev_V := vs.map some ++ List.replicate (nL - vs.length) none
theorem ev_entry (vs : List Value) (nL : Nat) (hc : ∀ u ∈ vs, u.category = 1) (hn : vs.length ≤ nL) : ev_L ((lg_sl (vs.map (ev_tr ad)) ++ List.replicate (nL - (lg_sl (vs.map (ev_tr ad))).length) Slot.unset).toArray) nL ad (ev_ent vs nL) := by
  have hc2 : ∀ u ∈ vs.map (ev_tr ad), u.category = 1 := by
    intro u hu
    obtain ⟨w, hw, rfl⟩ := List.mem_map.mp hu
    rw [ev_tr_cat]
    exact hc w hw
  have key : ∀ (i : Nat) (v : Value), (ev_ent vs nL)[i]? = some (some v) → vs[i]? = some v := by
    intro i v h
    unfold ev_ent at h
    by_cases hl : i < vs.length
    · rw [List.getElem?_append_left (by simpa using hl), List.getElem?_map] at h
      cases hq : vs[i]? with
      | none => rw [hq] at h; cases h
      | some w => rw [hq] at h; cases h; rfl
    · rw [List.getElem?_append_right (by simpa using hl), List.getElem?_replicate] at h
      split at h <;> cases h
  have he := lv_entry (vs.map (ev_tr ad)) (n := nL) (by rw [ev_sl_len _ hc2]; simpa using hn)
  refine ⟨⟨he.1, he.2.1, fun q hq => ?_⟩, fun i v h => hc v (List.mem_of_getElem? (key i v h))⟩
  obtain ⟨i, w⟩ := q
  obtain ⟨v, hv, rfl⟩ := ev_pl_mem.mp hq
  have h1 := ev_args_mem (vs.map (ev_tr ad)) 0 i (ev_tr ad v) hc2 (by rw [List.getElem?_map, key i v hv]; rfl)
  rw [Nat.zero_add] at h1
  exact he.2.2 _ h1
end EVL
/-! switches -/
theorem ev_lk {x : Int32} {K : Nat → Prop} {pc d : Nat} {dflt : Int} (hd : (pc : Int) + dflt = (d : Int)) : ∀ (ps : List (Int × Int)) (sw : List (Int32 × Nat)), ps.map (fun q => (q.1, (pc : Int) + q.2)) = sw.map (fun q => (q.1.toInt, (q.2 : Int))) → ev_sw x K d sw →
    ∃ (off : Int) (t : Nat), Op.lookupswitch.offset ps dflt x.toInt = off ∧ (pc : Int) + off = (t : Int) ∧ K t := by
  intro ps
  induction ps with
  | nil =>
    intro sw h hs
    cases sw with
    | nil => exact ⟨dflt, d, Op.lookupswitch.offset_nil _ _, hd, hs⟩
    | cons _ _ => cases h
  | cons q ps ih =>
    intro sw h hs
    obtain ⟨a, o⟩ := q
    cases sw with
    | nil => cases h
    | cons z sw =>
      obtain ⟨v, t⟩ := z
      simp only [List.map_cons, List.cons.injEq, Prod.mk.injEq] at h
      obtain ⟨⟨ha, ho⟩, hr⟩ := h
      obtain ⟨h1, h2⟩ := hs
      by_cases hx : x = v
      · refine ⟨o, t, ?_, ho, h1 hx⟩
        rw [Op.lookupswitch.offset_cons, if_pos]
        rw [hx, ha]
      · obtain ⟨off, t', e1, e2, e3⟩ := ih sw hr (h2 hx)
        exact ⟨off, t', by rw [lv_osw hx ha.symm]; exact e1, e2, e3⟩
def ev_tok (pc : Nat) : Int → List Int → List (Int32 × Nat) → Bool
  | _, [], [] => true
  | b, o :: os, (v, t) :: sw => decide (v.toInt = b) && decide ((pc : Int) + o = (t : Int)) && ev_tok pc (b + 1) os sw
  | _, _, _ => false
theorem ev_tb {x : Int32} {K : Nat → Prop} {pc d : Nat} : ∀ (os : List Int) (sw : List (Int32 × Nat)) (b : Int), ev_tok pc b os sw = true → ev_sw x K d sw →
    (∃ (i t : Nat) (off : Int), os[i]? = some off ∧ x.toInt = b + i ∧ (pc : Int) + off = (t : Int) ∧ K t) ∨ (K d ∧ (x.toInt < b ∨ b + os.length ≤ x.toInt)) := by
  intro os
  induction os with
  | nil =>
    intro sw b h hs
    cases sw with
    | nil =>
      right
      refine ⟨hs, ?_⟩
      simp only [List.length_nil]
      omega
    | cons _ _ => cases h
  | cons o os ih =>
    intro sw b h hs
    cases sw with
    | nil => cases h
    | cons z sw =>
      obtain ⟨v, t⟩ := z
      simp only [ev_tok, Bool.and_eq_true, decide_eq_true_eq] at h
      obtain ⟨⟨hv, ho⟩, hr⟩ := h
      obtain ⟨h1, h2⟩ := hs
      by_cases hx : x = v
      · left
        exact ⟨0, t, o, rfl, by rw [hx, hv]; simp, ho, h1 hx⟩
      · have hne : x.toInt ≠ b := fun z => hx (Int32.toInt_inj.mp (by rw [z, hv]))
        rcases ih sw (b + 1) hr (h2 hx) with ⟨i, t', off, e1, e2, e3, e4⟩ | ⟨e1, e2⟩
        · left
          exact ⟨i + 1, t', off, by rw [List.getElem?_cons_succ]; exact e1, by rw [e2]; omega, e3, e4⟩
        · right
          refine ⟨e1, ?_⟩
          simp only [List.length_cons]
          omega
end
section
/-! THE EVALUATOR IS RIGHT: one instruction, many instructions -/
/-- the class tables of the world: fields laid, their types, their names apart -/
def ev_Cl (TB : List Jvm.Cond) (cl : List vw_C) : Prop := ∀ (ci : Nat) (C : String) (T : u_T) (N : Nat), cl[ci]? = some (C, T, N) → (∀ w ∈ u_ws C T N, w ∈ TB) ∧ (∃ ty : Nat → FieldType, ∀ k, k < N → parseFieldDescriptor (T k).2.2.1 = some (ty k)) ∧ (∀ a, a < N → ∀ b, b < N → a ≠ b → (T a).2.1 ≠ (T b).2.1)
/-- words that only the tables say: they hold in every later state, whatever the arguments -/
def ev_Tb (TB : List Jvm.Cond) : Prop := ∀ w ∈ TB, ∀ (a a' : Array Value) (u U : State), u.WarmedH U.vm → w.before a u = true → w.before a' U = true
/-- the two statics that a new exception reads -/
def ev_ZA : List Jvm.Cond := [.laysStatic "java/lang/Throwable" "UNASSIGNED_STACK" "[Ljava/lang/StackTraceElement;", .laysStatic "java/lang/Throwable" "SUPPRESSED_SENTINEL" "Ljava/util/List;", .isRef (.static "java/lang/Throwable" "UNASSIGNED_STACK" "[Ljava/lang/StackTraceElement;"), .isRef (.static "java/lang/Throwable" "SUPPRESSED_SENTINEL" "Ljava/util/List;")]
def ev_Z (A : Nat → Prop) (U : State) (H : Heap) : Prop := ∀ U' : State, U.vm.Alike U'.vm → (∀ a : Nat, a < H.size → ¬ A a → U'.heap[a]? = H[a]?) → ∀ w ∈ ev_ZA, ∀ a : Array Value, w.before a U' = true
theorem ev_Z.moved {A : Nat → Prop} {u U : State} {H : Heap} (hz : ev_Z A u H) (h : u.vm.Alike U.vm) : ev_Z A U H := fun U' h1 h2 => hz U' (h.trans h1) h2
theorem ev_Z.kept {A : Nat → Prop} {U : State} {H H1 : Heap} (hz : ev_Z A U H) (hs : H.size ≤ H1.size) (hq : ∀ a : Nat, a < H.size → ¬ A a → H1[a]? = H[a]?) : ev_Z A U H1 := fun U' h1 h2 => hz U' h1 (fun a l n => (h2 a (Nat.lt_of_lt_of_le l hs) n).trans (hq a l n))
theorem ev_Z.narrow {A B : Nat → Prop} {U : State} {H : Heap} (hz : ev_Z A U H) (hAB : ∀ q, B q → A q) : ev_Z B U H := fun U' h1 h2 => hz U' h1 (fun a l n => h2 a l (fun z => n (hAB a z)))
theorem ev_Z.here {A : Nat → Prop} {U : State} (hz : ev_Z A U U.heap) : ∀ w ∈ ev_ZA, ∀ a : Array Value, w.before a U = true := hz U (Vm.Alike.refl _) (fun _ _ _ => rfl)
theorem ev_Z_lays {s U : State} {A A' : Array Value} {C n d : String} (hvm : s.vm.Alike U.vm) (hh : ∀ a : Nat, a < s.heap.size → U.heap[a]? = s.heap[a]?) (h : (Jvm.Cond.laysStatic C n d).before A s = true) : (Jvm.Cond.laysStatic C n d).before A' U = true := by
  obtain ⟨c, k, i, f, a, cell, hc, hi, hst, ha, hcell, hs, hcls, hlt, hty⟩ := Cond.laysStatic_spec h
  obtain ⟨k', hi', he⟩ := State.fieldFound?_setVm hvm hi
  have hi' : U.fieldFound? C n d = some (c, k', i, f) := hi'
  have hcell' : U.heap[a]? = some cell := by rw [hh a (Array.getElem?_eq_some_iff.mp hcell).1]; exact hcell
  have hc' : U.vm.findClass C = some c := by rw [hvm.findClass]; exact hc
  have ha' : k'.statics = some a := by rw [he]; exact ha
  have hty' : k'.staticTypes[f.slot]? = some f.type := by rw [he]; exact hty
  simp [Jvm.Cond.before, Jvm.Cond.holds, Jvm.Cond.value, hc', hi', ha', hcell', hst, hs, hcls, hlt, hty']
theorem ev_Z_ref {s U : State} {A A' : Array Value} {C n d : String} (hvm : s.vm.Alike U.vm) (hh : ∀ a : Nat, a < s.heap.size → U.heap[a]? = s.heap[a]?) (hl : (Jvm.Cond.laysStatic C n d).before A s = true) (h : (Jvm.Cond.isRef (.static C n d)).before A s = true) : (Jvm.Cond.isRef (.static C n d)).before A' U = true := by
  obtain ⟨c, k, i, f, a, cell, hc, hi, hst, ha, hcell, hs, hcls, hlt, hty⟩ := Cond.laysStatic_spec hl
  obtain ⟨k', hi', he⟩ := State.fieldFound?_setVm hvm hi
  have hi' : U.fieldFound? C n d = some (c, k', i, f) := hi'
  have hcell' : U.heap[a]? = some cell := by rw [hh a (Array.getElem?_eq_some_iff.mp hcell).1]; exact hcell
  have ha' : k'.statics = some a := by rw [he]; exact ha
  simp only [Jvm.Cond.before, Jvm.Cond.holds, Jvm.Cond.value, Jvm.Term.eval, State.fieldNamed?, hi, hi', hst, ha, ha', hcell, hcell', hs] at h ⊢
  simpa [hst, ha', hcell', hs, ha, hcell] using h
theorem ev_Z.of {A : Nat → Prop} {s : State} {a : Array Value} (hA : ∀ q : Nat, q < s.heap.size → ¬ A q) (h : ∀ w ∈ ev_ZA, w.before a s = true) : ev_Z A s s.heap := by
  intro U' hvm hh w hw a'
  have hh2 : ∀ q : Nat, q < s.heap.size → U'.heap[q]? = s.heap[q]? := fun q hq => hh q hq (hA q hq)
  have l1 := h _ (List.mem_cons_self : _ ∈ ev_ZA)
  have l2 := h _ (List.mem_cons_of_mem _ List.mem_cons_self : _ ∈ ev_ZA)
  have l3 := h _ (List.mem_cons_of_mem _ (List.mem_cons_of_mem _ List.mem_cons_self) : _ ∈ ev_ZA)
  have l4 := h _ (List.mem_cons_of_mem _ (List.mem_cons_of_mem _ (List.mem_cons_of_mem _ List.mem_cons_self)) : _ ∈ ev_ZA)
  rcases List.mem_cons.mp hw with rfl | hw
  · exact ev_Z_lays hvm hh2 l1
  rcases List.mem_cons.mp hw with rfl | hw
  · exact ev_Z_lays hvm hh2 l2
  rcases List.mem_cons.mp hw with rfl | hw
  · exact ev_Z_ref hvm hh2 l1 l3
  rcases List.mem_cons.mp hw with rfl | hw
  · exact ev_Z_ref hvm hh2 l2 l4
  · cases hw
/-- the kinds of exception -/
def ev_xn (k : Nat) : String := match k with
  | 0 => "java/lang/IllegalArgumentException"
  | 1 => "java/lang/IllegalStateException"
  | _ => "java/lang/IndexOutOfBoundsException"
/-- a method: name, bytes, locals, what it returns, its handlers, frames and words of room -/
abbrev ev_M : Type := MethodName × ByteArray × Nat × Option FieldType × List (Nat × Nat × Nat × Nat) × Nat × Nat
def ev_cw (q : ev_M) : Jvm.Cond := match q.2.2.2.2.1 with
  | [] => .code q.1 q.2.1 q.2.2.1 q.2.2.2.1
  | hh => .codeWith q.1 q.2.1 q.2.2.1 q.2.2.2.1 hh
def ev_rm (q : ev_M) (b : Nat) : Room := { frames := q.2.2.2.2.2.1, locals := q.2.2.2.2.2.2, cells := b, slots := 6 * b }
def ev_Ty (lay : List ev_C) (ca : Nat → ClassId) (tys : List (ClassId × FieldType)) : Prop := ∀ (k n : Nat) (ty : FieldType), lay[k]? = some (.inl (ty, n)) → ∃ t0 : Nat, tys[t0]? = some (ca k, ty)
def ev_Pc (TB : List Jvm.Cond) (cl : List vw_C) (lay : List ev_C) (D : va_G) (ad : Nat → Nat) (ca : Nat → ClassId) (tys : List (ClassId × FieldType)) (vs : List Value) (σ : ev_W) (sz : Nat) : Array Value → State → Prop := fun a U =>
  a = (vs.map (ev_tr ad)).toArray ∧ U.heap.size = sz ∧ va_P D cl (ev_ws ad ca lay σ) U.heap ∧ va_K D cl tys U ∧ va_D (fun _ => True) (ev_ws ad ca lay σ) ∧ (∀ w ∈ TB, w.before #[] U = true) ∧ ev_Z (va_A (ev_ws ad ca lay σ) sz) U U.heap
def ev_Qc (cl : List vw_C) (lay : List ev_C) (D : va_G) (ad : Nat → Nat) (ca : Nat → ClassId) (σ : ev_W) (sz : Nat) (P : (Option Value ⊕ Nat) → ev_W → Prop) : Nat → Array Value → State → Outcome → State → Prop := fun k _ st oc t =>
  ∃ (o : Option Value ⊕ Nat) (σ' : ev_W), P o σ' ∧ k + σ'.2.2 ≤ σ.2.2 ∧ va_F (va_A (ev_ws ad ca lay σ) sz) st t ∧ va_P D cl (ev_ws ad ca lay σ') t.heap ∧ (match o with
    | .inl v => oc = .returned (v.map (ev_tr ad))
    | .inr k => ∃ (x : Addr) (ce : Cell), oc = .threw x ∧ t.heap[x]? = some ce ∧ st.vm.findClass (ev_xn k) = some ce.cls ∧ ce.vm = .none)
/-- a method does what F says -/
def ev_Snd (l : Launch) (TB : List Jvm.Cond) (cl : List vw_C) (lay : List ev_C) (F : ev_F) (mt : Nat → Option ev_M) (j : Nat) : Prop :=
  ∀ (q : ev_M) (D : va_G) (ad : Nat → Nat) (ca : Nat → ClassId) (tys : List (ClassId × FieldType)) (vs : List Value) (σ : ev_W) (P : Prop × ((Option Value ⊕ Nat) → ev_W → Prop)) (sz : Nat), mt j = some q → ev_Ty lay ca tys → F j vs σ = some P → P.1 →
    ev_Met l q.1 (ev_cw q) (ev_rm q σ.2.2) (ev_Pc TB cl lay D ad ca tys vs σ sz) (ev_Qc cl lay D ad ca σ sz P.2) (va_A (ev_ws ad ca lay σ) sz)
/-- the row of a method's table says what stands in its bytes -/
def ev_ok (hs : Jvm.Cond → Bool) (cl : List vw_C) (mt : Nat → Option ev_M) (own host : String) (cc : ByteArray) (nL fr lo : Nat) (pc : Nat) (q : ev_I) : Bool :=
  decide (decode cc pc = .ok (q.1, q.2.1)) && match q.1 with
  | .iconst n => decide (q.2.1 = 1) && decide (Int32.ofInt n = q.2.2.2.2.1)
  | .bipush n => decide (q.2.1 = 2) && decide ((Int8.ofInt n).toInt32 = q.2.2.2.2.1)
  | .sipush n => decide (q.2.1 = 3) && decide ((Int16.ofInt n).toInt32 = q.2.2.2.2.1)
  | .ldc i => decide (q.2.1 = 2) && hs (.constant own i q.2.2.2.2.1)
  | .ldc_w i => decide (q.2.1 = 3) && hs (.constant own i q.2.2.2.2.1)
  | .lconst _ => decide (q.2.1 = 1)
  | .iload i => decide (q.2.1 = 2) && decide (i = q.2.2.1)
  | .iload_n i => decide (q.2.1 = 1) && decide ((i : Nat) = q.2.2.1)
  | .aload i => decide (q.2.1 = 2) && decide (i = q.2.2.1)
  | .aload_n i => decide (q.2.1 = 1) && decide ((i : Nat) = q.2.2.1)
  | .istore i => decide (q.2.1 = 2) && decide (i = q.2.2.1) && decide (q.2.2.1 < nL)
  | .istore_n i => decide (q.2.1 = 1) && decide ((i : Nat) = q.2.2.1) && decide (q.2.2.1 < nL)
  | .astore i => decide (q.2.1 = 2) && decide (i = q.2.2.1) && decide (q.2.2.1 < nL)
  | .astore_n i => decide (q.2.1 = 1) && decide ((i : Nat) = q.2.2.1) && decide (q.2.2.1 < nL)
  | .iinc i n => decide (q.2.1 = 3) && decide (i = q.2.2.1) && decide (Int32.ofInt n = q.2.2.2.2.1) && decide (q.2.2.1 < nL)
  | .ifCond _ off => decide (q.2.1 = 3) && decide ((pc : Int) + off = (q.2.2.1 : Int))
  | .if_icmp _ off => decide (q.2.1 = 3) && decide ((pc : Int) + off = (q.2.2.1 : Int))
  | .goto off => decide (q.2.1 = 3) && decide ((pc : Int) + off = (q.2.2.1 : Int))
  | .tableswitch d lo hi offs => decide ((pc : Int) + d = (q.2.2.1 : Int)) && ev_tok pc lo offs.toList q.2.2.2.2.2 && decide (hi + 1 = lo + offs.toList.length)
  | .lookupswitch d ps => decide ((pc : Int) + d = (q.2.2.1 : Int)) && decide (ps.toList.map (fun z => (z.1, (pc : Int) + z.2)) = q.2.2.2.2.2.map (fun z => (z.1.toInt, (z.2 : Int)))) && (ps.toList.zip (ps.toList.drop 1)).all (fun (a, next) => a.1 < next.1)
  | .getfield i => decide (q.2.1 = 3) && match cl[q.2.2.1]? with
    | some (_, T, N) => decide (q.2.2.2.1 < N) && (hs (.fieldLink own i (T q.2.2.2.1).1 (T q.2.2.2.1).2.1 (T q.2.2.2.1).2.2.1) || hs (.fieldLinkNest own i (T q.2.2.2.1).1 (T q.2.2.2.1).2.1 (T q.2.2.2.1).2.2.1 host))
    | none => false
  | .putfield i => decide (q.2.1 = 3) && match cl[q.2.2.1]? with
    | some (_, T, N) => decide (q.2.2.2.1 < N) && decide ((T q.2.2.2.1).2.2.2 = false) && decide (parseFieldDescriptor (T q.2.2.2.1).2.2.1 = some (if q.2.2.2.2.1 = 0 then .int else .boolean)) && (hs (.fieldLink own i (T q.2.2.2.1).1 (T q.2.2.2.1).2.1 (T q.2.2.2.1).2.2.1) || hs (.fieldLinkNest own i (T q.2.2.2.1).1 (T q.2.2.2.1).2.1 (T q.2.2.2.1).2.2.1 host))
    | none => false
  | .invokevirtual i => decide (q.2.1 = 3) && match mt q.2.2.1 with
    | some y => (match q.2.2.2.2.2 with
      | (_, ci) :: _ => (match cl[ci]? with
        | some (C, _, _) => decide (C = y.1.cls)
        | none => false)
      | [] => false) && hs (.instanceMethod y.1) && hs (.selects y.1.cls y.1 y.1) && hs (.initialized y.1.cls) && decide (y.1.cls ≠ "java/lang/invoke/MethodHandle" ∧ y.1.cls ≠ "java/lang/invoke/VarHandle") && decide ((parseMethodDescriptor y.1.desc).map (fun d => d.parameters.length + 1) = some q.2.2.2.1) && decide (y.2.2.2.2.1 = []) && decide (y.2.2.2.2.2.1 + 1 ≤ fr) && decide (12 + (y.2.2.1 + 11) + y.2.2.2.2.2.2 ≤ lo) && (hs (.methodLink own i y.1) || hs (.methodLinkNest own i y.1 host))
    | none => false
  | .invokestatic i => decide (q.2.1 = 3) && match mt q.2.2.1 with
    | some y => hs (.static y.1) && hs (.initialized y.1.cls) && decide (y.1.cls ≠ "java/lang/invoke/MethodHandle" ∧ y.1.cls ≠ "java/lang/invoke/VarHandle") && decide ((parseMethodDescriptor y.1.desc).map (fun d => d.parameters.length) = some q.2.2.2.1) && decide (y.2.2.2.2.2.1 + 1 ≤ fr) && decide (12 + (y.2.2.1 + 11) + y.2.2.2.2.2.2 ≤ lo) && (hs (.methodLink own i y.1) || hs (.methodLinkNest own i y.1 host))
    | none => false
  | _ => decide (q.2.1 = 1)
section EVT
variable {p : Program} {l : Launch} {e : Env} {R : Room} {s : State} {m : MethodId} {args : Array Value} {below : List Frame} {meth : Method} {c : Code} {Q : State → Prop}
variable {TB : List Jvm.Cond} {cl : List vw_C} {lay : List ev_C} {xo : Option (Nat × (Nat → Int32))} {F : ev_F} {mt : Nat → Option ev_M} {hd : List (Nat × Nat × Nat × Nat)} {own host : String} {cc : ByteArray} {nL : Nat} {D : va_G} {ad : Nat → Nat} {ca : Nat → ClassId} {tys : List (ClassId × FieldType)} {A : Nat → Prop}
theorem ev_D_any {σ σ' : ev_W} (h : va_D A (ev_ws ad ca lay σ)) : va_D A (ev_ws ad ca lay σ') := by
  have key : ∀ (k : Nat) (z : Nat × va_E), (ev_ws ad ca lay σ')[k]? = some z → ∃ z0, (ev_ws ad ca lay σ)[k]? = some z0 ∧ z0.1 = z.1 := by
    intro k z hz
    obtain ⟨q, hq, rfl⟩ := ev_ws_get hz
    exact ⟨_, ev_ws_at hq, rfl⟩
  refine ⟨fun i j x y hi hj hxy => ?_, fun k q hk => ?_⟩
  · obtain ⟨x0, h1, h2⟩ := key i x hi
    obtain ⟨y0, h3, h4⟩ := key j y hj
    exact h.1 i j x0 y0 h1 h3 (h2.trans (hxy.trans h4.symm))
  · obtain ⟨q0, h1, h2⟩ := key k q hk
    rw [← h2]
    exact h.2 k q0 h1
/-- where the machine stands: the world, its frame, the room -/
def ev_I0 (R : Room) (s : State) (cl : List vw_C) (lay : List ev_C) (D : va_G) (ad : Nat → Nat) (ca : Nat → ClassId) (A : Nat → Prop) (σ : ev_W) (H : Heap) (locs : List Loc) (cells slots : Nat) : Prop :=
  va_P D cl (ev_ws ad ca lay σ) H ∧ va_D A (ev_ws ad ca lay σ) ∧ va_S A s.heap H locs ∧ cells + σ.2.2 ≤ R.cells ∧ slots + 6 * σ.2.2 ≤ R.slots
/-- what is known of the invocation -/
def ev_X (p : Program) (l : Launch) (s : State) (m : MethodId) (args : Array Value) (c : Code) (TB : List Jvm.Cond) (cl : List vw_C) (lay : List ev_C) (xo : Option (Nat × (Nat → Int32))) (F : ev_F) (mt : Nat → Option ev_M) (own : String) (cc : ByteArray) (nL : Nat) (D : va_G) (ad : Nat → Nat) (ca : Nat → ClassId) (tys : List (ClassId × FieldType)) (A : Nat → Prop) : Prop :=
  p.tables.exec = Jvm.exec ∧ c.code = cc ∧ c.maxLocals = nL ∧ s.vm.findClass own = some m.cls ∧ (∀ w ∈ TB, w.before args s = true) ∧ ev_Tb TB ∧ ev_Cl TB cl ∧ va_K D cl tys s ∧ ev_Ty lay ca tys ∧ (∀ q, s.heap.size ≤ q → A q) ∧ ev_Z A s s.heap ∧
    (∀ (L : Nat) (xs : Nat → Int32), xo = some (L, xs) → va_X (ad 999) L xs s s.heap ∧ ad 999 < s.heap.size ∧ ¬ A (ad 999))
/-- the goal at a place -/
def ev_G (p : Program) (l : Launch) (e : Env) (R : Room) (s : State) (m : MethodId) (args : Array Value) (below : List Frame) (meth : Method) (c : Code) (Q : State → Prop) (cl : List vw_C) (lay : List ev_C) (nL : Nat) (D : va_G) (ad : Nat → Nat) (ca : Nat → ClassId) (A : Nat → Prop) : ev_K := fun pc ls st σ =>
  ∀ (H : Heap) (locs : List Loc) (cells slots : Nat) (lsA : Array Slot), ev_I0 R s cl lay D ad ca A σ H locs cells slots → ev_L lsA nL ad ls → W p l e R s m args below meth c H locs cells slots Q (F0 m pc lsA (st.map (ev_tr ad)))
variable {K : ev_K} {pc : Nat} {ls : ev_V} {st : List Value} {σ : ev_W} {H : Heap} {locs : List Loc} {cells slots : Nat} {lsA : Array Slot}
theorem ev_b2_s {f : Int32 → Int32 → Int32} (row : ∀ {x y : Int32} {rest : List Value}, W p l e R s m args below meth c H locs cells slots Q (F0 m (pc + 1) lsA (.int (f x y) :: rest)) → W p l e R s m args below meth c H locs cells slots Q (F0 m pc lsA (.int y :: .int x :: rest)))
    (hK : ∀ pc ls st σ, K pc ls st σ → ev_G p l e R s m args below meth c Q cl lay nL D ad ca A pc ls st σ) (hI : ev_I0 R s cl lay D ad ca A σ H locs cells slots) (hL : ev_L lsA nL ad ls) (h : ev_b2 f pc ls st σ K) : W p l e R s m args below meth c H locs cells slots Q (F0 m pc lsA (st.map (ev_tr ad))) := by
  unfold ev_b2 at h
  split at h
  · exact row (hK _ _ _ _ h H locs cells slots lsA hI hL)
  · exact h.elim
theorem ev_dv_s {f : Int32 → Int32 → Int32} (row : ∀ {x y : Int32} {rest : List Value}, ¬ y = 0 → W p l e R s m args below meth c H locs cells slots Q (F0 m (pc + 1) lsA (.int (f x y) :: rest)) → W p l e R s m args below meth c H locs cells slots Q (F0 m pc lsA (.int y :: .int x :: rest)))
    (hK : ∀ pc ls st σ, K pc ls st σ → ev_G p l e R s m args below meth c Q cl lay nL D ad ca A pc ls st σ) (hI : ev_I0 R s cl lay D ad ca A σ H locs cells slots) (hL : ev_L lsA nL ad ls) (h : ev_dv f pc ls st σ K) : W p l e R s m args below meth c H locs cells slots Q (F0 m pc lsA (st.map (ev_tr ad))) := by
  unfold ev_dv at h
  split at h
  · split at h
    · exact h.elim
    · rename_i hne
      exact row hne (hK _ _ _ _ h H locs cells slots lsA hI hL)
  · exact h.elim
theorem ev_c1_s {P : Int32 → Prop} {t1 t2 : Nat} (row : ∀ {x : Int32} {rest : List Value}, (P x → W p l e R s m args below meth c H locs cells slots Q (F0 m t1 lsA rest)) → (¬ P x → W p l e R s m args below meth c H locs cells slots Q (F0 m t2 lsA rest)) → W p l e R s m args below meth c H locs cells slots Q (F0 m pc lsA (.int x :: rest)))
    (hK : ∀ pc ls st σ, K pc ls st σ → ev_G p l e R s m args below meth c Q cl lay nL D ad ca A pc ls st σ) (hI : ev_I0 R s cl lay D ad ca A σ H locs cells slots) (hL : ev_L lsA nL ad ls) (h : ev_c1 P t1 t2 ls st σ K) : W p l e R s m args below meth c H locs cells slots Q (F0 m pc lsA (st.map (ev_tr ad))) := by
  unfold ev_c1 at h
  split at h
  · exact row (fun z => hK _ _ _ _ (h.1 z) H locs cells slots lsA hI hL) (fun z => hK _ _ _ _ (h.2 z) H locs cells slots lsA hI hL)
  · exact h.elim
theorem ev_c2_s {P : Int32 → Int32 → Prop} {t1 t2 : Nat} (row : ∀ {x y : Int32} {rest : List Value}, (P x y → W p l e R s m args below meth c H locs cells slots Q (F0 m t1 lsA rest)) → (¬ P x y → W p l e R s m args below meth c H locs cells slots Q (F0 m t2 lsA rest)) → W p l e R s m args below meth c H locs cells slots Q (F0 m pc lsA (.int y :: .int x :: rest)))
    (hK : ∀ pc ls st σ, K pc ls st σ → ev_G p l e R s m args below meth c Q cl lay nL D ad ca A pc ls st σ) (hI : ev_I0 R s cl lay D ad ca A σ H locs cells slots) (hL : ev_L lsA nL ad ls) (h : ev_c2 P t1 t2 ls st σ K) : W p l e R s m args below meth c H locs cells slots Q (F0 m pc lsA (st.map (ev_tr ad))) := by
  unfold ev_c2 at h
  split at h
  · exact row (fun z => hK _ _ _ _ (h.1 z) H locs cells slots lsA hI hL) (fun z => hK _ _ _ _ (h.2 z) H locs cells slots lsA hI hL)
  · exact h.elim
theorem ev_li_s {t i : Nat} (row : ∀ {x : Int32} {rest : List Value}, lsA[i]? = some (.val (.int x)) → W p l e R s m args below meth c H locs cells slots Q (F0 m t lsA (.int x :: rest)) → W p l e R s m args below meth c H locs cells slots Q (F0 m pc lsA rest))
    (hK : ∀ pc ls st σ, K pc ls st σ → ev_G p l e R s m args below meth c Q cl lay nL D ad ca A pc ls st σ) (hI : ev_I0 R s cl lay D ad ca A σ H locs cells slots) (hL : ev_L lsA nL ad ls) (h : ev_li t i ls st σ K) : W p l e R s m args below meth c H locs cells slots Q (F0 m pc lsA (st.map (ev_tr ad))) := by
  unfold ev_li at h
  split at h
  · rename_i x hx
    exact row (hL.get hx) (hK _ _ _ _ h H locs cells slots lsA hI hL)
  · exact h.elim
theorem ev_la_s {t i : Nat} (row : ∀ {x : Nat} {rest : List Value}, lsA[i]? = some (.val (.ref x)) → W p l e R s m args below meth c H locs cells slots Q (F0 m t lsA (.ref x :: rest)) → W p l e R s m args below meth c H locs cells slots Q (F0 m pc lsA rest))
    (hK : ∀ pc ls st σ, K pc ls st σ → ev_G p l e R s m args below meth c Q cl lay nL D ad ca A pc ls st σ) (hI : ev_I0 R s cl lay D ad ca A σ H locs cells slots) (hL : ev_L lsA nL ad ls) (h : ev_la t i ls st σ K) : W p l e R s m args below meth c H locs cells slots Q (F0 m pc lsA (st.map (ev_tr ad))) := by
  unfold ev_la at h
  split at h
  · rename_i x hx
    exact row (hL.get hx) (hK _ _ _ _ h H locs cells slots lsA hI hL)
  · exact h.elim
theorem ev_si_s {t i : Nat} (row : ∀ {x : Int32} {rest : List Value}, (∀ ls2 : Array Slot, lv_has ls2 nL ((i, Value.int x) :: (ev_pl ad ls).filter (fun q => !(q.1 == i) && !(q.1 + 1 == i && q.2.category == 2))) → W p l e R s m args below meth c H locs cells slots Q (F0 m t ls2 rest)) → W p l e R s m args below meth c H locs cells slots Q (F0 m pc lsA (.int x :: rest)))
    (hK : ∀ pc ls st σ, K pc ls st σ → ev_G p l e R s m args below meth c Q cl lay nL D ad ca A pc ls st σ) (hI : ev_I0 R s cl lay D ad ca A σ H locs cells slots) (hL : ev_L lsA nL ad ls) (h : ev_si t i ls st σ K) : W p l e R s m args below meth c H locs cells slots Q (F0 m pc lsA (st.map (ev_tr ad))) := by
  unfold ev_si at h
  split at h
  · rename_i x r
    exact row (fun ls2 h2 => hK _ _ _ _ h H locs cells slots ls2 hI (hL.set (v := .int x) rfl h2))
  · exact h.elim
theorem ev_sa_s {t i : Nat} (row : ∀ {x : Nat} {rest : List Value}, (∀ ls2 : Array Slot, lv_has ls2 nL ((i, Value.ref x) :: (ev_pl ad ls).filter (fun q => !(q.1 == i) && !(q.1 + 1 == i && q.2.category == 2))) → W p l e R s m args below meth c H locs cells slots Q (F0 m t ls2 rest)) → W p l e R s m args below meth c H locs cells slots Q (F0 m pc lsA (.ref x :: rest)))
    (hK : ∀ pc ls st σ, K pc ls st σ → ev_G p l e R s m args below meth c Q cl lay nL D ad ca A pc ls st σ) (hI : ev_I0 R s cl lay D ad ca A σ H locs cells slots) (hL : ev_L lsA nL ad ls) (h : ev_sa t i ls st σ K) : W p l e R s m args below meth c H locs cells slots Q (F0 m pc lsA (st.map (ev_tr ad))) := by
  unfold ev_sa at h
  split at h
  · rename_i x r
    exact row (fun ls2 h2 => hK _ _ _ _ h H locs cells slots ls2 hI (hL.set (v := .ref x) rfl h2))
  · exact h.elim
end EVT
end
section
/-! THE EVALUATOR IS RIGHT: fields and arrays -/
section EVU
variable {p : Program} {l : Launch} {e : Env} {R : Room} {s : State} {m : MethodId} {args : Array Value} {below : List Frame} {meth : Method} {c : Code} {Q : State → Prop}
variable {TB : List Jvm.Cond} {cl : List vw_C} {lay : List ev_C} {xo : Option (Nat × (Nat → Int32))} {F : ev_F} {mt : Nat → Option ev_M} {hd : List (Nat × Nat × Nat × Nat)} {own host : String} {cc : ByteArray} {nL : Nat} {D : va_G} {ad : Nat → Nat} {ca : Nat → ClassId} {tys : List (ClassId × FieldType)} {A : Nat → Prop}
variable {K : ev_K} {pc : Nat} {ls : ev_V} {st : List Value} {σ : ev_W} {H : Heap} {locs : List Loc} {cells slots : Nat} {lsA : Array Slot}
theorem ev_gf_s (hX : ev_X p l s m args c TB cl lay xo F mt own cc nL D ad ca tys A) {ci k i N : Nat} {C : String} {T : u_T} (hc : cl[ci]? = some (C, T, N)) (hk : k < N) (hlk : .fieldLink own i (T k).1 (T k).2.1 (T k).2.2.1 ∈ TB ∨ .fieldLinkNest own i (T k).1 (T k).2.1 (T k).2.2.1 host ∈ TB) (hdg : decode cc pc = .ok (.getfield i, 3))
    (hK : ∀ pc ls st σ, K pc ls st σ → ev_G p l e R s m args below meth c Q cl lay nL D ad ca A pc ls st σ) (hI : ev_I0 R s cl lay D ad ca A σ H locs cells slots) (hL : ev_L lsA nL ad ls) (h : ev_gf lay ci k pc ls st σ K) : W p l e R s m args below meth c H locs cells slots Q (F0 m pc lsA (st.map (ev_tr ad))) := by
  obtain ⟨hx, hb, hml, hown, hts, htb, hCl, hKs, hTy, hA, hZ, hXo⟩ := hX
  have hP := hI.1
  unfold ev_gf at h
  split at h
  · rename_i a r
    split at h
    · rename_i cj fs hq
      split at h
      · rename_i hcj
        subst hcj
        have he : (ev_ws ad ca lay σ)[a]? = some (ad a, .inr (cj, fs.mapIdx (fun j f => ev_fv ad σ a j f))) := ev_ws_at hq
        split at h
        · rename_i hf
          have hv : (fs.mapIdx (fun j f => ev_fv ad σ a j f))[k]? = some (.int (σ.1 a k)) := by simp [hf, ev_fv]
          rcases hlk with hl | hl
          · exact va_get (D := D) (ci := cj) (v := .int (σ.1 a k)) (C := C) (T := T) (N := N) hx hb hts (hCl _ _ _ _ hc).1 hown hKs hP a he hc k hk (hts _ hl) (fun _ h9 => h9) hv hdg (hK _ _ _ _ h H locs cells slots lsA hI hL)
          · exact va_getN (D := D) (ci := cj) (v := .int (σ.1 a k)) (C := C) (T := T) (N := N) hx hb hts (hCl _ _ _ _ hc).1 hown hKs hP a he hc k hk (hts _ hl) (fun _ h9 => h9) hv hdg (hK _ _ _ _ h H locs cells slots lsA hI hL)
        · rename_i b hf
          have hv : (fs.mapIdx (fun j f => ev_fv ad σ a j f))[k]? = some (.ref (ad b)) := by simp [hf, ev_fv]
          rcases hlk with hl | hl
          · exact va_get (D := D) (ci := cj) (v := .ref (ad b)) (C := C) (T := T) (N := N) hx hb hts (hCl _ _ _ _ hc).1 hown hKs hP a he hc k hk (hts _ hl) (fun _ h9 => h9) hv hdg (hK _ _ _ _ h H locs cells slots lsA hI hL)
          · exact va_getN (D := D) (ci := cj) (v := .ref (ad b)) (C := C) (T := T) (N := N) hx hb hts (hCl _ _ _ _ hc).1 hown hKs hP a he hc k hk (hts _ hl) (fun _ h9 => h9) hv hdg (hK _ _ _ _ h H locs cells slots lsA hI hL)
        · exact h.elim
      · exact h.elim
    · exact h.elim
  · exact h.elim
theorem ev_pf_s (hX : ev_X p l s m args c TB cl lay xo F mt own cc nL D ad ca tys A) {ci k i N : Nat} {C : String} {T : u_T} {z : Int32} (hc : cl[ci]? = some (C, T, N)) (hk : k < N) (hfin : (T k).2.2.2 = false) (hpd : parseFieldDescriptor (T k).2.2.1 = some (if z = 0 then .int else .boolean)) (hlk : .fieldLink own i (T k).1 (T k).2.1 (T k).2.2.1 ∈ TB ∨ .fieldLinkNest own i (T k).1 (T k).2.1 (T k).2.2.1 host ∈ TB) (hdg : decode cc pc = .ok (.putfield i, 3))
    (hK : ∀ pc ls st σ, K pc ls st σ → ev_G p l e R s m args below meth c Q cl lay nL D ad ca A pc ls st σ) (hI : ev_I0 R s cl lay D ad ca A σ H locs cells slots) (hL : ev_L lsA nL ad ls) (h : ev_pf lay ci k z pc ls st σ K) : W p l e R s m args below meth c H locs cells slots Q (F0 m pc lsA (st.map (ev_tr ad))) := by
  obtain ⟨hx, hb, hml, hown, hts, htb, hCl, hKs, hTy, hA, hZ, hXo⟩ := hX
  obtain ⟨hP, hD, hS, hr1, hr2⟩ := hI
  obtain ⟨hin, ⟨ty0, hty⟩, hnm⟩ := hCl _ _ _ _ hc
  unfold ev_pf at h
  split at h
  · rename_i x a r
    split at h
    · rename_i cj fs hq
      split at h
      · rename_i hcj
        subst hcj
        have he : (ev_ws ad ca lay σ)[a]? = some (ad a, .inr (cj, fs.mapIdx (fun j f => ev_fv ad σ a j f))) := ev_ws_at hq
        split at h
        · rename_i hf
          have hlen : k < (fs.mapIdx (fun j f => ev_fv ad σ a j f)).length := by
            have := (List.getElem?_eq_some_iff.mp hf).1
            simpa using this
          have go : ∀ ty : FieldType, parseFieldDescriptor (T k).2.2.1 = some ty → narrow ty (.int x) = .int x → fits ty (.int x) = true → K (pc + 3) ls r (ev_up σ a k x) → W p l e R s m args below meth c H locs cells slots Q (F0 m pc lsA (.int x :: .ref (ad a) :: r.map (ev_tr ad))) := by
            intro ty h1 h2 h3 h4
            have kk : ∀ (H1 : Heap) (locs1 : List Loc), va_P D cl ((ev_ws ad ca lay σ).set a (ad a, .inr (cj, (fs.mapIdx (fun j f => ev_fv ad σ a j f)).set k (.int x)))) H1 → va_D A ((ev_ws ad ca lay σ).set a (ad a, .inr (cj, (fs.mapIdx (fun j f => ev_fv ad σ a j f)).set k (.int x)))) → va_S A s.heap H1 locs1 → W p l e R s m args below meth c H1 locs1 cells slots Q (F0 m (pc + 3) lsA (r.map (ev_tr ad))) := by
              intro H1 locs1 g1 g2 g3
              rw [ev_ws_field hq hf] at g1 g2
              exact hK _ _ _ _ h4 H1 locs1 cells slots lsA ⟨g1, g2, g3, hr1, hr2⟩ hL
            rcases hlk with hl | hl
            · exact va_put (D := D) (ci := cj) (v := .int x) (ty := ty) (C := C) (T := T) (N := N) hx hb hts hin ty0 hty hnm hown hKs hP hD hS a he hc k hk (hts _ hl) (fun _ h9 => h9) hfin h1 h2 h3 hlen hdg kk
            · exact va_putN (D := D) (ci := cj) (v := .int x) (ty := ty) (C := C) (T := T) (N := N) hx hb hts hin ty0 hty hnm hown hKs hP hD hS a he hc k hk (hts _ hl) (fun _ h9 => h9) hfin h1 h2 h3 hlen hdg kk
          split at h
          · rename_i hz
            rw [if_pos hz] at hpd
            exact go .int hpd rfl rfl h
          · rename_i hz
            rw [if_neg hz] at hpd
            obtain ⟨hx01, h⟩ := h
            rcases hx01 with rfl | rfl
            · exact go .boolean hpd (by decide +kernel) (by decide +kernel) h
            · exact go .boolean hpd (by decide +kernel) (by decide +kernel) h
        · exact h.elim
      · exact h.elim
    · exact h.elim
  · exact h.elim
theorem ev_ia_s (hX : ev_X p l s m args c TB cl lay xo F mt own cc nL D ad ca tys A) (hdg : decode cc pc = .ok (.iaload, 1))
    (hK : ∀ pc ls st σ, K pc ls st σ → ev_G p l e R s m args below meth c Q cl lay nL D ad ca A pc ls st σ) (hI : ev_I0 R s cl lay D ad ca A σ H locs cells slots) (hL : ev_L lsA nL ad ls) (h : ev_ia lay xo pc ls st σ K) : W p l e R s m args below meth c H locs cells slots Q (F0 m pc lsA (st.map (ev_tr ad))) := by
  obtain ⟨hx, hb, hml, hown, hts, htb, hCl, hKs, hTy, hA, hZ, hXo⟩ := hX
  unfold ev_ia at h
  split at h
  · rename_i i a r
    split at h
    · rename_i n hq
      obtain ⟨t0, ht⟩ := hTy _ _ _ hq
      exact va_iald hx hb hKs hI.1 a t0 (ev_ws_at hq) ht h.1 hdg (hK _ _ _ _ h.2 H locs cells slots lsA hI hL)
    · split at h
      · rename_i L xs
        obtain ⟨h1, h2, h3⟩ := hXo _ _ rfl
        split at h
        · rename_i ha
          subst ha
          exact va_sld hx hb h1 h2 h3 hI.2.2.1 h.1 hdg (hK _ _ _ _ h.2 H locs cells slots lsA hI hL)
        · exact h.elim
      · exact h.elim
    · exact h.elim
  · exact h.elim
theorem ev_za_s (hX : ev_X p l s m args c TB cl lay xo F mt own cc nL D ad ca tys A) (hdg : decode cc pc = .ok (.baload, 1))
    (hK : ∀ pc ls st σ, K pc ls st σ → ev_G p l e R s m args below meth c Q cl lay nL D ad ca A pc ls st σ) (hI : ev_I0 R s cl lay D ad ca A σ H locs cells slots) (hL : ev_L lsA nL ad ls) (h : ev_za lay pc ls st σ K) : W p l e R s m args below meth c H locs cells slots Q (F0 m pc lsA (st.map (ev_tr ad))) := by
  obtain ⟨hx, hb, hml, hown, hts, htb, hCl, hKs, hTy, hA, hZ, hXo⟩ := hX
  unfold ev_za at h
  split at h
  · rename_i i a r
    split at h
    · rename_i n hq
      obtain ⟨t0, ht⟩ := hTy _ _ _ hq
      exact va_zald hx hb hKs hI.1 a t0 (ev_ws_at hq) ht h.1 hdg (hK _ _ _ _ h.2 H locs cells slots lsA hI hL)
    · exact h.elim
  · exact h.elim
theorem ev_ja_s (hX : ev_X p l s m args c TB cl lay xo F mt own cc nL D ad ca tys A) (hdg : decode cc pc = .ok (.laload, 1))
    (hK : ∀ pc ls st σ, K pc ls st σ → ev_G p l e R s m args below meth c Q cl lay nL D ad ca A pc ls st σ) (hI : ev_I0 R s cl lay D ad ca A σ H locs cells slots) (hL : ev_L lsA nL ad ls) (h : ev_ja lay pc ls st σ K) : W p l e R s m args below meth c H locs cells slots Q (F0 m pc lsA (st.map (ev_tr ad))) := by
  obtain ⟨hx, hb, hml, hown, hts, htb, hCl, hKs, hTy, hA, hZ, hXo⟩ := hX
  unfold ev_ja at h
  split at h
  · rename_i i a r
    split at h
    · rename_i n hq
      obtain ⟨t0, ht⟩ := hTy _ _ _ hq
      exact va_lald hx hb hKs hI.1 a t0 (ev_ws_at hq) ht h.1 hdg (hK _ _ _ _ h.2 H locs cells slots lsA hI hL)
    · exact h.elim
  · exact h.elim
theorem ev_is_s (hX : ev_X p l s m args c TB cl lay xo F mt own cc nL D ad ca tys A) (hdg : decode cc pc = .ok (.iastore, 1))
    (hK : ∀ pc ls st σ, K pc ls st σ → ev_G p l e R s m args below meth c Q cl lay nL D ad ca A pc ls st σ) (hI : ev_I0 R s cl lay D ad ca A σ H locs cells slots) (hL : ev_L lsA nL ad ls) (h : ev_is lay pc ls st σ K) : W p l e R s m args below meth c H locs cells slots Q (F0 m pc lsA (st.map (ev_tr ad))) := by
  obtain ⟨hx, hb, hml, hown, hts, htb, hCl, hKs, hTy, hA, hZ, hXo⟩ := hX
  obtain ⟨hP, hD, hS, hr1, hr2⟩ := hI
  unfold ev_is at h
  split at h
  · rename_i x i a r
    split at h
    · rename_i n hq
      obtain ⟨t0, ht⟩ := hTy _ _ _ hq
      refine va_iast hx hb hKs hP hD hS a t0 (ev_ws_at hq) ht h.1 hdg (fun H1 locs1 g1 g2 g3 => ?_)
      have e1 : (ev_ws ad ca lay σ).set a (ad a, .inl (ca a, n, .inl (upd (σ.1 a) i.toNatClampNeg x))) = ev_ws ad ca lay (ev_up σ a i.toNatClampNeg x) := by
        rw [← ev_ws_set (σ := σ) (σ' := ev_up σ a i.toNatClampNeg x) hq ev_up_other]
        simp [ev_ce, ev_up]
      have g1 : va_P D cl ((ev_ws ad ca lay σ).set a (ad a, .inl (ca a, n, .inl (upd (σ.1 a) i.toNatClampNeg x)))) H1 := g1
      have g2 : va_D A ((ev_ws ad ca lay σ).set a (ad a, .inl (ca a, n, .inl (upd (σ.1 a) i.toNatClampNeg x)))) := g2
      rw [e1] at g1 g2
      exact hK _ _ _ _ h.2 H1 locs1 cells slots lsA ⟨g1, g2, g3, hr1, hr2⟩ hL
    · exact h.elim
  · exact h.elim
theorem ev_zs_s (hX : ev_X p l s m args c TB cl lay xo F mt own cc nL D ad ca tys A) (hdg : decode cc pc = .ok (.bastore, 1))
    (hK : ∀ pc ls st σ, K pc ls st σ → ev_G p l e R s m args below meth c Q cl lay nL D ad ca A pc ls st σ) (hI : ev_I0 R s cl lay D ad ca A σ H locs cells slots) (hL : ev_L lsA nL ad ls) (h : ev_zs lay pc ls st σ K) : W p l e R s m args below meth c H locs cells slots Q (F0 m pc lsA (st.map (ev_tr ad))) := by
  obtain ⟨hx, hb, hml, hown, hts, htb, hCl, hKs, hTy, hA, hZ, hXo⟩ := hX
  obtain ⟨hP, hD, hS, hr1, hr2⟩ := hI
  unfold ev_zs at h
  split at h
  · rename_i x i a r
    split at h
    · rename_i n hq
      obtain ⟨t0, ht⟩ := hTy _ _ _ hq
      refine va_zast hx hb hKs hP hD hS a t0 (ev_ws_at hq) ht h.1 hdg (fun H1 locs1 g1 g2 g3 => ?_)
      have e1 : (ev_ws ad ca lay σ).set a (ad a, .inl (ca a, n, .inl (upd (σ.1 a) i.toNatClampNeg (vp_nar .boolean x)))) = ev_ws ad ca lay (ev_up σ a i.toNatClampNeg (vp_nar .boolean x)) := by
        rw [← ev_ws_set (σ := σ) (σ' := ev_up σ a i.toNatClampNeg (vp_nar .boolean x)) hq ev_up_other]
        simp [ev_ce, ev_up]
      have g1 : va_P D cl ((ev_ws ad ca lay σ).set a (ad a, .inl (ca a, n, .inl (upd (σ.1 a) i.toNatClampNeg (vp_nar .boolean x))))) H1 := g1
      have g2 : va_D A ((ev_ws ad ca lay σ).set a (ad a, .inl (ca a, n, .inl (upd (σ.1 a) i.toNatClampNeg (vp_nar .boolean x))))) := g2
      rw [e1] at g1 g2
      exact hK _ _ _ _ h.2 H1 locs1 cells slots lsA ⟨g1, g2, g3, hr1, hr2⟩ hL
    · exact h.elim
  · exact h.elim
theorem ev_js_s (hX : ev_X p l s m args c TB cl lay xo F mt own cc nL D ad ca tys A) (hdg : decode cc pc = .ok (.lastore, 1))
    (hK : ∀ pc ls st σ, K pc ls st σ → ev_G p l e R s m args below meth c Q cl lay nL D ad ca A pc ls st σ) (hI : ev_I0 R s cl lay D ad ca A σ H locs cells slots) (hL : ev_L lsA nL ad ls) (h : ev_js lay pc ls st σ K) : W p l e R s m args below meth c H locs cells slots Q (F0 m pc lsA (st.map (ev_tr ad))) := by
  obtain ⟨hx, hb, hml, hown, hts, htb, hCl, hKs, hTy, hA, hZ, hXo⟩ := hX
  obtain ⟨hP, hD, hS, hr1, hr2⟩ := hI
  unfold ev_js at h
  split at h
  · rename_i x i a r
    split at h
    · rename_i n hq
      obtain ⟨t0, ht⟩ := hTy _ _ _ hq
      refine va_last hx hb hKs hP hD hS a t0 (ev_ws_at hq) ht h.1 hdg (fun H1 locs1 g1 g2 g3 => ?_)
      have e1 : (ev_ws ad ca lay σ).set a (ad a, .inl (ca a, n, .inr (.inl (vp_updL (σ.2.1 a) i.toNatClampNeg x)))) = ev_ws ad ca lay (ev_uL σ a i.toNatClampNeg x) := by
        rw [← ev_ws_set (σ := σ) (σ' := ev_uL σ a i.toNatClampNeg x) hq ev_uL_other]
        simp [ev_ce, ev_uL]
      have g1 : va_P D cl ((ev_ws ad ca lay σ).set a (ad a, .inl (ca a, n, .inr (.inl (vp_updL (σ.2.1 a) i.toNatClampNeg x))))) H1 := g1
      have g2 : va_D A ((ev_ws ad ca lay σ).set a (ad a, .inl (ca a, n, .inr (.inl (vp_updL (σ.2.1 a) i.toNatClampNeg x))))) := g2
      rw [e1] at g1 g2
      exact hK _ _ _ _ h.2 H1 locs1 cells slots lsA ⟨g1, g2, g3, hr1, hr2⟩ hL
    · exact h.elim
  · exact h.elim
theorem ev_al_s (hX : ev_X p l s m args c TB cl lay xo F mt own cc nL D ad ca tys A) (hdg : decode cc pc = .ok (.arraylength, 1))
    (hK : ∀ pc ls st σ, K pc ls st σ → ev_G p l e R s m args below meth c Q cl lay nL D ad ca A pc ls st σ) (hI : ev_I0 R s cl lay D ad ca A σ H locs cells slots) (hL : ev_L lsA nL ad ls) (h : ev_al lay xo pc ls st σ K) : W p l e R s m args below meth c H locs cells slots Q (F0 m pc lsA (st.map (ev_tr ad))) := by
  obtain ⟨hx, hb, hml, hown, hts, htb, hCl, hKs, hTy, hA, hZ, hXo⟩ := hX
  unfold ev_al at h
  split at h
  · rename_i a r
    split at h
    · rename_i ty n hq
      obtain ⟨t0, ht⟩ := hTy _ _ _ hq
      have ha : ∃ x : vp_A, (ev_ws ad ca lay σ)[a]? = some (ad a, .inl (ca a, x)) ∧ x.1 = n := by
        cases ty <;> exact ⟨_, ev_ws_at hq, rfl⟩
      obtain ⟨x, ha, rfl⟩ := ha
      exact va_alen hx hb hKs hI.1 a t0 ha ht rfl hdg (hK _ _ _ _ h H locs cells slots lsA hI hL)
    · split at h
      · rename_i L xs
        obtain ⟨h1, h2, h3⟩ := hXo _ _ rfl
        split at h
        · rename_i ha
          subst ha
          exact va_slen hx hb h1 h2 h3 hI.2.2.1 hdg (hK _ _ _ _ h H locs cells slots lsA hI hL)
        · exact h.elim
      · exact h.elim
    · exact h.elim
  · exact h.elim
end EVU
end
section
/-! THE EVALUATOR IS RIGHT: calls, and all instructions -/
section EVQ
variable {p : Program} {l : Launch} {e : Env} {R : Room} {s : State} {m : MethodId} {args : Array Value} {below : List Frame} {meth : Method} {c : Code} {Q : State → Prop}
variable {TB : List Jvm.Cond} {cl : List vw_C} {lay : List ev_C} {xo : Option (Nat × (Nat → Int32))} {F : ev_F} {mt : Nat → Option ev_M} {hd : List (Nat × Nat × Nat × Nat)} {own host : String} {cc : ByteArray} {nL : Nat} {D : va_G} {ad : Nat → Nat} {ca : Nat → ClassId} {tys : List (ClassId × FieldType)} {A : Nat → Prop}
variable {K : ev_K} {pc : Nat} {ls : ev_V} {st : List Value} {σ σ' : ev_W} {H : Heap} {locs : List Loc} {cells slots : Nat} {lsA : Array Slot}
theorem ev_cw_spec {q : ev_M} (h : (ev_cw q).before args s = true) : ∃ (mk : MethodId) (methM : Method) (cM : Code), s.methodNamed? q.1 = some mk ∧ s.vm.method? mk = some methM ∧ methM.code = some cM ∧ cM.maxLocals = q.2.2.1 ∧ parseMethodDescriptor q.1.desc = some methM.sig := by
  unfold ev_cw at h
  split at h
  · obtain ⟨mk, hn⟩ := Cond.code_named h
    obtain ⟨methM, cM, h1, h2, -, h4, -, -, -, h8⟩ := Cond.code_spec hn h
    exact ⟨mk, methM, cM, hn, h1, h2, h4, h8⟩
  · obtain ⟨mk, methM, cM, hn, h1, h2, -, h4, -, -, -, h8⟩ := Cond.codeWith_spec h
    exact ⟨mk, methM, cM, hn, h1, h2, h4, h8⟩
/-- the handlers of the walked method -/
def ev_Hd (e : Env) (s : State) (m : MethodId) (c : Code) (cc : ByteArray) (nL : Nat) (hd : List (Nat × Nat × Nat × Nat)) : Prop :=
  ∀ h ∈ hd, ∀ kc : ClassId, s.vm.findClass (ev_xn h.2.1) = some kc → ∃ hp : Nat, ev_tk e s m kc h.1 c.exceptionTable.toList hp ∧ h.2.2.2 < nL ∧ ((∃ i : Fin 4, (i : Nat) = h.2.2.2 ∧ decode cc hp = .ok (.astore_n i, 1) ∧ h.2.2.1 = hp + 1) ∨ (decode cc hp = .ok (.astore h.2.2.2, 2) ∧ h.2.2.1 = hp + 2))
theorem ev_Ain (hD : va_D A (ev_ws ad ca lay σ)) (hS : va_S A s.heap H locs) (hA : ∀ q, s.heap.size ≤ q → A q) : ∀ q, va_A (ev_ws ad ca lay σ) H.size q → A q := by
  intro q h
  rcases h with ⟨k, e, h⟩ | h
  · exact hD.2 k (q, e) h
  · exact hA q (Nat.le_trans hS.1 h)
theorem ev_behind (hI : ev_I0 R s cl lay D ad ca A σ H locs cells slots) (hA : ∀ q, s.heap.size ≤ q → A q) {k : Nat} (hle : k + σ'.2.2 ≤ σ.2.2) {st0 t : State} (h0 : st0.heap = H) (hF : va_F (va_A (ev_ws ad ca lay σ) H.size) st0 t) (hP1 : va_P D cl (ev_ws ad ca lay σ') t.heap) {Lx : List Loc} (hLx : ∀ q ∈ Lx, va_A (ev_ws ad ca lay σ) H.size q.base) :
    ev_I0 R s cl lay D ad ca A σ' t.heap (locs ++ Lx) (cells + k) (slots + 6 * k) := by
  obtain ⟨hP, hD, hS, hr1, hr2⟩ := hI
  have hFc := ev_Ain hD hS hA
  obtain ⟨f1, f2⟩ := hF
  rw [h0] at f1 f2
  refine ⟨hP1, ev_D_any hD, ⟨Nat.le_trans hS.1 f1, fun q h1 h2 => ?_, fun q hq => ?_⟩, by omega, by omega⟩
  · rw [f2 q (Nat.lt_of_lt_of_le h1 hS.1) (fun z => h2 (hFc q z))]
    exact hS.2.1 q h1 h2
  · rcases List.mem_append.mp hq with h | h
    · exact hS.2.2 q h
    · exact hFc _ (hLx q h)
theorem ev_kr (hA : ∀ q, s.heap.size ≤ q → A q) (hK : ∀ pc ls st σ, K pc ls st σ → ev_G p l e R s m args below meth c Q cl lay nL D ad ca A pc ls st σ) (hI : ev_I0 R s cl lay D ad ca A σ H locs cells slots) (hL : ev_L lsA nL ad ls) {P : (Option Value ⊕ Nat) → ev_W → Prop} {a : Array Value} {rest : List Value}
    (hk : ∀ v σ', P (.inl v) σ' → K (pc + 3) ls (v.toList ++ rest) σ') : ev_Kr p l e R s m args below meth c H locs cells slots Q a (ev_Qc cl lay D ad ca σ H.size P) (va_A (ev_ws ad ca lay σ) H.size) (fun v => F0 m (pc + 3) lsA (v.toList ++ rest.map (ev_tr ad))) := by
  intro v st0 t k Lx h0 hW hq hLx
  obtain ⟨o, σ1, hPo, hle, hF, hP1, ho⟩ := hq
  cases o with
  | inl w =>
    have hv : v = w.map (ev_tr ad) := by
      have ho : Outcome.returned v = .returned (w.map (ev_tr ad)) := ho
      cases ho
      rfl
    have hg := hK _ _ _ _ (hk w σ1 hPo) t.heap (locs ++ Lx) _ _ lsA (ev_behind hI hA hle h0 hF hP1 hLx) hL
    have e1 : (w.toList ++ rest).map (ev_tr ad) = v.toList ++ rest.map (ev_tr ad) := by
      rw [hv]
      cases w <;> rfl
    rw [e1] at hg
    exact hg
  | inr k =>
    obtain ⟨x, ce, hx, -⟩ := ho
    cases hx
theorem ev_kt (hA : ∀ q, s.heap.size ≤ q → A q) (hx : p.tables.exec = Jvm.exec) (hb : c.code = cc) (hH : ev_Hd e s m c cc nL hd) (hK : ∀ pc ls st σ, K pc ls st σ → ev_G p l e R s m args below meth c Q cl lay nL D ad ca A pc ls st σ) (hI : ev_I0 R s cl lay D ad ca A σ H locs cells slots) (hL : ev_L lsA nL ad ls) {P : (Option Value ⊕ Nat) → ev_W → Prop} {a : Array Value} {rest : List Value}
    (hk : ∀ k σ', P (.inr k) σ' → ∃ h ∈ hd, h.1 = pc ∧ h.2.1 = k ∧ K h.2.2.1 (ls.set h.2.2.2 none) [] σ') : ev_Kt p l e R s m args below meth c H locs cells slots Q a (ev_Qc cl lay D ad ca σ H.size P) (va_A (ev_ws ad ca lay σ) H.size) (F0 m pc lsA (rest.map (ev_tr ad))) := by
  intro x st0 t T' kn Lx h0 hW hq hLx hT' X'
  obtain ⟨o, σ1, hPo, hle, hF, hP1, ho⟩ := hq
  cases o with
  | inl w => cases (show Outcome.threw x = .returned (w.map (ev_tr ad)) from ho)
  | inr k =>
    obtain ⟨x', ce, hx', hce, hfc, hcv⟩ := ho
    cases hx'
    rw [hW.alike.findClass] at hfc
    obtain ⟨h, hm, rfl, rfl, hKk⟩ := hk k σ1 hPo
    obtain ⟨hp, htk, hn, hst⟩ := hH h hm _ hfc
    obtain ⟨vm', X'', step⟩ := ev_catch X' (x := x) (g := F0 m h.1 lsA (rest.map (ev_tr ad))) rfl (by rw [hT']; exact hce) hcv (Vm.classAt_of_findClass hfc) htk
    have hg : ∀ ls2 : Array Slot, lv_has ls2 nL ((h.2.2.2, Value.ref x) :: (ev_pl ad ls).filter (fun q => !(q.1 == h.2.2.2) && !(q.1 + 1 == h.2.2.2 && q.2.category == 2))) → W p l e R s m args below meth c t.heap (locs ++ Lx) (cells + kn) (slots + 6 * kn) Q (F0 m h.2.2.1 ls2 []) := fun ls2 h2 =>
      hK _ _ _ _ hKk t.heap (locs ++ Lx) _ _ ls2 (ev_behind hI hA hle h0 hF hP1 hLx) (hL.unset h2)
    have hW2 : W p l e R s m args below meth c t.heap (locs ++ Lx) (cells + kn) (slots + 6 * kn) Q (F0 m hp lsA [.ref x]) := by
      rcases hst with ⟨i, hi, hd1, hpc⟩ | ⟨hd1, hpc⟩
      · exact lv_astore_n hx hb hd1 hi hL.1 hn rfl (fun ls2 h2 => by rw [← hpc]; exact hg ls2 h2)
      · exact lv_astore hx hb hd1 hL.1 hn rfl (fun ls2 h2 => by rw [← hpc]; exact hg ls2 h2)
    obtain ⟨t2, a1, b1⟩ := hW2 (T'.setVm vm') hT' X''
    exact ⟨t2, step _ a1, b1⟩
theorem ev_pc_at (hX : ev_X p l s m args c TB cl lay xo F mt own cc nL D ad ca tys A) (hI : ev_I0 R s cl lay D ad ca A σ H locs cells slots) (vs : List Value) : ∀ U : State, U.heap = H → s.WarmedH U.vm → ev_Pc TB cl lay D ad ca tys vs σ H.size (vs.map (ev_tr ad)).toArray U := by
  obtain ⟨hx, hb, hml, hown, hts, htb, hCl, hKs, hTy, hA, hZ, hXo⟩ := hX
  obtain ⟨hP, hD, hS, hr1, hr2⟩ := hI
  intro U hU hW
  have hFc := ev_Ain hD hS hA
  refine ⟨rfl, by rw [hU], by rw [hU]; exact hP, va_K.moved hW.alike hKs, hD.weaken (fun _ _ _ _ => trivial), fun w hw => htb w hw _ _ s U hW (hts w hw), ?_⟩
  rw [hU]
  exact ((hZ.kept hS.1 hS.2.1).moved hW.alike).narrow hFc
theorem ev_weigh {r : List Value} (h : r.length ≤ 6) : ((r.map (ev_tr ad)).map fun v => v.category).sum ≤ 12 := by
  have key : ∀ r : List Value, ((r.map (ev_tr ad)).map fun v => v.category).sum ≤ 2 * r.length := by
    intro r
    induction r with
    | nil => simp
    | cons v t ih =>
      have := lv_cat (ev_tr ad v)
      simp only [List.map_cons, List.sum_cons, List.length_cons]
      omega
  have := key r
  omega
theorem ev_ca_split {i n : Nat} (h : ev_ca F hd i n pc ls st σ K) : n ≤ st.length ∧ st.length ≤ n + 6 ∧ ∃ P, F i (st.take n).reverse σ = some P ∧ P.1 ∧ (∀ v σ', P.2 (.inl v) σ' → K (pc + 3) ls (v.toList ++ st.drop n) σ') ∧ (∀ k σ', P.2 (.inr k) σ' → ∃ q ∈ hd, q.1 = pc ∧ q.2.1 = k ∧ K q.2.2.1 (ls.set q.2.2.2 none) [] σ') := by
  unfold ev_ca at h
  split at h
  · rename_i hl
    refine ⟨hl.1, hl.2, ?_⟩
    split at h
    · rename_i P hF
      refine ⟨P, hF, h.1, fun v σ' hP => h.2 (.inl v) σ' hP, fun k σ' hP => ?_⟩
      have h := h.2 (.inr k) σ' hP
      dsimp only at h
      split at h
      · rename_i q hq
        have hp := List.find?_some hq
        simp only [Bool.and_eq_true, beq_iff_eq] at hp
        exact ⟨q, List.mem_of_find?_eq_some hq, hp.1, hp.2, h⟩
      · exact h.elim
    · exact h.elim
  · exact h.elim
theorem ev_cV_s (hX : ev_X p l s m args c TB cl lay xo F mt own cc nL D ad ca tys A) (hH : ev_Hd e s m c cc nL hd) (hCd : ∀ j y, mt j = some y → ev_cw y ∈ TB) {i n ix : Nat} (hSn : ev_Snd l TB cl lay F mt i) {y : ev_M} (hy : mt i = some y) (hdg : decode cc pc = .ok (.invokevirtual ix, 3))
    (h1 : .instanceMethod y.1 ∈ TB) (h2 : .selects y.1.cls y.1 y.1 ∈ TB) (h3 : .initialized y.1.cls ∈ TB) (h4 : y.1.cls ≠ "java/lang/invoke/MethodHandle" ∧ y.1.cls ≠ "java/lang/invoke/VarHandle") (h5 : (parseMethodDescriptor y.1.desc).map (fun d => d.parameters.length + 1) = some n) (h6 : y.2.2.2.2.1 = []) (h7 : y.2.2.2.2.2.1 + 1 ≤ R.frames) (h8 : 12 + (y.2.2.1 + 11) + y.2.2.2.2.2.2 ≤ R.locals) (h9 : .methodLink own ix y.1 ∈ TB ∨ .methodLinkNest own ix y.1 host ∈ TB)
    (hK : ∀ pc ls st σ, K pc ls st σ → ev_G p l e R s m args below meth c Q cl lay nL D ad ca A pc ls st σ) (hI : ev_I0 R s cl lay D ad ca A σ H locs cells slots) (hL : ev_L lsA nL ad ls) {sw : List (Int32 × Nat)} {ci : Nat} {z : Int32} {sw' : List (Int32 × Nat)} (hsw : sw = (z, ci) :: sw') {T : u_T} {N : Nat} (hcl : cl[ci]? = some (y.1.cls, T, N)) (h : ev_cv F lay hd i n sw pc ls st σ K) : W p l e R s m args below meth c H locs cells slots Q (F0 m pc lsA (st.map (ev_tr ad))) := by
  have hrv : ∃ (b : Nat) (t : List Value) (fs : List (Option Nat)), (st.take n).reverse = .ref b :: t ∧ lay[b]? = some (.inr (ci, fs)) ∧ ev_ca F hd i n pc ls st σ K := by
    subst hsw
    unfold ev_cv at h
    split at h
    · rename_i b t hv
      split at h
      · rename_i cj fs hl
        dsimp only at h
        split at h
        · rename_i hc
          subst hc
          exact ⟨b, t, fs, hv, hl, h⟩
        · exact h.elim
      · exact h.elim
    · exact h.elim
  obtain ⟨b, t, fs, hvs, hlb, h⟩ := hrv
  obtain ⟨g1, g2, P, hF, hpre, hk1, hk2⟩ := ev_ca_split h
  obtain ⟨hx, hb, hml, hown, hts, htb, hCl, hKs, hTy, hA, hZ, hXo⟩ := id hX
  have hM := hSn y D ad ca tys _ σ P H.size hy hTy hF hpre
  have hst : st.map (ev_tr ad) = (t.map (ev_tr ad)).reverse ++ .ref (ad b) :: (st.drop n).map (ev_tr ad) := by
    have e1 : st.take n = t.reverse ++ [.ref b] := by
      have := congrArg List.reverse hvs
      rw [List.reverse_reverse, List.reverse_cons] at this
      exact this
    conv => lhs; rw [← List.take_append_drop n st, e1]
    simp [ev_tr]
  have htl : t.length + 1 = n := by
    have := congrArg List.length hvs
    rw [List.length_reverse, List.length_take, List.length_cons] at this
    omega
  have hcw := hCd i y hy
  have hcode : (Jvm.Cond.code y.1 y.2.1 y.2.2.1 y.2.2.2.1).before args s = true := by
    have := hts _ hcw
    unfold ev_cw at this
    rw [h6] at this
    exact this
  have hrecv : ∃ cellB : Cell, H[ad b]? = some cellB ∧ cellB.vm.isStatics = false ∧ s.vm.findClass y.1.cls = some cellB.cls :=
    va_recv hKs hI.1 (ci := ci) (q0 := b) hcl (ev_ws_at hlb)
  have hpc := ev_pc_at hX hI (st.take n).reverse
  rw [hvs] at hpc hM
  rw [hst]
  subst hb
  exact ev_callV hx hown (h9.elim (fun z => Or.inl (hts _ z)) (fun z => Or.inr ⟨host, hts _ z⟩)) (hts _ h1) (hts _ h2) (hts _ h3) h4 hcode hM h7 h8 hI.2.2.2.1 hI.2.2.2.2 hrecv (hL.1.1.trans hml.symm) hdg
    (fun sig hs => by rw [hs] at h5; have h5 : sig.parameters.length + 1 = n := Option.some.inj h5; simp only [List.length_map]; omega) (ev_weigh (by rw [List.length_drop]; omega))
    (fun a' U hW => htb _ hcw _ a' s U hW (hts _ hcw)) hpc (ev_kr hA hK hI hL hk1) (ev_kt hA hx rfl hH hK hI hL hk2)
theorem ev_cS_s (hX : ev_X p l s m args c TB cl lay xo F mt own cc nL D ad ca tys A) (hH : ev_Hd e s m c cc nL hd) (hCd : ∀ j y, mt j = some y → ev_cw y ∈ TB) {i n ix : Nat} (hSn : ev_Snd l TB cl lay F mt i) {y : ev_M} (hy : mt i = some y) (hdg : decode cc pc = .ok (.invokestatic ix, 3))
    (h1 : .static y.1 ∈ TB) (h3 : .initialized y.1.cls ∈ TB) (h4 : y.1.cls ≠ "java/lang/invoke/MethodHandle" ∧ y.1.cls ≠ "java/lang/invoke/VarHandle") (h5 : (parseMethodDescriptor y.1.desc).map (fun d => d.parameters.length) = some n) (h7 : y.2.2.2.2.2.1 + 1 ≤ R.frames) (h8 : 12 + (y.2.2.1 + 11) + y.2.2.2.2.2.2 ≤ R.locals) (h9 : .methodLink own ix y.1 ∈ TB ∨ .methodLinkNest own ix y.1 host ∈ TB)
    (hK : ∀ pc ls st σ, K pc ls st σ → ev_G p l e R s m args below meth c Q cl lay nL D ad ca A pc ls st σ) (hI : ev_I0 R s cl lay D ad ca A σ H locs cells slots) (hL : ev_L lsA nL ad ls) (h : ev_ca F hd i n pc ls st σ K) : W p l e R s m args below meth c H locs cells slots Q (F0 m pc lsA (st.map (ev_tr ad))) := by
  obtain ⟨g1, g2, P, hF, hpre, hk1, hk2⟩ := ev_ca_split h
  obtain ⟨hx, hb, hml, hown, hts, htb, hCl, hKs, hTy, hA, hZ, hXo⟩ := id hX
  have hM := hSn y D ad ca tys _ σ P H.size hy hTy hF hpre
  have hst : st.map (ev_tr ad) = ((st.take n).reverse.map (ev_tr ad)).reverse ++ (st.drop n).map (ev_tr ad) := by
    rw [List.map_reverse, List.reverse_reverse, ← List.map_append, List.take_append_drop]
  have hcw := hCd i y hy
  rw [hst]
  subst hb
  exact ev_callS hx hown (h9.elim (fun z => Or.inl (hts _ z)) (fun z => Or.inr ⟨host, hts _ z⟩)) (hts _ h1) (hts _ h3) h4 (ev_cw_spec (hts _ hcw)) hM h7 h8 hI.2.2.2.1 hI.2.2.2.2 (hL.1.1.trans hml.symm) hdg
    (fun sig hs => by rw [hs] at h5; have h5 : sig.parameters.length = n := Option.some.inj h5; simp only [List.length_map, List.length_reverse, List.length_take]; omega) (ev_weigh (by rw [List.length_drop]; omega))
    (fun a' U hW => htb _ hcw _ a' s U hW (hts _ hcw)) (ev_pc_at hX hI (st.take n).reverse) (ev_kr hA hK hI hL hk1) (ev_kt hA hx rfl hH hK hI hL hk2)
theorem ev_has_or {hs : Jvm.Cond → Bool} (hhs : ∀ w, hs w = true → w ∈ TB) {w w2 : Jvm.Cond} (h : (hs w || hs w2) = true) : w ∈ TB ∨ w2 ∈ TB := by
  rcases Bool.or_eq_true_iff.mp h with h | h
  · exact Or.inl (hhs _ h)
  · exact Or.inr (hhs _ h)
set_option maxHeartbeats 4000000 in
/-- ONE INSTRUCTION -/
theorem ev_step {hs : Jvm.Cond → Bool} (hhs : ∀ w, hs w = true → w ∈ TB) (hX : ev_X p l s m args c TB cl lay xo F mt own cc nL D ad ca tys A) (hH : ev_Hd e s m c cc nL hd) (hCd : ∀ j y, mt j = some y → ev_cw y ∈ TB) (hSn : ∀ j y, mt j = some y → y.2.2.2.2.2.1 + 1 ≤ R.frames → ev_Snd l TB cl lay F mt j) {q : ev_I} (hok : ev_ok hs cl mt own host cc nL R.frames R.locals pc q = true)
    (hK : ∀ pc ls st σ, K pc ls st σ → ev_G p l e R s m args below meth c Q cl lay nL D ad ca A pc ls st σ) (h : ev_st F lay xo hd q pc ls st σ K) : ev_G p l e R s m args below meth c Q cl lay nL D ad ca A pc ls st σ := by
  intro H locs cells slots lsA hI hL
  obtain ⟨ins, len, a1, a2, an, sw⟩ := q
  have hX' := hX
  obtain ⟨hx, hb, hml, hown, hts, -⟩ := hX'
  simp only [ev_ok, Bool.and_eq_true, decide_eq_true_eq] at hok
  obtain ⟨hdg, hok⟩ := hok
  cases ins
  all_goals first | exact h.elim | skip
  all_goals (try simp only [Bool.and_eq_true, decide_eq_true_eq] at hok)
  case iconst n => obtain ⟨rfl, hv⟩ := hok; exact lv_iconst hx hb hdg hv (hK _ _ _ _ h H locs cells slots lsA hI hL)
  case bipush n => obtain ⟨rfl, hv⟩ := hok; exact lv_bipush hx hb hdg hv (hK _ _ _ _ h H locs cells slots lsA hI hL)
  case sipush n => obtain ⟨rfl, hv⟩ := hok; exact lv_sipush hx hb hdg hv (hK _ _ _ _ h H locs cells slots lsA hI hL)
  case ldc i => obtain ⟨rfl, hv⟩ := hok; exact lv_ldc hx hb hown (hts _ (hhs _ hv)) hdg (hK _ _ _ _ h H locs cells slots lsA hI hL)
  case ldc_w i => obtain ⟨rfl, hv⟩ := hok; exact lv_ldcw hx hb hown (hts _ (hhs _ hv)) hdg (hK _ _ _ _ h H locs cells slots lsA hI hL)
  case lconst n => obtain rfl := hok; exact lv_lconst hx hb hdg rfl (hK _ _ _ _ h H locs cells slots lsA hI hL)
  case iload i => obtain ⟨rfl, rfl⟩ := hok; exact ev_li_s (fun hl k => lv_iload hx hb hdg hl k) hK hI hL h
  case iload_n i => obtain ⟨rfl, hv⟩ := hok; exact ev_li_s (fun hl k => lv_iload_n hx hb hdg hv hl k) hK hI hL h
  case aload i => obtain ⟨rfl, rfl⟩ := hok; exact ev_la_s (fun hl k => lv_aload hx hb hdg hl k) hK hI hL h
  case aload_n i => obtain ⟨rfl, hv⟩ := hok; exact ev_la_s (fun hl k => lv_aload_n hx hb hdg hv hl k) hK hI hL h
  case istore i => obtain ⟨⟨rfl, rfl⟩, hn⟩ := hok; exact ev_si_s (fun k => lv_istore hx hb hdg hL.1 hn rfl k) hK hI hL h
  case istore_n i => obtain ⟨⟨rfl, hv⟩, hn⟩ := hok; exact ev_si_s (fun k => lv_istore_n hx hb hdg hv hL.1 hn rfl k) hK hI hL h
  case astore i => obtain ⟨⟨rfl, rfl⟩, hn⟩ := hok; exact ev_sa_s (fun k => lv_astore hx hb hdg hL.1 hn rfl k) hK hI hL h
  case astore_n i => obtain ⟨⟨rfl, hv⟩, hn⟩ := hok; exact ev_sa_s (fun k => lv_astore_n hx hb hdg hv hL.1 hn rfl k) hK hI hL h
  case iinc i n =>
    obtain ⟨⟨⟨rfl, rfl⟩, hv⟩, hn⟩ := hok
    have h : (match ls[i]? with | some (some (.int x)) => K (pc + 3) (ls.set i (some (.int (x + an)))) st σ | _ => False) := h
    split at h
    · rename_i x hx1
      obtain ⟨k0, hk0⟩ := List.getElem?_of_mem (ev_pl_mem (ad := ad).mpr ⟨_, hx1, rfl⟩)
      exact lv_iinc hx hb hdg hL.1 (k := k0) (x := x) hk0 (by rw [hv]) hn rfl (fun ls2 h2 => hK _ _ _ _ h H locs cells slots ls2 hI (hL.set (v := .int (x + an)) rfl h2))
    · exact h.elim
  case iadd => obtain rfl := hok; exact ev_b2_s (fun k => lv_iadd hx hb hdg k) hK hI hL h
  case isub => obtain rfl := hok; exact ev_b2_s (fun k => lv_isub hx hb hdg k) hK hI hL h
  case imul => obtain rfl := hok; exact ev_b2_s (fun k => lv_imul hx hb hdg k) hK hI hL h
  case iand => obtain rfl := hok; exact ev_b2_s (fun k => lv_iand hx hb hdg k) hK hI hL h
  case ior => obtain rfl := hok; exact ev_b2_s (fun k => lv_ior hx hb hdg k) hK hI hL h
  case ixor => obtain rfl := hok; exact ev_b2_s (fun k => lv_ixor hx hb hdg k) hK hI hL h
  case ishl => obtain rfl := hok; exact ev_b2_s (fun k => lv_ishl hx hb hdg k) hK hI hL h
  case ishr => obtain rfl := hok; exact ev_b2_s (fun k => lv_ishr hx hb hdg k) hK hI hL h
  case iushr => obtain rfl := hok; exact ev_b2_s (fun k => lv_iushr hx hb hdg rfl k) hK hI hL h
  case idiv => obtain rfl := hok; exact ev_dv_s (fun hne k => lv_idiv hx hb hdg hne k) hK hI hL h
  case irem => obtain rfl := hok; exact ev_dv_s (fun hne k => lv_irem hx hb hdg hne k) hK hI hL h
  case i2l =>
    obtain rfl := hok
    simp only [ev_st] at h
    split at h
    · exact lv_i2l hx hb hdg rfl (hK _ _ _ _ h H locs cells slots lsA hI hL)
    · exact h.elim
  case lcmp =>
    obtain rfl := hok
    simp only [ev_st] at h
    split at h
    · exact W.lcmp hx hb hdg (hK _ _ _ _ h H locs cells slots lsA hI hL)
    · exact h.elim
  case dup =>
    obtain rfl := hok
    simp only [ev_st] at h
    split at h
    · exact lv_dup hx hb hdg rfl (hK _ _ _ _ h H locs cells slots lsA hI hL)
    · exact lv_dup hx hb hdg rfl (hK _ _ _ _ h H locs cells slots lsA hI hL)
    · exact h.elim
  case dup2 =>
    obtain rfl := hok
    simp only [ev_st] at h
    split at h
    · exact lv_dup2_11 hx hb hdg rfl rfl (hK _ _ _ _ h H locs cells slots lsA hI hL)
    · exact h.elim
  case pop =>
    obtain rfl := hok
    simp only [ev_st] at h
    split at h
    · exact lv_pop hx hb hdg rfl (hK _ _ _ _ h H locs cells slots lsA hI hL)
    · exact lv_pop hx hb hdg rfl (hK _ _ _ _ h H locs cells slots lsA hI hL)
    · exact h.elim
  case ifCond cnd off =>
    obtain ⟨rfl, ht⟩ := hok
    cases cnd
    · exact ev_c1_s (fun k1 k2 => lv_if_eq hx hb hdg ht k1 k2) hK hI hL h
    · exact ev_c1_s (P := fun x => x = 0) (fun k1 k2 => lv_if_ne hx hb hdg ht k2 k1) hK hI hL h
    · exact ev_c1_s (fun k1 k2 => lv_if_lt hx hb hdg ht k1 k2) hK hI hL h
    · exact ev_c1_s (fun k1 k2 => lv_if_ge hx hb hdg ht k1 k2) hK hI hL h
    · exact ev_c1_s (fun k1 k2 => lv_if_gt hx hb hdg ht k1 k2) hK hI hL h
    · exact ev_c1_s (fun k1 k2 => lv_if_le hx hb hdg ht k1 k2) hK hI hL h
  case if_icmp cnd off =>
    obtain ⟨rfl, ht⟩ := hok
    cases cnd
    · exact ev_c2_s (fun k1 k2 => lv_icmp_eq hx hb hdg ht k1 k2) hK hI hL h
    · exact ev_c2_s (P := fun x y => x = y) (fun k1 k2 => lv_icmp_ne hx hb hdg ht k2 k1) hK hI hL h
    · exact ev_c2_s (fun k1 k2 => lv_icmp_lt hx hb hdg ht k1 k2) hK hI hL h
    · exact ev_c2_s (fun k1 k2 => lv_icmp_ge hx hb hdg ht k1 k2) hK hI hL h
    · exact ev_c2_s (fun k1 k2 => lv_icmp_gt hx hb hdg ht k1 k2) hK hI hL h
    · exact ev_c2_s (fun k1 k2 => lv_icmp_le hx hb hdg ht k1 k2) hK hI hL h
  case goto off => obtain ⟨rfl, ht⟩ := hok; exact lv_goto hx hb hdg ht (hK _ _ _ _ h H locs cells slots lsA hI hL)
  case tableswitch d lo hi offs =>
    obtain ⟨⟨hd0, htk⟩, hhi⟩ := hok
    simp only [ev_st] at h
    split at h
    · rename_i x r
      rcases ev_tb _ _ _ htk h with ⟨i, t, off, e1, e2, e3, e4⟩ | ⟨e1, e2⟩
      · have hil : i < offs.toList.length := (List.getElem?_eq_some_iff.mp e1).1
        refine lv_tableIn hx hb hdg (by omega) (by omega) (off := off) ?_ e3 (hK _ _ _ _ e4 H locs cells slots lsA hI hL)
        rw [show (x.toInt - lo).toNat = i by omega, ← Array.getElem?_toList]
        exact e1
      · exact lv_tableOut hx hb hdg (by omega) hd0 (hK _ _ _ _ e1 H locs cells slots lsA hI hL)
    · exact h.elim
  case lookupswitch d ps =>
    obtain ⟨⟨hd0, hmp⟩, hsrt⟩ := hok
    simp only [ev_st] at h
    split at h
    · rename_i x r
      obtain ⟨off, t, e1, e2, e3⟩ := ev_lk hd0 _ _ hmp h
      exact lv_lookup hx hb hdg hsrt e1 e2 (hK _ _ _ _ e3 H locs cells slots lsA hI hL)
    · exact h.elim
  case getfield i =>
    obtain ⟨rfl, hok⟩ := hok
    split at hok
    · rename_i C T N hc
      simp only [Bool.and_eq_true, decide_eq_true_eq] at hok
      exact ev_gf_s hX hc hok.1 (ev_has_or hhs hok.2) hdg hK hI hL h
    · cases hok
  case putfield i =>
    obtain ⟨rfl, hok⟩ := hok
    split at hok
    · rename_i C T N hc
      simp only [Bool.and_eq_true, decide_eq_true_eq] at hok
      exact ev_pf_s hX hc hok.1.1.1 hok.1.1.2 hok.1.2 (ev_has_or hhs hok.2) hdg hK hI hL h
    · cases hok
  case iaload => obtain rfl := hok; exact ev_ia_s hX hdg hK hI hL h
  case baload => obtain rfl := hok; exact ev_za_s hX hdg hK hI hL h
  case laload => obtain rfl := hok; exact ev_ja_s hX hdg hK hI hL h
  case iastore => obtain rfl := hok; exact ev_is_s hX hdg hK hI hL h
  case bastore => obtain rfl := hok; exact ev_zs_s hX hdg hK hI hL h
  case lastore => obtain rfl := hok; exact ev_js_s hX hdg hK hI hL h
  case arraylength => obtain rfl := hok; exact ev_al_s hX hdg hK hI hL h
  case invokevirtual i =>
    obtain ⟨rfl, hok⟩ := hok
    split at hok
    · rename_i y hy
      simp only [Bool.and_eq_true, decide_eq_true_eq] at hok
      obtain ⟨⟨⟨⟨⟨⟨⟨⟨⟨h0, h1⟩, h2⟩, h3⟩, h4⟩, h5⟩, h6⟩, h7⟩, h8⟩, h9⟩ := hok
      split at h0
      · rename_i z ci sw'
        split at h0
        · rename_i C T N hcl
          have h0 : C = y.1.cls := of_decide_eq_true h0
          subst h0
          exact ev_cV_s hX hH hCd (hSn _ y hy h7) hy hdg (hhs _ h1) (hhs _ h2) (hhs _ h3) h4 h5 h6 h7 h8 (ev_has_or hhs h9) hK hI hL (sw := (z, ci) :: sw') (z := z) (sw' := sw') rfl hcl h
        · cases h0
      · cases h0
    · cases hok
  case invokestatic i =>
    obtain ⟨rfl, hok⟩ := hok
    split at hok
    · rename_i y hy
      simp only [Bool.and_eq_true, decide_eq_true_eq] at hok
      obtain ⟨⟨⟨⟨⟨⟨h1, h3⟩, h4⟩, h5⟩, h7⟩, h8⟩, h9⟩ := hok
      exact ev_cS_s hX hH hCd (hSn _ y hy h7) hy hdg (hhs _ h1) (hhs _ h3) h4 h5 h7 h8 (ev_has_or hhs h9) hK hI hL h
    · cases hok
/-- MANY INSTRUCTIONS -/
theorem ev_many {hs : Jvm.Cond → Bool} (hhs : ∀ w, hs w = true → w ∈ TB) (hX : ev_X p l s m args c TB cl lay xo F mt own cc nL D ad ca tys A) (hH : ev_Hd e s m c cc nL hd) (hCd : ∀ j y, mt j = some y → ev_cw y ∈ TB) (hSn : ∀ j y, mt j = some y → y.2.2.2.2.2.1 + 1 ≤ R.frames → ev_Snd l TB cl lay F mt j) {cd : Nat → Option ev_I} (hok : ∀ pc q, cd pc = some q → ev_ok hs cl mt own host cc nL R.frames R.locals pc q = true) {stp : Nat → Bool} {Qf : ev_K}
    (hQ : ∀ pc ls st σ, Qf pc ls st σ → ev_G p l e R s m args below meth c Q cl lay nL D ad ca A pc ls st σ) : ∀ (n pc : Nat) (ls : ev_V) (st : List Value) (σ : ev_W), ev_wp F lay xo hd cd stp Qf n pc ls st σ → ev_G p l e R s m args below meth c Q cl lay nL D ad ca A pc ls st σ := by
  intro n
  induction n with
  | zero => intro pc ls st σ h; exact h.elim
  | succ n ih =>
    intro pc ls st σ h
    have h : (match cd pc with | none => Qf pc ls st σ | some q => ev_st F lay xo hd q pc ls st σ (fun pc' ls' st' σ' => match stp pc' with | true => Qf pc' ls' st' σ' | false => ev_wp F lay xo hd cd stp Qf n pc' ls' st' σ')) := h
    split at h
    · exact hQ _ _ _ _ h
    · rename_i q hq
      refine ev_step hhs hX hH hCd hSn (hok _ _ hq) (fun pc' ls' st' σ' h' => ?_) h
      have h' : (match stp pc' with | true => Qf pc' ls' st' σ' | false => ev_wp F lay xo hd cd stp Qf n pc' ls' st' σ') := h'
      split at h'
      · exact hQ _ _ _ _ h'
      · exact ih _ _ _ _ h'
end EVQ
/-- a run inside a method, whatever the machine's state: from here one comes to a place with Qf -/
def ev_Run (TB : List Jvm.Cond) (cl : List vw_C) (lay : List ev_C) (xo : Option (Nat × (Nat → Int32))) (F : ev_F) (mt : Nat → Option ev_M) (hd : List (Nat × Nat × Nat × Nat)) (own : String) (cc : ByteArray) (nL fr lo : Nat) (Qf : ev_K) : ev_K := fun pc ls st σ =>
  ∀ (p : Program) (l : Launch) (e : Env) (R : Room) (s : State) (m : MethodId) (args : Array Value) (below : List Frame) (meth : Method) (c : Code) (Q : State → Prop) (D : va_G) (ad : Nat → Nat) (ca : Nat → ClassId) (tys : List (ClassId × FieldType)) (A : Nat → Prop),
    ev_X p l s m args c TB cl lay xo F mt own cc nL D ad ca tys A → ev_Hd e s m c cc nL hd → (∀ j y, mt j = some y → y.2.2.2.2.2.1 + 1 ≤ R.frames → ev_Snd l TB cl lay F mt j) → R.frames = fr → R.locals = lo →
    (∀ pc ls st σ, Qf pc ls st σ → ev_G p l e R s m args below meth c Q cl lay nL D ad ca A pc ls st σ) → ev_G p l e R s m args below meth c Q cl lay nL D ad ca A pc ls st σ
section EVR
variable {TB : List Jvm.Cond} {cl : List vw_C} {lay : List ev_C} {xo : Option (Nat × (Nat → Int32))} {F : ev_F} {mt : Nat → Option ev_M} {hd : List (Nat × Nat × Nat × Nat)} {own host : String} {cc : ByteArray} {nL fr lo : Nat} {Qf Q1 : ev_K} {pc : Nat} {ls : ev_V} {st : List Value} {σ : ev_W}
theorem ev_fin (h : Qf pc ls st σ) : ev_Run TB cl lay xo F mt hd own cc nL fr lo Qf pc ls st σ :=
  fun _ _ _ _ _ _ _ _ _ _ _ _ _ _ _ _ _ _ _ _ _ k => k _ _ _ _ h
theorem ev_go {hs : Jvm.Cond → Bool} (hhs : ∀ w, hs w = true → w ∈ TB) (hCd : ∀ j y, mt j = some y → ev_cw y ∈ TB) {cd : Nat → Option ev_I} (hok : ∀ pc q, cd pc = some q → ev_ok hs cl mt own host cc nL fr lo pc q = true) (stp : Nat → Bool) (n : Nat) (h : ev_wp F lay xo hd cd stp Q1 n pc ls st σ)
    (k : ∀ pc ls st σ, Q1 pc ls st σ → ev_Run TB cl lay xo F mt hd own cc nL fr lo Qf pc ls st σ) : ev_Run TB cl lay xo F mt hd own cc nL fr lo Qf pc ls st σ := by
  intro p l e R s m args below meth c Q D ad ca tys A hX hH hSn h1 h2 hQ
  subst h1
  subst h2
  exact ev_many hhs hX hH hCd hSn hok (fun pc ls st σ h => k pc ls st σ h p l e R s m args below meth c Q D ad ca tys A hX hH hSn rfl rfl hQ) n pc ls st σ h
end EVR
end
section
/-! A METHOD's CONTRACT OUT OF A RUN OF ITS BODY -/
/-- where a run may end: the kinds of ending instruction (0: return, 1: ireturn of an int, 2: ireturn of a boolean, 3 + k: a new exception of the kind k is thrown); what is known there -/
def ev_at (tm : Nat → Option Nat) (b : Nat) (P : (Option Value ⊕ Nat) → ev_W → Prop) : ev_K := fun pc _ st σ => match tm pc with
  | some 0 => st = [] ∧ σ.2.2 ≤ b ∧ P (.inl none) σ
  | some 1 => ∃ v : Int32, st = [.int v] ∧ σ.2.2 ≤ b ∧ P (.inl (some (.int v))) σ
  | some 2 => ∃ v : Int32, st = [.int v] ∧ (v = 0 ∨ v = 1) ∧ σ.2.2 ≤ b ∧ P (.inl (some (.int v))) σ
  | some (k + 3) => st = [] ∧ ∃ b' : Nat, σ.2.2 = b' + 1 ∧ b' + 1 ≤ b ∧ P (.inr k) (σ.1, σ.2.1, b')
  | none => False
section EVM2
variable {l : Launch} {TB : List Jvm.Cond} {cl : List vw_C} {lay : List ev_C} {F : ev_F} {mt : Nat → Option ev_M} {hd : List (Nat × Nat × Nat × Nat)} {j : Nat}
/-- what a throw of a new exception of the kind k asks at its pc, in whatever invocation: it ends there -/
def ev_Th (l : Launch) (TB : List Jvm.Cond) (own : String) (cc : ByteArray) (nL fr lo : Nat) (k pc : Nat) : Prop :=
  ∀ (p : Program) (e : Env) (R : Room) (s : State) (m : MethodId) (args : Array Value) (below : List Frame) (meth : Method) (c : Code) (H : Heap) (locs : List Loc) (cells slots : Nat) (A : Nat → Prop) (ls : Array Slot) (free : Addr → Prop) (Qc : Nat → Array Value → State → Outcome → State → Prop),
    p.tables.exec = Jvm.exec → c.code = cc → c.maxLocals = nL → c.exceptionTable.toList = [] → meth.locks = false → s.vm.findClass own = some m.cls → (∀ w ∈ TB, w.before args s = true) → R.frames = fr → R.locals = lo → cells + 1 ≤ R.cells → slots + 6 ≤ R.slots → slots ≤ 6 * cells → ls.size = nL →
    va_S A s.heap H locs → (∀ q, A q → free q) → (∀ q, s.heap.size ≤ q → A q) → (∀ q, A q → ∀ cell, s.heap[q]? = some cell → cell.vm.isStatics = false) → ev_Z A s s.heap →
    (∀ (x : Addr) (ce : Cell) (t : State), H.size = x → t.heap[x]? = some ce → s.vm.findClass (ev_xn k) = some ce.cls → ce.vm = .none → (∀ q, q < H.size → t.heap[q]? = H[q]?) → H.size ≤ t.heap.size → Qc (cells + 1) args s (.threw x) t) →
    W p l e R s m args below meth c H locs cells slots (ev_MQ below Qc args s free) (F0 m pc ls [])
theorem ev_meth {y : ev_M} (hy : mt j = some y) (hyn : plainName y.1.cls = true) (hcwi : ev_cw y ∈ TB) (htb : ev_Tb TB) (hCl : ev_Cl TB cl)
    (tm : Nat → Option Nat) (h0 : ∀ pc, tm pc = some 0 → decode y.2.1 pc = .ok (.return_, 1) ∧ y.2.2.2.1 = none) (h1 : ∀ pc, tm pc = some 1 → decode y.2.1 pc = .ok (.ireturn, 1) ∧ y.2.2.2.1 = some .int) (h2 : ∀ pc, tm pc = some 2 → decode y.2.1 pc = .ok (.ireturn, 1) ∧ y.2.2.2.1 = some .boolean)
    (h3 : ∀ pc k, tm pc = some (k + 3) → y.2.2.2.2.1 = [] ∧ ev_Th l TB y.1.cls y.2.1 y.2.2.1 y.2.2.2.2.2.1 y.2.2.2.2.2.2 k pc)
    (hHd : ∀ (e : Env) (s : State) (m : MethodId) (c : Code) (args : Array Value), l.admits e → s.vm.findClass y.1.cls = some m.cls → (∀ w ∈ TB, w.before args s = true) → c.exceptionTable.toList.map (fun h => (h.startPc, h.endPc, h.handlerPc, h.catchType)) = y.2.2.2.2.1 → ev_Hd e s m c y.2.1 y.2.2.1 hd)
    (hRun : ∀ vs σ P, F j vs σ = some P → P.1 → (∀ u ∈ vs, u.category = 1) ∧ vs.length ≤ y.2.2.1 ∧ ev_Run TB cl lay none F mt hd y.1.cls y.2.1 y.2.2.1 y.2.2.2.2.2.1 y.2.2.2.2.2.2 (ev_at tm σ.2.2 P.2) 0 (ev_ent vs y.2.2.1) [] σ)
    (hSn : ∀ i z, mt i = some z → z.2.2.2.2.2.1 + 1 ≤ y.2.2.2.2.2.1 → ev_Snd l TB cl lay F mt i) : ev_Snd l TB cl lay F mt j := by
  intro q D ad ca tys vs σ P sz hq hTy hF hpre
  cases hy.symm.trans hq
  obtain ⟨hc1, hvl, hR⟩ := hRun vs σ P hF hpre
  refine ev_ofW (cc := y.2.1) (maxL := y.2.2.1) (ret := y.2.2.2.1) hyn ?_ ?_
  · unfold ev_cw
    split
    · exact Or.inl rfl
    · exact Or.inr ⟨_, rfl⟩
  intro p e s m args below meth c s₁ B hml hPc
  obtain ⟨rfl, hsz, hP, hK, hD0, hnw, hZ⟩ := hPc
  subst hsz
  have hown : s.vm.findClass y.1.cls = some m.cls := findClass_of_methodNamed B.named
  have hts : ∀ w ∈ TB, w.before (vs.map (ev_tr ad)).toArray s = true := fun w hw => htb w hw _ _ s s (State.WarmedH.refl s) (hnw w hw)
  have hlocks := B.notSynchronized
  have hexc : c.exceptionTable.toList.map (fun h => (h.startPc, h.endPc, h.handlerPc, h.catchType)) = y.2.2.2.2.1 := by
    have hw := hts _ hcwi
    have hcc : meth.code = some c := (Stand.of_body B).code
    unfold ev_cw at hw
    split at hw
    · rename_i he
      obtain ⟨meth', c', hm', hc', -, -, -, -, hem, -⟩ := Cond.code_spec B.named hw
      cases B.method.symm.trans hm'
      cases hcc.symm.trans hc'
      rw [he]
      have h0 : c.exceptionTable.size = 0 := by simpa [Array.isEmpty] using hem
      have h1 : c.exceptionTable.toList = [] := List.eq_nil_of_length_eq_zero (by simpa using h0)
      rw [h1]
      rfl
    · obtain ⟨mk, meth', c', hn', hm', hc', -, -, hem, -⟩ := Cond.codeWith_spec hw
      cases B.named.symm.trans hn'
      cases B.method.symm.trans hm'
      cases hcc.symm.trans hc'
      exact hem
  have hX : ev_X p l s m (vs.map (ev_tr ad)).toArray c TB cl lay none F mt y.1.cls y.2.1 y.2.2.1 D ad ca tys (va_A (ev_ws ad ca lay σ) s.heap.size) :=
    ⟨B.exec, B.bytes, hml, hown, hts, htb, hCl, hK, hTy, fun q h => Or.inr h, hZ, fun L xs h => by cases h⟩
  have hnst : ∀ q, va_A (ev_ws ad ca lay σ) s.heap.size q → ∀ cell, s.heap[q]? = some cell → cell.vm.isStatics = false := by
    intro q hq cell hcell
    rcases hq with ⟨k, e, hk⟩ | hq
    · have hat := hP k _ hk
      unfold va_at at hat
      split at hat
      · rename_i a ha
        have hat : s.heap[q]? = some (vp_cell a.1 a.2) := hat
        rw [hat] at hcell
        cases hcell
        obtain ⟨cA, n, f | f | f | f | f⟩ := a <;> rfl
      · obtain ⟨r, -, cell', g1, -, g3, -⟩ := hat
        have g1 : s.heap[q]? = some cell' := g1
        rw [g1] at hcell
        cases hcell
        rw [g3]
        rfl
    · rw [Array.getElem?_eq_none hq] at hcell
      cases hcell
  rw [lg_entry_eq]
  refine hR p l e (ev_rm y σ.2.2) s m _ below meth c _ D ad ca tys (va_A (ev_ws ad ca lay σ) s.heap.size) hX (hHd e s m c _ B.admits hown hts hexc) hSn rfl rfl ?_ s.heap [] 0 0 _ ⟨hP, hD0.self, va_S.rf, ?_, ?_⟩ (ev_entry vs y.2.2.1 hc1 hvl)
  · intro pc ls st σ1 hfin H locs cells slots lsA hI hL
    obtain ⟨hP1, hD1, hS1, hr1, hr2⟩ := hI
    have hr1 : cells + σ1.2.2 ≤ σ.2.2 := hr1
    have hr2 : slots + 6 * σ1.2.2 ≤ 6 * σ.2.2 := hr2
    unfold ev_at at hfin
    split at hfin
    · rename_i ht
      obtain ⟨rfl, hb, hPo⟩ := hfin
      obtain ⟨hd0, hret⟩ := h0 pc ht
      refine W.widen (k := σ.2.2 - σ1.2.2) (n := 6 * (σ.2.2 - σ1.2.2)) (by omega) (by omega) ?_
      exact ev_end (W.vret B.exec B.bytes (B.returns.trans hret) (fun t ht hW => ⟨_, σ1, hPo, by omega, hS1.F ht, by rw [ht]; exact hP1, rfl⟩) hS1.2.2 hd0)
    · rename_i ht
      obtain ⟨v, rfl, hb, hPo⟩ := hfin
      obtain ⟨hd0, hret⟩ := h1 pc ht
      refine W.widen (k := σ.2.2 - σ1.2.2) (n := 6 * (σ.2.2 - σ1.2.2)) (by omega) (by omega) ?_
      exact ev_end (W.iret B.exec B.bytes (B.returns.trans hret) (fun t ht hW => ⟨_, σ1, hPo, by omega, hS1.F ht, by rw [ht]; exact hP1, rfl⟩) hS1.2.2 hd0)
    · rename_i ht
      obtain ⟨v, rfl, hv, hb, hPo⟩ := hfin
      obtain ⟨hd0, hret⟩ := h2 pc ht
      have hnar : narrow .boolean (.int v) = .int v := by rcases hv with rfl | rfl <;> decide +kernel
      refine W.widen (k := σ.2.2 - σ1.2.2) (n := 6 * (σ.2.2 - σ1.2.2)) (by omega) (by omega) ?_
      exact ev_end (W.zret B.exec B.bytes (B.returns.trans hret) hnar (fun t ht hW => ⟨_, σ1, hPo, by omega, hS1.F ht, by rw [ht]; exact hP1, rfl⟩) hS1.2.2 hd0)
    · rename_i k ht
      obtain ⟨rfl, b', hb1, hb2, hPo⟩ := hfin
      obtain ⟨hh, hth⟩ := h3 pc k ht
      rw [hb1] at hr1 hr2
      have het : c.exceptionTable.toList = [] := by rw [hh] at hexc; exact List.map_eq_nil_iff.mp hexc
      refine W.widen (k := σ.2.2 - σ1.2.2) (n := 6 * (σ.2.2 - σ1.2.2)) (by omega) (by omega) ?_
      refine hth p e (ev_rm y σ.2.2) s m _ below meth c H locs _ _ (va_A (ev_ws ad ca lay σ) s.heap.size) lsA _ _ B.exec B.bytes hml het hlocks hown hts rfl rfl (show σ.2.2 - σ1.2.2 + 1 ≤ σ.2.2 by omega) (show 6 * (σ.2.2 - σ1.2.2) + 6 ≤ 6 * σ.2.2 by omega) (Nat.le_refl _) hL.1.1 hS1 (fun q h => h) (fun q h => Or.inr h) hnst hZ ?_
      intro x ce t hx hce hfc hcv hkept hsz
      have hP2 : va_P D cl (ev_ws ad ca lay (σ1.1, σ1.2.1, b')) H := by rw [ev_ws_bud]; exact hP1
      refine ⟨_, _, hPo, (show σ.2.2 - σ1.2.2 + 1 + b' ≤ σ.2.2 by omega), ⟨Nat.le_trans hS1.1 hsz, fun q g1 g2 => ?_⟩, hP2.kept (fun k q hq => hkept q.1 (hP2 k q hq).lt), x, ce, rfl, hce, hfc, hcv⟩
      rw [hkept q (Nat.lt_of_lt_of_le g1 hS1.1)]
      exact hS1.2.1 q g1 g2
    · exact hfin.elim
  · exact Nat.le_of_eq (Nat.zero_add _)
  · exact Nat.le_of_eq (Nat.zero_add _)
end EVM2
end
section
/-! A NEW EXCEPTION IS THROWN: the heap behind it is known but for the exception's own cell -/
section EVTH
variable {p : Program} {l : Launch} {e : Env} {R : Room} {s : State} {m : MethodId} {args : Array Value} {below : List Frame} {meth : Method} {c : Code} {T : State} {locs : List Loc} {cells slots : Nat}
set_option maxHeartbeats 1000000 in
theorem ev_thrown (X : Stand p l e R s m args below meth c T locs cells slots) (hexec : p.tables.exec = Jvm.exec) (htr : e.platform.stackTraces = false) {own cls : String} {names : List String} {ic : Nat}
    (hown : s.vm.findClass own = some m.cls) (hcls : Bundle.fit cls = true) (hnames : ∀ n ∈ names, Bundle.fit n = true) (h : ∀ a ∈ Bundle.ownAtoms own ic cls names, a.before args s = true)
    (hlocs : ∀ x ∈ locs, ∀ cell, s.heap[x.base]? = some cell → cell.vm.isStatics = false)
    {a : Addr} {cX : ClassId} {kX : Class} (hfoundX : s.vm.findClass cls = some cX) (hkX : s.vm.classes[cX]? = some kX) (hcell : T.heap[a]? = some (freshCell cX kX)) (hnew : s.heap.size ≤ a) {msg : Value} (hmsg : msg.isRef = true)
    {g : JFrame} (hg : g.method = m) (hsize : g.locals.size = c.maxLocals) (hlocked : g.locked = none) (hentered : g.entered = []) {rest : List Value} (hstack : g.stack = msg :: .ref a :: .ref a :: rest)
    (hd6 : decode c.code g.pc = .ok (.invokespecial ic, 3)) (hd9 : decode c.code (g.pc + 3) = .ok (.athrow, 1)) (hout : ∀ x ∈ c.exceptionTable.toList, covers x (g.pc + 3) = false)
    (hRframes : names.length + 3 < R.frames) (hRlocals : 2 * g.monitorRoom + ((Value.ref a :: rest).map fun v => v.category).sum + (13 * (names.length + 1) + 42) ≤ R.locals) (hlocks : meth.locks = false) :
    ∃ (U : State) (ce : Cell), Steps p.tables e below (T.setTop g) U ∧ U.status = .running ∧ Ended U below (.threw a) ∧ s.WarmedH U.vm ∧ s.sameButNew ({ U with vm := s.vm } : State) locs cells slots ∧ U.heap = T.heap.setIfInBounds a ce ∧ ce.cls = cX ∧ ce.vm = .none := by
  have howns : e.platform.frameOwnsMonitors = true := by rw [X.admits.platform]
  have hfin : e.platform.finalization = false := by rw [X.admits.platform]
  have hpl : e.platform.magicAccessors = ({} : Platform).magicAccessors := by rw [X.admits.platform]
  have q : ∀ x, x ∈ Bundle.ownAtoms own ic cls names → x.holds args s none s [] = true := fun x hx => h x hx
  obtain ⟨TC, Z0, LC, -, Y⟩ := ThrowableC.of_atoms (args := args) howns hfin hpl (fun x hx => h x (by simp [Bundle.ownAtoms, hx]))
  obtain ⟨Z, M, LZ, LM, hnZ⟩ := Init0T.ofS_atoms (args := args) hpl LC Y (fun x hx => h x (by simp [Bundle.ownAtoms, hx]))
  obtain ⟨P1, Ps, hlen, L1, hL, hP1m, hlink1, hlink⟩ := Bundle.chainS (args := args) hpl hnZ names cls hcls hnames (fun x hx => h x (by simp [Bundle.ownAtoms, hx]))
  have hfound : s.vm.findClass cls = some P1.m.cls := findClass_of_methodNamed hP1m
  cases Option.some.inj (hfoundX.symm.trans hfound)
  obtain ⟨c1, kX', hc1, hk, hord, -, -, -⟩ := Cond.instantiable_spec (q (.instantiable cls 6) (by simp [Bundle.ownAtoms]))
  cases Option.some.inj (hc1.symm.trans hfound)
  cases Option.some.inj (hkX.symm.trans hk)
  have hsel0 : selectMethod e.platform s.vm P1.m.cls TC.fill0 = .method TC.fill0 := by
    obtain ⟨c2, r2, m2, q1, q2, q3, q4, -⟩ := Cond.selects_spec (q (.selects cls Bundle.tFill0 Bundle.tFill0) (by simp [Bundle.ownAtoms]))
    cases Option.some.inj (q1.symm.trans hfound)
    cases Option.some.inj (q2.symm.trans (State.methodFound?_of_named Y.fill0 (by decide)))
    cases Option.some.inj (q3.symm.trans Y.fill0)
    rw [Launch.admits_selectMethod X.admits]; exact q4
  have hselF : selectMethod e.platform s.vm P1.m.cls TC.fill = .method TC.fill := by
    obtain ⟨c2, r2, m2, q1, q2, q3, q4, -⟩ := Cond.selects_spec (q (.selects cls Bundle.tFill Bundle.tFill) (by simp [Bundle.ownAtoms]))
    cases Option.some.inj (q1.symm.trans hfound)
    cases Option.some.inj (q2.symm.trans (State.methodFound?_of_named Y.fill (by decide)))
    cases Option.some.inj (q3.symm.trans Y.fill)
    rw [Launch.admits_selectMethod X.admits]; exact q4
  obtain ⟨cellS0, hcS0, hiss⟩ := Y.statics
  obtain ⟨u0, hu0⟩ := Cond.staticRefV Y.unassigned LC.unassignedStatic LC.statics hcS0 hiss (q (.isRef (.static Bundle.tN "UNASSIGNED_STACK" Bundle.steD)) (by simp [Bundle.ownAtoms]))
  obtain ⟨sen, hsen⟩ := Cond.staticRefV Y.sentinel LC.sentinelStatic LC.statics hcS0 hiss (q (.isRef (.static Bundle.tN "SUPPRESSED_SENTINEL" Bundle.listD)) (by simp [Bundle.ownAtoms]))
  obtain ⟨ci198, i198, fB, hk198, hg198, ha198, hsB, -, hnB, htB, hffB⟩ := Cond.ownField (t := .object "java/lang/Object") Y.found LC.cls (by decide +kernel) (q (.fieldLink Bundle.tN 198 Bundle.tN "backtrace" "Ljava/lang/Object;") (by simp [Bundle.ownAtoms])) (q (.lays Bundle.tN Bundle.tN "backtrace" "Ljava/lang/Object;") (by simp [Bundle.ownAtoms])) e.platform hpl
  obtain ⟨cellS, hcS', heS, -, hkeep⟩ := X.same.2.2.2.2.2 TC.aS cellS0 hcS0
  have hcellS : T.heap[TC.aS]? = some cellS := hcS'
  have hout' : ∀ i, (⟨TC.aS, i⟩ : Loc) ∉ locs := fun i hmem => by
    have := hlocs _ hmem cellS0 hcS0
    rw [hiss] at this; cases this
  have hknownS : cellS.vm ≠ .unknown := by
    rw [heS]; intro hu
    rw [show cellS0.vm = .unknown from hu] at hiss
    cases hiss
  have hneS : TC.aS ≠ a := Nat.ne_of_lt (Nat.lt_of_lt_of_le (Array.getElem?_eq_some_iff.mp hcS0).1 hnew)
  obtain ⟨iM, hffM⟩ := Y.msg
  obtain ⟨tyC, dC, hdC, hdnC⟩ := Cond.laysAt hfound hk Y.cause (q (.lays cls Bundle.tN "cause" "Ljava/lang/Throwable;") (by simp [Bundle.ownAtoms]))
  obtain ⟨tyS, dS, hdS, hdnS⟩ := Cond.laysAt hfound hk Y.stack (q (.lays cls Bundle.tN "stackTrace" Bundle.steD) (by simp [Bundle.ownAtoms]))
  obtain ⟨tyP, dP, hdP, hdnP⟩ := Cond.laysAt hfound hk Y.supp (q (.lays cls Bundle.tN "suppressedExceptions" Bundle.listD) (by simp [Bundle.ownAtoms]))
  obtain ⟨tyM, dM, hdM, hdnM⟩ := Cond.laysAt hfound hk hffM (q (.lays cls Bundle.tN "detailMessage" "Ljava/lang/String;") (by simp [Bundle.ownAtoms]))
  obtain ⟨tyB, dB, hdB, hdnB⟩ := Cond.laysAt hfound hk hffB (q (.lays cls Bundle.tN "backtrace" "Ljava/lang/Object;") (by simp [Bundle.ownAtoms]))
  have bC := Cond.laysApart hdB hdC hdnB hdnC (by rw [hnB, Y.causeName]; decide)
  have bS := Cond.laysApart hdB hdS hdnB hdnS (by rw [hnB, Y.stackName]; decide)
  have bP := Cond.laysApart hdB hdP hdnB hdnP (by rw [hnB, Y.suppName]; decide)
  have hskip : SkipFacts TC e.platform s (fun u => u) u0 ((preparedCellV TC.toThrowableT (freshCell P1.m.cls kX) a u0 sen).withEntry T.cur) :=
    ⟨{ ci198 := ci198, i198 := i198, fBack := fB }, ⟨hk198, hg198, ha198, hsB⟩, by
      have := fresh_default (c := P1.m.cls) tyB
      rw [htB] at this
      simpa [preparedCellV, Cell.setSlot, Cell.withEntry, Array.getElem?_setIfInBounds, bC, bS, bP, bC.symm, bS.symm, bP.symm, defaultValue] using this, fun _ _ => rfl⟩
  obtain ⟨tm, methC, cdC, kC, vm₁, hnC, -, -, -, -, -, -, -, hW₁, st1⟩ := Steps.initColdS (tb := p.tables) (e := e) (below := below) (s := s) (U := T) X.here hexec X.warmed hpl hown (t := Bundle.initS cls) rfl rfl (Bundle.fit_spec hcls).2
    (q (.methodLink own ic (Bundle.initS cls)) (by simp [Bundle.ownAtoms])) (h (.instanceMethod (Bundle.initS cls)) (by cases names <;> simp [Bundle.ownAtoms, Bundle.chainSAtoms, Bundle.passSAtoms])) (bytes := Bundle.six) (maxL := 2) (h (.code (Bundle.initS cls) Bundle.six 2 none) (by cases names <;> simp [Bundle.ownAtoms, Bundle.chainSAtoms, Bundle.passSAtoms]))
    (f := g) hg (a := a) (msg := msg) (rest := .ref a :: rest) hstack hd6
  cases Option.some.inj (hnC.symm.trans hP1m)
  have X₁ := X.noted hW₁
  obtain ⟨vm₂, X₂, st2⟩ := X₁.ctorMessageOffV hexec (g := { g with stack := .ref a :: rest }) hg hsize TC LC Z LZ M LM (P1 :: Ps)
    (fun P hP => by rcases List.mem_cons.mp hP with rfl | hP; exact L1; exact hL P hP) ⟨hlink1, hlink⟩ (u0 := u0) (sen := sen) (self := a) hmsg (cell := freshCell P1.m.cls kX) (cellS := cellS)
    hcell (fun _ => by simp) (by simp) rfl rfl hsel0 hselF hcellS hneS hknownS (by rw [hkeep _ (hout' _)]; exact hu0) (by rw [hkeep _ (hout' _)]; exact hsen)
    (Takes.of_laid hk hord tyC (by rw [Y.causeType]; rfl)) (Takes.of_laid hk hord tyS (by rw [Y.stackType]; exact fits_refV_array _ u0)) (Takes.of_laid hk hord tyP (by rw [Y.suppType]; exact fits_refV_object _ sen))
    (Takes.of_laid hk hord tyM (by rw [Y.msgType]; exact fits_refV_object _ ⟨msg, hmsg⟩)) Y.objLocals hskip htr [] hd6
    (by simp only [List.length_cons, hlen]; omega) (by simp only [List.length_cons, hlen]; exact hRlocals)
  obtain ⟨hwalk, hrun, hended, hWU, hsame⟩ := X₂.athrowLeaves hexec (g := { g with stack := .ref a :: rest, pc := g.pc + 3 }) hg hlocked hentered hout (a := a) (rest := rest) rfl hd9 hlocks
  refine ⟨_, plainBareV TC.toThrowableT (freshCell P1.m.cls kX) a u0 sen msg, st1 _ (fun acts => ?_), hrun, hended, hWU, hsame.weaken (fun y hy hlt' => ?_) (Nat.le_refl _) (Nat.le_refl _), rfl, rfl, rfl⟩
  · rw [doInvoke_state]
    exact st2 _ hwalk
  · rcases List.mem_append.mp hy with h1 | h1
    · exact h1
    · exfalso
      have hb : y.base = a := by
        simp only [List.mem_cons, List.not_mem_nil, or_false] at h1
        rcases h1 with rfl | rfl | rfl | rfl | rfl <;> rfl
      rw [hb] at hlt'
      exact Nat.not_lt.mpr hnew hlt'
end EVTH
end
section
/-! A THROW SITE: new, dup, ldc, invokespecial, athrow -/
def ev_up2 : List String := ["java/lang/RuntimeException", "java/lang/Exception"]
set_option maxHeartbeats 1000000 in
theorem ev_site {l : Launch} (hfl : l.flags = pinnedFlags ++ [noTraceFlag]) {TB : List Jvm.Cond} {own tx : String} {cc : ByteArray} {nL fr lo k pc ia is ic : Nat}
    (hd0 : decode cc pc = .ok (.new ia, 3)) (hd1 : decode cc (pc + 3) = .ok (.dup, 1)) (hd2 : decode cc (pc + 4) = .ok (.ldc is, 2)) (hd3 : decode cc (pc + 6) = .ok (.invokespecial ic, 3)) (hd4 : decode cc (pc + 9) = .ok (.athrow, 1))
    (h1 : .classLink own ia (ev_xn k) ∈ TB) (h2 : .instantiable (ev_xn k) 6 ∈ TB) (h3 : .initialized (ev_xn k) ∈ TB) (h4 : .stringRef own is tx ∈ TB) (h5 : ∀ w ∈ Bundle.ownAtoms own ic (ev_xn k) ev_up2, w ∈ TB ∨ w ∈ ev_ZA)
    (h6 : Bundle.fit (ev_xn k) = true) (h7 : ∀ n ∈ ev_up2, Bundle.fit n = true) (hfr : 5 < fr) (hlo : 82 ≤ lo) : ev_Th l TB own cc nL fr lo k pc := by
  intro p e R s m args below meth c H locs cells slots A ls free Qc hx hb hml het hlocks hown hts hfr' hlo' hc1 hc2 hsl hsz hS hfree hA hnst hZ hQ
  obtain ⟨cX, -, hfX, -⟩ := Cond.instantiable_spec (hts _ h2)
  refine W.newcK hx hb hown (hts _ h1) (hts _ h2) (hts _ h3) rfl hd0 hc1 hc2 hfX rfl (fun H' kC hkC e1 z1 o1 => ?_)
  refine W.eq (g2 := F0 m (pc + 3) ls [.ref H.size]) rfl ?_
  refine lv_dup hx hb hd1 rfl ?_
  intro T hT X
  obtain ⟨k1, cf, i, as, hk1, hcf, hcp, -, hr, hev⟩ := Cond.stringRef_spec hown (hts _ h4)
  have step1 := X.ldcString hx hown (text := tx) (a := as) (hts _ h4) hev (g := F0 m (pc + 3 + 1) ls [.ref H.size, .ref H.size]) rfl (by rw [hb]; exact hd2)
  have hat : ∀ w ∈ Bundle.ownAtoms own ic (ev_xn k) ev_up2, w.before args s = true := fun w hw => (h5 w hw).elim (fun z => hts w z) (fun z => hZ.here w z args)
  obtain ⟨U, ce, hst, hrun, hend, hWU, hsame, hheap, hcls, hvm⟩ := ev_thrown X hx (Launch.traces_off hfl X.admits) hown h6 h7 hat (fun x hx cell hc => hnst _ (hS.2.2 x hx) cell hc) (a := H.size) hfX hkC (by rw [hT]; exact e1) hS.1 (msg := .ref as) rfl
    (g := F0 m (pc + 6) ls [.ref as, .ref H.size, .ref H.size]) rfl (hsz.trans hml.symm) rfl rfl (rest := []) rfl (by rw [hb]; exact hd3) (by rw [hb]; exact hd4) (fun x hx => by rw [het] at hx; cases hx) (by rw [hfr']; exact hfr) (by rw [hlo']; exact hlo) hlocks
  have hlt : H.size < T.heap.size := by rw [hT, z1]; omega
  refine ⟨U, step1 _ hst, .threw H.size, hrun, hend, cells + 1, locs, hQ H.size ce U rfl ?_ ?_ hvm ?_ ?_, hWU, hsame.mono (Nat.le_refl _) (by omega), fun q hq => hfree _ (hS.2.2 q hq)⟩
  · rw [hheap]
    simp [hlt]
  · rw [hcls]
    exact hfX
  · intro q hq
    rw [hheap, Array.getElem?_setIfInBounds_ne (Nat.ne_of_gt hq), hT]
    exact o1 q hq
  · rw [hheap]
    simp only [Array.size_setIfInBounds]
    omega
end
section
/-! THE PROGRAM: classes, cells (laid by wip/gen/gen.py) -/
def pg_T0 : u_T := fun k => match k with
  | 0 => ("TicketTag$Memory", "words", "[I", true)
  | 1 => ("TicketTag$Memory", "draft", "[I", true)
  | 2 => ("TicketTag$Memory", "written", "I", false)
  | 3 => ("TicketTag$Memory", "tears", "I", false)
  | 4 => ("TicketTag$Memory", "near", "Z", false)
  | 5 => ("TicketTag$Memory", "tearing", "Z", false)
  | 6 => ("TicketTag$Memory", "wordsBeforeTear", "I", false)
  | _ => ("TicketTag$Memory", "junk", "I", false)
def pg_T1 : u_T := fun k => match k with
  | 0 => ("TicketTag", "memory", "LTicketTag$Memory;", true)
  | 1 => ("TicketTag", "clocks", "[I", true)
  | 2 => ("TicketTag", "barring", "[Z", true)
  | 3 => ("TicketTag", "dialogueGate", "I", false)
  | 4 => ("TicketTag", "openRecord", "I", false)
  | _ => ("TicketTag", "refusal", "I", false)
def pg_T2 : u_T := fun k => match k with
  | 0 => ("TicketTagModel", "thrown", "I", false)
  | 1 => ("TicketTagModel", "words", "[I", true)
  | 2 => ("TicketTagModel", "days", "[I", true)
  | 3 => ("TicketTagModel", "minutes", "[I", true)
  | 4 => ("TicketTagModel", "barred", "[Z", true)
  | 5 => ("TicketTagModel", "gate", "I", false)
  | 6 => ("TicketTagModel", "open", "Z", false)
  | 7 => ("TicketTagModel", "reason", "I", false)
  | 8 => ("TicketTagModel", "tear", "I", false)
  | 9 => ("TicketTagModel", "junk", "I", false)
  | 10 => ("TicketTagModel", "torn", "Z", false)
  | 11 => ("TicketTagModel", "written", "I", false)
  | 12 => ("TicketTagModel", "tears", "I", false)
  | _ => ("TicketTagModel", "record", "[I", true)
def pg_cl : List vw_C := [("TicketTag$Memory", pg_T0, 8), ("TicketTag", pg_T1, 6), ("TicketTagModel", pg_T2, 14)]
def pg_lay : List ev_C := [.inr (1, [some 1, some 2, some 3, none, none, none]), .inr (0, [some 4, some 5, none, none, none, none, none, none]), .inl (.int, 12), .inl (.boolean, 12), .inl (.int, 256), .inl (.int, 7), .inr (2, [none, some 7, some 8, some 9, some 10, none, none, none, none, none, none, none, none, some 11]), .inl (.int, 256), .inl (.int, 12), .inl (.int, 12), .inl (.boolean, 12), .inl (.int, 8), .inl (.long, 1)]
end
section
/-! THE PROGRAM: its methods and their instructions (laid by wip/gen/gen.py) -/
/-- 0: TicketTag.fare(II)I -/
def pg_y0 : ev_M := (⟨"TicketTag", "fare", "(II)I"⟩, prog_1_method_38_code, 2, (Option.some Jvm.ClassFile.FieldType.int), [], 0, 0)
def pg_c0 : List (Nat × ev_I) := [(0, .sipush 150, 3, 0, 0, 150, []),
  (3, .bipush 20, 2, 0, 0, 20, []),
  (5, .iload_n 1, 1, 1, 0, 0, []),
  (6, .imul, 1, 0, 0, 0, []),
  (7, .iadd, 1, 0, 0, 0, []),
  (8, .bipush 35, 2, 0, 0, 35, []),
  (10, .iload_n 0, 1, 0, 0, 0, []),
  (11, .iconst 4, 1, 0, 0, 4, []),
  (12, .irem, 1, 0, 0, 0, []),
  (13, .imul, 1, 0, 0, 0, []),
  (14, .iadd, 1, 0, 0, 0, [])]
def pg_t0 : List (Nat × Nat) := [(15, 1)]
/-- 1: TicketTag.isUpTo(II)Z -/
def pg_y1 : ev_M := (⟨"TicketTag", "isUpTo", "(II)Z"⟩, prog_1_method_19_code, 2, (Option.some Jvm.ClassFile.FieldType.boolean), [], 0, 0)
def pg_c1 : List (Nat × ev_I) := [(0, .iload_n 0, 1, 0, 0, 0, []),
  (1, .ifCond .lt 12, 3, 13, 0, 0, []),
  (4, .iload_n 0, 1, 0, 0, 0, []),
  (5, .iload_n 1, 1, 1, 0, 0, []),
  (6, .if_icmp .gt 7, 3, 13, 0, 0, []),
  (9, .iconst 1, 1, 0, 0, 1, []),
  (10, .goto 4, 3, 14, 0, 0, []),
  (13, .iconst 0, 1, 0, 0, 0, [])]
def pg_t1 : List (Nat × Nat) := [(14, 2)]
/-- 2: TicketTag.journeyPlace(I)I -/
def pg_y2 : ev_M := (⟨"TicketTag", "journeyPlace", "(I)I"⟩, prog_1_method_54_code, 1, (Option.some Jvm.ClassFile.FieldType.int), [], 0, 0)
def pg_c2 : List (Nat × ev_I) := [(0, .bipush 9, 2, 0, 0, 9, []),
  (2, .iconst 2, 1, 0, 0, 2, []),
  (3, .iload_n 0, 1, 0, 0, 0, []),
  (4, .bipush 16, 2, 0, 0, 16, []),
  (6, .irem, 1, 0, 0, 0, []),
  (7, .imul, 1, 0, 0, 0, []),
  (8, .iadd, 1, 0, 0, 0, [])]
def pg_t2 : List (Nat × Nat) := [(9, 1)]
/-- 3: TicketTag.manner(II)I -/
def pg_y3 : ev_M := (⟨"TicketTag", "manner", "(II)I"⟩, prog_1_method_42_code, 3, (Option.some Jvm.ClassFile.FieldType.int), [], 0, 0)
def pg_c3 : List (Nat × ev_I) := [(0, .iload_n 1, 1, 1, 0, 0, []),
  (1, .bipush 16, 2, 0, 0, 16, []),
  (3, .iload_n 2, 1, 2, 0, 0, []),
  (4, .imul, 1, 0, 0, 0, []),
  (5, .iadd, 1, 0, 0, 0, []),
  (6, .sipush 256, 3, 0, 0, 256, []),
  (9, .aload_n 0, 1, 0, 0, 0, []),
  (10, .getfield 24, 3, 1, 3, 0, []),
  (13, .imul, 1, 0, 0, 0, []),
  (14, .iadd, 1, 0, 0, 0, [])]
def pg_t3 : List (Nat × Nat) := [(15, 1)]
/-- 4: TicketTag.now()I -/
def pg_y4 : ev_M := (⟨"TicketTag", "now", "()I"⟩, prog_1_method_27_code, 1, (Option.some Jvm.ClassFile.FieldType.int), [], 0, 0)
def pg_c4 : List (Nat × ev_I) := [(0, .aload_n 0, 1, 0, 0, 0, []),
  (1, .getfield 16, 3, 1, 1, 0, []),
  (4, .aload_n 0, 1, 0, 0, 0, []),
  (5, .getfield 24, 3, 1, 3, 0, []),
  (8, .iaload, 1, 0, 0, 0, [])]
def pg_t4 : List (Nat × Nat) := [(9, 1)]
/-- 5: TicketTag.reason()I -/
def pg_y5 : ev_M := (⟨"TicketTag", "reason", "()I"⟩, prog_1_method_8_code, 1, (Option.some Jvm.ClassFile.FieldType.int), [], 0, 0)
def pg_c5 : List (Nat × ev_I) := [(0, .aload_n 0, 1, 0, 0, 0, []),
  (1, .getfield 31, 3, 1, 5, 0, [])]
def pg_t5 : List (Nat × Nat) := [(4, 1)]
/-- 6: TicketTag.refuse(I)I -/
def pg_y6 : ev_M := (⟨"TicketTag", "refuse", "(I)I"⟩, prog_1_method_31_code, 2, (Option.some Jvm.ClassFile.FieldType.int), [], 0, 0)
def pg_c6 : List (Nat × ev_I) := [(0, .aload_n 0, 1, 0, 0, 0, []),
  (1, .iload_n 1, 1, 1, 0, 0, []),
  (2, .putfield 31, 3, 1, 5, 0, []),
  (5, .iconst 3, 1, 0, 0, 3, [])]
def pg_t6 : List (Nat × Nat) := [(6, 1)]
/-- 7: TicketTag$Memory.addToSum(II)I -/
def pg_y7 : ev_M := (⟨"TicketTag$Memory", "addToSum", "(II)I"⟩, prog_2_method_13_code, 3, (Option.some Jvm.ClassFile.FieldType.int), [], 0, 0)
def pg_c7 : List (Nat × ev_I) := [(0, .iload_n 0, 1, 0, 0, 0, []),
  (1, .iload_n 1, 1, 1, 0, 0, []),
  (2, .iadd, 1, 0, 0, 0, []),
  (3, .istore_n 2, 1, 2, 0, 0, []),
  (4, .iload_n 2, 1, 2, 0, 0, []),
  (5, .ldc 56, 2, 0, 0, 65535, []),
  (7, .if_icmp .le 10, 3, 17, 0, 0, []),
  (10, .iload_n 2, 1, 2, 0, 0, []),
  (11, .ldc 56, 2, 0, 0, 65535, []),
  (13, .isub, 1, 0, 0, 0, []),
  (14, .goto 4, 3, 18, 0, 0, []),
  (17, .iload_n 2, 1, 2, 0, 0, [])]
def pg_t7 : List (Nat × Nat) := [(18, 1)]
/-- 8: TicketTag$Memory.at(II)I -/
def pg_y8 : ev_M := (⟨"TicketTag$Memory", "at", "(II)I"⟩, prog_2_method_8_code, 4, (Option.some Jvm.ClassFile.FieldType.int), [], 0, 0)
def pg_c8 : List (Nat × ev_I) := [(0, .iload_n 1, 1, 1, 0, 0, []),
  (1, .iconst 4, 1, 0, 0, 4, []),
  (2, .imul, 1, 0, 0, 0, []),
  (3, .iload_n 2, 1, 2, 0, 0, []),
  (4, .iadd, 1, 0, 0, 0, []),
  (5, .istore_n 3, 1, 3, 0, 0, []),
  (6, .iload_n 3, 1, 3, 0, 0, []),
  (7, .ifCond .lt 21, 3, 28, 0, 0, []),
  (10, .iload_n 3, 1, 3, 0, 0, []),
  (11, .aload_n 0, 1, 0, 0, 0, []),
  (12, .getfield 11, 3, 0, 0, 0, []),
  (15, .arraylength, 1, 0, 0, 0, []),
  (16, .if_icmp .ge 12, 3, 28, 0, 0, []),
  (19, .aload_n 0, 1, 0, 0, 0, []),
  (20, .getfield 11, 3, 0, 0, 0, []),
  (23, .iload_n 3, 1, 3, 0, 0, []),
  (24, .iaload, 1, 0, 0, 0, []),
  (25, .goto 4, 3, 29, 0, 0, []),
  (28, .iconst 0, 1, 0, 0, 0, [])]
def pg_t8 : List (Nat × Nat) := [(29, 1)]
/-- 9: TicketTag$Memory.comeNear()V -/
def pg_y9 : ev_M := (⟨"TicketTag$Memory", "comeNear", "()V"⟩, prog_2_method_5_code, 1, (Option.none : Option Jvm.ClassFile.FieldType), [], 0, 0)
def pg_c9 : List (Nat × ev_I) := [(0, .aload_n 0, 1, 0, 0, 0, []),
  (1, .iconst 1, 1, 0, 0, 1, []),
  (2, .putfield 25, 3, 0, 4, 1, [])]
def pg_t9 : List (Nat × Nat) := [(5, 0)]
/-- 10: TicketTag$Memory.draft(IIIIII)V -/
def pg_y10 : ev_M := (⟨"TicketTag$Memory", "draft", "(IIIIII)V"⟩, prog_2_method_16_code, 7, (Option.none : Option Jvm.ClassFile.FieldType), [], 0, 0)
def pg_c10 : List (Nat × ev_I) := [(0, .aload_n 0, 1, 0, 0, 0, []),
  (1, .getfield 15, 3, 0, 1, 0, []),
  (4, .iconst 1, 1, 0, 0, 1, []),
  (5, .iload_n 1, 1, 1, 0, 0, []),
  (6, .iastore, 1, 0, 0, 0, []),
  (7, .aload_n 0, 1, 0, 0, 0, []),
  (8, .getfield 15, 3, 0, 1, 0, []),
  (11, .iconst 2, 1, 0, 0, 2, []),
  (12, .iload_n 2, 1, 2, 0, 0, []),
  (13, .iastore, 1, 0, 0, 0, []),
  (14, .aload_n 0, 1, 0, 0, 0, []),
  (15, .getfield 15, 3, 0, 1, 0, []),
  (18, .iconst 3, 1, 0, 0, 3, []),
  (19, .iload_n 3, 1, 3, 0, 0, []),
  (20, .iastore, 1, 0, 0, 0, []),
  (21, .aload_n 0, 1, 0, 0, 0, []),
  (22, .getfield 15, 3, 0, 1, 0, []),
  (25, .iconst 4, 1, 0, 0, 4, []),
  (26, .iload 4, 2, 4, 0, 0, []),
  (28, .iastore, 1, 0, 0, 0, []),
  (29, .aload_n 0, 1, 0, 0, 0, []),
  (30, .getfield 15, 3, 0, 1, 0, []),
  (33, .iconst 5, 1, 0, 0, 5, []),
  (34, .iload 5, 2, 5, 0, 0, []),
  (36, .iastore, 1, 0, 0, 0, []),
  (37, .aload_n 0, 1, 0, 0, 0, []),
  (38, .getfield 15, 3, 0, 1, 0, []),
  (41, .bipush 6, 2, 0, 0, 6, []),
  (43, .iload 6, 2, 6, 0, 0, []),
  (45, .iastore, 1, 0, 0, 0, [])]
def pg_t10 : List (Nat × Nat) := [(46, 0)]
/-- 11: TicketTag$Memory.goAway()V -/
def pg_y11 : ev_M := (⟨"TicketTag$Memory", "goAway", "()V"⟩, prog_2_method_6_code, 1, (Option.none : Option Jvm.ClassFile.FieldType), [], 0, 0)
def pg_c11 : List (Nat × ev_I) := [(0, .aload_n 0, 1, 0, 0, 0, []),
  (1, .iconst 0, 1, 0, 0, 0, []),
  (2, .putfield 25, 3, 0, 4, 1, []),
  (5, .aload_n 0, 1, 0, 0, 0, []),
  (6, .iconst 0, 1, 0, 0, 0, []),
  (7, .putfield 29, 3, 0, 5, 1, [])]
def pg_t11 : List (Nat × Nat) := [(10, 0)]
/-- 12: TicketTag$Memory.isNear()Z -/
def pg_y12 : ev_M := (⟨"TicketTag$Memory", "isNear", "()Z"⟩, prog_2_method_2_code, 1, (Option.some Jvm.ClassFile.FieldType.boolean), [], 0, 0)
def pg_c12 : List (Nat × ev_I) := [(0, .aload_n 0, 1, 0, 0, 0, []),
  (1, .getfield 25, 3, 0, 4, 0, [])]
def pg_t12 : List (Nat × Nat) := [(4, 2)]
/-- 13: TicketTag$Memory.isTearDue()Z -/
def pg_y13 : ev_M := (⟨"TicketTag$Memory", "isTearDue", "()Z"⟩, prog_2_method_10_code, 1, (Option.some Jvm.ClassFile.FieldType.boolean), [], 0, 0)
def pg_c13 : List (Nat × ev_I) := [(0, .aload_n 0, 1, 0, 0, 0, []),
  (1, .getfield 29, 3, 0, 5, 0, []),
  (4, .ifCond .eq 10, 3, 14, 0, 0, []),
  (7, .aload_n 0, 1, 0, 0, 0, []),
  (8, .getfield 25, 3, 0, 4, 0, []),
  (11, .ifCond .ne 5, 3, 16, 0, 0, []),
  (14, .iconst 0, 1, 0, 0, 0, []),
  (16, .aload_n 0, 1, 0, 0, 0, []),
  (17, .dup, 1, 0, 0, 0, []),
  (18, .getfield 32, 3, 0, 6, 0, []),
  (21, .iconst 1, 1, 0, 0, 1, []),
  (22, .isub, 1, 0, 0, 0, []),
  (23, .putfield 32, 3, 0, 6, 0, []),
  (26, .aload_n 0, 1, 0, 0, 0, []),
  (27, .getfield 32, 3, 0, 6, 0, []),
  (30, .ifCond .ge 7, 3, 37, 0, 0, []),
  (33, .iconst 1, 1, 0, 0, 1, []),
  (34, .goto 4, 3, 38, 0, 0, []),
  (37, .iconst 0, 1, 0, 0, 0, [])]
def pg_t13 : List (Nat × Nat) := [(15, 2), (38, 2)]
/-- 14: TicketTag$Memory.planTear(II)V -/
def pg_y14 : ev_M := (⟨"TicketTag$Memory", "planTear", "(II)V"⟩, prog_2_method_7_code, 3, (Option.none : Option Jvm.ClassFile.FieldType), [], 0, 0)
def pg_c14 : List (Nat × ev_I) := [(0, .aload_n 0, 1, 0, 0, 0, []),
  (1, .iconst 1, 1, 0, 0, 1, []),
  (2, .putfield 29, 3, 0, 5, 1, []),
  (5, .aload_n 0, 1, 0, 0, 0, []),
  (6, .iload_n 1, 1, 1, 0, 0, []),
  (7, .putfield 32, 3, 0, 6, 0, []),
  (10, .aload_n 0, 1, 0, 0, 0, []),
  (11, .iload_n 2, 1, 2, 0, 0, []),
  (12, .putfield 35, 3, 0, 7, 0, [])]
def pg_t14 : List (Nat × Nat) := [(15, 0)]
/-- 15: TicketTag$Memory.timesTorn()I -/
def pg_y15 : ev_M := (⟨"TicketTag$Memory", "timesTorn", "()I"⟩, prog_2_method_4_code, 1, (Option.some Jvm.ClassFile.FieldType.int), [], 0, 0)
def pg_c15 : List (Nat × ev_I) := [(0, .aload_n 0, 1, 0, 0, 0, []),
  (1, .getfield 22, 3, 0, 3, 0, [])]
def pg_t15 : List (Nat × Nat) := [(4, 1)]
/-- 16: TicketTag$Memory.twinOf(II)I -/
def pg_y16 : ev_M := (⟨"TicketTag$Memory", "twinOf", "(II)I"⟩, prog_2_method_14_code, 2, (Option.some Jvm.ClassFile.FieldType.int), [], 0, 0)
def pg_c16 : List (Nat × ev_I) := [(0, .iload_n 1, 1, 1, 0, 0, []),
  (1, .iload_n 0, 1, 0, 0, 0, []),
  (2, .if_icmp .ne 9, 3, 11, 0, 0, []),
  (5, .iload_n 0, 1, 0, 0, 0, []),
  (6, .iconst 2, 1, 0, 0, 2, []),
  (7, .iadd, 1, 0, 0, 0, []),
  (8, .goto 4, 3, 12, 0, 0, []),
  (11, .iload_n 0, 1, 0, 0, 0, [])]
def pg_t16 : List (Nat × Nat) := [(12, 1)]
/-- 17: TicketTag$Memory.wordsWritten()I -/
def pg_y17 : ev_M := (⟨"TicketTag$Memory", "wordsWritten", "()I"⟩, prog_2_method_3_code, 1, (Option.some Jvm.ClassFile.FieldType.int), [], 0, 0)
def pg_c17 : List (Nat × ev_I) := [(0, .aload_n 0, 1, 0, 0, 0, []),
  (1, .getfield 18, 3, 0, 2, 0, [])]
def pg_t17 : List (Nat × Nat) := [(4, 1)]
/-- 18: TicketTagModel.add(II)I -/
def pg_y18 : ev_M := (⟨"TicketTagModel", "add", "(II)I"⟩, prog_4_method_6_code, 2, (Option.some Jvm.ClassFile.FieldType.int), [], 0, 0)
def pg_c18 : List (Nat × ev_I) := [(0, .iload_n 0, 1, 0, 0, 0, []),
  (1, .iload_n 1, 1, 1, 0, 0, []),
  (2, .iadd, 1, 0, 0, 0, []),
  (3, .ldc 49, 2, 0, 0, 65535, []),
  (5, .if_icmp .le 12, 3, 17, 0, 0, []),
  (8, .iload_n 0, 1, 0, 0, 0, []),
  (9, .iload_n 1, 1, 1, 0, 0, []),
  (10, .iadd, 1, 0, 0, 0, []),
  (11, .ldc 49, 2, 0, 0, 65535, []),
  (13, .isub, 1, 0, 0, 0, []),
  (14, .goto 6, 3, 20, 0, 0, []),
  (17, .iload_n 0, 1, 0, 0, 0, []),
  (18, .iload_n 1, 1, 1, 0, 0, []),
  (19, .iadd, 1, 0, 0, 0, [])]
def pg_t18 : List (Nat × Nat) := [(20, 1)]
/-- 19: TicketTagModel.at(II)I -/
def pg_y19 : ev_M := (⟨"TicketTagModel", "at", "(II)I"⟩, prog_4_method_4_code, 3, (Option.some Jvm.ClassFile.FieldType.int), [], 0, 0)
def pg_c19 : List (Nat × ev_I) := [(0, .aload_n 0, 1, 0, 0, 0, []),
  (1, .getfield 7, 3, 2, 1, 0, []),
  (4, .iconst 4, 1, 0, 0, 4, []),
  (5, .iload_n 1, 1, 1, 0, 0, []),
  (6, .imul, 1, 0, 0, 0, []),
  (7, .iload_n 2, 1, 2, 0, 0, []),
  (8, .iadd, 1, 0, 0, 0, []),
  (9, .iaload, 1, 0, 0, 0, [])]
def pg_t19 : List (Nat × Nat) := [(10, 1)]
/-- 20: TicketTagModel.away()Z -/
def pg_y20 : ev_M := (⟨"TicketTagModel", "away", "()Z"⟩, prog_4_method_41_code, 2, (Option.some Jvm.ClassFile.FieldType.boolean), [], 0, 0)
def pg_c20 : List (Nat × ev_I) := [(0, .aload_n 0, 1, 0, 0, 0, []),
  (1, .iconst 0, 1, 0, 0, 0, []),
  (2, .putfield 33, 3, 2, 0, 0, []),
  (5, .aload_n 0, 1, 0, 0, 0, []),
  (6, .getfield 23, 3, 2, 5, 0, []),
  (9, .ifCond .lt 7, 3, 16, 0, 0, []),
  (12, .iconst 1, 1, 0, 0, 1, []),
  (13, .goto 4, 3, 17, 0, 0, []),
  (16, .iconst 0, 1, 0, 0, 0, []),
  (17, .istore_n 1, 1, 1, 0, 0, []),
  (18, .aload_n 0, 1, 0, 0, 0, []),
  (19, .iconst (-1), 1, 0, 0, (-1), []),
  (20, .putfield 23, 3, 2, 5, 0, []),
  (23, .iload_n 1, 1, 1, 0, 0, []),
  (24, .ifCond .eq 8, 3, 32, 0, 0, []),
  (27, .aload_n 0, 1, 0, 0, 0, []),
  (28, .iconst (-1), 1, 0, 0, (-1), []),
  (29, .putfield 27, 3, 2, 8, 0, []),
  (32, .iload_n 1, 1, 1, 0, 0, [])]
def pg_t20 : List (Nat × Nat) := [(33, 2)]
/-- 21: TicketTagModel.clear()V -/
def pg_y21 : ev_M := (⟨"TicketTagModel", "clear", "()V"⟩, prog_4_method_27_code, 2, (Option.none : Option Jvm.ClassFile.FieldType), [], 0, 0)
def pg_c21 : List (Nat × ev_I) := [(0, .iconst 0, 1, 0, 0, 0, []),
  (1, .istore_n 1, 1, 1, 0, 0, []),
  (2, .iload_n 1, 1, 1, 0, 0, []),
  (3, .bipush 8, 2, 0, 0, 8, []),
  (5, .if_icmp .ge 16, 3, 21, 0, 0, []),
  (8, .aload_n 0, 1, 0, 0, 0, []),
  (9, .getfield 30, 3, 2, 13, 0, []),
  (12, .iload_n 1, 1, 1, 0, 0, []),
  (13, .iconst 0, 1, 0, 0, 0, []),
  (14, .iastore, 1, 0, 0, 0, []),
  (15, .iinc 1 1, 3, 1, 0, 1, []),
  (18, .goto (-16), 3, 2, 0, 0, [])]
def pg_t21 : List (Nat × Nat) := [(21, 0)]
/-- 22: TicketTagModel.fails(IZ)Z -/
def pg_y22 : ev_M := (⟨"TicketTagModel", "fails", "(IZ)Z"⟩, prog_4_method_3_code, 3, (Option.some Jvm.ClassFile.FieldType.boolean), [], 0, 0)
def pg_c22 : List (Nat × ev_I) := [(0, .aload_n 0, 1, 0, 0, 0, []),
  (1, .iload_n 2, 1, 2, 0, 0, []),
  (2, .ifCond .eq 7, 3, 9, 0, 0, []),
  (5, .iload_n 1, 1, 1, 0, 0, []),
  (6, .goto 4, 3, 10, 0, 0, []),
  (9, .iconst 0, 1, 0, 0, 0, []),
  (10, .putfield 33, 3, 2, 0, 0, []),
  (13, .iload_n 2, 1, 2, 0, 0, [])]
def pg_t22 : List (Nat × Nat) := [(14, 2)]
/-- 23: TicketTagModel.isIn(III)Z -/
def pg_y23 : ev_M := (⟨"TicketTagModel", "isIn", "(III)Z"⟩, prog_4_method_24_code, 3, (Option.some Jvm.ClassFile.FieldType.boolean), [], 0, 0)
def pg_c23 : List (Nat × ev_I) := [(0, .iload_n 0, 1, 0, 0, 0, []),
  (1, .iload_n 1, 1, 1, 0, 0, []),
  (2, .if_icmp .lt 12, 3, 14, 0, 0, []),
  (5, .iload_n 0, 1, 0, 0, 0, []),
  (6, .iload_n 2, 1, 2, 0, 0, []),
  (7, .if_icmp .gt 7, 3, 14, 0, 0, []),
  (10, .iconst 1, 1, 0, 0, 1, []),
  (11, .goto 4, 3, 15, 0, 0, []),
  (14, .iconst 0, 1, 0, 0, 0, [])]
def pg_t23 : List (Nat × Nat) := [(15, 2)]
/-- 24: TicketTagModel.isWithin(III)Z -/
def pg_y24 : ev_M := (⟨"TicketTagModel", "isWithin", "(III)Z"⟩, prog_4_method_21_code, 3, (Option.some Jvm.ClassFile.FieldType.boolean), [], 0, 0)
def pg_c24 : List (Nat × ev_I) := [(0, .iload_n 1, 1, 1, 0, 0, []),
  (1, .iload_n 0, 1, 0, 0, 0, []),
  (2, .if_icmp .lt 14, 3, 16, 0, 0, []),
  (5, .iload_n 1, 1, 1, 0, 0, []),
  (6, .iload_n 0, 1, 0, 0, 0, []),
  (7, .isub, 1, 0, 0, 0, []),
  (8, .iload_n 2, 1, 2, 0, 0, []),
  (9, .if_icmp .gt 7, 3, 16, 0, 0, []),
  (12, .iconst 1, 1, 0, 0, 1, []),
  (13, .goto 4, 3, 17, 0, 0, []),
  (16, .iconst 0, 1, 0, 0, 0, [])]
def pg_t24 : List (Nat × Nat) := [(17, 2)]
/-- 25: TicketTagModel.left(II)I -/
def pg_y25 : ev_M := (⟨"TicketTagModel", "left", "(II)I"⟩, prog_4_method_23_code, 2, (Option.some Jvm.ClassFile.FieldType.int), [], 0, 0)
def pg_c25 : List (Nat × ev_I) := [(0, .iload_n 0, 1, 0, 0, 0, []),
  (1, .iload_n 1, 1, 1, 0, 0, []),
  (2, .if_icmp .le 9, 3, 11, 0, 0, []),
  (5, .iload_n 0, 1, 0, 0, 0, []),
  (6, .iload_n 1, 1, 1, 0, 0, []),
  (7, .isub, 1, 0, 0, 0, []),
  (8, .goto 4, 3, 12, 0, 0, []),
  (11, .iconst 0, 1, 0, 0, 0, [])]
def pg_t25 : List (Nat × Nat) := [(12, 1)]
/-- 26: TicketTagModel.less(II)I -/
def pg_y26 : ev_M := (⟨"TicketTagModel", "less", "(II)I"⟩, prog_4_method_22_code, 2, (Option.some Jvm.ClassFile.FieldType.int), [], 0, 0)
def pg_c26 : List (Nat × ev_I) := [(0, .iload_n 0, 1, 0, 0, 0, []),
  (1, .iload_n 1, 1, 1, 0, 0, []),
  (2, .if_icmp .ge 7, 3, 9, 0, 0, []),
  (5, .iload_n 0, 1, 0, 0, 0, []),
  (6, .goto 4, 3, 10, 0, 0, []),
  (9, .iload_n 1, 1, 1, 0, 0, [])]
def pg_t26 : List (Nat × Nat) := [(10, 1)]
/-- 27: TicketTagModel.now()I -/
def pg_y27 : ev_M := (⟨"TicketTagModel", "now", "()I"⟩, prog_4_method_20_code, 1, (Option.some Jvm.ClassFile.FieldType.int), [], 0, 0)
def pg_c27 : List (Nat × ev_I) := [(0, .sipush 1440, 3, 0, 0, 1440, []),
  (3, .aload_n 0, 1, 0, 0, 0, []),
  (4, .getfield 13, 3, 2, 2, 0, []),
  (7, .aload_n 0, 1, 0, 0, 0, []),
  (8, .getfield 23, 3, 2, 5, 0, []),
  (11, .iaload, 1, 0, 0, 0, []),
  (12, .imul, 1, 0, 0, 0, []),
  (13, .aload_n 0, 1, 0, 0, 0, []),
  (14, .getfield 16, 3, 2, 3, 0, []),
  (17, .aload_n 0, 1, 0, 0, 0, []),
  (18, .getfield 23, 3, 2, 5, 0, []),
  (21, .iaload, 1, 0, 0, 0, []),
  (22, .iadd, 1, 0, 0, 0, [])]
def pg_t27 : List (Nat × Nat) := [(23, 1)]
/-- 28: TicketTagModel.placeOf(I)I -/
def pg_y28 : ev_M := (⟨"TicketTagModel", "placeOf", "(I)I"⟩, prog_4_method_17_code, 2, (Option.some Jvm.ClassFile.FieldType.int), [], 0, 0)
def pg_c28 : List (Nat × ev_I) := [(0, .bipush 9, 2, 0, 0, 9, []),
  (2, .iconst 2, 1, 0, 0, 2, []),
  (3, .iload_n 1, 1, 1, 0, 0, []),
  (4, .bipush 16, 2, 0, 0, 16, []),
  (6, .irem, 1, 0, 0, 0, []),
  (7, .imul, 1, 0, 0, 0, []),
  (8, .iadd, 1, 0, 0, 0, [])]
def pg_t28 : List (Nat × Nat) := [(9, 1)]
/-- 29: TicketTagModel.reason()I -/
def pg_y29 : ev_M := (⟨"TicketTagModel", "reason", "()I"⟩, prog_4_method_39_code, 1, (Option.some Jvm.ClassFile.FieldType.int), [], 0, 0)
def pg_c29 : List (Nat × ev_I) := [(0, .aload_n 0, 1, 0, 0, 0, []),
  (1, .iconst 0, 1, 0, 0, 0, []),
  (2, .putfield 33, 3, 2, 0, 0, []),
  (5, .aload_n 0, 1, 0, 0, 0, []),
  (6, .getfield 126, 3, 2, 7, 0, [])]
def pg_t29 : List (Nat × Nat) := [(9, 1)]
/-- 30: TicketTagModel.refuse(I)I -/
def pg_y30 : ev_M := (⟨"TicketTagModel", "refuse", "(I)I"⟩, prog_4_method_33_code, 2, (Option.some Jvm.ClassFile.FieldType.int), [], 0, 0)
def pg_c30 : List (Nat × ev_I) := [(0, .aload_n 0, 1, 0, 0, 0, []),
  (1, .iload_n 1, 1, 1, 0, 0, []),
  (2, .putfield 126, 3, 2, 7, 0, []),
  (5, .iconst 3, 1, 0, 0, 3, [])]
def pg_t30 : List (Nat × Nat) := [(6, 1)]
/-- 31: TicketTagModel.thrown()I -/
def pg_y31 : ev_M := (⟨"TicketTagModel", "thrown", "()I"⟩, prog_4_method_2_code, 1, (Option.some Jvm.ClassFile.FieldType.int), [], 0, 0)
def pg_c31 : List (Nat × ev_I) := [(0, .aload_n 0, 1, 0, 0, 0, []),
  (1, .getfield 33, 3, 2, 0, 0, [])]
def pg_t31 : List (Nat × Nat) := [(4, 1)]
/-- 32: TicketTagModel.write(III)V -/
def pg_y32 : ev_M := (⟨"TicketTagModel", "write", "(III)V"⟩, prog_4_method_5_code, 6, (Option.none : Option Jvm.ClassFile.FieldType), [], 0, 0)
def pg_c32 : List (Nat × ev_I) := [(0, .aload_n 0, 1, 0, 0, 0, []),
  (1, .getfield 36, 3, 2, 10, 0, []),
  (4, .ifCond .eq 4, 3, 8, 0, 0, []),
  (8, .iconst 4, 1, 0, 0, 4, []),
  (9, .iload_n 1, 1, 1, 0, 0, []),
  (10, .imul, 1, 0, 0, 0, []),
  (11, .iload_n 2, 1, 2, 0, 0, []),
  (12, .iadd, 1, 0, 0, 0, []),
  (13, .istore 4, 2, 4, 0, 0, []),
  (15, .iload_n 1, 1, 1, 0, 0, []),
  (16, .iconst 4, 1, 0, 0, 4, []),
  (17, .if_icmp .ne 15, 3, 32, 0, 0, []),
  (20, .aload_n 0, 1, 0, 0, 0, []),
  (21, .getfield 7, 3, 2, 1, 0, []),
  (24, .iload 4, 2, 4, 0, 0, []),
  (26, .iaload, 1, 0, 0, 0, []),
  (27, .iload_n 3, 1, 3, 0, 0, []),
  (28, .ior, 1, 0, 0, 0, []),
  (29, .goto 4, 3, 33, 0, 0, []),
  (32, .iload_n 3, 1, 3, 0, 0, []),
  (33, .istore 5, 2, 5, 0, 0, []),
  (35, .aload_n 0, 1, 0, 0, 0, []),
  (36, .dup, 1, 0, 0, 0, []),
  (37, .getfield 40, 3, 2, 11, 0, []),
  (40, .iconst 1, 1, 0, 0, 1, []),
  (41, .iadd, 1, 0, 0, 0, []),
  (42, .putfield 40, 3, 2, 11, 0, []),
  (45, .aload_n 0, 1, 0, 0, 0, []),
  (46, .getfield 27, 3, 2, 8, 0, []),
  (49, .ifCond .ne 63, 3, 112, 0, 0, []),
  (52, .aload_n 0, 1, 0, 0, 0, []),
  (53, .getfield 7, 3, 2, 1, 0, []),
  (56, .iload 4, 2, 4, 0, 0, []),
  (58, .iload_n 1, 1, 1, 0, 0, []),
  (59, .iconst 4, 1, 0, 0, 4, []),
  (60, .if_icmp .ne 21, 3, 81, 0, 0, []),
  (63, .aload_n 0, 1, 0, 0, 0, []),
  (64, .getfield 7, 3, 2, 1, 0, []),
  (67, .iload 4, 2, 4, 0, 0, []),
  (69, .iaload, 1, 0, 0, 0, []),
  (70, .iload 5, 2, 5, 0, 0, []),
  (72, .aload_n 0, 1, 0, 0, 0, []),
  (73, .getfield 43, 3, 2, 9, 0, []),
  (76, .iand, 1, 0, 0, 0, []),
  (77, .ior, 1, 0, 0, 0, []),
  (78, .goto 7, 3, 85, 0, 0, []),
  (81, .aload_n 0, 1, 0, 0, 0, []),
  (82, .getfield 43, 3, 2, 9, 0, []),
  (85, .iastore, 1, 0, 0, 0, []),
  (86, .aload_n 0, 1, 0, 0, 0, []),
  (87, .iconst 1, 1, 0, 0, 1, []),
  (88, .putfield 36, 3, 2, 10, 1, []),
  (91, .aload_n 0, 1, 0, 0, 0, []),
  (92, .dup, 1, 0, 0, 0, []),
  (93, .getfield 46, 3, 2, 12, 0, []),
  (96, .iconst 1, 1, 0, 0, 1, []),
  (97, .iadd, 1, 0, 0, 0, []),
  (98, .putfield 46, 3, 2, 12, 0, []),
  (101, .aload_n 0, 1, 0, 0, 0, []),
  (102, .iconst (-1), 1, 0, 0, (-1), []),
  (103, .putfield 23, 3, 2, 5, 0, []),
  (106, .aload_n 0, 1, 0, 0, 0, []),
  (107, .iconst (-1), 1, 0, 0, (-1), []),
  (108, .putfield 27, 3, 2, 8, 0, []),
  (112, .aload_n 0, 1, 0, 0, 0, []),
  (113, .getfield 7, 3, 2, 1, 0, []),
  (116, .iload 4, 2, 4, 0, 0, []),
  (118, .iload 5, 2, 5, 0, 0, []),
  (120, .iastore, 1, 0, 0, 0, []),
  (121, .aload_n 0, 1, 0, 0, 0, []),
  (122, .getfield 27, 3, 2, 8, 0, []),
  (125, .ifCond .le 13, 3, 138, 0, 0, []),
  (128, .aload_n 0, 1, 0, 0, 0, []),
  (129, .dup, 1, 0, 0, 0, []),
  (130, .getfield 27, 3, 2, 8, 0, []),
  (133, .iconst 1, 1, 0, 0, 1, []),
  (134, .isub, 1, 0, 0, 0, []),
  (135, .putfield 27, 3, 2, 8, 0, [])]
def pg_t32 : List (Nat × Nat) := [(7, 0), (111, 0), (138, 0)]
/-- 33: java/lang/Integer.bitCount(I)I -/
def pg_y33 : ev_M := (⟨"java/lang/Integer", "bitCount", "(I)I"⟩, prog_9_method_49_code, 1, (Option.some Jvm.ClassFile.FieldType.int), [], 0, 0)
def pg_c33 : List (Nat × ev_I) := [(0, .iload_n 0, 1, 0, 0, 0, []),
  (1, .iload_n 0, 1, 0, 0, 0, []),
  (2, .iconst 1, 1, 0, 0, 1, []),
  (3, .iushr, 1, 0, 0, 0, []),
  (4, .ldc_w 265, 3, 0, 0, 1431655765, []),
  (7, .iand, 1, 0, 0, 0, []),
  (8, .isub, 1, 0, 0, 0, []),
  (9, .istore_n 0, 1, 0, 0, 0, []),
  (10, .iload_n 0, 1, 0, 0, 0, []),
  (11, .ldc_w 266, 3, 0, 0, 858993459, []),
  (14, .iand, 1, 0, 0, 0, []),
  (15, .iload_n 0, 1, 0, 0, 0, []),
  (16, .iconst 2, 1, 0, 0, 2, []),
  (17, .iushr, 1, 0, 0, 0, []),
  (18, .ldc_w 266, 3, 0, 0, 858993459, []),
  (21, .iand, 1, 0, 0, 0, []),
  (22, .iadd, 1, 0, 0, 0, []),
  (23, .istore_n 0, 1, 0, 0, 0, []),
  (24, .iload_n 0, 1, 0, 0, 0, []),
  (25, .iload_n 0, 1, 0, 0, 0, []),
  (26, .iconst 4, 1, 0, 0, 4, []),
  (27, .iushr, 1, 0, 0, 0, []),
  (28, .iadd, 1, 0, 0, 0, []),
  (29, .ldc_w 267, 3, 0, 0, 252645135, []),
  (32, .iand, 1, 0, 0, 0, []),
  (33, .istore_n 0, 1, 0, 0, 0, []),
  (34, .iload_n 0, 1, 0, 0, 0, []),
  (35, .iload_n 0, 1, 0, 0, 0, []),
  (36, .bipush 8, 2, 0, 0, 8, []),
  (38, .iushr, 1, 0, 0, 0, []),
  (39, .iadd, 1, 0, 0, 0, []),
  (40, .istore_n 0, 1, 0, 0, 0, []),
  (41, .iload_n 0, 1, 0, 0, 0, []),
  (42, .iload_n 0, 1, 0, 0, 0, []),
  (43, .bipush 16, 2, 0, 0, 16, []),
  (45, .iushr, 1, 0, 0, 0, []),
  (46, .iadd, 1, 0, 0, 0, []),
  (47, .istore_n 0, 1, 0, 0, 0, []),
  (48, .iload_n 0, 1, 0, 0, 0, []),
  (49, .bipush 63, 2, 0, 0, 63, []),
  (51, .iand, 1, 0, 0, 0, [])]
def pg_t33 : List (Nat × Nat) := [(52, 1)]
/-- 34: java/lang/Math.max(II)I -/
def pg_y34 : ev_M := (⟨"java/lang/Math", "max", "(II)I"⟩, prog_10_method_65_code, 2, (Option.some Jvm.ClassFile.FieldType.int), [], 0, 0)
def pg_c34 : List (Nat × ev_I) := [(0, .iload_n 0, 1, 0, 0, 0, []),
  (1, .iload_n 1, 1, 1, 0, 0, []),
  (2, .if_icmp .lt 7, 3, 9, 0, 0, []),
  (5, .iload_n 0, 1, 0, 0, 0, []),
  (6, .goto 4, 3, 10, 0, 0, []),
  (9, .iload_n 1, 1, 1, 0, 0, [])]
def pg_t34 : List (Nat × Nat) := [(10, 1)]
/-- 35: java/lang/Math.min(II)I -/
def pg_y35 : ev_M := (⟨"java/lang/Math", "min", "(II)I"⟩, prog_10_method_69_code, 2, (Option.some Jvm.ClassFile.FieldType.int), [], 0, 0)
def pg_c35 : List (Nat × ev_I) := [(0, .iload_n 0, 1, 0, 0, 0, []),
  (1, .iload_n 1, 1, 1, 0, 0, []),
  (2, .if_icmp .gt 7, 3, 9, 0, 0, []),
  (5, .iload_n 0, 1, 0, 0, 0, []),
  (6, .goto 4, 3, 10, 0, 0, []),
  (9, .iload_n 1, 1, 1, 0, 0, [])]
def pg_t35 : List (Nat × Nat) := [(10, 1)]
/-- 36: TicketTag.away()Z -/
def pg_y36 : ev_M := (⟨"TicketTag", "away", "()Z"⟩, prog_1_method_10_code, 1, (Option.some Jvm.ClassFile.FieldType.boolean), [], 1, 24)
def pg_c36 : List (Nat × ev_I) := [(0, .aload_n 0, 1, 0, 0, 0, []),
  (1, .getfield 10, 3, 1, 0, 0, []),
  (4, .invokevirtual 45, 3, 12, 1, 0, [(0, 0)]),
  (7, .ifCond .ne 5, 3, 12, 0, 0, []),
  (10, .iconst 0, 1, 0, 0, 0, []),
  (12, .aload_n 0, 1, 0, 0, 0, []),
  (13, .getfield 10, 3, 1, 0, 0, []),
  (16, .invokevirtual 136, 3, 11, 1, 0, [(0, 0)]),
  (19, .iconst 1, 1, 0, 0, 1, [])]
def pg_t36 : List (Nat × Nat) := [(11, 2), (20, 2)]
/-- 37: TicketTag.beganAt(I)I -/
def pg_y37 : ev_M := (⟨"TicketTag", "beganAt", "(I)I"⟩, prog_1_method_58_code, 2, (Option.some Jvm.ClassFile.FieldType.int), [], 1, 27)
def pg_c37 : List (Nat × ev_I) := [(0, .aload_n 0, 1, 0, 0, 0, []),
  (1, .getfield 10, 3, 1, 0, 0, []),
  (4, .iload_n 1, 1, 1, 0, 0, []),
  (5, .iconst 1, 1, 0, 0, 1, []),
  (6, .invokevirtual 120, 3, 8, 3, 0, [(0, 0)]),
  (9, .sipush 1440, 3, 0, 0, 1440, []),
  (12, .imul, 1, 0, 0, 0, []),
  (13, .aload_n 0, 1, 0, 0, 0, []),
  (14, .getfield 10, 3, 1, 0, 0, []),
  (17, .iload_n 1, 1, 1, 0, 0, []),
  (18, .iconst 2, 1, 0, 0, 2, []),
  (19, .invokevirtual 120, 3, 8, 3, 0, [(0, 0)]),
  (22, .sipush 4096, 3, 0, 0, 4096, []),
  (25, .irem, 1, 0, 0, 0, []),
  (26, .iadd, 1, 0, 0, 0, [])]
def pg_t37 : List (Nat × Nat) := [(27, 1)]
/-- 38: TicketTag.beganMinuteOf(I)I -/
def pg_y38 : ev_M := (⟨"TicketTag", "beganMinuteOf", "(I)I"⟩, prog_1_method_60_code, 2, (Option.some Jvm.ClassFile.FieldType.int), [], 1, 27)
def pg_c38 : List (Nat × ev_I) := [(0, .aload_n 0, 1, 0, 0, 0, []),
  (1, .getfield 10, 3, 1, 0, 0, []),
  (4, .iload_n 1, 1, 1, 0, 0, []),
  (5, .iconst 2, 1, 0, 0, 2, []),
  (6, .invokevirtual 120, 3, 8, 3, 0, [(0, 0)]),
  (9, .sipush 4096, 3, 0, 0, 4096, []),
  (12, .irem, 1, 0, 0, 0, [])]
def pg_t38 : List (Nat × Nat) := [(13, 1)]
/-- 39: TicketTag.bitsOn()I -/
def pg_y39 : ev_M := (⟨"TicketTag", "bitsOn", "()I"⟩, prog_1_method_26_code, 3, (Option.some Jvm.ClassFile.FieldType.int), [], 1, 27)
def pg_c39 : List (Nat × ev_I) := [(0, .iconst 0, 1, 0, 0, 0, []),
  (1, .istore_n 1, 1, 1, 0, 0, []),
  (2, .iconst 0, 1, 0, 0, 0, []),
  (3, .istore_n 2, 1, 2, 0, 0, []),
  (4, .iload_n 2, 1, 2, 0, 0, []),
  (5, .iconst 4, 1, 0, 0, 4, []),
  (6, .if_icmp .ge 24, 3, 30, 0, 0, []),
  (9, .iload_n 1, 1, 1, 0, 0, []),
  (10, .aload_n 0, 1, 0, 0, 0, []),
  (11, .getfield 10, 3, 1, 0, 0, []),
  (14, .iconst 4, 1, 0, 0, 4, []),
  (15, .iload_n 2, 1, 2, 0, 0, []),
  (16, .invokevirtual 120, 3, 8, 3, 0, [(0, 0)]),
  (19, .invokestatic 203, 3, 33, 1, 0, []),
  (22, .iadd, 1, 0, 0, 0, []),
  (23, .istore_n 1, 1, 1, 0, 0, []),
  (24, .iinc 2 1, 3, 2, 0, 1, []),
  (27, .goto (-23), 3, 4, 0, 0, []),
  (30, .iload_n 1, 1, 1, 0, 0, [])]
def pg_t39 : List (Nat × Nat) := [(31, 1)]
/-- 40: TicketTag.centsOf(I)I -/
def pg_y40 : ev_M := (⟨"TicketTag", "centsOf", "(I)I"⟩, prog_1_method_62_code, 2, (Option.some Jvm.ClassFile.FieldType.int), [], 1, 27)
def pg_c40 : List (Nat × ev_I) := [(0, .aload_n 0, 1, 0, 0, 0, []),
  (1, .getfield 10, 3, 1, 0, 0, []),
  (4, .iload_n 1, 1, 1, 0, 0, []),
  (5, .iconst 1, 1, 0, 0, 1, []),
  (6, .invokevirtual 120, 3, 8, 3, 0, [(0, 0)])]
def pg_t40 : List (Nat × Nat) := [(9, 1)]
/-- 41: TicketTag.chargedOn(II)I -/
def pg_y41 : ev_M := (⟨"TicketTag", "chargedOn", "(II)I"⟩, prog_1_method_41_code, 3, (Option.some Jvm.ClassFile.FieldType.int), [], 1, 27)
def pg_c41 : List (Nat × ev_I) := [(0, .aload_n 0, 1, 0, 0, 0, []),
  (1, .getfield 10, 3, 1, 0, 0, []),
  (4, .iload_n 1, 1, 1, 0, 0, []),
  (5, .iconst 2, 1, 0, 0, 2, []),
  (6, .invokevirtual 120, 3, 8, 3, 0, [(0, 0)]),
  (9, .iload_n 2, 1, 2, 0, 0, []),
  (10, .if_icmp .ne 15, 3, 25, 0, 0, []),
  (13, .aload_n 0, 1, 0, 0, 0, []),
  (14, .getfield 10, 3, 1, 0, 0, []),
  (17, .iload_n 1, 1, 1, 0, 0, []),
  (18, .iconst 3, 1, 0, 0, 3, []),
  (19, .invokevirtual 120, 3, 8, 3, 0, [(0, 0)]),
  (22, .goto 4, 3, 26, 0, 0, []),
  (25, .iconst 0, 1, 0, 0, 0, [])]
def pg_t41 : List (Nat × Nat) := [(26, 1)]
/-- 42: TicketTag.codeOf(I)I -/
def pg_y42 : ev_M := (⟨"TicketTag", "codeOf", "(I)I"⟩, prog_1_method_68_code, 2, (Option.some Jvm.ClassFile.FieldType.int), [], 1, 27)
def pg_c42 : List (Nat × ev_I) := [(0, .aload_n 0, 1, 0, 0, 0, []),
  (1, .getfield 10, 3, 1, 0, 0, []),
  (4, .iload_n 1, 1, 1, 0, 0, []),
  (5, .iconst 4, 1, 0, 0, 4, []),
  (6, .invokevirtual 120, 3, 8, 3, 0, [(0, 0)]),
  (9, .bipush 16, 2, 0, 0, 16, []),
  (11, .idiv, 1, 0, 0, 0, []),
  (12, .bipush 16, 2, 0, 0, 16, []),
  (14, .irem, 1, 0, 0, 0, [])]
def pg_t42 : List (Nat × Nat) := [(15, 1)]
/-- 43: TicketTag.counterOf(I)I -/
def pg_y43 : ev_M := (⟨"TicketTag", "counterOf", "(I)I"⟩, prog_1_method_63_code, 2, (Option.some Jvm.ClassFile.FieldType.int), [], 1, 27)
def pg_c43 : List (Nat × ev_I) := [(0, .aload_n 0, 1, 0, 0, 0, []),
  (1, .getfield 10, 3, 1, 0, 0, []),
  (4, .iload_n 1, 1, 1, 0, 0, []),
  (5, .iconst 0, 1, 0, 0, 0, []),
  (6, .invokevirtual 120, 3, 8, 3, 0, [(0, 0)])]
def pg_t43 : List (Nat × Nat) := [(9, 1)]
/-- 44: TicketTag.directionOf(I)I -/
def pg_y44 : ev_M := (⟨"TicketTag", "directionOf", "(I)I"⟩, prog_1_method_67_code, 2, (Option.some Jvm.ClassFile.FieldType.int), [], 1, 27)
def pg_c44 : List (Nat × ev_I) := [(0, .aload_n 0, 1, 0, 0, 0, []),
  (1, .getfield 10, 3, 1, 0, 0, []),
  (4, .iload_n 1, 1, 1, 0, 0, []),
  (5, .iconst 4, 1, 0, 0, 4, []),
  (6, .invokevirtual 120, 3, 8, 3, 0, [(0, 0)]),
  (9, .bipush 16, 2, 0, 0, 16, []),
  (11, .irem, 1, 0, 0, 0, [])]
def pg_t44 : List (Nat × Nat) := [(12, 1)]
/-- 45: TicketTag.draftNewTransfer(IIII)V -/
def pg_y45 : ev_M := (⟨"TicketTag", "draftNewTransfer", "(IIII)V"⟩, prog_1_method_43_code, 5, (Option.none : Option Jvm.ClassFile.FieldType), [], 1, 30)
def pg_c45 : List (Nat × ev_I) := [(0, .aload_n 0, 1, 0, 0, 0, []),
  (1, .getfield 10, 3, 1, 0, 0, []),
  (4, .aload_n 0, 1, 0, 0, 0, []),
  (5, .invokevirtual 227, 3, 4, 1, 0, [(0, 1)]),
  (8, .sipush 1440, 3, 0, 0, 1440, []),
  (11, .idiv, 1, 0, 0, 0, []),
  (12, .aload_n 0, 1, 0, 0, 0, []),
  (13, .invokevirtual 227, 3, 4, 1, 0, [(0, 1)]),
  (16, .sipush 1440, 3, 0, 0, 1440, []),
  (19, .irem, 1, 0, 0, 0, []),
  (20, .iload_n 1, 1, 1, 0, 0, []),
  (21, .iload_n 2, 1, 2, 0, 0, []),
  (22, .sipush 256, 3, 0, 0, 256, []),
  (25, .iload_n 3, 1, 3, 0, 0, []),
  (26, .imul, 1, 0, 0, 0, []),
  (27, .iload 4, 2, 4, 0, 0, []),
  (29, .invokevirtual 239, 3, 10, 7, 0, [(0, 0)])]
def pg_t45 : List (Nat × Nat) := [(32, 0)]
/-- 46: TicketTag.draftValue(III)V -/
def pg_y46 : ev_M := (⟨"TicketTag", "draftValue", "(III)V"⟩, prog_1_method_45_code, 4, (Option.none : Option Jvm.ClassFile.FieldType), [], 1, 30)
def pg_c46 : List (Nat × ev_I) := [(0, .aload_n 0, 1, 0, 0, 0, []),
  (1, .getfield 10, 3, 1, 0, 0, []),
  (4, .iload_n 1, 1, 1, 0, 0, []),
  (5, .iload_n 2, 1, 2, 0, 0, []),
  (6, .iload_n 3, 1, 3, 0, 0, []),
  (7, .iconst 0, 1, 0, 0, 0, []),
  (8, .iconst 0, 1, 0, 0, 0, []),
  (9, .iconst 0, 1, 0, 0, 0, []),
  (10, .invokevirtual 239, 3, 10, 7, 0, [(0, 0)])]
def pg_t46 : List (Nat × Nat) := [(13, 0)]
/-- 47: TicketTag.gateOf(I)I -/
def pg_y47 : ev_M := (⟨"TicketTag", "gateOf", "(I)I"⟩, prog_1_method_69_code, 2, (Option.some Jvm.ClassFile.FieldType.int), [], 1, 27)
def pg_c47 : List (Nat × ev_I) := [(0, .aload_n 0, 1, 0, 0, 0, []),
  (1, .getfield 10, 3, 1, 0, 0, []),
  (4, .iload_n 1, 1, 1, 0, 0, []),
  (5, .iconst 4, 1, 0, 0, 4, []),
  (6, .invokevirtual 120, 3, 8, 3, 0, [(0, 0)]),
  (9, .sipush 256, 3, 0, 0, 256, []),
  (12, .idiv, 1, 0, 0, 0, [])]
def pg_t47 : List (Nat × Nat) := [(13, 1)]
/-- 48: TicketTag.isGate(I)Z -/
def pg_y48 : ev_M := (⟨"TicketTag", "isGate", "(I)Z"⟩, prog_1_method_20_code, 1, (Option.some Jvm.ClassFile.FieldType.boolean), [], 1, 25)
def pg_c48 : List (Nat × ev_I) := [(0, .iload_n 0, 1, 0, 0, 0, []),
  (1, .bipush 11, 2, 0, 0, 11, []),
  (3, .invokestatic 83, 3, 1, 2, 0, [])]
def pg_t48 : List (Nat × Nat) := [(6, 2)]
/-- 49: TicketTag.isProduct(IIII)Z -/
def pg_y49 : ev_M := (⟨"TicketTag", "isProduct", "(IIII)Z"⟩, prog_1_method_22_code, 4, (Option.some Jvm.ClassFile.FieldType.boolean), [], 1, 25)
def pg_c49 : List (Nat × ev_I) := [(0, .iload_n 1, 1, 1, 0, 0, []),
  (1, .ldc 107, 2, 0, 0, 65535, []),
  (3, .invokestatic 83, 3, 1, 2, 0, []),
  (6, .ifCond .eq 21, 3, 27, 0, 0, []),
  (9, .iload_n 2, 1, 2, 0, 0, []),
  (10, .ldc 107, 2, 0, 0, 65535, []),
  (12, .invokestatic 83, 3, 1, 2, 0, []),
  (15, .ifCond .eq 12, 3, 27, 0, 0, []),
  (18, .iload_n 3, 1, 3, 0, 0, []),
  (19, .ldc 107, 2, 0, 0, 65535, []),
  (21, .invokestatic 83, 3, 1, 2, 0, []),
  (24, .ifCond .ne 5, 3, 29, 0, 0, []),
  (27, .iconst 0, 1, 0, 0, 0, []),
  (29, .iload_n 0, 1, 0, 0, 0, []),
  (30, .tableswitch 77 1 3 #[26, 51, 67], 26, 107, 0, 0, [(1, 56), (2, 81), (3, 97)]),
  (56, .iload_n 1, 1, 1, 0, 0, []),
  (57, .iconst 1, 1, 0, 0, 1, []),
  (58, .if_icmp .lt 21, 3, 79, 0, 0, []),
  (61, .iload_n 1, 1, 1, 0, 0, []),
  (62, .bipush 60, 2, 0, 0, 60, []),
  (64, .if_icmp .gt 15, 3, 79, 0, 0, []),
  (67, .iload_n 2, 1, 2, 0, 0, []),
  (68, .ifCond .ne 11, 3, 79, 0, 0, []),
  (71, .iload_n 3, 1, 3, 0, 0, []),
  (72, .ifCond .ne 7, 3, 79, 0, 0, []),
  (75, .iconst 1, 1, 0, 0, 1, []),
  (76, .goto 4, 3, 80, 0, 0, []),
  (79, .iconst 0, 1, 0, 0, 0, []),
  (81, .iload_n 1, 1, 1, 0, 0, []),
  (82, .iconst 1, 1, 0, 0, 1, []),
  (83, .if_icmp .lt 12, 3, 95, 0, 0, []),
  (86, .iload_n 2, 1, 2, 0, 0, []),
  (87, .iload_n 3, 1, 3, 0, 0, []),
  (88, .if_icmp .gt 7, 3, 95, 0, 0, []),
  (91, .iconst 1, 1, 0, 0, 1, []),
  (92, .goto 4, 3, 96, 0, 0, []),
  (95, .iconst 0, 1, 0, 0, 0, []),
  (97, .iload_n 3, 1, 3, 0, 0, []),
  (98, .ifCond .ne 7, 3, 105, 0, 0, []),
  (101, .iconst 1, 1, 0, 0, 1, []),
  (102, .goto 4, 3, 106, 0, 0, []),
  (105, .iconst 0, 1, 0, 0, 0, []),
  (107, .iconst 0, 1, 0, 0, 0, [])]
def pg_t49 : List (Nat × Nat) := [(28, 2), (80, 2), (96, 2), (106, 2), (108, 2)]
/-- 50: TicketTag.isTime(II)Z -/
def pg_y50 : ev_M := (⟨"TicketTag", "isTime", "(II)Z"⟩, prog_1_method_21_code, 2, (Option.some Jvm.ClassFile.FieldType.boolean), [], 1, 25)
def pg_c50 : List (Nat × ev_I) := [(0, .iload_n 0, 1, 0, 0, 0, []),
  (1, .sipush 9999, 3, 0, 0, 9999, []),
  (4, .invokestatic 83, 3, 1, 2, 0, []),
  (7, .ifCond .eq 17, 3, 24, 0, 0, []),
  (10, .iload_n 1, 1, 1, 0, 0, []),
  (11, .sipush 1439, 3, 0, 0, 1439, []),
  (14, .invokestatic 83, 3, 1, 2, 0, []),
  (17, .ifCond .eq 7, 3, 24, 0, 0, []),
  (20, .iconst 1, 1, 0, 0, 1, []),
  (21, .goto 4, 3, 25, 0, 0, []),
  (24, .iconst 0, 1, 0, 0, 0, [])]
def pg_t50 : List (Nat × Nat) := [(25, 2)]
/-- 51: TicketTag.kindOfTag()I -/
def pg_y51 : ev_M := (⟨"TicketTag", "kindOfTag", "()I"⟩, prog_1_method_24_code, 1, (Option.some Jvm.ClassFile.FieldType.int), [], 1, 27)
def pg_c51 : List (Nat × ev_I) := [(0, .aload_n 0, 1, 0, 0, 0, []),
  (1, .getfield 10, 3, 1, 0, 0, []),
  (4, .iconst 0, 1, 0, 0, 0, []),
  (5, .iconst 0, 1, 0, 0, 0, []),
  (6, .invokevirtual 120, 3, 8, 3, 0, [(0, 0)])]
def pg_t51 : List (Nat × Nat) := [(9, 1)]
/-- 52: TicketTag.lineOf(I)I -/
def pg_y52 : ev_M := (⟨"TicketTag", "lineOf", "(I)I"⟩, prog_1_method_65_code, 2, (Option.some Jvm.ClassFile.FieldType.int), [], 1, 27)
def pg_c52 : List (Nat × ev_I) := [(0, .aload_n 0, 1, 0, 0, 0, []),
  (1, .getfield 10, 3, 1, 0, 0, []),
  (4, .iload_n 1, 1, 1, 0, 0, []),
  (5, .iconst 3, 1, 0, 0, 3, []),
  (6, .invokevirtual 120, 3, 8, 3, 0, [(0, 0)]),
  (9, .sipush 256, 3, 0, 0, 256, []),
  (12, .irem, 1, 0, 0, 0, [])]
def pg_t52 : List (Nat × Nat) := [(13, 1)]
/-- 53: TicketTag.numberOf(I)I -/
def pg_y53 : ev_M := (⟨"TicketTag", "numberOf", "(I)I"⟩, prog_1_method_64_code, 2, (Option.some Jvm.ClassFile.FieldType.int), [], 1, 27)
def pg_c53 : List (Nat × ev_I) := [(0, .aload_n 0, 1, 0, 0, 0, []),
  (1, .getfield 10, 3, 1, 0, 0, []),
  (4, .iload_n 1, 1, 1, 0, 0, []),
  (5, .iconst 0, 1, 0, 0, 0, []),
  (6, .invokevirtual 120, 3, 8, 3, 0, [(0, 0)])]
def pg_t53 : List (Nat × Nat) := [(9, 1)]
/-- 54: TicketTag.parameter(I)I -/
def pg_y54 : ev_M := (⟨"TicketTag", "parameter", "(I)I"⟩, prog_1_method_25_code, 2, (Option.some Jvm.ClassFile.FieldType.int), [], 1, 27)
def pg_c54 : List (Nat × ev_I) := [(0, .aload_n 0, 1, 0, 0, 0, []),
  (1, .getfield 10, 3, 1, 0, 0, []),
  (4, .iconst 0, 1, 0, 0, 0, []),
  (5, .iload_n 1, 1, 1, 0, 0, []),
  (6, .invokevirtual 120, 3, 8, 3, 0, [(0, 0)])]
def pg_t54 : List (Nat × Nat) := [(9, 1)]
/-- 55: TicketTag.usedOf(I)I -/
def pg_y55 : ev_M := (⟨"TicketTag", "usedOf", "(I)I"⟩, prog_1_method_61_code, 2, (Option.some Jvm.ClassFile.FieldType.int), [], 1, 27)
def pg_c55 : List (Nat × ev_I) := [(0, .aload_n 0, 1, 0, 0, 0, []),
  (1, .getfield 10, 3, 1, 0, 0, []),
  (4, .iload_n 1, 1, 1, 0, 0, []),
  (5, .iconst 2, 1, 0, 0, 2, []),
  (6, .invokevirtual 120, 3, 8, 3, 0, [(0, 0)]),
  (9, .sipush 4096, 3, 0, 0, 4096, []),
  (12, .idiv, 1, 0, 0, 0, [])]
def pg_t55 : List (Nat × Nat) := [(13, 1)]
/-- 56: TicketTag.zoneOf(I)I -/
def pg_y56 : ev_M := (⟨"TicketTag", "zoneOf", "(I)I"⟩, prog_1_method_66_code, 2, (Option.some Jvm.ClassFile.FieldType.int), [], 1, 27)
def pg_c56 : List (Nat × ev_I) := [(0, .aload_n 0, 1, 0, 0, 0, []),
  (1, .getfield 10, 3, 1, 0, 0, []),
  (4, .iload_n 1, 1, 1, 0, 0, []),
  (5, .iconst 3, 1, 0, 0, 3, []),
  (6, .invokevirtual 120, 3, 8, 3, 0, [(0, 0)]),
  (9, .sipush 256, 3, 0, 0, 256, []),
  (12, .idiv, 1, 0, 0, 0, [])]
def pg_t56 : List (Nat × Nat) := [(13, 1)]
/-- 57: TicketTag$Memory.isRight(I)Z -/
def pg_y57 : ev_M := (⟨"TicketTag$Memory", "isRight", "(I)Z"⟩, prog_2_method_12_code, 4, (Option.some Jvm.ClassFile.FieldType.boolean), [], 1, 27)
def pg_c57 : List (Nat × ev_I) := [(0, .iconst 0, 1, 0, 0, 0, []),
  (1, .istore_n 2, 1, 2, 0, 0, []),
  (2, .iconst 0, 1, 0, 0, 0, []),
  (3, .istore_n 3, 1, 3, 0, 0, []),
  (4, .iload_n 3, 1, 3, 0, 0, []),
  (5, .bipush 7, 2, 0, 0, 7, []),
  (7, .if_icmp .ge 20, 3, 27, 0, 0, []),
  (10, .iload_n 2, 1, 2, 0, 0, []),
  (11, .aload_n 0, 1, 0, 0, 0, []),
  (12, .iload_n 1, 1, 1, 0, 0, []),
  (13, .iload_n 3, 1, 3, 0, 0, []),
  (14, .invokevirtual 49, 3, 8, 3, 0, [(0, 0)]),
  (17, .invokestatic 53, 3, 7, 2, 0, []),
  (20, .istore_n 2, 1, 2, 0, 0, []),
  (21, .iinc 3 1, 3, 3, 0, 1, []),
  (24, .goto (-20), 3, 4, 0, 0, []),
  (27, .aload_n 0, 1, 0, 0, 0, []),
  (28, .iload_n 1, 1, 1, 0, 0, []),
  (29, .bipush 7, 2, 0, 0, 7, []),
  (31, .invokevirtual 49, 3, 8, 3, 0, [(0, 0)]),
  (34, .ldc 56, 2, 0, 0, 65535, []),
  (36, .iload_n 2, 1, 2, 0, 0, []),
  (37, .isub, 1, 0, 0, 0, []),
  (38, .if_icmp .ne 7, 3, 45, 0, 0, []),
  (41, .iconst 1, 1, 0, 0, 1, []),
  (42, .goto 4, 3, 46, 0, 0, []),
  (45, .iconst 0, 1, 0, 0, 0, [])]
def pg_t57 : List (Nat × Nat) := [(46, 2)]
/-- 58: TicketTag$Memory.write(III)Z -/
def pg_y58 : ev_M := (⟨"TicketTag$Memory", "write", "(III)Z"⟩, prog_2_method_9_code, 6, (Option.some Jvm.ClassFile.FieldType.boolean), [], 1, 24)
def pg_c58 : List (Nat × ev_I) := [(0, .iload_n 1, 1, 1, 0, 0, []),
  (1, .iconst 4, 1, 0, 0, 4, []),
  (2, .imul, 1, 0, 0, 0, []),
  (3, .iload_n 2, 1, 2, 0, 0, []),
  (4, .iadd, 1, 0, 0, 0, []),
  (5, .istore 4, 2, 4, 0, 0, []),
  (7, .iload 4, 2, 4, 0, 0, []),
  (9, .ifCond .lt 13, 3, 22, 0, 0, []),
  (12, .iload 4, 2, 4, 0, 0, []),
  (14, .aload_n 0, 1, 0, 0, 0, []),
  (15, .getfield 11, 3, 0, 0, 0, []),
  (18, .arraylength, 1, 0, 0, 0, []),
  (19, .if_icmp .lt 5, 3, 24, 0, 0, []),
  (22, .iconst 1, 1, 0, 0, 1, []),
  (24, .iload 4, 2, 4, 0, 0, []),
  (26, .iconst 4, 1, 0, 0, 4, []),
  (27, .idiv, 1, 0, 0, 0, []),
  (28, .iconst 4, 1, 0, 0, 4, []),
  (29, .if_icmp .ne 7, 3, 36, 0, 0, []),
  (32, .iconst 1, 1, 0, 0, 1, []),
  (33, .goto 4, 3, 37, 0, 0, []),
  (36, .iconst 0, 1, 0, 0, 0, []),
  (37, .istore 5, 2, 5, 0, 0, []),
  (39, .aload_n 0, 1, 0, 0, 0, []),
  (40, .dup, 1, 0, 0, 0, []),
  (41, .getfield 18, 3, 0, 2, 0, []),
  (44, .iconst 1, 1, 0, 0, 1, []),
  (45, .iadd, 1, 0, 0, 0, []),
  (46, .putfield 18, 3, 0, 2, 0, []),
  (49, .aload_n 0, 1, 0, 0, 0, []),
  (50, .invokevirtual 38, 3, 13, 1, 0, [(0, 0)]),
  (53, .ifCond .eq 52, 3, 105, 0, 0, []),
  (56, .aload_n 0, 1, 0, 0, 0, []),
  (57, .getfield 11, 3, 0, 0, 0, []),
  (60, .iload 4, 2, 4, 0, 0, []),
  (62, .iload 5, 2, 5, 0, 0, []),
  (64, .ifCond .eq 20, 3, 84, 0, 0, []),
  (67, .aload_n 0, 1, 0, 0, 0, []),
  (68, .getfield 11, 3, 0, 0, 0, []),
  (71, .iload 4, 2, 4, 0, 0, []),
  (73, .iaload, 1, 0, 0, 0, []),
  (74, .iload_n 3, 1, 3, 0, 0, []),
  (75, .aload_n 0, 1, 0, 0, 0, []),
  (76, .getfield 35, 3, 0, 7, 0, []),
  (79, .iand, 1, 0, 0, 0, []),
  (80, .ior, 1, 0, 0, 0, []),
  (81, .goto 7, 3, 88, 0, 0, []),
  (84, .aload_n 0, 1, 0, 0, 0, []),
  (85, .getfield 35, 3, 0, 7, 0, []),
  (88, .iastore, 1, 0, 0, 0, []),
  (89, .aload_n 0, 1, 0, 0, 0, []),
  (90, .dup, 1, 0, 0, 0, []),
  (91, .getfield 22, 3, 0, 3, 0, []),
  (94, .iconst 1, 1, 0, 0, 1, []),
  (95, .iadd, 1, 0, 0, 0, []),
  (96, .putfield 22, 3, 0, 3, 0, []),
  (99, .aload_n 0, 1, 0, 0, 0, []),
  (100, .invokevirtual 42, 3, 11, 1, 0, [(0, 0)]),
  (103, .iconst 0, 1, 0, 0, 0, []),
  (105, .aload_n 0, 1, 0, 0, 0, []),
  (106, .getfield 11, 3, 0, 0, 0, []),
  (109, .iload 4, 2, 4, 0, 0, []),
  (111, .iload 5, 2, 5, 0, 0, []),
  (113, .ifCond .eq 15, 3, 128, 0, 0, []),
  (116, .aload_n 0, 1, 0, 0, 0, []),
  (117, .getfield 11, 3, 0, 0, 0, []),
  (120, .iload 4, 2, 4, 0, 0, []),
  (122, .iaload, 1, 0, 0, 0, []),
  (123, .iload_n 3, 1, 3, 0, 0, []),
  (124, .ior, 1, 0, 0, 0, []),
  (125, .goto 4, 3, 129, 0, 0, []),
  (128, .iload_n 3, 1, 3, 0, 0, []),
  (129, .iastore, 1, 0, 0, 0, []),
  (130, .iconst 1, 1, 0, 0, 1, [])]
def pg_t58 : List (Nat × Nat) := [(23, 2), (104, 2), (131, 2)]
/-- 59: TicketTagModel.bar(IZ)V -/
def pg_y59 : ev_M := (⟨"TicketTagModel", "bar", "(IZ)V"⟩, prog_4_method_29_code, 3, (Option.none : Option Jvm.ClassFile.FieldType), [], 1, 26)
def pg_c59 : List (Nat × ev_I) := [(0, .aload_n 0, 1, 0, 0, 0, []),
  (1, .iconst 1, 1, 0, 0, 1, []),
  (2, .iload_n 1, 1, 1, 0, 0, []),
  (3, .iconst 0, 1, 0, 0, 0, []),
  (4, .bipush 11, 2, 0, 0, 11, []),
  (6, .invokestatic 93, 3, 23, 3, 0, []),
  (9, .ifCond .ne 7, 3, 16, 0, 0, []),
  (12, .iconst 1, 1, 0, 0, 1, []),
  (13, .goto 4, 3, 17, 0, 0, []),
  (16, .iconst 0, 1, 0, 0, 0, []),
  (17, .invokevirtual 101, 3, 22, 3, 0, [(0, 2)]),
  (20, .ifCond .ne 10, 3, 30, 0, 0, []),
  (23, .aload_n 0, 1, 0, 0, 0, []),
  (24, .getfield 19, 3, 2, 4, 0, []),
  (27, .iload_n 1, 1, 1, 0, 0, []),
  (28, .iload_n 2, 1, 2, 0, 0, []),
  (29, .bastore, 1, 0, 0, 0, [])]
def pg_t59 : List (Nat × Nat) := [(30, 0)]
/-- 60: TicketTagModel.began(I)I -/
def pg_y60 : ev_M := (⟨"TicketTagModel", "began", "(I)I"⟩, prog_4_method_15_code, 2, (Option.some Jvm.ClassFile.FieldType.int), [], 1, 26)
def pg_c60 : List (Nat × ev_I) := [(0, .sipush 1440, 3, 0, 0, 1440, []),
  (3, .aload_n 0, 1, 0, 0, 0, []),
  (4, .iload_n 1, 1, 1, 0, 0, []),
  (5, .iconst 1, 1, 0, 0, 1, []),
  (6, .invokevirtual 50, 3, 19, 3, 0, [(0, 2)]),
  (9, .imul, 1, 0, 0, 0, []),
  (10, .aload_n 0, 1, 0, 0, 0, []),
  (11, .iload_n 1, 1, 1, 0, 0, []),
  (12, .iconst 2, 1, 0, 0, 2, []),
  (13, .invokevirtual 50, 3, 19, 3, 0, [(0, 2)]),
  (16, .sipush 4095, 3, 0, 0, 4095, []),
  (19, .iand, 1, 0, 0, 0, []),
  (20, .iadd, 1, 0, 0, 0, [])]
def pg_t60 : List (Nat × Nat) := [(21, 1)]
/-- 61: TicketTagModel.isProduct(IIII)Z -/
def pg_y61 : ev_M := (⟨"TicketTagModel", "isProduct", "(IIII)Z"⟩, prog_4_method_25_code, 6, (Option.some Jvm.ClassFile.FieldType.boolean), [], 1, 26)
def pg_c61 : List (Nat × ev_I) := [(0, .iload_n 2, 1, 2, 0, 0, []),
  (1, .iconst 0, 1, 0, 0, 0, []),
  (2, .ldc 49, 2, 0, 0, 65535, []),
  (4, .invokestatic 93, 3, 23, 3, 0, []),
  (7, .ifCond .eq 28, 3, 35, 0, 0, []),
  (10, .iload_n 3, 1, 3, 0, 0, []),
  (11, .iconst 0, 1, 0, 0, 0, []),
  (12, .ldc 49, 2, 0, 0, 65535, []),
  (14, .invokestatic 93, 3, 23, 3, 0, []),
  (17, .ifCond .eq 18, 3, 35, 0, 0, []),
  (20, .iload 4, 2, 4, 0, 0, []),
  (22, .iconst 0, 1, 0, 0, 0, []),
  (23, .ldc 49, 2, 0, 0, 65535, []),
  (25, .invokestatic 93, 3, 23, 3, 0, []),
  (28, .ifCond .eq 7, 3, 35, 0, 0, []),
  (31, .iconst 1, 1, 0, 0, 1, []),
  (32, .goto 4, 3, 36, 0, 0, []),
  (35, .iconst 0, 1, 0, 0, 0, []),
  (36, .istore 5, 2, 5, 0, 0, []),
  (38, .iload_n 1, 1, 1, 0, 0, []),
  (39, .iconst 1, 1, 0, 0, 1, []),
  (40, .if_icmp .ne 33, 3, 73, 0, 0, []),
  (43, .iload 5, 2, 5, 0, 0, []),
  (45, .ifCond .eq 26, 3, 71, 0, 0, []),
  (48, .iload_n 2, 1, 2, 0, 0, []),
  (49, .iconst 1, 1, 0, 0, 1, []),
  (50, .bipush 60, 2, 0, 0, 60, []),
  (52, .invokestatic 93, 3, 23, 3, 0, []),
  (55, .ifCond .eq 16, 3, 71, 0, 0, []),
  (58, .iload_n 3, 1, 3, 0, 0, []),
  (59, .ifCond .ne 12, 3, 71, 0, 0, []),
  (62, .iload 4, 2, 4, 0, 0, []),
  (64, .ifCond .ne 7, 3, 71, 0, 0, []),
  (67, .iconst 1, 1, 0, 0, 1, []),
  (68, .goto 4, 3, 72, 0, 0, []),
  (71, .iconst 0, 1, 0, 0, 0, []),
  (73, .iload_n 1, 1, 1, 0, 0, []),
  (74, .iconst 2, 1, 0, 0, 2, []),
  (75, .if_icmp .ne 24, 3, 99, 0, 0, []),
  (78, .iload 5, 2, 5, 0, 0, []),
  (80, .ifCond .eq 17, 3, 97, 0, 0, []),
  (83, .iload_n 2, 1, 2, 0, 0, []),
  (84, .ifCond .le 13, 3, 97, 0, 0, []),
  (87, .iload_n 3, 1, 3, 0, 0, []),
  (88, .iload 4, 2, 4, 0, 0, []),
  (90, .if_icmp .gt 7, 3, 97, 0, 0, []),
  (93, .iconst 1, 1, 0, 0, 1, []),
  (94, .goto 4, 3, 98, 0, 0, []),
  (97, .iconst 0, 1, 0, 0, 0, []),
  (99, .iload_n 1, 1, 1, 0, 0, []),
  (100, .iconst 3, 1, 0, 0, 3, []),
  (101, .if_icmp .ne 17, 3, 118, 0, 0, []),
  (104, .iload 5, 2, 5, 0, 0, []),
  (106, .ifCond .eq 12, 3, 118, 0, 0, []),
  (109, .iload 4, 2, 4, 0, 0, []),
  (111, .ifCond .ne 7, 3, 118, 0, 0, []),
  (114, .iconst 1, 1, 0, 0, 1, []),
  (115, .goto 4, 3, 119, 0, 0, []),
  (118, .iconst 0, 1, 0, 0, 0, [])]
def pg_t61 : List (Nat × Nat) := [(72, 2), (98, 2), (119, 2)]
/-- 62: TicketTagModel.isRight(I)Z -/
def pg_y62 : ev_M := (⟨"TicketTagModel", "isRight", "(I)Z"⟩, prog_4_method_7_code, 4, (Option.some Jvm.ClassFile.FieldType.boolean), [], 1, 26)
def pg_c62 : List (Nat × ev_I) := [(0, .iconst 0, 1, 0, 0, 0, []),
  (1, .istore_n 2, 1, 2, 0, 0, []),
  (2, .iconst 0, 1, 0, 0, 0, []),
  (3, .istore_n 3, 1, 3, 0, 0, []),
  (4, .iload_n 3, 1, 3, 0, 0, []),
  (5, .bipush 7, 2, 0, 0, 7, []),
  (7, .if_icmp .ge 20, 3, 27, 0, 0, []),
  (10, .iload_n 2, 1, 2, 0, 0, []),
  (11, .aload_n 0, 1, 0, 0, 0, []),
  (12, .iload_n 1, 1, 1, 0, 0, []),
  (13, .iload_n 3, 1, 3, 0, 0, []),
  (14, .invokevirtual 50, 3, 19, 3, 0, [(0, 2)]),
  (17, .invokestatic 54, 3, 18, 2, 0, []),
  (20, .istore_n 2, 1, 2, 0, 0, []),
  (21, .iinc 3 1, 3, 3, 0, 1, []),
  (24, .goto (-20), 3, 4, 0, 0, []),
  (27, .aload_n 0, 1, 0, 0, 0, []),
  (28, .iload_n 1, 1, 1, 0, 0, []),
  (29, .bipush 7, 2, 0, 0, 7, []),
  (31, .invokevirtual 50, 3, 19, 3, 0, [(0, 2)]),
  (34, .ldc 49, 2, 0, 0, 65535, []),
  (36, .iload_n 2, 1, 2, 0, 0, []),
  (37, .isub, 1, 0, 0, 0, []),
  (38, .if_icmp .ne 7, 3, 45, 0, 0, []),
  (41, .iconst 1, 1, 0, 0, 1, []),
  (42, .goto 4, 3, 46, 0, 0, []),
  (45, .iconst 0, 1, 0, 0, 0, [])]
def pg_t62 : List (Nat × Nat) := [(46, 2)]
/-- 63: TicketTagModel.kind()I -/
def pg_y63 : ev_M := (⟨"TicketTagModel", "kind", "()I"⟩, prog_4_method_11_code, 1, (Option.some Jvm.ClassFile.FieldType.int), [], 1, 26)
def pg_c63 : List (Nat × ev_I) := [(0, .aload_n 0, 1, 0, 0, 0, []),
  (1, .iconst 0, 1, 0, 0, 0, []),
  (2, .iconst 0, 1, 0, 0, 0, []),
  (3, .invokevirtual 50, 3, 19, 3, 0, [(0, 2)])]
def pg_t63 : List (Nat × Nat) := [(6, 1)]
/-- 64: TicketTagModel.ridesTaken()I -/
def pg_y64 : ev_M := (⟨"TicketTagModel", "ridesTaken", "()I"⟩, prog_4_method_12_code, 3, (Option.some Jvm.ClassFile.FieldType.int), [], 1, 26)
def pg_c64 : List (Nat × ev_I) := [(0, .iconst 0, 1, 0, 0, 0, []),
  (1, .istore_n 1, 1, 1, 0, 0, []),
  (2, .iconst 0, 1, 0, 0, 0, []),
  (3, .istore_n 2, 1, 2, 0, 0, []),
  (4, .iload_n 2, 1, 2, 0, 0, []),
  (5, .bipush 64, 2, 0, 0, 64, []),
  (7, .if_icmp .ge 28, 3, 35, 0, 0, []),
  (10, .iload_n 1, 1, 1, 0, 0, []),
  (11, .aload_n 0, 1, 0, 0, 0, []),
  (12, .iconst 4, 1, 0, 0, 4, []),
  (13, .iload_n 2, 1, 2, 0, 0, []),
  (14, .bipush 16, 2, 0, 0, 16, []),
  (16, .idiv, 1, 0, 0, 0, []),
  (17, .invokevirtual 50, 3, 19, 3, 0, [(0, 2)]),
  (20, .iload_n 2, 1, 2, 0, 0, []),
  (21, .bipush 16, 2, 0, 0, 16, []),
  (23, .irem, 1, 0, 0, 0, []),
  (24, .ishr, 1, 0, 0, 0, []),
  (25, .iconst 1, 1, 0, 0, 1, []),
  (26, .iand, 1, 0, 0, 0, []),
  (27, .iadd, 1, 0, 0, 0, []),
  (28, .istore_n 1, 1, 1, 0, 0, []),
  (29, .iinc 2 1, 3, 2, 0, 1, []),
  (32, .goto (-28), 3, 4, 0, 0, []),
  (35, .iload_n 1, 1, 1, 0, 0, [])]
def pg_t64 : List (Nat × Nat) := [(36, 1)]
/-- 65: TicketTagModel.setClock(III)V -/
def pg_y65 : ev_M := (⟨"TicketTagModel", "setClock", "(III)V"⟩, prog_4_method_28_code, 4, (Option.none : Option Jvm.ClassFile.FieldType), [], 1, 26)
def pg_c65 : List (Nat × ev_I) := [(0, .aload_n 0, 1, 0, 0, 0, []),
  (1, .iconst 1, 1, 0, 0, 1, []),
  (2, .iload_n 1, 1, 1, 0, 0, []),
  (3, .iconst 0, 1, 0, 0, 0, []),
  (4, .bipush 11, 2, 0, 0, 11, []),
  (6, .invokestatic 93, 3, 23, 3, 0, []),
  (9, .ifCond .eq 25, 3, 34, 0, 0, []),
  (12, .iload_n 2, 1, 2, 0, 0, []),
  (13, .iconst 0, 1, 0, 0, 0, []),
  (14, .sipush 9999, 3, 0, 0, 9999, []),
  (17, .invokestatic 93, 3, 23, 3, 0, []),
  (20, .ifCond .eq 14, 3, 34, 0, 0, []),
  (23, .iload_n 3, 1, 3, 0, 0, []),
  (24, .iconst 0, 1, 0, 0, 0, []),
  (25, .sipush 1439, 3, 0, 0, 1439, []),
  (28, .invokestatic 93, 3, 23, 3, 0, []),
  (31, .ifCond .ne 7, 3, 38, 0, 0, []),
  (34, .iconst 1, 1, 0, 0, 1, []),
  (35, .goto 4, 3, 39, 0, 0, []),
  (38, .iconst 0, 1, 0, 0, 0, []),
  (39, .invokevirtual 101, 3, 22, 3, 0, [(0, 2)]),
  (42, .ifCond .eq 4, 3, 46, 0, 0, []),
  (46, .aload_n 0, 1, 0, 0, 0, []),
  (47, .getfield 13, 3, 2, 2, 0, []),
  (50, .iload_n 1, 1, 1, 0, 0, []),
  (51, .iload_n 2, 1, 2, 0, 0, []),
  (52, .iastore, 1, 0, 0, 0, []),
  (53, .aload_n 0, 1, 0, 0, 0, []),
  (54, .getfield 16, 3, 2, 3, 0, []),
  (57, .iload_n 1, 1, 1, 0, 0, []),
  (58, .iload_n 3, 1, 3, 0, 0, []),
  (59, .iastore, 1, 0, 0, 0, [])]
def pg_t65 : List (Nat × Nat) := [(45, 0), (60, 0)]
/-- 66: TicketTagModel.tearAfter(II)V -/
def pg_y66 : ev_M := (⟨"TicketTagModel", "tearAfter", "(II)V"⟩, prog_4_method_40_code, 3, (Option.none : Option Jvm.ClassFile.FieldType), [], 1, 26)
def pg_c66 : List (Nat × ev_I) := [(0, .aload_n 0, 1, 0, 0, 0, []),
  (1, .iconst 1, 1, 0, 0, 1, []),
  (2, .iload_n 1, 1, 1, 0, 0, []),
  (3, .iconst 0, 1, 0, 0, 0, []),
  (4, .bipush 100, 2, 0, 0, 100, []),
  (6, .invokestatic 93, 3, 23, 3, 0, []),
  (9, .ifCond .eq 13, 3, 22, 0, 0, []),
  (12, .iload_n 2, 1, 2, 0, 0, []),
  (13, .iconst 0, 1, 0, 0, 0, []),
  (14, .ldc 49, 2, 0, 0, 65535, []),
  (16, .invokestatic 93, 3, 23, 3, 0, []),
  (19, .ifCond .ne 7, 3, 26, 0, 0, []),
  (22, .iconst 1, 1, 0, 0, 1, []),
  (23, .goto 4, 3, 27, 0, 0, []),
  (26, .iconst 0, 1, 0, 0, 0, []),
  (27, .invokevirtual 101, 3, 22, 3, 0, [(0, 2)]),
  (30, .ifCond .eq 4, 3, 34, 0, 0, []),
  (34, .aload_n 0, 1, 0, 0, 0, []),
  (35, .iload_n 1, 1, 1, 0, 0, []),
  (36, .putfield 27, 3, 2, 8, 0, []),
  (39, .aload_n 0, 1, 0, 0, 0, []),
  (40, .iload_n 2, 1, 2, 0, 0, []),
  (41, .putfield 43, 3, 2, 9, 0, [])]
def pg_t66 : List (Nat × Nat) := [(33, 0), (44, 0)]
/-- 67: TicketTagModel.used(I)I -/
def pg_y67 : ev_M := (⟨"TicketTagModel", "used", "(I)I"⟩, prog_4_method_16_code, 2, (Option.some Jvm.ClassFile.FieldType.int), [], 1, 26)
def pg_c67 : List (Nat × ev_I) := [(0, .aload_n 0, 1, 0, 0, 0, []),
  (1, .iload_n 1, 1, 1, 0, 0, []),
  (2, .iconst 2, 1, 0, 0, 2, []),
  (3, .invokevirtual 50, 3, 19, 3, 0, [(0, 2)]),
  (6, .bipush 12, 2, 0, 0, 12, []),
  (8, .ishr, 1, 0, 0, 0, [])]
def pg_t67 : List (Nat × Nat) := [(9, 1)]
/-- 68: TicketTagModel.word(II)I -/
def pg_y68 : ev_M := (⟨"TicketTagModel", "word", "(II)I"⟩, prog_4_method_48_code, 3, (Option.some Jvm.ClassFile.FieldType.int), [], 1, 26)
def pg_c68 : List (Nat × ev_I) := [(0, .aload_n 0, 1, 0, 0, 0, []),
  (1, .iconst 1, 1, 0, 0, 1, []),
  (2, .iload_n 1, 1, 1, 0, 0, []),
  (3, .iconst 0, 1, 0, 0, 0, []),
  (4, .bipush 63, 2, 0, 0, 63, []),
  (6, .invokestatic 93, 3, 23, 3, 0, []),
  (9, .ifCond .eq 12, 3, 21, 0, 0, []),
  (12, .iload_n 2, 1, 2, 0, 0, []),
  (13, .iconst 0, 1, 0, 0, 0, []),
  (14, .iconst 3, 1, 0, 0, 3, []),
  (15, .invokestatic 93, 3, 23, 3, 0, []),
  (18, .ifCond .ne 7, 3, 25, 0, 0, []),
  (21, .iconst 1, 1, 0, 0, 1, []),
  (22, .goto 4, 3, 26, 0, 0, []),
  (25, .iconst 0, 1, 0, 0, 0, []),
  (26, .invokevirtual 101, 3, 22, 3, 0, [(0, 2)]),
  (29, .ifCond .eq 7, 3, 36, 0, 0, []),
  (32, .iconst 0, 1, 0, 0, 0, []),
  (33, .goto 9, 3, 42, 0, 0, []),
  (36, .aload_n 0, 1, 0, 0, 0, []),
  (37, .iload_n 1, 1, 1, 0, 0, []),
  (38, .iload_n 2, 1, 2, 0, 0, []),
  (39, .invokevirtual 50, 3, 19, 3, 0, [(0, 2)])]
def pg_t68 : List (Nat × Nat) := [(42, 1)]
/-- 69: TicketTagModel.writeRecord(I)V -/
def pg_y69 : ev_M := (⟨"TicketTagModel", "writeRecord", "(I)V"⟩, prog_4_method_9_code, 4, (Option.none : Option Jvm.ClassFile.FieldType), [], 1, 29)
def pg_c69 : List (Nat × ev_I) := [(0, .iconst 0, 1, 0, 0, 0, []),
  (1, .istore_n 2, 1, 2, 0, 0, []),
  (2, .iconst 0, 1, 0, 0, 0, []),
  (3, .istore_n 3, 1, 3, 0, 0, []),
  (4, .iload_n 3, 1, 3, 0, 0, []),
  (5, .bipush 7, 2, 0, 0, 7, []),
  (7, .if_icmp .ge 20, 3, 27, 0, 0, []),
  (10, .iload_n 2, 1, 2, 0, 0, []),
  (11, .aload_n 0, 1, 0, 0, 0, []),
  (12, .getfield 30, 3, 2, 13, 0, []),
  (15, .iload_n 3, 1, 3, 0, 0, []),
  (16, .iaload, 1, 0, 0, 0, []),
  (17, .invokestatic 54, 3, 18, 2, 0, []),
  (20, .istore_n 2, 1, 2, 0, 0, []),
  (21, .iinc 3 1, 3, 3, 0, 1, []),
  (24, .goto (-20), 3, 4, 0, 0, []),
  (27, .aload_n 0, 1, 0, 0, 0, []),
  (28, .getfield 30, 3, 2, 13, 0, []),
  (31, .bipush 7, 2, 0, 0, 7, []),
  (33, .ldc 49, 2, 0, 0, 65535, []),
  (35, .iload_n 2, 1, 2, 0, 0, []),
  (36, .isub, 1, 0, 0, 0, []),
  (37, .iastore, 1, 0, 0, 0, []),
  (38, .iconst 0, 1, 0, 0, 0, []),
  (39, .istore_n 3, 1, 3, 0, 0, []),
  (40, .iload_n 3, 1, 3, 0, 0, []),
  (41, .bipush 8, 2, 0, 0, 8, []),
  (43, .if_icmp .ge 21, 3, 64, 0, 0, []),
  (46, .aload_n 0, 1, 0, 0, 0, []),
  (47, .iload_n 1, 1, 1, 0, 0, []),
  (48, .iload_n 3, 1, 3, 0, 0, []),
  (49, .aload_n 0, 1, 0, 0, 0, []),
  (50, .getfield 30, 3, 2, 13, 0, []),
  (53, .iload_n 3, 1, 3, 0, 0, []),
  (54, .iaload, 1, 0, 0, 0, []),
  (55, .invokevirtual 62, 3, 32, 4, 0, [(0, 2)]),
  (58, .iinc 3 1, 3, 3, 0, 1, []),
  (61, .goto (-21), 3, 40, 0, 0, [])]
def pg_t69 : List (Nat × Nat) := [(64, 0)]
/-- 70: TicketTag.beganWithin(III)Z -/
def pg_y70 : ev_M := (⟨"TicketTag", "beganWithin", "(III)Z"⟩, prog_1_method_57_code, 4, (Option.some Jvm.ClassFile.FieldType.boolean), [], 2, 52)
def pg_c70 : List (Nat × ev_I) := [(0, .iload_n 1, 1, 1, 0, 0, []),
  (1, .iconst (-1), 1, 0, 0, (-1), []),
  (2, .if_icmp .eq 21, 3, 23, 0, 0, []),
  (5, .iload_n 2, 1, 2, 0, 0, []),
  (6, .aload_n 0, 1, 0, 0, 0, []),
  (7, .iload_n 1, 1, 1, 0, 0, []),
  (8, .invokevirtual 230, 3, 37, 2, 0, [(0, 1)]),
  (11, .isub, 1, 0, 0, 0, []),
  (12, .iload_n 3, 1, 3, 0, 0, []),
  (13, .invokestatic 83, 3, 1, 2, 0, []),
  (16, .ifCond .eq 7, 3, 23, 0, 0, []),
  (19, .iconst 1, 1, 0, 0, 1, []),
  (20, .goto 4, 3, 24, 0, 0, []),
  (23, .iconst 0, 1, 0, 0, 0, [])]
def pg_t70 : List (Nat × Nat) := [(24, 2)]
/-- 71: TicketTag.capLeftBy(II)I -/
def pg_y71 : ev_M := (⟨"TicketTag", "capLeftBy", "(II)I"⟩, prog_1_method_40_code, 3, (Option.some Jvm.ClassFile.FieldType.int), [], 2, 53)
def pg_c71 : List (Nat × ev_I) := [(0, .iconst 0, 1, 0, 0, 0, []),
  (1, .aload_n 0, 1, 0, 0, 0, []),
  (2, .iconst 1, 1, 0, 0, 1, []),
  (3, .invokevirtual 139, 3, 54, 2, 0, [(0, 1)]),
  (6, .aload_n 0, 1, 0, 0, 0, []),
  (7, .iload_n 1, 1, 1, 0, 0, []),
  (8, .iload_n 2, 1, 2, 0, 0, []),
  (9, .invokevirtual 261, 3, 41, 3, 0, [(0, 1)]),
  (12, .isub, 1, 0, 0, 0, []),
  (13, .invokestatic 145, 3, 34, 2, 0, [])]
def pg_t71 : List (Nat × Nat) := [(16, 1)]
/-- 72: TicketTag.count(I)I -/
def pg_y72 : ev_M := (⟨"TicketTag", "count", "(I)I"⟩, prog_1_method_18_code, 2, (Option.some Jvm.ClassFile.FieldType.int), [], 2, 53)
def pg_c72 : List (Nat × ev_I) := [(0, .iload_n 1, 1, 1, 0, 0, []),
  (1, .tableswitch 68 0 3 #[31, 39, 44, 52], 31, 69, 0, 0, [(0, 32), (1, 40), (2, 45), (3, 53)]),
  (32, .aload_n 0, 1, 0, 0, 0, []),
  (33, .getfield 10, 3, 1, 0, 0, []),
  (36, .invokevirtual 194, 3, 17, 1, 0, [(0, 0)]),
  (40, .aload_n 0, 1, 0, 0, 0, []),
  (41, .invokevirtual 142, 3, 39, 1, 0, [(0, 1)]),
  (45, .aload_n 0, 1, 0, 0, 0, []),
  (46, .getfield 10, 3, 1, 0, 0, []),
  (49, .invokevirtual 197, 3, 15, 1, 0, [(0, 0)]),
  (53, .aload_n 0, 1, 0, 0, 0, []),
  (54, .getfield 10, 3, 1, 0, 0, []),
  (57, .invokevirtual 45, 3, 12, 1, 0, [(0, 0)]),
  (60, .ifCond .eq 7, 3, 67, 0, 0, []),
  (63, .iconst 1, 1, 0, 0, 1, []),
  (64, .goto 4, 3, 68, 0, 0, []),
  (67, .iconst 0, 1, 0, 0, 0, []),
  (69, .iconst (-1), 1, 0, 0, (-1), [])]
def pg_t72 : List (Nat × Nat) := [(39, 1), (44, 1), (52, 1), (68, 1), (70, 1)]
/-- 73: TicketTag.journeyRecord(I)I -/
def pg_y73 : ev_M := (⟨"TicketTag", "journeyRecord", "(I)I"⟩, prog_1_method_55_code, 3, (Option.some Jvm.ClassFile.FieldType.int), [], 2, 54)
def pg_c73 : List (Nat × ev_I) := [(0, .iload_n 1, 1, 1, 0, 0, []),
  (1, .invokestatic 273, 3, 2, 1, 0, []),
  (4, .istore_n 2, 1, 2, 0, 0, []),
  (5, .aload_n 0, 1, 0, 0, 0, []),
  (6, .getfield 10, 3, 1, 0, 0, []),
  (9, .iload_n 2, 1, 2, 0, 0, []),
  (10, .invokevirtual 288, 3, 57, 2, 0, [(0, 0)]),
  (13, .ifCond .eq 16, 3, 29, 0, 0, []),
  (16, .aload_n 0, 1, 0, 0, 0, []),
  (17, .iload_n 2, 1, 2, 0, 0, []),
  (18, .invokevirtual 153, 3, 53, 2, 0, [(0, 1)]),
  (21, .iload_n 1, 1, 1, 0, 0, []),
  (22, .if_icmp .ne 7, 3, 29, 0, 0, []),
  (25, .iload_n 2, 1, 2, 0, 0, []),
  (26, .goto 4, 3, 30, 0, 0, []),
  (29, .iconst (-1), 1, 0, 0, (-1), [])]
def pg_t73 : List (Nat × Nat) := [(30, 1)]
/-- 74: TicketTag.reasonAtGate()I -/
def pg_y74 : ev_M := (⟨"TicketTag", "reasonAtGate", "()I"⟩, prog_1_method_28_code, 1, (Option.some Jvm.ClassFile.FieldType.int), [], 2, 51)
def pg_c74 : List (Nat × ev_I) := [(0, .aload_n 0, 1, 0, 0, 0, []),
  (1, .getfield 20, 3, 1, 2, 0, []),
  (4, .aload_n 0, 1, 0, 0, 0, []),
  (5, .getfield 24, 3, 1, 3, 0, []),
  (8, .baload, 1, 0, 0, 0, []),
  (9, .ifCond .eq 5, 3, 14, 0, 0, []),
  (12, .iconst 1, 1, 0, 0, 1, []),
  (14, .aload_n 0, 1, 0, 0, 0, []),
  (15, .invokevirtual 54, 3, 51, 1, 0, [(0, 1)]),
  (18, .ifCond .ne 7, 3, 25, 0, 0, []),
  (21, .iconst 2, 1, 0, 0, 2, []),
  (22, .goto 4, 3, 26, 0, 0, []),
  (25, .iconst 0, 1, 0, 0, 0, [])]
def pg_t74 : List (Nat × Nat) := [(13, 1), (26, 1)]
/-- 75: TicketTag.reasonByPass(II)I -/
def pg_y75 : ev_M := (⟨"TicketTag", "reasonByPass", "(II)I"⟩, prog_1_method_30_code, 3, (Option.some Jvm.ClassFile.FieldType.int), [], 2, 52)
def pg_c75 : List (Nat × ev_I) := [(0, .iload_n 1, 1, 1, 0, 0, []),
  (1, .aload_n 0, 1, 0, 0, 0, []),
  (2, .iconst 2, 1, 0, 0, 2, []),
  (3, .invokevirtual 139, 3, 54, 2, 0, [(0, 1)]),
  (6, .if_icmp .lt 12, 3, 18, 0, 0, []),
  (9, .iload_n 1, 1, 1, 0, 0, []),
  (10, .aload_n 0, 1, 0, 0, 0, []),
  (11, .iconst 3, 1, 0, 0, 3, []),
  (12, .invokevirtual 139, 3, 54, 2, 0, [(0, 1)]),
  (15, .if_icmp .le 5, 3, 20, 0, 0, []),
  (18, .iconst 3, 1, 0, 0, 3, []),
  (20, .aload_n 0, 1, 0, 0, 0, []),
  (21, .iconst 1, 1, 0, 0, 1, []),
  (22, .invokevirtual 139, 3, 54, 2, 0, [(0, 1)]),
  (25, .iload_n 2, 1, 2, 0, 0, []),
  (26, .ishr, 1, 0, 0, 0, []),
  (27, .iconst 1, 1, 0, 0, 1, []),
  (28, .iand, 1, 0, 0, 0, []),
  (29, .ifCond .ne 7, 3, 36, 0, 0, []),
  (32, .iconst 4, 1, 0, 0, 4, []),
  (33, .goto 4, 3, 37, 0, 0, []),
  (36, .iconst 0, 1, 0, 0, 0, [])]
def pg_t75 : List (Nat × Nat) := [(19, 1), (37, 1)]
/-- 76: TicketTag.rides()I -/
def pg_y76 : ev_M := (⟨"TicketTag", "rides", "()I"⟩, prog_1_method_11_code, 1, (Option.some Jvm.ClassFile.FieldType.int), [], 2, 53)
def pg_c76 : List (Nat × ev_I) := [(0, .aload_n 0, 1, 0, 0, 0, []),
  (1, .invokevirtual 54, 3, 51, 1, 0, [(0, 1)]),
  (4, .iconst 1, 1, 0, 0, 1, []),
  (5, .if_icmp .eq 5, 3, 10, 0, 0, []),
  (8, .iconst (-1), 1, 0, 0, (-1), []),
  (10, .iconst 0, 1, 0, 0, 0, []),
  (11, .aload_n 0, 1, 0, 0, 0, []),
  (12, .iconst 1, 1, 0, 0, 1, []),
  (13, .invokevirtual 139, 3, 54, 2, 0, [(0, 1)]),
  (16, .aload_n 0, 1, 0, 0, 0, []),
  (17, .invokevirtual 142, 3, 39, 1, 0, [(0, 1)]),
  (20, .isub, 1, 0, 0, 0, []),
  (21, .invokestatic 145, 3, 34, 2, 0, [])]
def pg_t76 : List (Nat × Nat) := [(9, 1), (24, 1)]
/-- 77: TicketTag.rodeAt(I)I -/
def pg_y77 : ev_M := (⟨"TicketTag", "rodeAt", "(I)I"⟩, prog_1_method_59_code, 2, (Option.some Jvm.ClassFile.FieldType.int), [], 2, 52)
def pg_c77 : List (Nat × ev_I) := [(0, .aload_n 0, 1, 0, 0, 0, []),
  (1, .iload_n 1, 1, 1, 0, 0, []),
  (2, .invokevirtual 230, 3, 37, 2, 0, [(0, 1)]),
  (5, .aload_n 0, 1, 0, 0, 0, []),
  (6, .getfield 10, 3, 1, 0, 0, []),
  (9, .iload_n 1, 1, 1, 0, 0, []),
  (10, .iconst 5, 1, 0, 0, 5, []),
  (11, .invokevirtual 120, 3, 8, 3, 0, [(0, 0)]),
  (14, .sipush 256, 3, 0, 0, 256, []),
  (17, .irem, 1, 0, 0, 0, []),
  (18, .iadd, 1, 0, 0, 0, [])]
def pg_t77 : List (Nat × Nat) := [(19, 1)]
/-- 78: TicketTag.writeNextBit()Z -/
def pg_y78 : ev_M := (⟨"TicketTag", "writeNextBit", "()Z"⟩, prog_1_method_44_code, 4, (Option.some Jvm.ClassFile.FieldType.boolean), [], 2, 53)
def pg_c78 : List (Nat × ev_I) := [(0, .iconst 0, 1, 0, 0, 0, []),
  (1, .istore_n 1, 1, 1, 0, 0, []),
  (2, .iload_n 1, 1, 1, 0, 0, []),
  (3, .bipush 64, 2, 0, 0, 64, []),
  (5, .if_icmp .ge 56, 3, 61, 0, 0, []),
  (8, .iload_n 1, 1, 1, 0, 0, []),
  (9, .bipush 16, 2, 0, 0, 16, []),
  (11, .idiv, 1, 0, 0, 0, []),
  (12, .istore_n 2, 1, 2, 0, 0, []),
  (13, .iconst 1, 1, 0, 0, 1, []),
  (14, .iload_n 1, 1, 1, 0, 0, []),
  (15, .bipush 16, 2, 0, 0, 16, []),
  (17, .irem, 1, 0, 0, 0, []),
  (18, .ishl, 1, 0, 0, 0, []),
  (19, .istore_n 3, 1, 3, 0, 0, []),
  (20, .aload_n 0, 1, 0, 0, 0, []),
  (21, .getfield 10, 3, 1, 0, 0, []),
  (24, .iconst 4, 1, 0, 0, 4, []),
  (25, .iload_n 2, 1, 2, 0, 0, []),
  (26, .invokevirtual 120, 3, 8, 3, 0, [(0, 0)]),
  (29, .iload_n 3, 1, 3, 0, 0, []),
  (30, .iand, 1, 0, 0, 0, []),
  (31, .ifCond .ne 24, 3, 55, 0, 0, []),
  (34, .aload_n 0, 1, 0, 0, 0, []),
  (35, .getfield 10, 3, 1, 0, 0, []),
  (38, .iconst 4, 1, 0, 0, 4, []),
  (39, .iload_n 2, 1, 2, 0, 0, []),
  (40, .aload_n 0, 1, 0, 0, 0, []),
  (41, .getfield 10, 3, 1, 0, 0, []),
  (44, .iconst 4, 1, 0, 0, 4, []),
  (45, .iload_n 2, 1, 2, 0, 0, []),
  (46, .invokevirtual 120, 3, 8, 3, 0, [(0, 0)]),
  (49, .iload_n 3, 1, 3, 0, 0, []),
  (50, .ior, 1, 0, 0, 0, []),
  (51, .invokevirtual 200, 3, 58, 4, 0, [(0, 0)]),
  (55, .iinc 1 1, 3, 1, 0, 1, []),
  (58, .goto (-56), 3, 2, 0, 0, []),
  (61, .iconst 1, 1, 0, 0, 1, [])]
def pg_t78 : List (Nat × Nat) := [(54, 2), (62, 2)]
/-- 79: TicketTag$Memory.erase(I)Z -/
def pg_y79 : ev_M := (⟨"TicketTag$Memory", "erase", "(I)Z"⟩, prog_2_method_11_code, 3, (Option.some Jvm.ClassFile.FieldType.boolean), [], 2, 53)
def pg_c79 : List (Nat × ev_I) := [(0, .iconst 0, 1, 0, 0, 0, []),
  (1, .istore_n 2, 1, 2, 0, 0, []),
  (2, .iload_n 2, 1, 2, 0, 0, []),
  (3, .bipush 7, 2, 0, 0, 7, []),
  (5, .if_icmp .gt 21, 3, 26, 0, 0, []),
  (8, .aload_n 0, 1, 0, 0, 0, []),
  (9, .iload_n 1, 1, 1, 0, 0, []),
  (10, .iload_n 2, 1, 2, 0, 0, []),
  (11, .iconst 0, 1, 0, 0, 0, []),
  (12, .invokevirtual 45, 3, 58, 4, 0, [(0, 0)]),
  (15, .ifCond .ne 5, 3, 20, 0, 0, []),
  (18, .iconst 0, 1, 0, 0, 0, []),
  (20, .iinc 2 1, 3, 2, 0, 1, []),
  (23, .goto (-21), 3, 2, 0, 0, []),
  (26, .iconst 1, 1, 0, 0, 1, [])]
def pg_t79 : List (Nat × Nat) := [(19, 2), (27, 2)]
/-- 80: TicketTag$Memory.latestOf(I)I -/
def pg_y80 : ev_M := (⟨"TicketTag$Memory", "latestOf", "(I)I"⟩, prog_2_method_15_code, 4, (Option.some Jvm.ClassFile.FieldType.int), [], 2, 54)
def pg_c80 : List (Nat × ev_I) := [(0, .iload_n 1, 1, 1, 0, 0, []),
  (1, .iload_n 1, 1, 1, 0, 0, []),
  (2, .invokestatic 57, 3, 16, 2, 0, []),
  (5, .istore_n 2, 1, 2, 0, 0, []),
  (6, .aload_n 0, 1, 0, 0, 0, []),
  (7, .iload_n 2, 1, 2, 0, 0, []),
  (8, .invokevirtual 60, 3, 57, 2, 0, [(0, 0)]),
  (11, .ifCond .ne 17, 3, 28, 0, 0, []),
  (14, .aload_n 0, 1, 0, 0, 0, []),
  (15, .iload_n 1, 1, 1, 0, 0, []),
  (16, .invokevirtual 60, 3, 57, 2, 0, [(0, 0)]),
  (19, .ifCond .eq 7, 3, 26, 0, 0, []),
  (22, .iload_n 1, 1, 1, 0, 0, []),
  (23, .goto 4, 3, 27, 0, 0, []),
  (26, .iconst (-1), 1, 0, 0, (-1), []),
  (28, .aload_n 0, 1, 0, 0, 0, []),
  (29, .iload_n 1, 1, 1, 0, 0, []),
  (30, .invokevirtual 60, 3, 57, 2, 0, [(0, 0)]),
  (33, .ifCond .ne 5, 3, 38, 0, 0, []),
  (36, .iload_n 2, 1, 2, 0, 0, []),
  (38, .aload_n 0, 1, 0, 0, 0, []),
  (39, .iload_n 2, 1, 2, 0, 0, []),
  (40, .iconst 0, 1, 0, 0, 0, []),
  (41, .invokevirtual 49, 3, 8, 3, 0, [(0, 0)]),
  (44, .aload_n 0, 1, 0, 0, 0, []),
  (45, .iload_n 1, 1, 1, 0, 0, []),
  (46, .iconst 0, 1, 0, 0, 0, []),
  (47, .invokevirtual 49, 3, 8, 3, 0, [(0, 0)]),
  (50, .isub, 1, 0, 0, 0, []),
  (51, .ldc 56, 2, 0, 0, 65535, []),
  (53, .iand, 1, 0, 0, 0, []),
  (54, .istore_n 3, 1, 3, 0, 0, []),
  (55, .iload_n 3, 1, 3, 0, 0, []),
  (56, .iconst 1, 1, 0, 0, 1, []),
  (57, .if_icmp .lt 14, 3, 71, 0, 0, []),
  (60, .iload_n 3, 1, 3, 0, 0, []),
  (61, .sipush 32767, 3, 0, 0, 32767, []),
  (64, .if_icmp .gt 7, 3, 71, 0, 0, []),
  (67, .iload_n 2, 1, 2, 0, 0, []),
  (68, .goto 4, 3, 72, 0, 0, []),
  (71, .iload_n 1, 1, 1, 0, 0, [])]
def pg_t80 : List (Nat × Nat) := [(27, 1), (37, 1), (72, 1)]
/-- 81: TicketTag$Memory.writeDraft(II)Z -/
def pg_y81 : ev_M := (⟨"TicketTag$Memory", "writeDraft", "(II)Z"⟩, prog_2_method_18_code, 5, (Option.some Jvm.ClassFile.FieldType.boolean), [], 2, 53)
def pg_c81 : List (Nat × ev_I) := [(0, .aload_n 0, 1, 0, 0, 0, []),
  (1, .getfield 15, 3, 0, 1, 0, []),
  (4, .iconst 0, 1, 0, 0, 0, []),
  (5, .iload_n 2, 1, 2, 0, 0, []),
  (6, .iastore, 1, 0, 0, 0, []),
  (7, .iconst 0, 1, 0, 0, 0, []),
  (8, .istore_n 3, 1, 3, 0, 0, []),
  (9, .iconst 0, 1, 0, 0, 0, []),
  (10, .istore 4, 2, 4, 0, 0, []),
  (12, .iload 4, 2, 4, 0, 0, []),
  (14, .bipush 7, 2, 0, 0, 7, []),
  (16, .if_icmp .ge 40, 3, 56, 0, 0, []),
  (19, .aload_n 0, 1, 0, 0, 0, []),
  (20, .iload_n 1, 1, 1, 0, 0, []),
  (21, .iload 4, 2, 4, 0, 0, []),
  (23, .aload_n 0, 1, 0, 0, 0, []),
  (24, .getfield 15, 3, 0, 1, 0, []),
  (27, .iload 4, 2, 4, 0, 0, []),
  (29, .iaload, 1, 0, 0, 0, []),
  (30, .invokevirtual 45, 3, 58, 4, 0, [(0, 0)]),
  (33, .ifCond .ne 5, 3, 38, 0, 0, []),
  (36, .iconst 0, 1, 0, 0, 0, []),
  (38, .iload_n 3, 1, 3, 0, 0, []),
  (39, .aload_n 0, 1, 0, 0, 0, []),
  (40, .getfield 15, 3, 0, 1, 0, []),
  (43, .iload 4, 2, 4, 0, 0, []),
  (45, .iaload, 1, 0, 0, 0, []),
  (46, .invokestatic 53, 3, 7, 2, 0, []),
  (49, .istore_n 3, 1, 3, 0, 0, []),
  (50, .iinc 4 1, 3, 4, 0, 1, []),
  (53, .goto (-41), 3, 12, 0, 0, []),
  (56, .aload_n 0, 1, 0, 0, 0, []),
  (57, .iload_n 1, 1, 1, 0, 0, []),
  (58, .bipush 7, 2, 0, 0, 7, []),
  (60, .ldc 56, 2, 0, 0, 65535, []),
  (62, .iload_n 3, 1, 3, 0, 0, []),
  (63, .isub, 1, 0, 0, 0, []),
  (64, .invokevirtual 45, 3, 58, 4, 0, [(0, 0)])]
def pg_t81 : List (Nat × Nat) := [(37, 2), (67, 2)]
/-- 82: TicketTagModel.count(I)I -/
def pg_y82 : ev_M := (⟨"TicketTagModel", "count", "(I)I"⟩, prog_4_method_49_code, 2, (Option.some Jvm.ClassFile.FieldType.int), [], 2, 52)
def pg_c82 : List (Nat × ev_I) := [(0, .aload_n 0, 1, 0, 0, 0, []),
  (1, .iconst 0, 1, 0, 0, 0, []),
  (2, .putfield 33, 3, 2, 0, 0, []),
  (5, .iload_n 1, 1, 1, 0, 0, []),
  (6, .tableswitch 58 0 3 #[30, 35, 40, 45], 30, 64, 0, 0, [(0, 36), (1, 41), (2, 46), (3, 51)]),
  (36, .aload_n 0, 1, 0, 0, 0, []),
  (37, .getfield 40, 3, 2, 11, 0, []),
  (41, .aload_n 0, 1, 0, 0, 0, []),
  (42, .invokevirtual 78, 3, 64, 1, 0, [(0, 2)]),
  (46, .aload_n 0, 1, 0, 0, 0, []),
  (47, .getfield 46, 3, 2, 12, 0, []),
  (51, .aload_n 0, 1, 0, 0, 0, []),
  (52, .getfield 23, 3, 2, 5, 0, []),
  (55, .ifCond .lt 7, 3, 62, 0, 0, []),
  (58, .iconst 1, 1, 0, 0, 1, []),
  (59, .goto 4, 3, 63, 0, 0, []),
  (62, .iconst 0, 1, 0, 0, 0, []),
  (64, .iconst (-1), 1, 0, 0, (-1), [])]
def pg_t82 : List (Nat × Nat) := [(40, 1), (45, 1), (50, 1), (63, 1), (65, 1)]
/-- 83: TicketTagModel.hasJourney(I)Z -/
def pg_y83 : ev_M := (⟨"TicketTagModel", "hasJourney", "(I)Z"⟩, prog_4_method_18_code, 2, (Option.some Jvm.ClassFile.FieldType.boolean), [], 2, 53)
def pg_c83 : List (Nat × ev_I) := [(0, .aload_n 0, 1, 0, 0, 0, []),
  (1, .aload_n 0, 1, 0, 0, 0, []),
  (2, .iload_n 1, 1, 1, 0, 0, []),
  (3, .invokevirtual 84, 3, 28, 2, 0, [(0, 2)]),
  (6, .invokevirtual 57, 3, 62, 2, 0, [(0, 2)]),
  (9, .ifCond .eq 21, 3, 30, 0, 0, []),
  (12, .aload_n 0, 1, 0, 0, 0, []),
  (13, .aload_n 0, 1, 0, 0, 0, []),
  (14, .iload_n 1, 1, 1, 0, 0, []),
  (15, .invokevirtual 84, 3, 28, 2, 0, [(0, 2)]),
  (18, .iconst 0, 1, 0, 0, 0, []),
  (19, .invokevirtual 50, 3, 19, 3, 0, [(0, 2)]),
  (22, .iload_n 1, 1, 1, 0, 0, []),
  (23, .if_icmp .ne 7, 3, 30, 0, 0, []),
  (26, .iconst 1, 1, 0, 0, 1, []),
  (27, .goto 4, 3, 31, 0, 0, []),
  (30, .iconst 0, 1, 0, 0, 0, [])]
def pg_t83 : List (Nat × Nat) := [(31, 2)]
/-- 84: TicketTagModel.latest(I)I -/
def pg_y84 : ev_M := (⟨"TicketTagModel", "latest", "(I)I"⟩, prog_4_method_8_code, 5, (Option.some Jvm.ClassFile.FieldType.int), [], 2, 53)
def pg_c84 : List (Nat × ev_I) := [(0, .aload_n 0, 1, 0, 0, 0, []),
  (1, .iload_n 1, 1, 1, 0, 0, []),
  (2, .invokevirtual 57, 3, 62, 2, 0, [(0, 2)]),
  (5, .istore_n 2, 1, 2, 0, 0, []),
  (6, .aload_n 0, 1, 0, 0, 0, []),
  (7, .iload_n 1, 1, 1, 0, 0, []),
  (8, .iconst 2, 1, 0, 0, 2, []),
  (9, .iadd, 1, 0, 0, 0, []),
  (10, .invokevirtual 57, 3, 62, 2, 0, [(0, 2)]),
  (13, .istore_n 3, 1, 3, 0, 0, []),
  (14, .iload_n 2, 1, 2, 0, 0, []),
  (15, .ifCond .eq 7, 3, 22, 0, 0, []),
  (18, .iload_n 3, 1, 3, 0, 0, []),
  (19, .ifCond .ne 23, 3, 42, 0, 0, []),
  (22, .iload_n 2, 1, 2, 0, 0, []),
  (23, .ifCond .eq 7, 3, 30, 0, 0, []),
  (26, .iload_n 1, 1, 1, 0, 0, []),
  (27, .goto 14, 3, 41, 0, 0, []),
  (30, .iload_n 3, 1, 3, 0, 0, []),
  (31, .ifCond .eq 9, 3, 40, 0, 0, []),
  (34, .iload_n 1, 1, 1, 0, 0, []),
  (35, .iconst 2, 1, 0, 0, 2, []),
  (36, .iadd, 1, 0, 0, 0, []),
  (37, .goto 4, 3, 41, 0, 0, []),
  (40, .iconst (-1), 1, 0, 0, (-1), []),
  (42, .aload_n 0, 1, 0, 0, 0, []),
  (43, .iload_n 1, 1, 1, 0, 0, []),
  (44, .iconst 2, 1, 0, 0, 2, []),
  (45, .iadd, 1, 0, 0, 0, []),
  (46, .iconst 0, 1, 0, 0, 0, []),
  (47, .invokevirtual 50, 3, 19, 3, 0, [(0, 2)]),
  (50, .aload_n 0, 1, 0, 0, 0, []),
  (51, .iload_n 1, 1, 1, 0, 0, []),
  (52, .iconst 0, 1, 0, 0, 0, []),
  (53, .invokevirtual 50, 3, 19, 3, 0, [(0, 2)]),
  (56, .isub, 1, 0, 0, 0, []),
  (57, .ldc 49, 2, 0, 0, 65535, []),
  (59, .iand, 1, 0, 0, 0, []),
  (60, .istore 4, 2, 4, 0, 0, []),
  (62, .iload 4, 2, 4, 0, 0, []),
  (64, .ifCond .le 16, 3, 80, 0, 0, []),
  (67, .iload 4, 2, 4, 0, 0, []),
  (69, .ldc 61, 2, 0, 0, 32768, []),
  (71, .if_icmp .ge 9, 3, 80, 0, 0, []),
  (74, .iload_n 1, 1, 1, 0, 0, []),
  (75, .iconst 2, 1, 0, 0, 2, []),
  (76, .iadd, 1, 0, 0, 0, []),
  (77, .goto 4, 3, 81, 0, 0, []),
  (80, .iload_n 1, 1, 1, 0, 0, [])]
def pg_t84 : List (Nat × Nat) := [(41, 1), (81, 1)]
/-- 85: TicketTagModel.rides()I -/
def pg_y85 : ev_M := (⟨"TicketTagModel", "rides", "()I"⟩, prog_4_method_42_code, 1, (Option.some Jvm.ClassFile.FieldType.int), [], 2, 52)
def pg_c85 : List (Nat × ev_I) := [(0, .aload_n 0, 1, 0, 0, 0, []),
  (1, .iconst 0, 1, 0, 0, 0, []),
  (2, .putfield 33, 3, 2, 0, 0, []),
  (5, .aload_n 0, 1, 0, 0, 0, []),
  (6, .invokevirtual 74, 3, 63, 1, 0, [(0, 2)]),
  (9, .iconst 1, 1, 0, 0, 1, []),
  (10, .if_icmp .ne 19, 3, 29, 0, 0, []),
  (13, .aload_n 0, 1, 0, 0, 0, []),
  (14, .iconst 0, 1, 0, 0, 0, []),
  (15, .iconst 1, 1, 0, 0, 1, []),
  (16, .invokevirtual 50, 3, 19, 3, 0, [(0, 2)]),
  (19, .aload_n 0, 1, 0, 0, 0, []),
  (20, .invokevirtual 78, 3, 64, 1, 0, [(0, 2)]),
  (23, .invokestatic 153, 3, 25, 2, 0, []),
  (26, .goto 4, 3, 30, 0, 0, []),
  (29, .iconst (-1), 1, 0, 0, (-1), [])]
def pg_t85 : List (Nat × Nat) := [(30, 1)]
/-- 86: TicketTagModel.writeJourney(I)V -/
def pg_y86 : ev_M := (⟨"TicketTagModel", "writeJourney", "(I)V"⟩, prog_4_method_19_code, 3, (Option.none : Option Jvm.ClassFile.FieldType), [], 2, 56)
def pg_c86 : List (Nat × ev_I) := [(0, .aload_n 0, 1, 0, 0, 0, []),
  (1, .iload_n 1, 1, 1, 0, 0, []),
  (2, .invokevirtual 87, 3, 60, 2, 0, [(0, 2)]),
  (5, .aload_n 0, 1, 0, 0, 0, []),
  (6, .iload_n 1, 1, 1, 0, 0, []),
  (7, .iconst 5, 1, 0, 0, 5, []),
  (8, .invokevirtual 50, 3, 19, 3, 0, [(0, 2)]),
  (11, .sipush 255, 3, 0, 0, 255, []),
  (14, .iand, 1, 0, 0, 0, []),
  (15, .iadd, 1, 0, 0, 0, []),
  (16, .istore_n 2, 1, 2, 0, 0, []),
  (17, .aload_n 0, 1, 0, 0, 0, []),
  (18, .getfield 30, 3, 2, 13, 0, []),
  (21, .iconst 0, 1, 0, 0, 0, []),
  (22, .aload_n 0, 1, 0, 0, 0, []),
  (23, .iload_n 1, 1, 1, 0, 0, []),
  (24, .iconst 0, 1, 0, 0, 0, []),
  (25, .invokevirtual 50, 3, 19, 3, 0, [(0, 2)]),
  (28, .iastore, 1, 0, 0, 0, []),
  (29, .aload_n 0, 1, 0, 0, 0, []),
  (30, .getfield 30, 3, 2, 13, 0, []),
  (33, .iconst 1, 1, 0, 0, 1, []),
  (34, .iload_n 2, 1, 2, 0, 0, []),
  (35, .sipush 1440, 3, 0, 0, 1440, []),
  (38, .idiv, 1, 0, 0, 0, []),
  (39, .ldc 49, 2, 0, 0, 65535, []),
  (41, .iand, 1, 0, 0, 0, []),
  (42, .iastore, 1, 0, 0, 0, []),
  (43, .aload_n 0, 1, 0, 0, 0, []),
  (44, .getfield 30, 3, 2, 13, 0, []),
  (47, .iconst 2, 1, 0, 0, 2, []),
  (48, .iload_n 2, 1, 2, 0, 0, []),
  (49, .sipush 1440, 3, 0, 0, 1440, []),
  (52, .irem, 1, 0, 0, 0, []),
  (53, .iastore, 1, 0, 0, 0, []),
  (54, .aload_n 0, 1, 0, 0, 0, []),
  (55, .getfield 30, 3, 2, 13, 0, []),
  (58, .iconst 3, 1, 0, 0, 3, []),
  (59, .aload_n 0, 1, 0, 0, 0, []),
  (60, .iload_n 1, 1, 1, 0, 0, []),
  (61, .iconst 3, 1, 0, 0, 3, []),
  (62, .invokevirtual 50, 3, 19, 3, 0, [(0, 2)]),
  (65, .iastore, 1, 0, 0, 0, []),
  (66, .aload_n 0, 1, 0, 0, 0, []),
  (67, .getfield 30, 3, 2, 13, 0, []),
  (70, .iconst 4, 1, 0, 0, 4, []),
  (71, .aload_n 0, 1, 0, 0, 0, []),
  (72, .iload_n 1, 1, 1, 0, 0, []),
  (73, .iconst 4, 1, 0, 0, 4, []),
  (74, .invokevirtual 50, 3, 19, 3, 0, [(0, 2)]),
  (77, .iastore, 1, 0, 0, 0, []),
  (78, .aload_n 0, 1, 0, 0, 0, []),
  (79, .getfield 30, 3, 2, 13, 0, []),
  (82, .iconst 5, 1, 0, 0, 5, []),
  (83, .aload_n 0, 1, 0, 0, 0, []),
  (84, .iload_n 1, 1, 1, 0, 0, []),
  (85, .bipush 6, 2, 0, 0, 6, []),
  (87, .invokevirtual 50, 3, 19, 3, 0, [(0, 2)]),
  (90, .iastore, 1, 0, 0, 0, []),
  (91, .aload_n 0, 1, 0, 0, 0, []),
  (92, .getfield 30, 3, 2, 13, 0, []),
  (95, .bipush 6, 2, 0, 0, 6, []),
  (97, .aload_n 0, 1, 0, 0, 0, []),
  (98, .iload_n 1, 1, 1, 0, 0, []),
  (99, .invokevirtual 90, 3, 67, 2, 0, [(0, 2)]),
  (102, .iastore, 1, 0, 0, 0, []),
  (103, .aload_n 0, 1, 0, 0, 0, []),
  (104, .aload_n 0, 1, 0, 0, 0, []),
  (105, .aload_n 0, 1, 0, 0, 0, []),
  (106, .iload_n 1, 1, 1, 0, 0, []),
  (107, .iconst 0, 1, 0, 0, 0, []),
  (108, .invokevirtual 50, 3, 19, 3, 0, [(0, 2)]),
  (111, .invokevirtual 84, 3, 28, 2, 0, [(0, 2)]),
  (114, .invokevirtual 70, 3, 69, 2, 0, [(0, 2)])]
def pg_t86 : List (Nat × Nat) := [(117, 0)]
/-- 87: TicketTag.chargeBy(III)I -/
def pg_y87 : ev_M := (⟨"TicketTag", "chargeBy", "(III)I"⟩, prog_1_method_39_code, 4, (Option.some Jvm.ClassFile.FieldType.int), [], 3, 79)
def pg_c87 : List (Nat × ev_I) := [(0, .aload_n 0, 1, 0, 0, 0, []),
  (1, .iconst 1, 1, 0, 0, 1, []),
  (2, .invokevirtual 139, 3, 54, 2, 0, [(0, 1)]),
  (5, .ifCond .ne 7, 3, 12, 0, 0, []),
  (8, .iload_n 2, 1, 2, 0, 0, []),
  (9, .goto 13, 3, 22, 0, 0, []),
  (12, .iload_n 2, 1, 2, 0, 0, []),
  (13, .aload_n 0, 1, 0, 0, 0, []),
  (14, .iload_n 1, 1, 1, 0, 0, []),
  (15, .iload_n 3, 1, 3, 0, 0, []),
  (16, .invokevirtual 150, 3, 71, 3, 0, [(0, 1)]),
  (19, .invokestatic 264, 3, 35, 2, 0, [])]
def pg_t87 : List (Nat × Nat) := [(22, 1)]
/-- 88: TicketTag.isFreeAfter(II)Z -/
def pg_y88 : ev_M := (⟨"TicketTag", "isFreeAfter", "(II)Z"⟩, prog_1_method_33_code, 3, (Option.some Jvm.ClassFile.FieldType.boolean), [], 3, 79)
def pg_c88 : List (Nat × ev_I) := [(0, .aload_n 0, 1, 0, 0, 0, []),
  (1, .iload_n 1, 1, 1, 0, 0, []),
  (2, .aload_n 0, 1, 0, 0, 0, []),
  (3, .invokevirtual 227, 3, 4, 1, 0, [(0, 1)]),
  (6, .bipush 75, 2, 0, 0, 75, []),
  (8, .invokevirtual 185, 3, 70, 4, 0, [(0, 1)]),
  (11, .ifCond .eq 25, 3, 36, 0, 0, []),
  (14, .aload_n 0, 1, 0, 0, 0, []),
  (15, .iload_n 1, 1, 1, 0, 0, []),
  (16, .invokevirtual 165, 3, 44, 2, 0, [(0, 1)]),
  (19, .iload_n 2, 1, 2, 0, 0, []),
  (20, .if_icmp .ne 16, 3, 36, 0, 0, []),
  (23, .aload_n 0, 1, 0, 0, 0, []),
  (24, .iload_n 1, 1, 1, 0, 0, []),
  (25, .invokevirtual 174, 3, 55, 2, 0, [(0, 1)]),
  (28, .iconst 2, 1, 0, 0, 2, []),
  (29, .if_icmp .ge 7, 3, 36, 0, 0, []),
  (32, .iconst 1, 1, 0, 0, 1, []),
  (33, .goto 4, 3, 37, 0, 0, []),
  (36, .iconst 0, 1, 0, 0, 0, [])]
def pg_t88 : List (Nat × Nat) := [(37, 2)]
/-- 89: TicketTag.isJourneyWanting(I)Z -/
def pg_y89 : ev_M := (⟨"TicketTag", "isJourneyWanting", "(I)Z"⟩, prog_1_method_56_code, 2, (Option.some Jvm.ClassFile.FieldType.boolean), [], 3, 80)
def pg_c89 : List (Nat × ev_I) := [(0, .aload_n 0, 1, 0, 0, 0, []),
  (1, .aload_n 0, 1, 0, 0, 0, []),
  (2, .iload_n 1, 1, 1, 0, 0, []),
  (3, .invokevirtual 153, 3, 53, 2, 0, [(0, 1)]),
  (6, .invokevirtual 156, 3, 73, 2, 0, [(0, 1)]),
  (9, .iconst (-1), 1, 0, 0, (-1), []),
  (10, .if_icmp .ne 7, 3, 17, 0, 0, []),
  (13, .iconst 1, 1, 0, 0, 1, []),
  (14, .goto 4, 3, 18, 0, 0, []),
  (17, .iconst 0, 1, 0, 0, 0, [])]
def pg_t89 : List (Nat × Nat) := [(18, 2)]
/-- 90: TicketTag.isOpenFor(II)Z -/
def pg_y90 : ev_M := (⟨"TicketTag", "isOpenFor", "(II)Z"⟩, prog_1_method_50_code, 3, (Option.some Jvm.ClassFile.FieldType.boolean), [], 3, 77)
def pg_c90 : List (Nat × ev_I) := [(0, .iload_n 1, 1, 1, 0, 0, []),
  (1, .iconst (-1), 1, 0, 0, (-1), []),
  (2, .if_icmp .eq 20, 3, 22, 0, 0, []),
  (5, .iload_n 1, 1, 1, 0, 0, []),
  (6, .aload_n 0, 1, 0, 0, 0, []),
  (7, .getfield 28, 3, 1, 4, 0, []),
  (10, .if_icmp .ne 12, 3, 22, 0, 0, []),
  (13, .aload_n 0, 1, 0, 0, 0, []),
  (14, .iload_n 1, 1, 1, 0, 0, []),
  (15, .invokevirtual 159, 3, 52, 2, 0, [(0, 1)]),
  (18, .iload_n 2, 1, 2, 0, 0, []),
  (19, .if_icmp .eq 5, 3, 24, 0, 0, []),
  (22, .iconst 0, 1, 0, 0, 0, []),
  (24, .aload_n 0, 1, 0, 0, 0, []),
  (25, .invokevirtual 227, 3, 4, 1, 0, [(0, 1)]),
  (28, .aload_n 0, 1, 0, 0, 0, []),
  (29, .iload_n 1, 1, 1, 0, 0, []),
  (30, .invokevirtual 270, 3, 77, 2, 0, [(0, 1)]),
  (33, .isub, 1, 0, 0, 0, []),
  (34, .iconst 5, 1, 0, 0, 5, []),
  (35, .invokestatic 83, 3, 1, 2, 0, [])]
def pg_t90 : List (Nat × Nat) := [(23, 2), (38, 2)]
/-- 91: TicketTag.isVoid(I)Z -/
def pg_y91 : ev_M := (⟨"TicketTag", "isVoid", "(I)Z"⟩, prog_1_method_52_code, 5, (Option.some Jvm.ClassFile.FieldType.boolean), [], 3, 81)
def pg_c91 : List (Nat × ev_I) := [(0, .aload_n 0, 1, 0, 0, 0, []),
  (1, .iload_n 1, 1, 1, 0, 0, []),
  (2, .invokevirtual 99, 3, 42, 2, 0, [(0, 1)]),
  (5, .ifCond .eq 5, 3, 10, 0, 0, []),
  (8, .iconst 0, 1, 0, 0, 0, []),
  (10, .aload_n 0, 1, 0, 0, 0, []),
  (11, .invokevirtual 54, 3, 51, 1, 0, [(0, 1)]),
  (14, .istore_n 2, 1, 2, 0, 0, []),
  (15, .aload_n 0, 1, 0, 0, 0, []),
  (16, .getfield 10, 3, 1, 0, 0, []),
  (19, .iload_n 1, 1, 1, 0, 0, []),
  (20, .iconst 5, 1, 0, 0, 5, []),
  (21, .invokevirtual 120, 3, 8, 3, 0, [(0, 0)]),
  (24, .sipush 256, 3, 0, 0, 256, []),
  (27, .idiv, 1, 0, 0, 0, []),
  (28, .istore_n 3, 1, 3, 0, 0, []),
  (29, .iload_n 2, 1, 2, 0, 0, []),
  (30, .iconst 1, 1, 0, 0, 1, []),
  (31, .if_icmp .ne 17, 3, 48, 0, 0, []),
  (34, .iload_n 3, 1, 3, 0, 0, []),
  (35, .aload_n 0, 1, 0, 0, 0, []),
  (36, .invokevirtual 142, 3, 39, 1, 0, [(0, 1)]),
  (39, .if_icmp .le 7, 3, 46, 0, 0, []),
  (42, .iconst 1, 1, 0, 0, 1, []),
  (43, .goto 4, 3, 47, 0, 0, []),
  (46, .iconst 0, 1, 0, 0, 0, []),
  (48, .iload_n 2, 1, 2, 0, 0, []),
  (49, .iconst 3, 1, 0, 0, 3, []),
  (50, .if_icmp .ne 14, 3, 64, 0, 0, []),
  (53, .aload_n 0, 1, 0, 0, 0, []),
  (54, .getfield 10, 3, 1, 0, 0, []),
  (57, .iconst 5, 1, 0, 0, 5, []),
  (58, .invokevirtual 267, 3, 80, 2, 0, [(0, 0)]),
  (61, .goto 4, 3, 65, 0, 0, []),
  (64, .iconst (-1), 1, 0, 0, (-1), []),
  (65, .istore 4, 2, 4, 0, 0, []),
  (67, .iload 4, 2, 4, 0, 0, []),
  (69, .iconst (-1), 1, 0, 0, (-1), []),
  (70, .if_icmp .eq 23, 3, 93, 0, 0, []),
  (73, .iload_n 3, 1, 3, 0, 0, []),
  (74, .aload_n 0, 1, 0, 0, 0, []),
  (75, .iload 4, 2, 4, 0, 0, []),
  (77, .invokevirtual 233, 3, 43, 2, 0, [(0, 1)]),
  (80, .iconst 1, 1, 0, 0, 1, []),
  (81, .iadd, 1, 0, 0, 0, []),
  (82, .sipush 256, 3, 0, 0, 256, []),
  (85, .irem, 1, 0, 0, 0, []),
  (86, .if_icmp .ne 7, 3, 93, 0, 0, []),
  (89, .iconst 1, 1, 0, 0, 1, []),
  (90, .goto 4, 3, 94, 0, 0, []),
  (93, .iconst 0, 1, 0, 0, 0, [])]
def pg_t91 : List (Nat × Nat) := [(9, 2), (47, 2), (94, 2)]
/-- 92: TicketTag.latestValue()I -/
def pg_y92 : ev_M := (⟨"TicketTag", "latestValue", "()I"⟩, prog_1_method_53_code, 1, (Option.some Jvm.ClassFile.FieldType.int), [], 3, 81)
def pg_c92 : List (Nat × ev_I) := [(0, .aload_n 0, 1, 0, 0, 0, []),
  (1, .invokevirtual 54, 3, 51, 1, 0, [(0, 1)]),
  (4, .iconst 3, 1, 0, 0, 3, []),
  (5, .if_icmp .ne 14, 3, 19, 0, 0, []),
  (8, .aload_n 0, 1, 0, 0, 0, []),
  (9, .getfield 10, 3, 1, 0, 0, []),
  (12, .iconst 5, 1, 0, 0, 5, []),
  (13, .invokevirtual 267, 3, 80, 2, 0, [(0, 0)]),
  (16, .goto 4, 3, 20, 0, 0, []),
  (19, .iconst (-1), 1, 0, 0, (-1), [])]
def pg_t92 : List (Nat × Nat) := [(20, 1)]
/-- 93: TicketTag.newestRide()I -/
def pg_y93 : ev_M := (⟨"TicketTag", "newestRide", "()I"⟩, prog_1_method_46_code, 1, (Option.some Jvm.ClassFile.FieldType.int), [], 3, 81)
def pg_c93 : List (Nat × ev_I) := [(0, .aload_n 0, 1, 0, 0, 0, []),
  (1, .getfield 10, 3, 1, 0, 0, []),
  (4, .bipush 41, 2, 0, 0, 41, []),
  (6, .invokevirtual 267, 3, 80, 2, 0, [(0, 0)])]
def pg_t93 : List (Nat × Nat) := [(9, 1)]
/-- 94: TicketTag.reasonAgainstTopUp(II)I -/
def pg_y94 : ev_M := (⟨"TicketTag", "reasonAgainstTopUp", "(II)I"⟩, prog_1_method_29_code, 4, (Option.some Jvm.ClassFile.FieldType.int), [], 3, 75)
def pg_c94 : List (Nat × ev_I) := [(0, .aload_n 0, 1, 0, 0, 0, []),
  (1, .invokevirtual 90, 3, 74, 1, 0, [(0, 1)]),
  (4, .istore_n 3, 1, 3, 0, 0, []),
  (5, .iload_n 3, 1, 3, 0, 0, []),
  (6, .ifCond .eq 5, 3, 11, 0, 0, []),
  (9, .iload_n 3, 1, 3, 0, 0, []),
  (11, .iload_n 1, 1, 1, 0, 0, []),
  (12, .iconst (-1), 1, 0, 0, (-1), []),
  (13, .if_icmp .ne 6, 3, 19, 0, 0, []),
  (16, .bipush 6, 2, 0, 0, 6, []),
  (19, .aload_n 0, 1, 0, 0, 0, []),
  (20, .iload_n 1, 1, 1, 0, 0, []),
  (21, .invokevirtual 117, 3, 40, 2, 0, [(0, 1)]),
  (24, .iload_n 2, 1, 2, 0, 0, []),
  (25, .iadd, 1, 0, 0, 0, []),
  (26, .ldc 107, 2, 0, 0, 65535, []),
  (28, .if_icmp .le 8, 3, 36, 0, 0, []),
  (31, .bipush 7, 2, 0, 0, 7, []),
  (33, .goto 4, 3, 37, 0, 0, []),
  (36, .iconst 0, 1, 0, 0, 0, [])]
def pg_t94 : List (Nat × Nat) := [(10, 1), (18, 1), (37, 1)]
/-- 95: TicketTag.writeJourneyOf(I)Z -/
def pg_y95 : ev_M := (⟨"TicketTag", "writeJourneyOf", "(I)Z"⟩, prog_1_method_47_code, 3, (Option.some Jvm.ClassFile.FieldType.boolean), [], 3, 81)
def pg_c95 : List (Nat × ev_I) := [(0, .aload_n 0, 1, 0, 0, 0, []),
  (1, .iload_n 1, 1, 1, 0, 0, []),
  (2, .invokevirtual 270, 3, 77, 2, 0, [(0, 1)]),
  (5, .istore_n 2, 1, 2, 0, 0, []),
  (6, .aload_n 0, 1, 0, 0, 0, []),
  (7, .getfield 10, 3, 1, 0, 0, []),
  (10, .iload_n 2, 1, 2, 0, 0, []),
  (11, .sipush 1440, 3, 0, 0, 1440, []),
  (14, .idiv, 1, 0, 0, 0, []),
  (15, .ldc 107, 2, 0, 0, 65535, []),
  (17, .iand, 1, 0, 0, 0, []),
  (18, .iload_n 2, 1, 2, 0, 0, []),
  (19, .sipush 1440, 3, 0, 0, 1440, []),
  (22, .irem, 1, 0, 0, 0, []),
  (23, .aload_n 0, 1, 0, 0, 0, []),
  (24, .getfield 10, 3, 1, 0, 0, []),
  (27, .iload_n 1, 1, 1, 0, 0, []),
  (28, .iconst 3, 1, 0, 0, 3, []),
  (29, .invokevirtual 120, 3, 8, 3, 0, [(0, 0)]),
  (32, .aload_n 0, 1, 0, 0, 0, []),
  (33, .getfield 10, 3, 1, 0, 0, []),
  (36, .iload_n 1, 1, 1, 0, 0, []),
  (37, .iconst 4, 1, 0, 0, 4, []),
  (38, .invokevirtual 120, 3, 8, 3, 0, [(0, 0)]),
  (41, .aload_n 0, 1, 0, 0, 0, []),
  (42, .getfield 10, 3, 1, 0, 0, []),
  (45, .iload_n 1, 1, 1, 0, 0, []),
  (46, .bipush 6, 2, 0, 0, 6, []),
  (48, .invokevirtual 120, 3, 8, 3, 0, [(0, 0)]),
  (51, .aload_n 0, 1, 0, 0, 0, []),
  (52, .iload_n 1, 1, 1, 0, 0, []),
  (53, .invokevirtual 174, 3, 55, 2, 0, [(0, 1)]),
  (56, .invokevirtual 239, 3, 10, 7, 0, [(0, 0)]),
  (59, .aload_n 0, 1, 0, 0, 0, []),
  (60, .getfield 10, 3, 1, 0, 0, []),
  (63, .aload_n 0, 1, 0, 0, 0, []),
  (64, .iload_n 1, 1, 1, 0, 0, []),
  (65, .invokevirtual 153, 3, 53, 2, 0, [(0, 1)]),
  (68, .invokestatic 273, 3, 2, 1, 0, []),
  (71, .aload_n 0, 1, 0, 0, 0, []),
  (72, .iload_n 1, 1, 1, 0, 0, []),
  (73, .invokevirtual 153, 3, 53, 2, 0, [(0, 1)]),
  (76, .invokevirtual 276, 3, 81, 3, 0, [(0, 0)])]
def pg_t95 : List (Nat × Nat) := [(79, 2)]
/-- 96: TicketTag$Memory.writeTwin(I)Z -/
def pg_y96 : ev_M := (⟨"TicketTag$Memory", "writeTwin", "(I)Z"⟩, prog_2_method_17_code, 3, (Option.some Jvm.ClassFile.FieldType.boolean), [], 3, 81)
def pg_c96 : List (Nat × ev_I) := [(0, .aload_n 0, 1, 0, 0, 0, []),
  (1, .iload_n 1, 1, 1, 0, 0, []),
  (2, .invokevirtual 64, 3, 80, 2, 0, [(0, 0)]),
  (5, .istore_n 2, 1, 2, 0, 0, []),
  (6, .iload_n 2, 1, 2, 0, 0, []),
  (7, .iconst (-1), 1, 0, 0, (-1), []),
  (8, .if_icmp .ne 10, 3, 18, 0, 0, []),
  (11, .aload_n 0, 1, 0, 0, 0, []),
  (12, .iload_n 1, 1, 1, 0, 0, []),
  (13, .iconst 1, 1, 0, 0, 1, []),
  (14, .invokevirtual 68, 3, 81, 3, 0, [(0, 0)]),
  (18, .aload_n 0, 1, 0, 0, 0, []),
  (19, .iload_n 1, 1, 1, 0, 0, []),
  (20, .iload_n 2, 1, 2, 0, 0, []),
  (21, .invokestatic 57, 3, 16, 2, 0, []),
  (24, .aload_n 0, 1, 0, 0, 0, []),
  (25, .iload_n 2, 1, 2, 0, 0, []),
  (26, .iconst 0, 1, 0, 0, 0, []),
  (27, .invokevirtual 49, 3, 8, 3, 0, [(0, 0)]),
  (30, .iconst 1, 1, 0, 0, 1, []),
  (31, .iadd, 1, 0, 0, 0, []),
  (32, .ldc 56, 2, 0, 0, 65535, []),
  (34, .iand, 1, 0, 0, 0, []),
  (35, .invokevirtual 68, 3, 81, 3, 0, [(0, 0)])]
def pg_t96 : List (Nat × Nat) := [(17, 2), (38, 2)]
/-- 97: TicketTagModel.capLeft(I)I -/
def pg_y97 : ev_M := (⟨"TicketTagModel", "capLeft", "(I)I"⟩, prog_4_method_44_code, 3, (Option.some Jvm.ClassFile.FieldType.int), [], 3, 81)
def pg_c97 : List (Nat × ev_I) := [(0, .aload_n 0, 1, 0, 0, 0, []),
  (1, .iconst 0, 1, 0, 0, 0, []),
  (2, .putfield 33, 3, 2, 0, 0, []),
  (5, .aload_n 0, 1, 0, 0, 0, []),
  (6, .iconst 5, 1, 0, 0, 5, []),
  (7, .invokevirtual 66, 3, 84, 2, 0, [(0, 2)]),
  (10, .istore_n 2, 1, 2, 0, 0, []),
  (11, .aload_n 0, 1, 0, 0, 0, []),
  (12, .invokevirtual 74, 3, 63, 1, 0, [(0, 2)]),
  (15, .iconst 3, 1, 0, 0, 3, []),
  (16, .if_icmp .ne 16, 3, 32, 0, 0, []),
  (19, .iload_n 2, 1, 2, 0, 0, []),
  (20, .ifCond .lt 12, 3, 32, 0, 0, []),
  (23, .aload_n 0, 1, 0, 0, 0, []),
  (24, .iconst 0, 1, 0, 0, 0, []),
  (25, .iconst 1, 1, 0, 0, 1, []),
  (26, .invokevirtual 50, 3, 19, 3, 0, [(0, 2)]),
  (29, .ifCond .ne 5, 3, 34, 0, 0, []),
  (32, .iconst (-1), 1, 0, 0, (-1), []),
  (34, .aload_n 0, 1, 0, 0, 0, []),
  (35, .iconst 0, 1, 0, 0, 0, []),
  (36, .iconst 1, 1, 0, 0, 1, []),
  (37, .invokevirtual 50, 3, 19, 3, 0, [(0, 2)]),
  (40, .aload_n 0, 1, 0, 0, 0, []),
  (41, .iload_n 2, 1, 2, 0, 0, []),
  (42, .iconst 2, 1, 0, 0, 2, []),
  (43, .invokevirtual 50, 3, 19, 3, 0, [(0, 2)]),
  (46, .iload_n 1, 1, 1, 0, 0, []),
  (47, .if_icmp .ne 12, 3, 59, 0, 0, []),
  (50, .aload_n 0, 1, 0, 0, 0, []),
  (51, .iload_n 2, 1, 2, 0, 0, []),
  (52, .iconst 3, 1, 0, 0, 3, []),
  (53, .invokevirtual 50, 3, 19, 3, 0, [(0, 2)]),
  (56, .goto 4, 3, 60, 0, 0, []),
  (59, .iconst 0, 1, 0, 0, 0, []),
  (60, .invokestatic 153, 3, 25, 2, 0, [])]
def pg_t97 : List (Nat × Nat) := [(33, 1), (63, 1)]
/-- 98: TicketTagModel.cents()I -/
def pg_y98 : ev_M := (⟨"TicketTagModel", "cents", "()I"⟩, prog_4_method_43_code, 2, (Option.some Jvm.ClassFile.FieldType.int), [], 3, 81)
def pg_c98 : List (Nat × ev_I) := [(0, .aload_n 0, 1, 0, 0, 0, []),
  (1, .iconst 0, 1, 0, 0, 0, []),
  (2, .putfield 33, 3, 2, 0, 0, []),
  (5, .aload_n 0, 1, 0, 0, 0, []),
  (6, .iconst 5, 1, 0, 0, 5, []),
  (7, .invokevirtual 66, 3, 84, 2, 0, [(0, 2)]),
  (10, .istore_n 1, 1, 1, 0, 0, []),
  (11, .aload_n 0, 1, 0, 0, 0, []),
  (12, .invokevirtual 74, 3, 63, 1, 0, [(0, 2)]),
  (15, .iconst 3, 1, 0, 0, 3, []),
  (16, .if_icmp .ne 16, 3, 32, 0, 0, []),
  (19, .iload_n 1, 1, 1, 0, 0, []),
  (20, .ifCond .lt 12, 3, 32, 0, 0, []),
  (23, .aload_n 0, 1, 0, 0, 0, []),
  (24, .iload_n 1, 1, 1, 0, 0, []),
  (25, .iconst 1, 1, 0, 0, 1, []),
  (26, .invokevirtual 50, 3, 19, 3, 0, [(0, 2)]),
  (29, .goto 4, 3, 33, 0, 0, []),
  (32, .iconst (-1), 1, 0, 0, (-1), [])]
def pg_t98 : List (Nat × Nat) := [(33, 1)]
/-- 99: TicketTagModel.done(I)I -/
def pg_y99 : ev_M := (⟨"TicketTagModel", "done", "(I)I"⟩, prog_4_method_32_code, 2, (Option.some Jvm.ClassFile.FieldType.int), [], 3, 82)
def pg_c99 : List (Nat × ev_I) := [(0, .aload_n 0, 1, 0, 0, 0, []),
  (1, .getfield 36, 3, 2, 10, 0, []),
  (4, .ifCond .eq 5, 3, 9, 0, 0, []),
  (7, .iconst 4, 1, 0, 0, 4, []),
  (9, .aload_n 0, 1, 0, 0, 0, []),
  (10, .aload_n 0, 1, 0, 0, 0, []),
  (11, .bipush 41, 2, 0, 0, 41, []),
  (13, .invokevirtual 66, 3, 84, 2, 0, [(0, 2)]),
  (16, .invokevirtual 120, 3, 86, 2, 0, [(0, 2)]),
  (19, .aload_n 0, 1, 0, 0, 0, []),
  (20, .iconst 0, 1, 0, 0, 0, []),
  (21, .putfield 111, 3, 2, 6, 1, []),
  (24, .aload_n 0, 1, 0, 0, 0, []),
  (25, .getfield 36, 3, 2, 10, 0, []),
  (28, .ifCond .eq 7, 3, 35, 0, 0, []),
  (31, .iconst 4, 1, 0, 0, 4, []),
  (32, .goto 4, 3, 36, 0, 0, []),
  (35, .iload_n 1, 1, 1, 0, 0, [])]
def pg_t99 : List (Nat × Nat) := [(8, 1), (36, 1)]
/-- 100: TicketTagModel.isVoid(I)Z -/
def pg_y100 : ev_M := (⟨"TicketTagModel", "isVoid", "(I)Z"⟩, prog_4_method_13_code, 4, (Option.some Jvm.ClassFile.FieldType.boolean), [], 3, 81)
def pg_c100 : List (Nat × ev_I) := [(0, .aload_n 0, 1, 0, 0, 0, []),
  (1, .iload_n 1, 1, 1, 0, 0, []),
  (2, .iconst 4, 1, 0, 0, 4, []),
  (3, .invokevirtual 50, 3, 19, 3, 0, [(0, 2)]),
  (6, .iconst 4, 1, 0, 0, 4, []),
  (7, .ishr, 1, 0, 0, 0, []),
  (8, .bipush 15, 2, 0, 0, 15, []),
  (10, .iand, 1, 0, 0, 0, []),
  (11, .ifCond .eq 5, 3, 16, 0, 0, []),
  (14, .iconst 0, 1, 0, 0, 0, []),
  (16, .aload_n 0, 1, 0, 0, 0, []),
  (17, .iload_n 1, 1, 1, 0, 0, []),
  (18, .iconst 5, 1, 0, 0, 5, []),
  (19, .invokevirtual 50, 3, 19, 3, 0, [(0, 2)]),
  (22, .bipush 8, 2, 0, 0, 8, []),
  (24, .ishr, 1, 0, 0, 0, []),
  (25, .istore_n 2, 1, 2, 0, 0, []),
  (26, .aload_n 0, 1, 0, 0, 0, []),
  (27, .invokevirtual 74, 3, 63, 1, 0, [(0, 2)]),
  (30, .iconst 1, 1, 0, 0, 1, []),
  (31, .if_icmp .ne 17, 3, 48, 0, 0, []),
  (34, .iload_n 2, 1, 2, 0, 0, []),
  (35, .aload_n 0, 1, 0, 0, 0, []),
  (36, .invokevirtual 78, 3, 64, 1, 0, [(0, 2)]),
  (39, .if_icmp .le 7, 3, 46, 0, 0, []),
  (42, .iconst 1, 1, 0, 0, 1, []),
  (43, .goto 4, 3, 47, 0, 0, []),
  (46, .iconst 0, 1, 0, 0, 0, []),
  (48, .aload_n 0, 1, 0, 0, 0, []),
  (49, .iconst 5, 1, 0, 0, 5, []),
  (50, .invokevirtual 66, 3, 84, 2, 0, [(0, 2)]),
  (53, .istore_n 3, 1, 3, 0, 0, []),
  (54, .aload_n 0, 1, 0, 0, 0, []),
  (55, .invokevirtual 74, 3, 63, 1, 0, [(0, 2)]),
  (58, .iconst 3, 1, 0, 0, 3, []),
  (59, .if_icmp .ne 27, 3, 86, 0, 0, []),
  (62, .iload_n 3, 1, 3, 0, 0, []),
  (63, .ifCond .lt 23, 3, 86, 0, 0, []),
  (66, .iload_n 2, 1, 2, 0, 0, []),
  (67, .aload_n 0, 1, 0, 0, 0, []),
  (68, .iload_n 3, 1, 3, 0, 0, []),
  (69, .iconst 0, 1, 0, 0, 0, []),
  (70, .invokevirtual 50, 3, 19, 3, 0, [(0, 2)]),
  (73, .iconst 1, 1, 0, 0, 1, []),
  (74, .iadd, 1, 0, 0, 0, []),
  (75, .sipush 255, 3, 0, 0, 255, []),
  (78, .iand, 1, 0, 0, 0, []),
  (79, .if_icmp .ne 7, 3, 86, 0, 0, []),
  (82, .iconst 1, 1, 0, 0, 1, []),
  (83, .goto 4, 3, 87, 0, 0, []),
  (86, .iconst 0, 1, 0, 0, 0, [])]
def pg_t100 : List (Nat × Nat) := [(15, 2), (47, 2), (87, 2)]
/-- 101: TicketTagModel.writeTwin(I)V -/
def pg_y101 : ev_M := (⟨"TicketTagModel", "writeTwin", "(I)V"⟩, prog_4_method_10_code, 3, (Option.none : Option Jvm.ClassFile.FieldType), [], 3, 81)
def pg_c101 : List (Nat × ev_I) := [(0, .aload_n 0, 1, 0, 0, 0, []),
  (1, .iload_n 1, 1, 1, 0, 0, []),
  (2, .invokevirtual 66, 3, 84, 2, 0, [(0, 2)]),
  (5, .istore_n 2, 1, 2, 0, 0, []),
  (6, .aload_n 0, 1, 0, 0, 0, []),
  (7, .getfield 30, 3, 2, 13, 0, []),
  (10, .iconst 0, 1, 0, 0, 0, []),
  (11, .iload_n 2, 1, 2, 0, 0, []),
  (12, .ifCond .ge 7, 3, 19, 0, 0, []),
  (15, .iconst 1, 1, 0, 0, 1, []),
  (16, .goto 14, 3, 30, 0, 0, []),
  (19, .aload_n 0, 1, 0, 0, 0, []),
  (20, .iload_n 2, 1, 2, 0, 0, []),
  (21, .iconst 0, 1, 0, 0, 0, []),
  (22, .invokevirtual 50, 3, 19, 3, 0, [(0, 2)]),
  (25, .iconst 1, 1, 0, 0, 1, []),
  (26, .iadd, 1, 0, 0, 0, []),
  (27, .ldc 49, 2, 0, 0, 65535, []),
  (29, .iand, 1, 0, 0, 0, []),
  (30, .iastore, 1, 0, 0, 0, []),
  (31, .aload_n 0, 1, 0, 0, 0, []),
  (32, .iload_n 2, 1, 2, 0, 0, []),
  (33, .iload_n 1, 1, 1, 0, 0, []),
  (34, .if_icmp .ne 9, 3, 43, 0, 0, []),
  (37, .iload_n 1, 1, 1, 0, 0, []),
  (38, .iconst 2, 1, 0, 0, 2, []),
  (39, .iadd, 1, 0, 0, 0, []),
  (40, .goto 4, 3, 44, 0, 0, []),
  (43, .iload_n 1, 1, 1, 0, 0, []),
  (44, .invokevirtual 70, 3, 69, 2, 0, [(0, 2)])]
def pg_t101 : List (Nat × Nat) := [(47, 0)]
/-- 102: TicketTag.capLeft(I)I -/
def pg_y102 : ev_M := (⟨"TicketTag", "capLeft", "(I)I"⟩, prog_1_method_13_code, 3, (Option.some Jvm.ClassFile.FieldType.int), [], 4, 105)
def pg_c102 : List (Nat × ev_I) := [(0, .aload_n 0, 1, 0, 0, 0, []),
  (1, .invokevirtual 110, 3, 92, 1, 0, [(0, 1)]),
  (4, .istore_n 2, 1, 2, 0, 0, []),
  (5, .iload_n 2, 1, 2, 0, 0, []),
  (6, .iconst (-1), 1, 0, 0, (-1), []),
  (7, .if_icmp .eq 11, 3, 18, 0, 0, []),
  (10, .aload_n 0, 1, 0, 0, 0, []),
  (11, .iconst 1, 1, 0, 0, 1, []),
  (12, .invokevirtual 139, 3, 54, 2, 0, [(0, 1)]),
  (15, .ifCond .ne 5, 3, 20, 0, 0, []),
  (18, .iconst (-1), 1, 0, 0, (-1), []),
  (20, .aload_n 0, 1, 0, 0, 0, []),
  (21, .iload_n 2, 1, 2, 0, 0, []),
  (22, .iload_n 1, 1, 1, 0, 0, []),
  (23, .invokevirtual 150, 3, 71, 3, 0, [(0, 1)])]
def pg_t102 : List (Nat × Nat) := [(19, 1), (26, 1)]
/-- 103: TicketTag.cents()I -/
def pg_y103 : ev_M := (⟨"TicketTag", "cents", "()I"⟩, prog_1_method_12_code, 2, (Option.some Jvm.ClassFile.FieldType.int), [], 4, 105)
def pg_c103 : List (Nat × ev_I) := [(0, .aload_n 0, 1, 0, 0, 0, []),
  (1, .invokevirtual 110, 3, 92, 1, 0, [(0, 1)]),
  (4, .istore_n 1, 1, 1, 0, 0, []),
  (5, .iload_n 1, 1, 1, 0, 0, []),
  (6, .iconst (-1), 1, 0, 0, (-1), []),
  (7, .if_icmp .ne 7, 3, 14, 0, 0, []),
  (10, .iconst (-1), 1, 0, 0, (-1), []),
  (11, .goto 8, 3, 19, 0, 0, []),
  (14, .aload_n 0, 1, 0, 0, 0, []),
  (15, .iload_n 1, 1, 1, 0, 0, []),
  (16, .invokevirtual 117, 3, 40, 2, 0, [(0, 1)])]
def pg_t103 : List (Nat × Nat) := [(19, 1)]
/-- 104: TicketTag.lastRideRecord()I -/
def pg_y104 : ev_M := (⟨"TicketTag", "lastRideRecord", "()I"⟩, prog_1_method_51_code, 3, (Option.some Jvm.ClassFile.FieldType.int), [], 4, 109)
def pg_c104 : List (Nat × ev_I) := [(0, .aload_n 0, 1, 0, 0, 0, []),
  (1, .getfield 10, 3, 1, 0, 0, []),
  (4, .bipush 41, 2, 0, 0, 41, []),
  (6, .invokevirtual 267, 3, 80, 2, 0, [(0, 0)]),
  (9, .istore_n 1, 1, 1, 0, 0, []),
  (10, .iload_n 1, 1, 1, 0, 0, []),
  (11, .iconst (-1), 1, 0, 0, (-1), []),
  (12, .if_icmp .eq 11, 3, 23, 0, 0, []),
  (15, .aload_n 0, 1, 0, 0, 0, []),
  (16, .iload_n 1, 1, 1, 0, 0, []),
  (17, .invokevirtual 279, 3, 91, 2, 0, [(0, 1)]),
  (20, .ifCond .ne 5, 3, 25, 0, 0, []),
  (23, .iload_n 1, 1, 1, 0, 0, []),
  (25, .bipush 41, 2, 0, 0, 41, []),
  (27, .iload_n 1, 1, 1, 0, 0, []),
  (28, .invokestatic 285, 3, 16, 2, 0, []),
  (31, .istore_n 2, 1, 2, 0, 0, []),
  (32, .aload_n 0, 1, 0, 0, 0, []),
  (33, .getfield 10, 3, 1, 0, 0, []),
  (36, .iload_n 2, 1, 2, 0, 0, []),
  (37, .invokevirtual 288, 3, 57, 2, 0, [(0, 0)]),
  (40, .ifCond .eq 7, 3, 47, 0, 0, []),
  (43, .iload_n 2, 1, 2, 0, 0, []),
  (44, .goto 4, 3, 48, 0, 0, []),
  (47, .iconst (-1), 1, 0, 0, (-1), [])]
def pg_t104 : List (Nat × Nat) := [(24, 1), (48, 1)]
/-- 105: TicketTag.rideFree(III)I -/
def pg_y105 : ev_M := (⟨"TicketTag", "rideFree", "(III)I"⟩, prog_1_method_34_code, 6, (Option.some Jvm.ClassFile.FieldType.int), [], 4, 107)
def pg_c105 : List (Nat × ev_I) := [(0, .aload_n 0, 1, 0, 0, 0, []),
  (1, .invokevirtual 227, 3, 4, 1, 0, [(0, 1)]),
  (4, .aload_n 0, 1, 0, 0, 0, []),
  (5, .iload_n 1, 1, 1, 0, 0, []),
  (6, .invokevirtual 230, 3, 37, 2, 0, [(0, 1)]),
  (9, .isub, 1, 0, 0, 0, []),
  (10, .istore 4, 2, 4, 0, 0, []),
  (12, .aload_n 0, 1, 0, 0, 0, []),
  (13, .invokevirtual 54, 3, 51, 1, 0, [(0, 1)]),
  (16, .iconst 1, 1, 0, 0, 1, []),
  (17, .if_icmp .ne 10, 3, 27, 0, 0, []),
  (20, .aload_n 0, 1, 0, 0, 0, []),
  (21, .invokevirtual 142, 3, 39, 1, 0, [(0, 1)]),
  (24, .goto 15, 3, 39, 0, 0, []),
  (27, .aload_n 0, 1, 0, 0, 0, []),
  (28, .aload_n 0, 1, 0, 0, 0, []),
  (29, .invokevirtual 110, 3, 92, 1, 0, [(0, 1)]),
  (32, .invokevirtual 233, 3, 43, 2, 0, [(0, 1)]),
  (35, .sipush 256, 3, 0, 0, 256, []),
  (38, .irem, 1, 0, 0, 0, []),
  (39, .istore 5, 2, 5, 0, 0, []),
  (41, .aload_n 0, 1, 0, 0, 0, []),
  (42, .getfield 10, 3, 1, 0, 0, []),
  (45, .aload_n 0, 1, 0, 0, 0, []),
  (46, .getfield 10, 3, 1, 0, 0, []),
  (49, .iload_n 1, 1, 1, 0, 0, []),
  (50, .iconst 1, 1, 0, 0, 1, []),
  (51, .invokevirtual 120, 3, 8, 3, 0, [(0, 0)]),
  (54, .aload_n 0, 1, 0, 0, 0, []),
  (55, .getfield 10, 3, 1, 0, 0, []),
  (58, .iload_n 1, 1, 1, 0, 0, []),
  (59, .iconst 2, 1, 0, 0, 2, []),
  (60, .invokevirtual 120, 3, 8, 3, 0, [(0, 0)]),
  (63, .sipush 4096, 3, 0, 0, 4096, []),
  (66, .iadd, 1, 0, 0, 0, []),
  (67, .iload_n 2, 1, 2, 0, 0, []),
  (68, .aload_n 0, 1, 0, 0, 0, []),
  (69, .iload_n 3, 1, 3, 0, 0, []),
  (70, .iconst 1, 1, 0, 0, 1, []),
  (71, .invokevirtual 236, 3, 3, 3, 0, [(0, 1)]),
  (74, .iload 4, 2, 4, 0, 0, []),
  (76, .sipush 256, 3, 0, 0, 256, []),
  (79, .iload 5, 2, 5, 0, 0, []),
  (81, .imul, 1, 0, 0, 0, []),
  (82, .iadd, 1, 0, 0, 0, []),
  (83, .iconst 0, 1, 0, 0, 0, []),
  (84, .invokevirtual 239, 3, 10, 7, 0, [(0, 0)]),
  (87, .aload_n 0, 1, 0, 0, 0, []),
  (88, .getfield 10, 3, 1, 0, 0, []),
  (91, .bipush 41, 2, 0, 0, 41, []),
  (93, .invokevirtual 127, 3, 96, 2, 0, [(0, 0)]),
  (96, .ifCond .eq 18, 3, 114, 0, 0, []),
  (99, .aload_n 0, 1, 0, 0, 0, []),
  (100, .aload_n 0, 1, 0, 0, 0, []),
  (101, .invokevirtual 243, 3, 93, 1, 0, [(0, 1)]),
  (104, .invokevirtual 246, 3, 95, 2, 0, [(0, 1)]),
  (107, .ifCond .eq 7, 3, 114, 0, 0, []),
  (110, .iconst 1, 1, 0, 0, 1, []),
  (111, .goto 4, 3, 115, 0, 0, []),
  (114, .iconst 4, 1, 0, 0, 4, [])]
def pg_t105 : List (Nat × Nat) := [(115, 1)]
/-- 106: TicketTag.rideOnCarnet(II)I -/
def pg_y106 : ev_M := (⟨"TicketTag", "rideOnCarnet", "(II)I"⟩, prog_1_method_36_code, 5, (Option.some Jvm.ClassFile.FieldType.int), [], 4, 107)
def pg_c106 : List (Nat × ev_I) := [(0, .aload_n 0, 1, 0, 0, 0, []),
  (1, .invokevirtual 142, 3, 39, 1, 0, [(0, 1)]),
  (4, .istore_n 3, 1, 3, 0, 0, []),
  (5, .iload_n 3, 1, 3, 0, 0, []),
  (6, .aload_n 0, 1, 0, 0, 0, []),
  (7, .iconst 1, 1, 0, 0, 1, []),
  (8, .invokevirtual 139, 3, 54, 2, 0, [(0, 1)]),
  (11, .if_icmp .lt 9, 3, 20, 0, 0, []),
  (14, .aload_n 0, 1, 0, 0, 0, []),
  (15, .iconst 5, 1, 0, 0, 5, []),
  (16, .invokevirtual 249, 3, 6, 2, 0, [(0, 1)]),
  (20, .aload_n 0, 1, 0, 0, 0, []),
  (21, .iload_n 1, 1, 1, 0, 0, []),
  (22, .aload_n 0, 1, 0, 0, 0, []),
  (23, .iload_n 2, 1, 2, 0, 0, []),
  (24, .iconst 0, 1, 0, 0, 0, []),
  (25, .invokevirtual 236, 3, 3, 3, 0, [(0, 1)]),
  (28, .iload_n 3, 1, 3, 0, 0, []),
  (29, .iconst 1, 1, 0, 0, 1, []),
  (30, .iadd, 1, 0, 0, 0, []),
  (31, .iconst 0, 1, 0, 0, 0, []),
  (32, .invokevirtual 252, 3, 45, 5, 0, [(0, 1)]),
  (35, .aload_n 0, 1, 0, 0, 0, []),
  (36, .getfield 10, 3, 1, 0, 0, []),
  (39, .bipush 41, 2, 0, 0, 41, []),
  (41, .invokevirtual 127, 3, 96, 2, 0, [(0, 0)]),
  (44, .ifCond .eq 25, 3, 69, 0, 0, []),
  (47, .aload_n 0, 1, 0, 0, 0, []),
  (48, .invokevirtual 255, 3, 78, 1, 0, [(0, 1)]),
  (51, .ifCond .eq 18, 3, 69, 0, 0, []),
  (54, .aload_n 0, 1, 0, 0, 0, []),
  (55, .aload_n 0, 1, 0, 0, 0, []),
  (56, .invokevirtual 243, 3, 93, 1, 0, [(0, 1)]),
  (59, .invokevirtual 246, 3, 95, 2, 0, [(0, 1)]),
  (62, .ifCond .eq 7, 3, 69, 0, 0, []),
  (65, .iconst 1, 1, 0, 0, 1, []),
  (66, .goto 4, 3, 70, 0, 0, []),
  (69, .iconst 0, 1, 0, 0, 0, []),
  (70, .istore 4, 2, 4, 0, 0, []),
  (72, .iload 4, 2, 4, 0, 0, []),
  (74, .ifCond .eq 7, 3, 81, 0, 0, []),
  (77, .iconst 0, 1, 0, 0, 0, []),
  (78, .goto 4, 3, 82, 0, 0, []),
  (81, .iconst 4, 1, 0, 0, 4, [])]
def pg_t106 : List (Nat × Nat) := [(19, 1), (82, 1)]
/-- 107: TicketTag.rideOnPass(III)I -/
def pg_y107 : ev_M := (⟨"TicketTag", "rideOnPass", "(III)I"⟩, prog_1_method_35_code, 5, (Option.some Jvm.ClassFile.FieldType.int), [], 4, 107)
def pg_c107 : List (Nat × ev_I) := [(0, .aload_n 0, 1, 0, 0, 0, []),
  (1, .aload_n 0, 1, 0, 0, 0, []),
  (2, .invokevirtual 227, 3, 4, 1, 0, [(0, 1)]),
  (5, .sipush 1440, 3, 0, 0, 1440, []),
  (8, .idiv, 1, 0, 0, 0, []),
  (9, .iload_n 1, 1, 1, 0, 0, []),
  (10, .invokevirtual 182, 3, 75, 3, 0, [(0, 1)]),
  (13, .istore 4, 2, 4, 0, 0, []),
  (15, .iload 4, 2, 4, 0, 0, []),
  (17, .ifCond .eq 10, 3, 27, 0, 0, []),
  (20, .aload_n 0, 1, 0, 0, 0, []),
  (21, .iload 4, 2, 4, 0, 0, []),
  (23, .invokevirtual 249, 3, 6, 2, 0, [(0, 1)]),
  (27, .aload_n 0, 1, 0, 0, 0, []),
  (28, .iload_n 2, 1, 2, 0, 0, []),
  (29, .aload_n 0, 1, 0, 0, 0, []),
  (30, .iload_n 3, 1, 3, 0, 0, []),
  (31, .iconst 2, 1, 0, 0, 2, []),
  (32, .invokevirtual 236, 3, 3, 3, 0, [(0, 1)]),
  (35, .iconst 0, 1, 0, 0, 0, []),
  (36, .iconst 0, 1, 0, 0, 0, []),
  (37, .invokevirtual 252, 3, 45, 5, 0, [(0, 1)]),
  (40, .aload_n 0, 1, 0, 0, 0, []),
  (41, .getfield 10, 3, 1, 0, 0, []),
  (44, .bipush 41, 2, 0, 0, 41, []),
  (46, .invokevirtual 127, 3, 96, 2, 0, [(0, 0)]),
  (49, .ifCond .eq 18, 3, 67, 0, 0, []),
  (52, .aload_n 0, 1, 0, 0, 0, []),
  (53, .aload_n 0, 1, 0, 0, 0, []),
  (54, .invokevirtual 243, 3, 93, 1, 0, [(0, 1)]),
  (57, .invokevirtual 246, 3, 95, 2, 0, [(0, 1)]),
  (60, .ifCond .eq 7, 3, 67, 0, 0, []),
  (63, .iconst 2, 1, 0, 0, 2, []),
  (64, .goto 4, 3, 68, 0, 0, []),
  (67, .iconst 4, 1, 0, 0, 4, [])]
def pg_t107 : List (Nat × Nat) := [(26, 1), (68, 1)]
/-- 108: TicketTag.rideOnPurse(III)I -/
def pg_y108 : ev_M := (⟨"TicketTag", "rideOnPurse", "(III)I"⟩, prog_1_method_37_code, 11, (Option.some Jvm.ClassFile.FieldType.int), [], 4, 107)
def pg_c108 : List (Nat × ev_I) := [(0, .aload_n 0, 1, 0, 0, 0, []),
  (1, .invokevirtual 110, 3, 92, 1, 0, [(0, 1)]),
  (4, .istore 4, 2, 4, 0, 0, []),
  (6, .aload_n 0, 1, 0, 0, 0, []),
  (7, .invokevirtual 227, 3, 4, 1, 0, [(0, 1)]),
  (10, .sipush 1440, 3, 0, 0, 1440, []),
  (13, .idiv, 1, 0, 0, 0, []),
  (14, .istore 5, 2, 5, 0, 0, []),
  (16, .aload_n 0, 1, 0, 0, 0, []),
  (17, .iload 4, 2, 4, 0, 0, []),
  (19, .iload_n 1, 1, 1, 0, 0, []),
  (20, .iload 5, 2, 5, 0, 0, []),
  (22, .invokevirtual 258, 3, 87, 4, 0, [(0, 1)]),
  (25, .istore 6, 2, 6, 0, 0, []),
  (27, .iload 4, 2, 4, 0, 0, []),
  (29, .iconst (-1), 1, 0, 0, (-1), []),
  (30, .if_icmp .eq 14, 3, 44, 0, 0, []),
  (33, .aload_n 0, 1, 0, 0, 0, []),
  (34, .iload 4, 2, 4, 0, 0, []),
  (36, .invokevirtual 117, 3, 40, 2, 0, [(0, 1)]),
  (39, .iload 6, 2, 6, 0, 0, []),
  (41, .if_icmp .ge 9, 3, 50, 0, 0, []),
  (44, .aload_n 0, 1, 0, 0, 0, []),
  (45, .iconst 5, 1, 0, 0, 5, []),
  (46, .invokevirtual 249, 3, 6, 2, 0, [(0, 1)]),
  (50, .aload_n 0, 1, 0, 0, 0, []),
  (51, .iload 4, 2, 4, 0, 0, []),
  (53, .invokevirtual 117, 3, 40, 2, 0, [(0, 1)]),
  (56, .iload 6, 2, 6, 0, 0, []),
  (58, .isub, 1, 0, 0, 0, []),
  (59, .istore 7, 2, 7, 0, 0, []),
  (61, .ldc 107, 2, 0, 0, 65535, []),
  (63, .aload_n 0, 1, 0, 0, 0, []),
  (64, .iload 4, 2, 4, 0, 0, []),
  (66, .iload 5, 2, 5, 0, 0, []),
  (68, .invokevirtual 261, 3, 41, 3, 0, [(0, 1)]),
  (71, .iload 6, 2, 6, 0, 0, []),
  (73, .iadd, 1, 0, 0, 0, []),
  (74, .invokestatic 264, 3, 35, 2, 0, []),
  (77, .istore 8, 2, 8, 0, 0, []),
  (79, .aload_n 0, 1, 0, 0, 0, []),
  (80, .iload 4, 2, 4, 0, 0, []),
  (82, .invokevirtual 233, 3, 43, 2, 0, [(0, 1)]),
  (85, .iconst 1, 1, 0, 0, 1, []),
  (86, .iadd, 1, 0, 0, 0, []),
  (87, .sipush 256, 3, 0, 0, 256, []),
  (90, .irem, 1, 0, 0, 0, []),
  (91, .istore 9, 2, 9, 0, 0, []),
  (93, .aload_n 0, 1, 0, 0, 0, []),
  (94, .iload_n 2, 1, 2, 0, 0, []),
  (95, .aload_n 0, 1, 0, 0, 0, []),
  (96, .iload_n 3, 1, 3, 0, 0, []),
  (97, .iconst 0, 1, 0, 0, 0, []),
  (98, .invokevirtual 236, 3, 3, 3, 0, [(0, 1)]),
  (101, .iload 9, 2, 9, 0, 0, []),
  (103, .iload 6, 2, 6, 0, 0, []),
  (105, .invokevirtual 252, 3, 45, 5, 0, [(0, 1)]),
  (108, .aload_n 0, 1, 0, 0, 0, []),
  (109, .getfield 10, 3, 1, 0, 0, []),
  (112, .bipush 41, 2, 0, 0, 41, []),
  (114, .invokevirtual 127, 3, 96, 2, 0, [(0, 0)]),
  (117, .ifCond .ne 5, 3, 122, 0, 0, []),
  (120, .iconst 4, 1, 0, 0, 4, []),
  (122, .aload_n 0, 1, 0, 0, 0, []),
  (123, .iload 7, 2, 7, 0, 0, []),
  (125, .iload 5, 2, 5, 0, 0, []),
  (127, .iload 8, 2, 8, 0, 0, []),
  (129, .invokevirtual 123, 3, 46, 4, 0, [(0, 1)]),
  (132, .aload_n 0, 1, 0, 0, 0, []),
  (133, .getfield 10, 3, 1, 0, 0, []),
  (136, .iconst 5, 1, 0, 0, 5, []),
  (137, .invokevirtual 127, 3, 96, 2, 0, [(0, 0)]),
  (140, .ifCond .eq 18, 3, 158, 0, 0, []),
  (143, .aload_n 0, 1, 0, 0, 0, []),
  (144, .aload_n 0, 1, 0, 0, 0, []),
  (145, .invokevirtual 243, 3, 93, 1, 0, [(0, 1)]),
  (148, .invokevirtual 246, 3, 95, 2, 0, [(0, 1)]),
  (151, .ifCond .eq 7, 3, 158, 0, 0, []),
  (154, .iconst 1, 1, 0, 0, 1, []),
  (155, .goto 4, 3, 159, 0, 0, []),
  (158, .iconst 0, 1, 0, 0, 0, []),
  (159, .istore 10, 2, 10, 0, 0, []),
  (161, .iload 10, 2, 10, 0, 0, []),
  (163, .ifCond .eq 7, 3, 170, 0, 0, []),
  (166, .iconst 0, 1, 0, 0, 0, []),
  (167, .goto 4, 3, 171, 0, 0, []),
  (170, .iconst 4, 1, 0, 0, 4, [])]
def pg_t108 : List (Nat × Nat) := [(49, 1), (121, 1), (171, 1)]
/-- 109: TicketTag.takeBackVoidRide()Z -/
def pg_y109 : ev_M := (⟨"TicketTag", "takeBackVoidRide", "()Z"⟩, prog_1_method_48_code, 2, (Option.some Jvm.ClassFile.FieldType.boolean), [], 4, 109)
def pg_c109 : List (Nat × ev_I) := [(0, .aload_n 0, 1, 0, 0, 0, []),
  (1, .getfield 10, 3, 1, 0, 0, []),
  (4, .bipush 41, 2, 0, 0, 41, []),
  (6, .invokevirtual 267, 3, 80, 2, 0, [(0, 0)]),
  (9, .istore_n 1, 1, 1, 0, 0, []),
  (10, .iload_n 1, 1, 1, 0, 0, []),
  (11, .iconst (-1), 1, 0, 0, (-1), []),
  (12, .if_icmp .eq 22, 3, 34, 0, 0, []),
  (15, .aload_n 0, 1, 0, 0, 0, []),
  (16, .iload_n 1, 1, 1, 0, 0, []),
  (17, .invokevirtual 279, 3, 91, 2, 0, [(0, 1)]),
  (20, .ifCond .eq 14, 3, 34, 0, 0, []),
  (23, .aload_n 0, 1, 0, 0, 0, []),
  (24, .getfield 10, 3, 1, 0, 0, []),
  (27, .iload_n 1, 1, 1, 0, 0, []),
  (28, .invokevirtual 282, 3, 79, 2, 0, [(0, 0)]),
  (31, .ifCond .eq 7, 3, 38, 0, 0, []),
  (34, .iconst 1, 1, 0, 0, 1, []),
  (35, .goto 4, 3, 39, 0, 0, []),
  (38, .iconst 0, 1, 0, 0, 0, [])]
def pg_t109 : List (Nat × Nat) := [(39, 2)]
/-- 110: TicketTag.writeProduct(IIII)V -/
def pg_y110 : ev_M := (⟨"TicketTag", "writeProduct", "(IIII)V"⟩, prog_1_method_23_code, 5, (Option.none : Option Jvm.ClassFile.FieldType), [], 4, 107)
def pg_c110 : List (Nat × ev_I) := [(0, .aload_n 0, 1, 0, 0, 0, []),
  (1, .getfield 10, 3, 1, 0, 0, []),
  (4, .iconst 0, 1, 0, 0, 0, []),
  (5, .iconst 0, 1, 0, 0, 0, []),
  (6, .iload_n 1, 1, 1, 0, 0, []),
  (7, .invokevirtual 200, 3, 58, 4, 0, [(0, 0)]),
  (10, .pop, 1, 0, 0, 0, []),
  (11, .aload_n 0, 1, 0, 0, 0, []),
  (12, .getfield 10, 3, 1, 0, 0, []),
  (15, .iconst 0, 1, 0, 0, 0, []),
  (16, .iconst 1, 1, 0, 0, 1, []),
  (17, .iload_n 2, 1, 2, 0, 0, []),
  (18, .invokevirtual 200, 3, 58, 4, 0, [(0, 0)]),
  (21, .pop, 1, 0, 0, 0, []),
  (22, .aload_n 0, 1, 0, 0, 0, []),
  (23, .getfield 10, 3, 1, 0, 0, []),
  (26, .iconst 0, 1, 0, 0, 0, []),
  (27, .iconst 2, 1, 0, 0, 2, []),
  (28, .iload_n 3, 1, 3, 0, 0, []),
  (29, .invokevirtual 200, 3, 58, 4, 0, [(0, 0)]),
  (32, .pop, 1, 0, 0, 0, []),
  (33, .aload_n 0, 1, 0, 0, 0, []),
  (34, .getfield 10, 3, 1, 0, 0, []),
  (37, .iconst 0, 1, 0, 0, 0, []),
  (38, .iconst 3, 1, 0, 0, 3, []),
  (39, .iload 4, 2, 4, 0, 0, []),
  (41, .invokevirtual 200, 3, 58, 4, 0, [(0, 0)]),
  (44, .pop, 1, 0, 0, 0, []),
  (45, .iload_n 1, 1, 1, 0, 0, []),
  (46, .iconst 3, 1, 0, 0, 3, []),
  (47, .if_icmp .ne 19, 3, 66, 0, 0, []),
  (50, .aload_n 0, 1, 0, 0, 0, []),
  (51, .iload_n 3, 1, 3, 0, 0, []),
  (52, .iconst 0, 1, 0, 0, 0, []),
  (53, .iconst 0, 1, 0, 0, 0, []),
  (54, .invokevirtual 123, 3, 46, 4, 0, [(0, 1)]),
  (57, .aload_n 0, 1, 0, 0, 0, []),
  (58, .getfield 10, 3, 1, 0, 0, []),
  (61, .iconst 5, 1, 0, 0, 5, []),
  (62, .invokevirtual 127, 3, 96, 2, 0, [(0, 0)]),
  (65, .pop, 1, 0, 0, 0, [])]
def pg_t110 : List (Nat × Nat) := [(66, 0)]
/-- 111: TicketTagModel.issue(IIII)Z -/
def pg_y111 : ev_M := (⟨"TicketTagModel", "issue", "(IIII)Z"⟩, prog_4_method_26_code, 6, (Option.some Jvm.ClassFile.FieldType.boolean), [], 4, 107)
def pg_c111 : List (Nat × ev_I) := [(0, .aload_n 0, 1, 0, 0, 0, []),
  (1, .iconst 1, 1, 0, 0, 1, []),
  (2, .aload_n 0, 1, 0, 0, 0, []),
  (3, .iload_n 1, 1, 1, 0, 0, []),
  (4, .iload_n 2, 1, 2, 0, 0, []),
  (5, .iload_n 3, 1, 3, 0, 0, []),
  (6, .iload 4, 2, 4, 0, 0, []),
  (8, .invokevirtual 97, 3, 61, 5, 0, [(0, 2)]),
  (11, .ifCond .ne 7, 3, 18, 0, 0, []),
  (14, .iconst 1, 1, 0, 0, 1, []),
  (15, .goto 4, 3, 19, 0, 0, []),
  (18, .iconst 0, 1, 0, 0, 0, []),
  (19, .invokevirtual 101, 3, 22, 3, 0, [(0, 2)]),
  (22, .ifCond .ne 30, 3, 52, 0, 0, []),
  (25, .aload_n 0, 1, 0, 0, 0, []),
  (26, .iconst 2, 1, 0, 0, 2, []),
  (27, .aload_n 0, 1, 0, 0, 0, []),
  (28, .getfield 23, 3, 2, 5, 0, []),
  (31, .ifCond .lt 7, 3, 38, 0, 0, []),
  (34, .iconst 1, 1, 0, 0, 1, []),
  (35, .goto 4, 3, 39, 0, 0, []),
  (38, .iconst 0, 1, 0, 0, 0, []),
  (39, .invokevirtual 101, 3, 22, 3, 0, [(0, 2)]),
  (42, .ifCond .ne 10, 3, 52, 0, 0, []),
  (45, .aload_n 0, 1, 0, 0, 0, []),
  (46, .invokevirtual 74, 3, 63, 1, 0, [(0, 2)]),
  (49, .ifCond .eq 5, 3, 54, 0, 0, []),
  (52, .iconst 0, 1, 0, 0, 0, []),
  (54, .aload_n 0, 1, 0, 0, 0, []),
  (55, .getfield 27, 3, 2, 8, 0, []),
  (58, .istore 5, 2, 5, 0, 0, []),
  (60, .aload_n 0, 1, 0, 0, 0, []),
  (61, .iconst (-1), 1, 0, 0, (-1), []),
  (62, .putfield 27, 3, 2, 8, 0, []),
  (65, .aload_n 0, 1, 0, 0, 0, []),
  (66, .iconst 0, 1, 0, 0, 0, []),
  (67, .putfield 36, 3, 2, 10, 1, []),
  (70, .aload_n 0, 1, 0, 0, 0, []),
  (71, .iconst 0, 1, 0, 0, 0, []),
  (72, .iconst 0, 1, 0, 0, 0, []),
  (73, .iload_n 1, 1, 1, 0, 0, []),
  (74, .invokevirtual 62, 3, 32, 4, 0, [(0, 2)]),
  (77, .aload_n 0, 1, 0, 0, 0, []),
  (78, .iconst 0, 1, 0, 0, 0, []),
  (79, .iconst 1, 1, 0, 0, 1, []),
  (80, .iload_n 2, 1, 2, 0, 0, []),
  (81, .invokevirtual 62, 3, 32, 4, 0, [(0, 2)]),
  (84, .aload_n 0, 1, 0, 0, 0, []),
  (85, .iconst 0, 1, 0, 0, 0, []),
  (86, .iconst 2, 1, 0, 0, 2, []),
  (87, .iload_n 3, 1, 3, 0, 0, []),
  (88, .invokevirtual 62, 3, 32, 4, 0, [(0, 2)]),
  (91, .aload_n 0, 1, 0, 0, 0, []),
  (92, .iconst 0, 1, 0, 0, 0, []),
  (93, .iconst 3, 1, 0, 0, 3, []),
  (94, .iload 4, 2, 4, 0, 0, []),
  (96, .invokevirtual 62, 3, 32, 4, 0, [(0, 2)]),
  (99, .iload_n 1, 1, 1, 0, 0, []),
  (100, .iconst 3, 1, 0, 0, 3, []),
  (101, .if_icmp .ne 19, 3, 120, 0, 0, []),
  (104, .aload_n 0, 1, 0, 0, 0, []),
  (105, .invokevirtual 105, 3, 21, 1, 0, [(0, 2)]),
  (108, .aload_n 0, 1, 0, 0, 0, []),
  (109, .getfield 30, 3, 2, 13, 0, []),
  (112, .iconst 1, 1, 0, 0, 1, []),
  (113, .iload_n 3, 1, 3, 0, 0, []),
  (114, .iastore, 1, 0, 0, 0, []),
  (115, .aload_n 0, 1, 0, 0, 0, []),
  (116, .iconst 5, 1, 0, 0, 5, []),
  (117, .invokevirtual 108, 3, 101, 2, 0, [(0, 2)]),
  (120, .aload_n 0, 1, 0, 0, 0, []),
  (121, .iload 5, 2, 5, 0, 0, []),
  (123, .putfield 27, 3, 2, 8, 0, []),
  (126, .iconst 1, 1, 0, 0, 1, [])]
def pg_t111 : List (Nat × Nat) := [(53, 2), (127, 2)]
/-- 112: TicketTagModel.lastBlock()I -/
def pg_y112 : ev_M := (⟨"TicketTagModel", "lastBlock", "()I"⟩, prog_4_method_14_code, 3, (Option.some Jvm.ClassFile.FieldType.int), [], 4, 108)
def pg_c112 : List (Nat × ev_I) := [(0, .aload_n 0, 1, 0, 0, 0, []),
  (1, .bipush 41, 2, 0, 0, 41, []),
  (3, .invokevirtual 66, 3, 84, 2, 0, [(0, 2)]),
  (6, .istore_n 1, 1, 1, 0, 0, []),
  (7, .iload_n 1, 1, 1, 0, 0, []),
  (8, .ifCond .lt 11, 3, 19, 0, 0, []),
  (11, .aload_n 0, 1, 0, 0, 0, []),
  (12, .iload_n 1, 1, 1, 0, 0, []),
  (13, .invokevirtual 81, 3, 100, 2, 0, [(0, 2)]),
  (16, .ifCond .ne 5, 3, 21, 0, 0, []),
  (19, .iload_n 1, 1, 1, 0, 0, []),
  (21, .iload_n 1, 1, 1, 0, 0, []),
  (22, .bipush 41, 2, 0, 0, 41, []),
  (24, .if_icmp .ne 8, 3, 32, 0, 0, []),
  (27, .bipush 43, 2, 0, 0, 43, []),
  (29, .goto 5, 3, 34, 0, 0, []),
  (32, .bipush 41, 2, 0, 0, 41, []),
  (34, .istore_n 2, 1, 2, 0, 0, []),
  (35, .aload_n 0, 1, 0, 0, 0, []),
  (36, .iload_n 2, 1, 2, 0, 0, []),
  (37, .invokevirtual 57, 3, 62, 2, 0, [(0, 2)]),
  (40, .ifCond .eq 7, 3, 47, 0, 0, []),
  (43, .iload_n 2, 1, 2, 0, 0, []),
  (44, .goto 4, 3, 48, 0, 0, []),
  (47, .iconst (-1), 1, 0, 0, (-1), [])]
def pg_t112 : List (Nat × Nat) := [(20, 1), (48, 1)]
/-- 113: TicketTagModel.ride(IIIIIIII)V -/
def pg_y113 : ev_M := (⟨"TicketTagModel", "ride", "(IIIIIIII)V"⟩, prog_4_method_31_code, 9, (Option.none : Option Jvm.ClassFile.FieldType), [], 4, 107)
def pg_c113 : List (Nat × ev_I) := [(0, .aload_n 0, 1, 0, 0, 0, []),
  (1, .invokevirtual 105, 3, 21, 1, 0, [(0, 2)]),
  (4, .aload_n 0, 1, 0, 0, 0, []),
  (5, .getfield 30, 3, 2, 13, 0, []),
  (8, .iconst 1, 1, 0, 0, 1, []),
  (9, .iload 5, 2, 5, 0, 0, []),
  (11, .sipush 1440, 3, 0, 0, 1440, []),
  (14, .idiv, 1, 0, 0, 0, []),
  (15, .iastore, 1, 0, 0, 0, []),
  (16, .aload_n 0, 1, 0, 0, 0, []),
  (17, .getfield 30, 3, 2, 13, 0, []),
  (20, .iconst 2, 1, 0, 0, 2, []),
  (21, .iload 5, 2, 5, 0, 0, []),
  (23, .sipush 1440, 3, 0, 0, 1440, []),
  (26, .irem, 1, 0, 0, 0, []),
  (27, .sipush 4096, 3, 0, 0, 4096, []),
  (30, .iload 6, 2, 6, 0, 0, []),
  (32, .imul, 1, 0, 0, 0, []),
  (33, .iadd, 1, 0, 0, 0, []),
  (34, .iastore, 1, 0, 0, 0, []),
  (35, .aload_n 0, 1, 0, 0, 0, []),
  (36, .getfield 30, 3, 2, 13, 0, []),
  (39, .iconst 3, 1, 0, 0, 3, []),
  (40, .iload_n 1, 1, 1, 0, 0, []),
  (41, .sipush 256, 3, 0, 0, 256, []),
  (44, .iload_n 2, 1, 2, 0, 0, []),
  (45, .imul, 1, 0, 0, 0, []),
  (46, .iadd, 1, 0, 0, 0, []),
  (47, .iastore, 1, 0, 0, 0, []),
  (48, .aload_n 0, 1, 0, 0, 0, []),
  (49, .getfield 30, 3, 2, 13, 0, []),
  (52, .iconst 4, 1, 0, 0, 4, []),
  (53, .iload_n 3, 1, 3, 0, 0, []),
  (54, .bipush 16, 2, 0, 0, 16, []),
  (56, .iload 4, 2, 4, 0, 0, []),
  (58, .imul, 1, 0, 0, 0, []),
  (59, .iadd, 1, 0, 0, 0, []),
  (60, .sipush 256, 3, 0, 0, 256, []),
  (63, .aload_n 0, 1, 0, 0, 0, []),
  (64, .getfield 23, 3, 2, 5, 0, []),
  (67, .imul, 1, 0, 0, 0, []),
  (68, .iadd, 1, 0, 0, 0, []),
  (69, .iastore, 1, 0, 0, 0, []),
  (70, .aload_n 0, 1, 0, 0, 0, []),
  (71, .getfield 30, 3, 2, 13, 0, []),
  (74, .iconst 5, 1, 0, 0, 5, []),
  (75, .aload_n 0, 1, 0, 0, 0, []),
  (76, .invokevirtual 123, 3, 27, 1, 0, [(0, 2)]),
  (79, .iload 5, 2, 5, 0, 0, []),
  (81, .isub, 1, 0, 0, 0, []),
  (82, .sipush 256, 3, 0, 0, 256, []),
  (85, .iload 7, 2, 7, 0, 0, []),
  (87, .imul, 1, 0, 0, 0, []),
  (88, .iadd, 1, 0, 0, 0, []),
  (89, .iastore, 1, 0, 0, 0, []),
  (90, .aload_n 0, 1, 0, 0, 0, []),
  (91, .getfield 30, 3, 2, 13, 0, []),
  (94, .bipush 6, 2, 0, 0, 6, []),
  (96, .iload 8, 2, 8, 0, 0, []),
  (98, .iastore, 1, 0, 0, 0, []),
  (99, .aload_n 0, 1, 0, 0, 0, []),
  (100, .bipush 41, 2, 0, 0, 41, []),
  (102, .invokevirtual 108, 3, 101, 2, 0, [(0, 2)])]
def pg_t113 : List (Nat × Nat) := [(105, 0)]
/-- 114: TicketTagModel.topUp(I)I -/
def pg_y114 : ev_M := (⟨"TicketTagModel", "topUp", "(I)I"⟩, prog_4_method_38_code, 3, (Option.some Jvm.ClassFile.FieldType.int), [], 4, 107)
def pg_c114 : List (Nat × ev_I) := [(0, .aload_n 0, 1, 0, 0, 0, []),
  (1, .iconst 1, 1, 0, 0, 1, []),
  (2, .iload_n 1, 1, 1, 0, 0, []),
  (3, .iconst 1, 1, 0, 0, 1, []),
  (4, .ldc 49, 2, 0, 0, 65535, []),
  (6, .invokestatic 93, 3, 23, 3, 0, []),
  (9, .ifCond .ne 7, 3, 16, 0, 0, []),
  (12, .iconst 1, 1, 0, 0, 1, []),
  (13, .goto 4, 3, 17, 0, 0, []),
  (16, .iconst 0, 1, 0, 0, 0, []),
  (17, .invokevirtual 101, 3, 22, 3, 0, [(0, 2)]),
  (20, .ifCond .ne 23, 3, 43, 0, 0, []),
  (23, .aload_n 0, 1, 0, 0, 0, []),
  (24, .iconst 2, 1, 0, 0, 2, []),
  (25, .aload_n 0, 1, 0, 0, 0, []),
  (26, .getfield 23, 3, 2, 5, 0, []),
  (29, .ifCond .ge 7, 3, 36, 0, 0, []),
  (32, .iconst 1, 1, 0, 0, 1, []),
  (33, .goto 4, 3, 37, 0, 0, []),
  (36, .iconst 0, 1, 0, 0, 0, []),
  (37, .invokevirtual 101, 3, 22, 3, 0, [(0, 2)]),
  (40, .ifCond .eq 5, 3, 45, 0, 0, []),
  (43, .iconst 0, 1, 0, 0, 0, []),
  (45, .aload_n 0, 1, 0, 0, 0, []),
  (46, .getfield 19, 3, 2, 4, 0, []),
  (49, .aload_n 0, 1, 0, 0, 0, []),
  (50, .getfield 23, 3, 2, 5, 0, []),
  (53, .baload, 1, 0, 0, 0, []),
  (54, .ifCond .eq 9, 3, 63, 0, 0, []),
  (57, .aload_n 0, 1, 0, 0, 0, []),
  (58, .iconst 1, 1, 0, 0, 1, []),
  (59, .invokevirtual 129, 3, 30, 2, 0, [(0, 2)]),
  (63, .aload_n 0, 1, 0, 0, 0, []),
  (64, .invokevirtual 74, 3, 63, 1, 0, [(0, 2)]),
  (67, .ifCond .ne 9, 3, 76, 0, 0, []),
  (70, .aload_n 0, 1, 0, 0, 0, []),
  (71, .iconst 2, 1, 0, 0, 2, []),
  (72, .invokevirtual 129, 3, 30, 2, 0, [(0, 2)]),
  (76, .aload_n 0, 1, 0, 0, 0, []),
  (77, .iconst 5, 1, 0, 0, 5, []),
  (78, .invokevirtual 66, 3, 84, 2, 0, [(0, 2)]),
  (81, .istore_n 2, 1, 2, 0, 0, []),
  (82, .aload_n 0, 1, 0, 0, 0, []),
  (83, .invokevirtual 74, 3, 63, 1, 0, [(0, 2)]),
  (86, .iconst 3, 1, 0, 0, 3, []),
  (87, .if_icmp .ne 7, 3, 94, 0, 0, []),
  (90, .iload_n 2, 1, 2, 0, 0, []),
  (91, .ifCond .ge 10, 3, 101, 0, 0, []),
  (94, .aload_n 0, 1, 0, 0, 0, []),
  (95, .bipush 6, 2, 0, 0, 6, []),
  (97, .invokevirtual 129, 3, 30, 2, 0, [(0, 2)]),
  (101, .aload_n 0, 1, 0, 0, 0, []),
  (102, .iload_n 2, 1, 2, 0, 0, []),
  (103, .iconst 1, 1, 0, 0, 1, []),
  (104, .invokevirtual 50, 3, 19, 3, 0, [(0, 2)]),
  (107, .iload_n 1, 1, 1, 0, 0, []),
  (108, .iadd, 1, 0, 0, 0, []),
  (109, .ldc 49, 2, 0, 0, 65535, []),
  (111, .if_icmp .le 10, 3, 121, 0, 0, []),
  (114, .aload_n 0, 1, 0, 0, 0, []),
  (115, .bipush 7, 2, 0, 0, 7, []),
  (117, .invokevirtual 129, 3, 30, 2, 0, [(0, 2)]),
  (121, .aload_n 0, 1, 0, 0, 0, []),
  (122, .iconst 0, 1, 0, 0, 0, []),
  (123, .putfield 126, 3, 2, 7, 0, []),
  (126, .aload_n 0, 1, 0, 0, 0, []),
  (127, .invokevirtual 105, 3, 21, 1, 0, [(0, 2)]),
  (130, .aload_n 0, 1, 0, 0, 0, []),
  (131, .getfield 30, 3, 2, 13, 0, []),
  (134, .iconst 1, 1, 0, 0, 1, []),
  (135, .aload_n 0, 1, 0, 0, 0, []),
  (136, .iload_n 2, 1, 2, 0, 0, []),
  (137, .iconst 1, 1, 0, 0, 1, []),
  (138, .invokevirtual 50, 3, 19, 3, 0, [(0, 2)]),
  (141, .iload_n 1, 1, 1, 0, 0, []),
  (142, .iadd, 1, 0, 0, 0, []),
  (143, .iastore, 1, 0, 0, 0, []),
  (144, .aload_n 0, 1, 0, 0, 0, []),
  (145, .getfield 30, 3, 2, 13, 0, []),
  (148, .iconst 2, 1, 0, 0, 2, []),
  (149, .aload_n 0, 1, 0, 0, 0, []),
  (150, .iload_n 2, 1, 2, 0, 0, []),
  (151, .iconst 2, 1, 0, 0, 2, []),
  (152, .invokevirtual 50, 3, 19, 3, 0, [(0, 2)]),
  (155, .iastore, 1, 0, 0, 0, []),
  (156, .aload_n 0, 1, 0, 0, 0, []),
  (157, .getfield 30, 3, 2, 13, 0, []),
  (160, .iconst 3, 1, 0, 0, 3, []),
  (161, .aload_n 0, 1, 0, 0, 0, []),
  (162, .iload_n 2, 1, 2, 0, 0, []),
  (163, .iconst 3, 1, 0, 0, 3, []),
  (164, .invokevirtual 50, 3, 19, 3, 0, [(0, 2)]),
  (167, .iastore, 1, 0, 0, 0, []),
  (168, .aload_n 0, 1, 0, 0, 0, []),
  (169, .iconst 5, 1, 0, 0, 5, []),
  (170, .invokevirtual 108, 3, 101, 2, 0, [(0, 2)]),
  (173, .aload_n 0, 1, 0, 0, 0, []),
  (174, .getfield 36, 3, 2, 10, 0, []),
  (177, .ifCond .eq 7, 3, 184, 0, 0, []),
  (180, .iconst 4, 1, 0, 0, 4, []),
  (181, .goto 4, 3, 185, 0, 0, []),
  (184, .iconst 0, 1, 0, 0, 0, [])]
def pg_t114 : List (Nat × Nat) := [(44, 1), (62, 1), (75, 1), (100, 1), (120, 1), (185, 1)]
/-- 115: TicketTag.finishLastRide()Z -/
def pg_y115 : ev_M := (⟨"TicketTag", "finishLastRide", "()Z"⟩, prog_1_method_49_code, 2, (Option.some Jvm.ClassFile.FieldType.boolean), [], 5, 135)
def pg_c115 : List (Nat × ev_I) := [(0, .aload_n 0, 1, 0, 0, 0, []),
  (1, .invokevirtual 93, 3, 104, 1, 0, [(0, 1)]),
  (4, .istore_n 1, 1, 1, 0, 0, []),
  (5, .iload_n 1, 1, 1, 0, 0, []),
  (6, .iconst (-1), 1, 0, 0, (-1), []),
  (7, .if_icmp .eq 11, 3, 18, 0, 0, []),
  (10, .aload_n 0, 1, 0, 0, 0, []),
  (11, .iload_n 1, 1, 1, 0, 0, []),
  (12, .invokevirtual 177, 3, 89, 2, 0, [(0, 1)]),
  (15, .ifCond .ne 5, 3, 20, 0, 0, []),
  (18, .iconst 1, 1, 0, 0, 1, []),
  (20, .aload_n 0, 1, 0, 0, 0, []),
  (21, .iload_n 1, 1, 1, 0, 0, []),
  (22, .putfield 28, 3, 1, 4, 0, []),
  (25, .aload_n 0, 1, 0, 0, 0, []),
  (26, .iload_n 1, 1, 1, 0, 0, []),
  (27, .invokevirtual 246, 3, 95, 2, 0, [(0, 1)])]
def pg_t115 : List (Nat × Nat) := [(19, 2), (30, 2)]
/-- 116: TicketTag.journey(II)I -/
def pg_y116 : ev_M := (⟨"TicketTag", "journey", "(II)I"⟩, prog_1_method_14_code, 5, (Option.some Jvm.ClassFile.FieldType.int), [], 5, 135)
def pg_c116 : List (Nat × ev_I) := [(0, .aload_n 0, 1, 0, 0, 0, []),
  (1, .invokevirtual 93, 3, 104, 1, 0, [(0, 1)]),
  (4, .istore_n 3, 1, 3, 0, 0, []),
  (5, .iload_n 3, 1, 3, 0, 0, []),
  (6, .iconst (-1), 1, 0, 0, (-1), []),
  (7, .if_icmp .eq 12, 3, 19, 0, 0, []),
  (10, .iload_n 1, 1, 1, 0, 0, []),
  (11, .bipush 15, 2, 0, 0, 15, []),
  (13, .invokestatic 83, 3, 1, 2, 0, []),
  (16, .ifCond .ne 5, 3, 21, 0, 0, []),
  (19, .iconst (-1), 1, 0, 0, (-1), []),
  (21, .aload_n 0, 1, 0, 0, 0, []),
  (22, .aload_n 0, 1, 0, 0, 0, []),
  (23, .iload_n 3, 1, 3, 0, 0, []),
  (24, .invokevirtual 153, 3, 53, 2, 0, [(0, 1)]),
  (27, .iload_n 1, 1, 1, 0, 0, []),
  (28, .isub, 1, 0, 0, 0, []),
  (29, .ldc 107, 2, 0, 0, 65535, []),
  (31, .iand, 1, 0, 0, 0, []),
  (32, .invokevirtual 156, 3, 73, 2, 0, [(0, 1)]),
  (35, .istore 4, 2, 4, 0, 0, []),
  (37, .iload 4, 2, 4, 0, 0, []),
  (39, .iconst (-1), 1, 0, 0, (-1), []),
  (40, .if_icmp .ne 5, 3, 45, 0, 0, []),
  (43, .iconst (-1), 1, 0, 0, (-1), []),
  (45, .iload_n 2, 1, 2, 0, 0, []),
  (46, .tableswitch 130 0 8 #[50, 61, 72, 79, 86, 93, 100, 107, 118], 50, 176, 0, 0, [(0, 96), (1, 107), (2, 118), (3, 125), (4, 132), (5, 139), (6, 146), (7, 153), (8, 164)]),
  (96, .aload_n 0, 1, 0, 0, 0, []),
  (97, .getfield 10, 3, 1, 0, 0, []),
  (100, .iload 4, 2, 4, 0, 0, []),
  (102, .iconst 1, 1, 0, 0, 1, []),
  (103, .invokevirtual 120, 3, 8, 3, 0, [(0, 0)]),
  (107, .aload_n 0, 1, 0, 0, 0, []),
  (108, .getfield 10, 3, 1, 0, 0, []),
  (111, .iload 4, 2, 4, 0, 0, []),
  (113, .iconst 2, 1, 0, 0, 2, []),
  (114, .invokevirtual 120, 3, 8, 3, 0, [(0, 0)]),
  (118, .aload_n 0, 1, 0, 0, 0, []),
  (119, .iload 4, 2, 4, 0, 0, []),
  (121, .invokevirtual 159, 3, 52, 2, 0, [(0, 1)]),
  (125, .aload_n 0, 1, 0, 0, 0, []),
  (126, .iload 4, 2, 4, 0, 0, []),
  (128, .invokevirtual 162, 3, 56, 2, 0, [(0, 1)]),
  (132, .aload_n 0, 1, 0, 0, 0, []),
  (133, .iload 4, 2, 4, 0, 0, []),
  (135, .invokevirtual 165, 3, 44, 2, 0, [(0, 1)]),
  (139, .aload_n 0, 1, 0, 0, 0, []),
  (140, .iload 4, 2, 4, 0, 0, []),
  (142, .invokevirtual 99, 3, 42, 2, 0, [(0, 1)]),
  (146, .aload_n 0, 1, 0, 0, 0, []),
  (147, .iload 4, 2, 4, 0, 0, []),
  (149, .invokevirtual 168, 3, 47, 2, 0, [(0, 1)]),
  (153, .aload_n 0, 1, 0, 0, 0, []),
  (154, .getfield 10, 3, 1, 0, 0, []),
  (157, .iload 4, 2, 4, 0, 0, []),
  (159, .iconst 5, 1, 0, 0, 5, []),
  (160, .invokevirtual 120, 3, 8, 3, 0, [(0, 0)]),
  (164, .aload_n 0, 1, 0, 0, 0, []),
  (165, .getfield 10, 3, 1, 0, 0, []),
  (168, .iload 4, 2, 4, 0, 0, []),
  (170, .bipush 6, 2, 0, 0, 6, []),
  (172, .invokevirtual 120, 3, 8, 3, 0, [(0, 0)]),
  (176, .iconst (-1), 1, 0, 0, (-1), [])]
def pg_t116 : List (Nat × Nat) := [(20, 1), (44, 1), (106, 1), (117, 1), (124, 1), (131, 1), (138, 1), (145, 1), (152, 1), (163, 1), (175, 1), (177, 1)]
/-- 117: TicketTag.lastRide(I)I -/
def pg_y117 : ev_M := (⟨"TicketTag", "lastRide", "(I)I"⟩, prog_1_method_15_code, 3, (Option.some Jvm.ClassFile.FieldType.int), [], 5, 135)
def pg_c117 : List (Nat × ev_I) := [(0, .aload_n 0, 1, 0, 0, 0, []),
  (1, .invokevirtual 93, 3, 104, 1, 0, [(0, 1)]),
  (4, .istore_n 2, 1, 2, 0, 0, []),
  (5, .iload_n 2, 1, 2, 0, 0, []),
  (6, .iconst (-1), 1, 0, 0, (-1), []),
  (7, .if_icmp .ne 5, 3, 12, 0, 0, []),
  (10, .iconst (-1), 1, 0, 0, (-1), []),
  (12, .iload_n 1, 1, 1, 0, 0, []),
  (13, .tableswitch 107 0 7 #[47, 57, 63, 69, 75, 81, 87, 93], 47, 120, 0, 0, [(0, 60), (1, 70), (2, 76), (3, 82), (4, 88), (5, 94), (6, 100), (7, 106)]),
  (60, .aload_n 0, 1, 0, 0, 0, []),
  (61, .getfield 10, 3, 1, 0, 0, []),
  (64, .iload_n 2, 1, 2, 0, 0, []),
  (65, .iconst 1, 1, 0, 0, 1, []),
  (66, .invokevirtual 120, 3, 8, 3, 0, [(0, 0)]),
  (70, .aload_n 0, 1, 0, 0, 0, []),
  (71, .iload_n 2, 1, 2, 0, 0, []),
  (72, .invokevirtual 171, 3, 38, 2, 0, [(0, 1)]),
  (76, .aload_n 0, 1, 0, 0, 0, []),
  (77, .iload_n 2, 1, 2, 0, 0, []),
  (78, .invokevirtual 174, 3, 55, 2, 0, [(0, 1)]),
  (82, .aload_n 0, 1, 0, 0, 0, []),
  (83, .iload_n 2, 1, 2, 0, 0, []),
  (84, .invokevirtual 165, 3, 44, 2, 0, [(0, 1)]),
  (88, .aload_n 0, 1, 0, 0, 0, []),
  (89, .iload_n 2, 1, 2, 0, 0, []),
  (90, .invokevirtual 159, 3, 52, 2, 0, [(0, 1)]),
  (94, .aload_n 0, 1, 0, 0, 0, []),
  (95, .iload_n 2, 1, 2, 0, 0, []),
  (96, .invokevirtual 99, 3, 42, 2, 0, [(0, 1)]),
  (100, .aload_n 0, 1, 0, 0, 0, []),
  (101, .iload_n 2, 1, 2, 0, 0, []),
  (102, .invokevirtual 153, 3, 53, 2, 0, [(0, 1)]),
  (106, .aload_n 0, 1, 0, 0, 0, []),
  (107, .iload_n 2, 1, 2, 0, 0, []),
  (108, .invokevirtual 177, 3, 89, 2, 0, [(0, 1)]),
  (111, .ifCond .eq 7, 3, 118, 0, 0, []),
  (114, .iconst 1, 1, 0, 0, 1, []),
  (115, .goto 4, 3, 119, 0, 0, []),
  (118, .iconst 0, 1, 0, 0, 0, []),
  (120, .iconst (-1), 1, 0, 0, (-1), [])]
def pg_t117 : List (Nat × Nat) := [(11, 1), (69, 1), (75, 1), (81, 1), (87, 1), (93, 1), (99, 1), (105, 1), (119, 1), (121, 1)]
/-- 118: TicketTag.takeRide(IIII)I -/
def pg_y118 : ev_M := (⟨"TicketTag", "takeRide", "(IIII)I"⟩, prog_1_method_32_code, 7, (Option.some Jvm.ClassFile.FieldType.int), [], 5, 141)
def pg_c118 : List (Nat × ev_I) := [(0, .aload_n 0, 1, 0, 0, 0, []),
  (1, .invokevirtual 54, 3, 51, 1, 0, [(0, 1)]),
  (4, .istore 5, 2, 5, 0, 0, []),
  (6, .iload_n 2, 1, 2, 0, 0, []),
  (7, .sipush 256, 3, 0, 0, 256, []),
  (10, .iload_n 3, 1, 3, 0, 0, []),
  (11, .imul, 1, 0, 0, 0, []),
  (12, .iadd, 1, 0, 0, 0, []),
  (13, .istore 6, 2, 6, 0, 0, []),
  (15, .iload 5, 2, 5, 0, 0, []),
  (17, .iconst 2, 1, 0, 0, 2, []),
  (18, .if_icmp .eq 23, 3, 41, 0, 0, []),
  (21, .aload_n 0, 1, 0, 0, 0, []),
  (22, .iload_n 1, 1, 1, 0, 0, []),
  (23, .iload 4, 2, 4, 0, 0, []),
  (25, .invokevirtual 208, 3, 88, 3, 0, [(0, 1)]),
  (28, .ifCond .eq 13, 3, 41, 0, 0, []),
  (31, .aload_n 0, 1, 0, 0, 0, []),
  (32, .iload_n 1, 1, 1, 0, 0, []),
  (33, .iload 6, 2, 6, 0, 0, []),
  (35, .iload 4, 2, 4, 0, 0, []),
  (37, .invokevirtual 211, 3, 105, 4, 0, [(0, 1)]),
  (41, .iload 5, 2, 5, 0, 0, []),
  (43, .lookupswitch 44 #[(1, 35), (2, 25)], 25, 87, 0, 0, [(1, 78), (2, 68)]),
  (68, .aload_n 0, 1, 0, 0, 0, []),
  (69, .iload_n 3, 1, 3, 0, 0, []),
  (70, .iload 6, 2, 6, 0, 0, []),
  (72, .iload 4, 2, 4, 0, 0, []),
  (74, .invokevirtual 215, 3, 107, 4, 0, [(0, 1)]),
  (78, .aload_n 0, 1, 0, 0, 0, []),
  (79, .iload 6, 2, 6, 0, 0, []),
  (81, .iload 4, 2, 4, 0, 0, []),
  (83, .invokevirtual 218, 3, 106, 3, 0, [(0, 1)]),
  (87, .aload_n 0, 1, 0, 0, 0, []),
  (88, .iload_n 2, 1, 2, 0, 0, []),
  (89, .iload_n 3, 1, 3, 0, 0, []),
  (90, .invokestatic 221, 3, 0, 2, 0, []),
  (93, .iload 6, 2, 6, 0, 0, []),
  (95, .iload 4, 2, 4, 0, 0, []),
  (97, .invokevirtual 224, 3, 108, 4, 0, [(0, 1)])]
def pg_t118 : List (Nat × Nat) := [(40, 1), (77, 1), (86, 1), (100, 1)]
/-- 119: TicketTagModel.carnet(III)I -/
def pg_y119 : ev_M := (⟨"TicketTagModel", "carnet", "(III)I"⟩, prog_4_method_36_code, 6, (Option.some Jvm.ClassFile.FieldType.int), [], 5, 139)
def pg_c119 : List (Nat × ev_I) := [(0, .aload_n 0, 1, 0, 0, 0, []),
  (1, .invokevirtual 78, 3, 64, 1, 0, [(0, 2)]),
  (4, .istore 4, 2, 4, 0, 0, []),
  (6, .iload 4, 2, 4, 0, 0, []),
  (8, .aload_n 0, 1, 0, 0, 0, []),
  (9, .iconst 0, 1, 0, 0, 0, []),
  (10, .iconst 1, 1, 0, 0, 1, []),
  (11, .invokevirtual 50, 3, 19, 3, 0, [(0, 2)]),
  (14, .if_icmp .lt 9, 3, 23, 0, 0, []),
  (17, .aload_n 0, 1, 0, 0, 0, []),
  (18, .iconst 5, 1, 0, 0, 5, []),
  (19, .invokevirtual 129, 3, 30, 2, 0, [(0, 2)]),
  (23, .aload_n 0, 1, 0, 0, 0, []),
  (24, .iload_n 1, 1, 1, 0, 0, []),
  (25, .iload_n 2, 1, 2, 0, 0, []),
  (26, .iload_n 3, 1, 3, 0, 0, []),
  (27, .iconst 0, 1, 0, 0, 0, []),
  (28, .aload_n 0, 1, 0, 0, 0, []),
  (29, .invokevirtual 123, 3, 27, 1, 0, [(0, 2)]),
  (32, .iconst 0, 1, 0, 0, 0, []),
  (33, .iload 4, 2, 4, 0, 0, []),
  (35, .iconst 1, 1, 0, 0, 1, []),
  (36, .iadd, 1, 0, 0, 0, []),
  (37, .iconst 0, 1, 0, 0, 0, []),
  (38, .invokevirtual 135, 3, 113, 9, 0, [(0, 2)]),
  (41, .iconst 0, 1, 0, 0, 0, []),
  (42, .istore 5, 2, 5, 0, 0, []),
  (44, .aload_n 0, 1, 0, 0, 0, []),
  (45, .iconst 4, 1, 0, 0, 4, []),
  (46, .iload 5, 2, 5, 0, 0, []),
  (48, .bipush 16, 2, 0, 0, 16, []),
  (50, .idiv, 1, 0, 0, 0, []),
  (51, .invokevirtual 50, 3, 19, 3, 0, [(0, 2)]),
  (54, .iload 5, 2, 5, 0, 0, []),
  (56, .bipush 16, 2, 0, 0, 16, []),
  (58, .irem, 1, 0, 0, 0, []),
  (59, .ishr, 1, 0, 0, 0, []),
  (60, .iconst 1, 1, 0, 0, 1, []),
  (61, .iand, 1, 0, 0, 0, []),
  (62, .iconst 1, 1, 0, 0, 1, []),
  (63, .if_icmp .ne 9, 3, 72, 0, 0, []),
  (66, .iinc 5 1, 3, 5, 0, 1, []),
  (69, .goto (-25), 3, 44, 0, 0, []),
  (72, .aload_n 0, 1, 0, 0, 0, []),
  (73, .iconst 4, 1, 0, 0, 4, []),
  (74, .iload 5, 2, 5, 0, 0, []),
  (76, .bipush 16, 2, 0, 0, 16, []),
  (78, .idiv, 1, 0, 0, 0, []),
  (79, .aload_n 0, 1, 0, 0, 0, []),
  (80, .iconst 4, 1, 0, 0, 4, []),
  (81, .iload 5, 2, 5, 0, 0, []),
  (83, .bipush 16, 2, 0, 0, 16, []),
  (85, .idiv, 1, 0, 0, 0, []),
  (86, .invokevirtual 50, 3, 19, 3, 0, [(0, 2)]),
  (89, .iconst 1, 1, 0, 0, 1, []),
  (90, .iload 5, 2, 5, 0, 0, []),
  (92, .bipush 16, 2, 0, 0, 16, []),
  (94, .irem, 1, 0, 0, 0, []),
  (95, .ishl, 1, 0, 0, 0, []),
  (96, .ior, 1, 0, 0, 0, []),
  (97, .invokevirtual 62, 3, 32, 4, 0, [(0, 2)]),
  (100, .aload_n 0, 1, 0, 0, 0, []),
  (101, .iconst 0, 1, 0, 0, 0, []),
  (102, .invokevirtual 139, 3, 99, 2, 0, [(0, 2)])]
def pg_t119 : List (Nat × Nat) := [(22, 1), (105, 1)]
/-- 120: TicketTagModel.inspect(III)I -/
def pg_y120 : ev_M := (⟨"TicketTagModel", "inspect", "(III)I"⟩, prog_4_method_47_code, 5, (Option.some Jvm.ClassFile.FieldType.int), [], 5, 134)
def pg_c120 : List (Nat × ev_I) := [(0, .aload_n 0, 1, 0, 0, 0, []),
  (1, .iconst 1, 1, 0, 0, 1, []),
  (2, .iload_n 1, 1, 1, 0, 0, []),
  (3, .iconst 0, 1, 0, 0, 0, []),
  (4, .sipush 9999, 3, 0, 0, 9999, []),
  (7, .invokestatic 93, 3, 23, 3, 0, []),
  (10, .ifCond .eq 24, 3, 34, 0, 0, []),
  (13, .iload_n 2, 1, 2, 0, 0, []),
  (14, .iconst 0, 1, 0, 0, 0, []),
  (15, .sipush 1439, 3, 0, 0, 1439, []),
  (18, .invokestatic 93, 3, 23, 3, 0, []),
  (21, .ifCond .eq 13, 3, 34, 0, 0, []),
  (24, .iload_n 3, 1, 3, 0, 0, []),
  (25, .iconst 0, 1, 0, 0, 0, []),
  (26, .bipush 15, 2, 0, 0, 15, []),
  (28, .invokestatic 93, 3, 23, 3, 0, []),
  (31, .ifCond .ne 7, 3, 38, 0, 0, []),
  (34, .iconst 1, 1, 0, 0, 1, []),
  (35, .goto 4, 3, 39, 0, 0, []),
  (38, .iconst 0, 1, 0, 0, 0, []),
  (39, .invokevirtual 101, 3, 22, 3, 0, [(0, 2)]),
  (42, .ifCond .eq 5, 3, 47, 0, 0, []),
  (45, .iconst 0, 1, 0, 0, 0, []),
  (47, .aload_n 0, 1, 0, 0, 0, []),
  (48, .invokevirtual 74, 3, 63, 1, 0, [(0, 2)]),
  (51, .ifCond .ne 5, 3, 56, 0, 0, []),
  (54, .iconst 2, 1, 0, 0, 2, []),
  (56, .aload_n 0, 1, 0, 0, 0, []),
  (57, .invokevirtual 74, 3, 63, 1, 0, [(0, 2)]),
  (60, .iconst 2, 1, 0, 0, 2, []),
  (61, .if_icmp .ne 45, 3, 106, 0, 0, []),
  (64, .iload_n 1, 1, 1, 0, 0, []),
  (65, .aload_n 0, 1, 0, 0, 0, []),
  (66, .iconst 0, 1, 0, 0, 0, []),
  (67, .iconst 2, 1, 0, 0, 2, []),
  (68, .invokevirtual 50, 3, 19, 3, 0, [(0, 2)]),
  (71, .aload_n 0, 1, 0, 0, 0, []),
  (72, .iconst 0, 1, 0, 0, 0, []),
  (73, .iconst 3, 1, 0, 0, 3, []),
  (74, .invokevirtual 50, 3, 19, 3, 0, [(0, 2)]),
  (77, .invokestatic 93, 3, 23, 3, 0, []),
  (80, .ifCond .ne 7, 3, 87, 0, 0, []),
  (83, .iconst 3, 1, 0, 0, 3, []),
  (84, .goto 21, 3, 105, 0, 0, []),
  (87, .aload_n 0, 1, 0, 0, 0, []),
  (88, .iconst 0, 1, 0, 0, 0, []),
  (89, .iconst 1, 1, 0, 0, 1, []),
  (90, .invokevirtual 50, 3, 19, 3, 0, [(0, 2)]),
  (93, .iload_n 3, 1, 3, 0, 0, []),
  (94, .ishr, 1, 0, 0, 0, []),
  (95, .iconst 1, 1, 0, 0, 1, []),
  (96, .iand, 1, 0, 0, 0, []),
  (97, .ifCond .ne 7, 3, 104, 0, 0, []),
  (100, .iconst 4, 1, 0, 0, 4, []),
  (101, .goto 4, 3, 105, 0, 0, []),
  (104, .iconst 0, 1, 0, 0, 0, []),
  (106, .aload_n 0, 1, 0, 0, 0, []),
  (107, .invokevirtual 114, 3, 112, 1, 0, [(0, 2)]),
  (110, .istore 4, 2, 4, 0, 0, []),
  (112, .iload 4, 2, 4, 0, 0, []),
  (114, .ifCond .lt 28, 3, 142, 0, 0, []),
  (117, .aload_n 0, 1, 0, 0, 0, []),
  (118, .iload 4, 2, 4, 0, 0, []),
  (120, .invokevirtual 87, 3, 60, 2, 0, [(0, 2)]),
  (123, .sipush 1440, 3, 0, 0, 1440, []),
  (126, .iload_n 1, 1, 1, 0, 0, []),
  (127, .imul, 1, 0, 0, 0, []),
  (128, .iload_n 2, 1, 2, 0, 0, []),
  (129, .iadd, 1, 0, 0, 0, []),
  (130, .bipush 120, 2, 0, 0, 120, []),
  (132, .invokestatic 132, 3, 24, 3, 0, []),
  (135, .ifCond .eq 7, 3, 142, 0, 0, []),
  (138, .iconst 0, 1, 0, 0, 0, []),
  (139, .goto 4, 3, 143, 0, 0, []),
  (142, .iconst 5, 1, 0, 0, 5, [])]
def pg_t120 : List (Nat × Nat) := [(46, 1), (55, 1), (105, 1), (143, 1)]
/-- 121: TicketTagModel.journey(II)I -/
def pg_y121 : ev_M := (⟨"TicketTagModel", "journey", "(II)I"⟩, prog_4_method_45_code, 6, (Option.some Jvm.ClassFile.FieldType.int), [], 5, 134)
def pg_c121 : List (Nat × ev_I) := [(0, .aload_n 0, 1, 0, 0, 0, []),
  (1, .iconst 0, 1, 0, 0, 0, []),
  (2, .putfield 33, 3, 2, 0, 0, []),
  (5, .aload_n 0, 1, 0, 0, 0, []),
  (6, .invokevirtual 114, 3, 112, 1, 0, [(0, 2)]),
  (9, .istore_n 3, 1, 3, 0, 0, []),
  (10, .iload_n 3, 1, 3, 0, 0, []),
  (11, .ifCond .lt 23, 3, 34, 0, 0, []),
  (14, .iload_n 1, 1, 1, 0, 0, []),
  (15, .iconst 0, 1, 0, 0, 0, []),
  (16, .bipush 15, 2, 0, 0, 15, []),
  (18, .invokestatic 93, 3, 23, 3, 0, []),
  (21, .ifCond .eq 13, 3, 34, 0, 0, []),
  (24, .iload_n 2, 1, 2, 0, 0, []),
  (25, .iconst 0, 1, 0, 0, 0, []),
  (26, .bipush 8, 2, 0, 0, 8, []),
  (28, .invokestatic 93, 3, 23, 3, 0, []),
  (31, .ifCond .ne 5, 3, 36, 0, 0, []),
  (34, .iconst (-1), 1, 0, 0, (-1), []),
  (36, .aload_n 0, 1, 0, 0, 0, []),
  (37, .iload_n 3, 1, 3, 0, 0, []),
  (38, .iconst 0, 1, 0, 0, 0, []),
  (39, .invokevirtual 50, 3, 19, 3, 0, [(0, 2)]),
  (42, .iload_n 1, 1, 1, 0, 0, []),
  (43, .isub, 1, 0, 0, 0, []),
  (44, .ldc 49, 2, 0, 0, 65535, []),
  (46, .iand, 1, 0, 0, 0, []),
  (47, .istore 4, 2, 4, 0, 0, []),
  (49, .aload_n 0, 1, 0, 0, 0, []),
  (50, .iload 4, 2, 4, 0, 0, []),
  (52, .invokevirtual 117, 3, 83, 2, 0, [(0, 2)]),
  (55, .ifCond .ne 5, 3, 60, 0, 0, []),
  (58, .iconst (-1), 1, 0, 0, (-1), []),
  (60, .aload_n 0, 1, 0, 0, 0, []),
  (61, .iload 4, 2, 4, 0, 0, []),
  (63, .invokevirtual 84, 3, 28, 2, 0, [(0, 2)]),
  (66, .istore 5, 2, 5, 0, 0, []),
  (68, .iload_n 2, 1, 2, 0, 0, []),
  (69, .tableswitch 129 0 7 #[47, 55, 63, 75, 86, 97, 110, 121], 47, 198, 0, 0, [(0, 116), (1, 124), (2, 132), (3, 144), (4, 155), (5, 166), (6, 179), (7, 190)]),
  (116, .aload_n 0, 1, 0, 0, 0, []),
  (117, .iload 5, 2, 5, 0, 0, []),
  (119, .iconst 1, 1, 0, 0, 1, []),
  (120, .invokevirtual 50, 3, 19, 3, 0, [(0, 2)]),
  (124, .aload_n 0, 1, 0, 0, 0, []),
  (125, .iload 5, 2, 5, 0, 0, []),
  (127, .iconst 2, 1, 0, 0, 2, []),
  (128, .invokevirtual 50, 3, 19, 3, 0, [(0, 2)]),
  (132, .aload_n 0, 1, 0, 0, 0, []),
  (133, .iload 5, 2, 5, 0, 0, []),
  (135, .iconst 3, 1, 0, 0, 3, []),
  (136, .invokevirtual 50, 3, 19, 3, 0, [(0, 2)]),
  (139, .sipush 255, 3, 0, 0, 255, []),
  (142, .iand, 1, 0, 0, 0, []),
  (144, .aload_n 0, 1, 0, 0, 0, []),
  (145, .iload 5, 2, 5, 0, 0, []),
  (147, .iconst 3, 1, 0, 0, 3, []),
  (148, .invokevirtual 50, 3, 19, 3, 0, [(0, 2)]),
  (151, .bipush 8, 2, 0, 0, 8, []),
  (153, .ishr, 1, 0, 0, 0, []),
  (155, .aload_n 0, 1, 0, 0, 0, []),
  (156, .iload 5, 2, 5, 0, 0, []),
  (158, .iconst 4, 1, 0, 0, 4, []),
  (159, .invokevirtual 50, 3, 19, 3, 0, [(0, 2)]),
  (162, .bipush 15, 2, 0, 0, 15, []),
  (164, .iand, 1, 0, 0, 0, []),
  (166, .aload_n 0, 1, 0, 0, 0, []),
  (167, .iload 5, 2, 5, 0, 0, []),
  (169, .iconst 4, 1, 0, 0, 4, []),
  (170, .invokevirtual 50, 3, 19, 3, 0, [(0, 2)]),
  (173, .iconst 4, 1, 0, 0, 4, []),
  (174, .ishr, 1, 0, 0, 0, []),
  (175, .bipush 15, 2, 0, 0, 15, []),
  (177, .iand, 1, 0, 0, 0, []),
  (179, .aload_n 0, 1, 0, 0, 0, []),
  (180, .iload 5, 2, 5, 0, 0, []),
  (182, .iconst 4, 1, 0, 0, 4, []),
  (183, .invokevirtual 50, 3, 19, 3, 0, [(0, 2)]),
  (186, .bipush 8, 2, 0, 0, 8, []),
  (188, .ishr, 1, 0, 0, 0, []),
  (190, .aload_n 0, 1, 0, 0, 0, []),
  (191, .iload 5, 2, 5, 0, 0, []),
  (193, .iconst 5, 1, 0, 0, 5, []),
  (194, .invokevirtual 50, 3, 19, 3, 0, [(0, 2)]),
  (198, .aload_n 0, 1, 0, 0, 0, []),
  (199, .iload 5, 2, 5, 0, 0, []),
  (201, .bipush 6, 2, 0, 0, 6, []),
  (203, .invokevirtual 50, 3, 19, 3, 0, [(0, 2)])]
def pg_t121 : List (Nat × Nat) := [(35, 1), (59, 1), (123, 1), (131, 1), (143, 1), (154, 1), (165, 1), (178, 1), (189, 1), (197, 1), (206, 1)]
/-- 122: TicketTagModel.lastRide(I)I -/
def pg_y122 : ev_M := (⟨"TicketTagModel", "lastRide", "(I)I"⟩, prog_4_method_46_code, 3, (Option.some Jvm.ClassFile.FieldType.int), [], 5, 134)
def pg_c122 : List (Nat × ev_I) := [(0, .aload_n 0, 1, 0, 0, 0, []),
  (1, .iconst 0, 1, 0, 0, 0, []),
  (2, .putfield 33, 3, 2, 0, 0, []),
  (5, .aload_n 0, 1, 0, 0, 0, []),
  (6, .invokevirtual 114, 3, 112, 1, 0, [(0, 2)]),
  (9, .istore_n 2, 1, 2, 0, 0, []),
  (10, .iload_n 2, 1, 2, 0, 0, []),
  (11, .ifCond .ge 5, 3, 16, 0, 0, []),
  (14, .iconst (-1), 1, 0, 0, (-1), []),
  (16, .iload_n 1, 1, 1, 0, 0, []),
  (17, .tableswitch 130 0 7 #[47, 54, 65, 71, 81, 92, 104, 111], 47, 147, 0, 0, [(0, 64), (1, 71), (2, 82), (3, 88), (4, 98), (5, 109), (6, 121), (7, 128)]),
  (64, .aload_n 0, 1, 0, 0, 0, []),
  (65, .iload_n 2, 1, 2, 0, 0, []),
  (66, .iconst 1, 1, 0, 0, 1, []),
  (67, .invokevirtual 50, 3, 19, 3, 0, [(0, 2)]),
  (71, .aload_n 0, 1, 0, 0, 0, []),
  (72, .iload_n 2, 1, 2, 0, 0, []),
  (73, .iconst 2, 1, 0, 0, 2, []),
  (74, .invokevirtual 50, 3, 19, 3, 0, [(0, 2)]),
  (77, .sipush 4095, 3, 0, 0, 4095, []),
  (80, .iand, 1, 0, 0, 0, []),
  (82, .aload_n 0, 1, 0, 0, 0, []),
  (83, .iload_n 2, 1, 2, 0, 0, []),
  (84, .invokevirtual 90, 3, 67, 2, 0, [(0, 2)]),
  (88, .aload_n 0, 1, 0, 0, 0, []),
  (89, .iload_n 2, 1, 2, 0, 0, []),
  (90, .iconst 4, 1, 0, 0, 4, []),
  (91, .invokevirtual 50, 3, 19, 3, 0, [(0, 2)]),
  (94, .bipush 15, 2, 0, 0, 15, []),
  (96, .iand, 1, 0, 0, 0, []),
  (98, .aload_n 0, 1, 0, 0, 0, []),
  (99, .iload_n 2, 1, 2, 0, 0, []),
  (100, .iconst 3, 1, 0, 0, 3, []),
  (101, .invokevirtual 50, 3, 19, 3, 0, [(0, 2)]),
  (104, .sipush 255, 3, 0, 0, 255, []),
  (107, .iand, 1, 0, 0, 0, []),
  (109, .aload_n 0, 1, 0, 0, 0, []),
  (110, .iload_n 2, 1, 2, 0, 0, []),
  (111, .iconst 4, 1, 0, 0, 4, []),
  (112, .invokevirtual 50, 3, 19, 3, 0, [(0, 2)]),
  (115, .iconst 4, 1, 0, 0, 4, []),
  (116, .ishr, 1, 0, 0, 0, []),
  (117, .bipush 15, 2, 0, 0, 15, []),
  (119, .iand, 1, 0, 0, 0, []),
  (121, .aload_n 0, 1, 0, 0, 0, []),
  (122, .iload_n 2, 1, 2, 0, 0, []),
  (123, .iconst 0, 1, 0, 0, 0, []),
  (124, .invokevirtual 50, 3, 19, 3, 0, [(0, 2)]),
  (128, .aload_n 0, 1, 0, 0, 0, []),
  (129, .aload_n 0, 1, 0, 0, 0, []),
  (130, .iload_n 2, 1, 2, 0, 0, []),
  (131, .iconst 0, 1, 0, 0, 0, []),
  (132, .invokevirtual 50, 3, 19, 3, 0, [(0, 2)]),
  (135, .invokevirtual 117, 3, 83, 2, 0, [(0, 2)]),
  (138, .ifCond .eq 7, 3, 145, 0, 0, []),
  (141, .iconst 0, 1, 0, 0, 0, []),
  (142, .goto 4, 3, 146, 0, 0, []),
  (145, .iconst 1, 1, 0, 0, 1, []),
  (147, .iconst (-1), 1, 0, 0, (-1), [])]
def pg_t122 : List (Nat × Nat) := [(15, 1), (70, 1), (81, 1), (87, 1), (97, 1), (108, 1), (120, 1), (127, 1), (146, 1), (148, 1)]
/-- 123: TicketTagModel.pass(III)I -/
def pg_y123 : ev_M := (⟨"TicketTagModel", "pass", "(III)I"⟩, prog_4_method_35_code, 4, (Option.some Jvm.ClassFile.FieldType.int), [], 5, 139)
def pg_c123 : List (Nat × ev_I) := [(0, .aload_n 0, 1, 0, 0, 0, []),
  (1, .getfield 13, 3, 2, 2, 0, []),
  (4, .aload_n 0, 1, 0, 0, 0, []),
  (5, .getfield 23, 3, 2, 5, 0, []),
  (8, .iaload, 1, 0, 0, 0, []),
  (9, .aload_n 0, 1, 0, 0, 0, []),
  (10, .iconst 0, 1, 0, 0, 0, []),
  (11, .iconst 2, 1, 0, 0, 2, []),
  (12, .invokevirtual 50, 3, 19, 3, 0, [(0, 2)]),
  (15, .aload_n 0, 1, 0, 0, 0, []),
  (16, .iconst 0, 1, 0, 0, 0, []),
  (17, .iconst 3, 1, 0, 0, 3, []),
  (18, .invokevirtual 50, 3, 19, 3, 0, [(0, 2)]),
  (21, .invokestatic 93, 3, 23, 3, 0, []),
  (24, .ifCond .ne 9, 3, 33, 0, 0, []),
  (27, .aload_n 0, 1, 0, 0, 0, []),
  (28, .iconst 3, 1, 0, 0, 3, []),
  (29, .invokevirtual 129, 3, 30, 2, 0, [(0, 2)]),
  (33, .aload_n 0, 1, 0, 0, 0, []),
  (34, .iconst 0, 1, 0, 0, 0, []),
  (35, .iconst 1, 1, 0, 0, 1, []),
  (36, .invokevirtual 50, 3, 19, 3, 0, [(0, 2)]),
  (39, .iload_n 2, 1, 2, 0, 0, []),
  (40, .ishr, 1, 0, 0, 0, []),
  (41, .iconst 1, 1, 0, 0, 1, []),
  (42, .iand, 1, 0, 0, 0, []),
  (43, .ifCond .ne 9, 3, 52, 0, 0, []),
  (46, .aload_n 0, 1, 0, 0, 0, []),
  (47, .iconst 4, 1, 0, 0, 4, []),
  (48, .invokevirtual 129, 3, 30, 2, 0, [(0, 2)]),
  (52, .aload_n 0, 1, 0, 0, 0, []),
  (53, .iload_n 1, 1, 1, 0, 0, []),
  (54, .iload_n 2, 1, 2, 0, 0, []),
  (55, .iload_n 3, 1, 3, 0, 0, []),
  (56, .iconst 2, 1, 0, 0, 2, []),
  (57, .aload_n 0, 1, 0, 0, 0, []),
  (58, .invokevirtual 123, 3, 27, 1, 0, [(0, 2)]),
  (61, .iconst 0, 1, 0, 0, 0, []),
  (62, .iconst 0, 1, 0, 0, 0, []),
  (63, .iconst 0, 1, 0, 0, 0, []),
  (64, .invokevirtual 135, 3, 113, 9, 0, [(0, 2)]),
  (67, .aload_n 0, 1, 0, 0, 0, []),
  (68, .iconst 2, 1, 0, 0, 2, []),
  (69, .invokevirtual 139, 3, 99, 2, 0, [(0, 2)])]
def pg_t123 : List (Nat × Nat) := [(32, 1), (51, 1), (72, 1)]
/-- 124: TicketTagModel.present(I)I -/
def pg_y124 : ev_M := (⟨"TicketTagModel", "present", "(I)I"⟩, prog_4_method_30_code, 4, (Option.some Jvm.ClassFile.FieldType.int), [], 5, 134)
def pg_c124 : List (Nat × ev_I) := [(0, .aload_n 0, 1, 0, 0, 0, []),
  (1, .iconst 1, 1, 0, 0, 1, []),
  (2, .iload_n 1, 1, 1, 0, 0, []),
  (3, .iconst 0, 1, 0, 0, 0, []),
  (4, .bipush 11, 2, 0, 0, 11, []),
  (6, .invokestatic 93, 3, 23, 3, 0, []),
  (9, .ifCond .ne 7, 3, 16, 0, 0, []),
  (12, .iconst 1, 1, 0, 0, 1, []),
  (13, .goto 4, 3, 17, 0, 0, []),
  (16, .iconst 0, 1, 0, 0, 0, []),
  (17, .invokevirtual 101, 3, 22, 3, 0, [(0, 2)]),
  (20, .ifCond .ne 23, 3, 43, 0, 0, []),
  (23, .aload_n 0, 1, 0, 0, 0, []),
  (24, .iconst 2, 1, 0, 0, 2, []),
  (25, .aload_n 0, 1, 0, 0, 0, []),
  (26, .getfield 23, 3, 2, 5, 0, []),
  (29, .ifCond .lt 7, 3, 36, 0, 0, []),
  (32, .iconst 1, 1, 0, 0, 1, []),
  (33, .goto 4, 3, 37, 0, 0, []),
  (36, .iconst 0, 1, 0, 0, 0, []),
  (37, .invokevirtual 101, 3, 22, 3, 0, [(0, 2)]),
  (40, .ifCond .eq 5, 3, 45, 0, 0, []),
  (43, .iconst 0, 1, 0, 0, 0, []),
  (45, .aload_n 0, 1, 0, 0, 0, []),
  (46, .iload_n 1, 1, 1, 0, 0, []),
  (47, .putfield 23, 3, 2, 5, 0, []),
  (50, .aload_n 0, 1, 0, 0, 0, []),
  (51, .iconst 0, 1, 0, 0, 0, []),
  (52, .putfield 36, 3, 2, 10, 1, []),
  (55, .aload_n 0, 1, 0, 0, 0, []),
  (56, .iconst 0, 1, 0, 0, 0, []),
  (57, .putfield 111, 3, 2, 6, 1, []),
  (60, .aload_n 0, 1, 0, 0, 0, []),
  (61, .bipush 41, 2, 0, 0, 41, []),
  (63, .invokevirtual 66, 3, 84, 2, 0, [(0, 2)]),
  (66, .istore_n 2, 1, 2, 0, 0, []),
  (67, .iload_n 2, 1, 2, 0, 0, []),
  (68, .ifCond .lt 32, 3, 100, 0, 0, []),
  (71, .aload_n 0, 1, 0, 0, 0, []),
  (72, .iload_n 2, 1, 2, 0, 0, []),
  (73, .invokevirtual 81, 3, 100, 2, 0, [(0, 2)]),
  (76, .ifCond .eq 24, 3, 100, 0, 0, []),
  (79, .iconst 0, 1, 0, 0, 0, []),
  (80, .istore_n 3, 1, 3, 0, 0, []),
  (81, .iload_n 3, 1, 3, 0, 0, []),
  (82, .bipush 8, 2, 0, 0, 8, []),
  (84, .if_icmp .ge 16, 3, 100, 0, 0, []),
  (87, .aload_n 0, 1, 0, 0, 0, []),
  (88, .iload_n 2, 1, 2, 0, 0, []),
  (89, .iload_n 3, 1, 3, 0, 0, []),
  (90, .iconst 0, 1, 0, 0, 0, []),
  (91, .invokevirtual 62, 3, 32, 4, 0, [(0, 2)]),
  (94, .iinc 3 1, 3, 3, 0, 1, []),
  (97, .goto (-16), 3, 81, 0, 0, []),
  (100, .aload_n 0, 1, 0, 0, 0, []),
  (101, .getfield 36, 3, 2, 10, 0, []),
  (104, .ifCond .eq 5, 3, 109, 0, 0, []),
  (107, .iconst 4, 1, 0, 0, 4, []),
  (109, .aload_n 0, 1, 0, 0, 0, []),
  (110, .invokevirtual 114, 3, 112, 1, 0, [(0, 2)]),
  (113, .istore_n 3, 1, 3, 0, 0, []),
  (114, .iload_n 3, 1, 3, 0, 0, []),
  (115, .ifCond .lt 26, 3, 141, 0, 0, []),
  (118, .aload_n 0, 1, 0, 0, 0, []),
  (119, .aload_n 0, 1, 0, 0, 0, []),
  (120, .iload_n 3, 1, 3, 0, 0, []),
  (121, .iconst 0, 1, 0, 0, 0, []),
  (122, .invokevirtual 50, 3, 19, 3, 0, [(0, 2)]),
  (125, .invokevirtual 117, 3, 83, 2, 0, [(0, 2)]),
  (128, .ifCond .ne 13, 3, 141, 0, 0, []),
  (131, .aload_n 0, 1, 0, 0, 0, []),
  (132, .iload_n 3, 1, 3, 0, 0, []),
  (133, .invokevirtual 120, 3, 86, 2, 0, [(0, 2)]),
  (136, .aload_n 0, 1, 0, 0, 0, []),
  (137, .iconst 1, 1, 0, 0, 1, []),
  (138, .putfield 111, 3, 2, 6, 1, []),
  (141, .aload_n 0, 1, 0, 0, 0, []),
  (142, .getfield 36, 3, 2, 10, 0, []),
  (145, .ifCond .eq 7, 3, 152, 0, 0, []),
  (148, .iconst 4, 1, 0, 0, 4, []),
  (149, .goto 7, 3, 156, 0, 0, []),
  (152, .aload_n 0, 1, 0, 0, 0, []),
  (153, .invokevirtual 74, 3, 63, 1, 0, [(0, 2)])]
def pg_t124 : List (Nat × Nat) := [(44, 1), (108, 1), (156, 1)]
/-- 125: TicketTagModel.purse(IIII)I -/
def pg_y125 : ev_M := (⟨"TicketTagModel", "purse", "(IIII)I"⟩, prog_4_method_37_code, 10, (Option.some Jvm.ClassFile.FieldType.int), [], 5, 139)
def pg_c125 : List (Nat × ev_I) := [(0, .iload 4, 2, 4, 0, 0, []),
  (2, .ifCond .ge 9, 3, 11, 0, 0, []),
  (5, .aload_n 0, 1, 0, 0, 0, []),
  (6, .iconst 5, 1, 0, 0, 5, []),
  (7, .invokevirtual 129, 3, 30, 2, 0, [(0, 2)]),
  (11, .aload_n 0, 1, 0, 0, 0, []),
  (12, .getfield 13, 3, 2, 2, 0, []),
  (15, .aload_n 0, 1, 0, 0, 0, []),
  (16, .getfield 23, 3, 2, 5, 0, []),
  (19, .iaload, 1, 0, 0, 0, []),
  (20, .istore 5, 2, 5, 0, 0, []),
  (22, .aload_n 0, 1, 0, 0, 0, []),
  (23, .iload 4, 2, 4, 0, 0, []),
  (25, .iconst 2, 1, 0, 0, 2, []),
  (26, .invokevirtual 50, 3, 19, 3, 0, [(0, 2)]),
  (29, .iload 5, 2, 5, 0, 0, []),
  (31, .if_icmp .ne 13, 3, 44, 0, 0, []),
  (34, .aload_n 0, 1, 0, 0, 0, []),
  (35, .iload 4, 2, 4, 0, 0, []),
  (37, .iconst 3, 1, 0, 0, 3, []),
  (38, .invokevirtual 50, 3, 19, 3, 0, [(0, 2)]),
  (41, .goto 4, 3, 45, 0, 0, []),
  (44, .iconst 0, 1, 0, 0, 0, []),
  (45, .istore 6, 2, 6, 0, 0, []),
  (47, .sipush 150, 3, 0, 0, 150, []),
  (50, .bipush 20, 2, 0, 0, 20, []),
  (52, .iload_n 2, 1, 2, 0, 0, []),
  (53, .imul, 1, 0, 0, 0, []),
  (54, .iadd, 1, 0, 0, 0, []),
  (55, .bipush 35, 2, 0, 0, 35, []),
  (57, .iload_n 1, 1, 1, 0, 0, []),
  (58, .iconst 4, 1, 0, 0, 4, []),
  (59, .irem, 1, 0, 0, 0, []),
  (60, .imul, 1, 0, 0, 0, []),
  (61, .iadd, 1, 0, 0, 0, []),
  (62, .istore 7, 2, 7, 0, 0, []),
  (64, .aload_n 0, 1, 0, 0, 0, []),
  (65, .iconst 0, 1, 0, 0, 0, []),
  (66, .iconst 1, 1, 0, 0, 1, []),
  (67, .invokevirtual 50, 3, 19, 3, 0, [(0, 2)]),
  (70, .istore 8, 2, 8, 0, 0, []),
  (72, .iload 8, 2, 8, 0, 0, []),
  (74, .ifCond .le 17, 3, 91, 0, 0, []),
  (77, .iload 7, 2, 7, 0, 0, []),
  (79, .iload 8, 2, 8, 0, 0, []),
  (81, .iload 6, 2, 6, 0, 0, []),
  (83, .invokestatic 153, 3, 25, 2, 0, []),
  (86, .invokestatic 156, 3, 26, 2, 0, []),
  (89, .istore 7, 2, 7, 0, 0, []),
  (91, .aload_n 0, 1, 0, 0, 0, []),
  (92, .iload 4, 2, 4, 0, 0, []),
  (94, .iconst 1, 1, 0, 0, 1, []),
  (95, .invokevirtual 50, 3, 19, 3, 0, [(0, 2)]),
  (98, .iload 7, 2, 7, 0, 0, []),
  (100, .if_icmp .ge 9, 3, 109, 0, 0, []),
  (103, .aload_n 0, 1, 0, 0, 0, []),
  (104, .iconst 5, 1, 0, 0, 5, []),
  (105, .invokevirtual 129, 3, 30, 2, 0, [(0, 2)]),
  (109, .aload_n 0, 1, 0, 0, 0, []),
  (110, .iload 4, 2, 4, 0, 0, []),
  (112, .iconst 1, 1, 0, 0, 1, []),
  (113, .invokevirtual 50, 3, 19, 3, 0, [(0, 2)]),
  (116, .iload 7, 2, 7, 0, 0, []),
  (118, .isub, 1, 0, 0, 0, []),
  (119, .istore 9, 2, 9, 0, 0, []),
  (121, .aload_n 0, 1, 0, 0, 0, []),
  (122, .iload_n 1, 1, 1, 0, 0, []),
  (123, .iload_n 2, 1, 2, 0, 0, []),
  (124, .iload_n 3, 1, 3, 0, 0, []),
  (125, .iconst 0, 1, 0, 0, 0, []),
  (126, .aload_n 0, 1, 0, 0, 0, []),
  (127, .invokevirtual 123, 3, 27, 1, 0, [(0, 2)]),
  (130, .iconst 0, 1, 0, 0, 0, []),
  (131, .aload_n 0, 1, 0, 0, 0, []),
  (132, .iload 4, 2, 4, 0, 0, []),
  (134, .iconst 0, 1, 0, 0, 0, []),
  (135, .invokevirtual 50, 3, 19, 3, 0, [(0, 2)]),
  (138, .iconst 1, 1, 0, 0, 1, []),
  (139, .iadd, 1, 0, 0, 0, []),
  (140, .sipush 255, 3, 0, 0, 255, []),
  (143, .iand, 1, 0, 0, 0, []),
  (144, .iload 7, 2, 7, 0, 0, []),
  (146, .invokevirtual 135, 3, 113, 9, 0, [(0, 2)]),
  (149, .aload_n 0, 1, 0, 0, 0, []),
  (150, .invokevirtual 105, 3, 21, 1, 0, [(0, 2)]),
  (153, .aload_n 0, 1, 0, 0, 0, []),
  (154, .getfield 30, 3, 2, 13, 0, []),
  (157, .iconst 1, 1, 0, 0, 1, []),
  (158, .iload 9, 2, 9, 0, 0, []),
  (160, .iastore, 1, 0, 0, 0, []),
  (161, .aload_n 0, 1, 0, 0, 0, []),
  (162, .getfield 30, 3, 2, 13, 0, []),
  (165, .iconst 2, 1, 0, 0, 2, []),
  (166, .iload 5, 2, 5, 0, 0, []),
  (168, .iastore, 1, 0, 0, 0, []),
  (169, .aload_n 0, 1, 0, 0, 0, []),
  (170, .getfield 30, 3, 2, 13, 0, []),
  (173, .iconst 3, 1, 0, 0, 3, []),
  (174, .ldc 49, 2, 0, 0, 65535, []),
  (176, .iload 6, 2, 6, 0, 0, []),
  (178, .iload 7, 2, 7, 0, 0, []),
  (180, .iadd, 1, 0, 0, 0, []),
  (181, .invokestatic 156, 3, 26, 2, 0, []),
  (184, .iastore, 1, 0, 0, 0, []),
  (185, .aload_n 0, 1, 0, 0, 0, []),
  (186, .iconst 5, 1, 0, 0, 5, []),
  (187, .invokevirtual 108, 3, 101, 2, 0, [(0, 2)]),
  (190, .aload_n 0, 1, 0, 0, 0, []),
  (191, .iconst 0, 1, 0, 0, 0, []),
  (192, .invokevirtual 139, 3, 99, 2, 0, [(0, 2)])]
def pg_t125 : List (Nat × Nat) := [(10, 1), (108, 1), (195, 1)]
/-- 126: TicketTag.bar(IZ)V -/
def pg_y126 : ev_M := (⟨"TicketTag", "bar", "(IZ)V"⟩, prog_1_method_4_code, 3, (Option.none : Option Jvm.ClassFile.FieldType), [], 6, 82)
def pg_c126 : List (Nat × ev_I) := [(0, .iload_n 1, 1, 1, 0, 0, []),
  (1, .invokestatic 62, 3, 48, 1, 0, []),
  (4, .ifCond .ne 13, 3, 17, 0, 0, []),
  (17, .aload_n 0, 1, 0, 0, 0, []),
  (18, .getfield 20, 3, 1, 2, 0, []),
  (21, .iload_n 1, 1, 1, 0, 0, []),
  (22, .iload_n 2, 1, 2, 0, 0, []),
  (23, .bastore, 1, 0, 0, 0, [])]
def pg_t126 : List (Nat × Nat) := [(7, 3), (24, 0)]
/-- 127: TicketTag.inspect(III)I -/
def pg_y127 : ev_M := (⟨"TicketTag", "inspect", "(III)I"⟩, prog_1_method_16_code, 6, (Option.some Jvm.ClassFile.FieldType.int), [], 6, 135)
def pg_c127 : List (Nat × ev_I) := [(0, .iload_n 1, 1, 1, 0, 0, []),
  (1, .iload_n 2, 1, 2, 0, 0, []),
  (2, .invokestatic 66, 3, 50, 2, 0, []),
  (5, .ifCond .eq 12, 3, 17, 0, 0, []),
  (8, .iload_n 3, 1, 3, 0, 0, []),
  (9, .bipush 15, 2, 0, 0, 15, []),
  (11, .invokestatic 83, 3, 1, 2, 0, []),
  (14, .ifCond .ne 13, 3, 27, 0, 0, []),
  (27, .aload_n 0, 1, 0, 0, 0, []),
  (28, .invokevirtual 54, 3, 51, 1, 0, [(0, 1)]),
  (31, .istore 4, 2, 4, 0, 0, []),
  (33, .iload 4, 2, 4, 0, 0, []),
  (35, .ifCond .ne 5, 3, 40, 0, 0, []),
  (38, .iconst 2, 1, 0, 0, 2, []),
  (40, .iload 4, 2, 4, 0, 0, []),
  (42, .iconst 2, 1, 0, 0, 2, []),
  (43, .if_icmp .ne 10, 3, 53, 0, 0, []),
  (46, .aload_n 0, 1, 0, 0, 0, []),
  (47, .iload_n 1, 1, 1, 0, 0, []),
  (48, .iload_n 3, 1, 3, 0, 0, []),
  (49, .invokevirtual 182, 3, 75, 3, 0, [(0, 1)]),
  (53, .iload_n 1, 1, 1, 0, 0, []),
  (54, .sipush 1440, 3, 0, 0, 1440, []),
  (57, .imul, 1, 0, 0, 0, []),
  (58, .iload_n 2, 1, 2, 0, 0, []),
  (59, .iadd, 1, 0, 0, 0, []),
  (60, .istore 5, 2, 5, 0, 0, []),
  (62, .aload_n 0, 1, 0, 0, 0, []),
  (63, .aload_n 0, 1, 0, 0, 0, []),
  (64, .invokevirtual 93, 3, 104, 1, 0, [(0, 1)]),
  (67, .iload 5, 2, 5, 0, 0, []),
  (69, .bipush 120, 2, 0, 0, 120, []),
  (71, .invokevirtual 185, 3, 70, 4, 0, [(0, 1)]),
  (74, .ifCond .eq 7, 3, 81, 0, 0, []),
  (77, .iconst 0, 1, 0, 0, 0, []),
  (78, .goto 4, 3, 82, 0, 0, []),
  (81, .iconst 5, 1, 0, 0, 5, [])]
def pg_t127 : List (Nat × Nat) := [(17, 3), (39, 1), (52, 1), (82, 1)]
/-- 128: TicketTag.issue(IIII)Z -/
def pg_y128 : ev_M := (⟨"TicketTag", "issue", "(IIII)Z"⟩, prog_1_method_2_code, 5, (Option.some Jvm.ClassFile.FieldType.boolean), [], 6, 135)
def pg_c128 : List (Nat × ev_I) := [(0, .iload_n 1, 1, 1, 0, 0, []),
  (1, .iload_n 2, 1, 2, 0, 0, []),
  (2, .iload_n 3, 1, 3, 0, 0, []),
  (3, .iload 4, 2, 4, 0, 0, []),
  (5, .invokestatic 34, 3, 49, 4, 0, []),
  (8, .ifCond .ne 13, 3, 21, 0, 0, []),
  (21, .aload_n 0, 1, 0, 0, 0, []),
  (22, .getfield 10, 3, 1, 0, 0, []),
  (25, .invokevirtual 45, 3, 12, 1, 0, [(0, 0)]),
  (28, .ifCond .eq 13, 3, 41, 0, 0, []),
  (41, .aload_n 0, 1, 0, 0, 0, []),
  (42, .invokevirtual 54, 3, 51, 1, 0, [(0, 1)]),
  (45, .ifCond .eq 5, 3, 50, 0, 0, []),
  (48, .iconst 0, 1, 0, 0, 0, []),
  (50, .aload_n 0, 1, 0, 0, 0, []),
  (51, .iload_n 1, 1, 1, 0, 0, []),
  (52, .iload_n 2, 1, 2, 0, 0, []),
  (53, .iload_n 3, 1, 3, 0, 0, []),
  (54, .iload 4, 2, 4, 0, 0, []),
  (56, .invokevirtual 58, 3, 110, 5, 0, [(0, 1)]),
  (59, .iconst 1, 1, 0, 0, 1, [])]
def pg_t128 : List (Nat × Nat) := [(11, 3), (31, 4), (49, 2), (60, 2)]
/-- 129: TicketTag.present(I)I -/
def pg_y129 : ev_M := (⟨"TicketTag", "present", "(I)I"⟩, prog_1_method_5_code, 2, (Option.some Jvm.ClassFile.FieldType.int), [], 6, 160)
def pg_c129 : List (Nat × ev_I) := [(0, .iload_n 1, 1, 1, 0, 0, []),
  (1, .invokestatic 62, 3, 48, 1, 0, []),
  (4, .ifCond .ne 13, 3, 17, 0, 0, []),
  (17, .aload_n 0, 1, 0, 0, 0, []),
  (18, .getfield 10, 3, 1, 0, 0, []),
  (21, .invokevirtual 45, 3, 12, 1, 0, [(0, 0)]),
  (24, .ifCond .eq 13, 3, 37, 0, 0, []),
  (37, .aload_n 0, 1, 0, 0, 0, []),
  (38, .getfield 10, 3, 1, 0, 0, []),
  (41, .invokevirtual 74, 3, 9, 1, 0, [(0, 0)]),
  (44, .aload_n 0, 1, 0, 0, 0, []),
  (45, .iload_n 1, 1, 1, 0, 0, []),
  (46, .putfield 24, 3, 1, 3, 0, []),
  (49, .aload_n 0, 1, 0, 0, 0, []),
  (50, .iconst (-1), 1, 0, 0, (-1), []),
  (51, .putfield 28, 3, 1, 4, 0, []),
  (54, .aload_n 0, 1, 0, 0, 0, []),
  (55, .invokevirtual 77, 3, 109, 1, 0, [(0, 1)]),
  (58, .ifCond .eq 10, 3, 68, 0, 0, []),
  (61, .aload_n 0, 1, 0, 0, 0, []),
  (62, .invokevirtual 80, 3, 115, 1, 0, [(0, 1)]),
  (65, .ifCond .ne 5, 3, 70, 0, 0, []),
  (68, .iconst 4, 1, 0, 0, 4, []),
  (70, .aload_n 0, 1, 0, 0, 0, []),
  (71, .invokevirtual 54, 3, 51, 1, 0, [(0, 1)])]
def pg_t129 : List (Nat × Nat) := [(7, 3), (27, 4), (69, 1), (74, 1)]
/-- 130: TicketTag.setClock(III)V -/
def pg_y130 : ev_M := (⟨"TicketTag", "setClock", "(III)V"⟩, prog_1_method_3_code, 4, (Option.none : Option Jvm.ClassFile.FieldType), [], 6, 82)
def pg_c130 : List (Nat × ev_I) := [(0, .iload_n 1, 1, 1, 0, 0, []),
  (1, .invokestatic 62, 3, 48, 1, 0, []),
  (4, .ifCond .eq 11, 3, 15, 0, 0, []),
  (7, .iload_n 2, 1, 2, 0, 0, []),
  (8, .iload_n 3, 1, 3, 0, 0, []),
  (9, .invokestatic 66, 3, 50, 2, 0, []),
  (12, .ifCond .ne 13, 3, 25, 0, 0, []),
  (25, .aload_n 0, 1, 0, 0, 0, []),
  (26, .getfield 16, 3, 1, 1, 0, []),
  (29, .iload_n 1, 1, 1, 0, 0, []),
  (30, .iload_n 2, 1, 2, 0, 0, []),
  (31, .sipush 1440, 3, 0, 0, 1440, []),
  (34, .imul, 1, 0, 0, 0, []),
  (35, .iload_n 3, 1, 3, 0, 0, []),
  (36, .iadd, 1, 0, 0, 0, []),
  (37, .iastore, 1, 0, 0, 0, [])]
def pg_t130 : List (Nat × Nat) := [(15, 3), (38, 0)]
/-- 131: TicketTag.tearAfter(II)V -/
def pg_y131 : ev_M := (⟨"TicketTag", "tearAfter", "(II)V"⟩, prog_1_method_9_code, 3, (Option.none : Option Jvm.ClassFile.FieldType), [], 6, 82)
def pg_c131 : List (Nat × ev_I) := [(0, .iload_n 1, 1, 1, 0, 0, []),
  (1, .bipush 100, 2, 0, 0, 100, []),
  (3, .invokestatic 83, 3, 1, 2, 0, []),
  (6, .ifCond .eq 12, 3, 18, 0, 0, []),
  (9, .iload_n 2, 1, 2, 0, 0, []),
  (10, .ldc 107, 2, 0, 0, 65535, []),
  (12, .invokestatic 83, 3, 1, 2, 0, []),
  (15, .ifCond .ne 13, 3, 28, 0, 0, []),
  (28, .aload_n 0, 1, 0, 0, 0, []),
  (29, .getfield 10, 3, 1, 0, 0, []),
  (32, .iload_n 1, 1, 1, 0, 0, []),
  (33, .iload_n 2, 1, 2, 0, 0, []),
  (34, .invokevirtual 132, 3, 14, 3, 0, [(0, 0)])]
def pg_t131 : List (Nat × Nat) := [(18, 3), (37, 0)]
/-- 132: TicketTag.topUp(I)I -/
def pg_y132 : ev_M := (⟨"TicketTag", "topUp", "(I)I"⟩, prog_1_method_7_code, 3, (Option.some Jvm.ClassFile.FieldType.int), [], 6, 107)
def pg_c132 : List (Nat × ev_I) := [(0, .iload_n 1, 1, 1, 0, 0, []),
  (1, .iconst 1, 1, 0, 0, 1, []),
  (2, .if_icmp .lt 9, 3, 11, 0, 0, []),
  (5, .iload_n 1, 1, 1, 0, 0, []),
  (6, .ldc 107, 2, 0, 0, 65535, []),
  (8, .if_icmp .le 13, 3, 21, 0, 0, []),
  (21, .aload_n 0, 1, 0, 0, 0, []),
  (22, .getfield 10, 3, 1, 0, 0, []),
  (25, .invokevirtual 45, 3, 12, 1, 0, [(0, 0)]),
  (28, .ifCond .ne 13, 3, 41, 0, 0, []),
  (41, .aload_n 0, 1, 0, 0, 0, []),
  (42, .invokevirtual 110, 3, 92, 1, 0, [(0, 1)]),
  (45, .istore_n 2, 1, 2, 0, 0, []),
  (46, .aload_n 0, 1, 0, 0, 0, []),
  (47, .aload_n 0, 1, 0, 0, 0, []),
  (48, .iload_n 2, 1, 2, 0, 0, []),
  (49, .iload_n 1, 1, 1, 0, 0, []),
  (50, .invokevirtual 113, 3, 94, 3, 0, [(0, 1)]),
  (53, .putfield 31, 3, 1, 5, 0, []),
  (56, .aload_n 0, 1, 0, 0, 0, []),
  (57, .getfield 31, 3, 1, 5, 0, []),
  (60, .ifCond .eq 5, 3, 65, 0, 0, []),
  (63, .iconst 3, 1, 0, 0, 3, []),
  (65, .aload_n 0, 1, 0, 0, 0, []),
  (66, .aload_n 0, 1, 0, 0, 0, []),
  (67, .iload_n 2, 1, 2, 0, 0, []),
  (68, .invokevirtual 117, 3, 40, 2, 0, [(0, 1)]),
  (71, .iload_n 1, 1, 1, 0, 0, []),
  (72, .iadd, 1, 0, 0, 0, []),
  (73, .aload_n 0, 1, 0, 0, 0, []),
  (74, .getfield 10, 3, 1, 0, 0, []),
  (77, .iload_n 2, 1, 2, 0, 0, []),
  (78, .iconst 2, 1, 0, 0, 2, []),
  (79, .invokevirtual 120, 3, 8, 3, 0, [(0, 0)]),
  (82, .aload_n 0, 1, 0, 0, 0, []),
  (83, .getfield 10, 3, 1, 0, 0, []),
  (86, .iload_n 2, 1, 2, 0, 0, []),
  (87, .iconst 3, 1, 0, 0, 3, []),
  (88, .invokevirtual 120, 3, 8, 3, 0, [(0, 0)]),
  (91, .invokevirtual 123, 3, 46, 4, 0, [(0, 1)]),
  (94, .aload_n 0, 1, 0, 0, 0, []),
  (95, .getfield 10, 3, 1, 0, 0, []),
  (98, .iconst 5, 1, 0, 0, 5, []),
  (99, .invokevirtual 127, 3, 96, 2, 0, [(0, 0)]),
  (102, .ifCond .eq 7, 3, 109, 0, 0, []),
  (105, .iconst 0, 1, 0, 0, 0, []),
  (106, .goto 4, 3, 110, 0, 0, []),
  (109, .iconst 4, 1, 0, 0, 4, [])]
def pg_t132 : List (Nat × Nat) := [(11, 3), (31, 4), (64, 1), (110, 1)]
/-- 133: TicketTag.validate(III)I -/
def pg_y133 : ev_M := (⟨"TicketTag", "validate", "(III)I"⟩, prog_1_method_6_code, 6, (Option.some Jvm.ClassFile.FieldType.int), [], 6, 171)
def pg_c133 : List (Nat × ev_I) := [(0, .iload_n 1, 1, 1, 0, 0, []),
  (1, .sipush 255, 3, 0, 0, 255, []),
  (4, .invokestatic 83, 3, 1, 2, 0, []),
  (7, .ifCond .eq 21, 3, 28, 0, 0, []),
  (10, .iload_n 2, 1, 2, 0, 0, []),
  (11, .bipush 15, 2, 0, 0, 15, []),
  (13, .invokestatic 83, 3, 1, 2, 0, []),
  (16, .ifCond .eq 12, 3, 28, 0, 0, []),
  (19, .iload_n 3, 1, 3, 0, 0, []),
  (20, .bipush 15, 2, 0, 0, 15, []),
  (22, .invokestatic 83, 3, 1, 2, 0, []),
  (25, .ifCond .ne 13, 3, 38, 0, 0, []),
  (38, .aload_n 0, 1, 0, 0, 0, []),
  (39, .getfield 10, 3, 1, 0, 0, []),
  (42, .invokevirtual 45, 3, 12, 1, 0, [(0, 0)]),
  (45, .ifCond .ne 13, 3, 58, 0, 0, []),
  (58, .aload_n 0, 1, 0, 0, 0, []),
  (59, .aload_n 0, 1, 0, 0, 0, []),
  (60, .invokevirtual 90, 3, 74, 1, 0, [(0, 1)]),
  (63, .putfield 31, 3, 1, 5, 0, []),
  (66, .aload_n 0, 1, 0, 0, 0, []),
  (67, .getfield 31, 3, 1, 5, 0, []),
  (70, .ifCond .eq 5, 3, 75, 0, 0, []),
  (73, .iconst 3, 1, 0, 0, 3, []),
  (75, .aload_n 0, 1, 0, 0, 0, []),
  (76, .invokevirtual 93, 3, 104, 1, 0, [(0, 1)]),
  (79, .istore 4, 2, 4, 0, 0, []),
  (81, .aload_n 0, 1, 0, 0, 0, []),
  (82, .iload 4, 2, 4, 0, 0, []),
  (84, .iload_n 1, 1, 1, 0, 0, []),
  (85, .invokevirtual 96, 3, 90, 3, 0, [(0, 1)]),
  (88, .ifCond .eq 15, 3, 103, 0, 0, []),
  (91, .aload_n 0, 1, 0, 0, 0, []),
  (92, .iconst (-1), 1, 0, 0, (-1), []),
  (93, .putfield 28, 3, 1, 4, 0, []),
  (96, .aload_n 0, 1, 0, 0, 0, []),
  (97, .iload 4, 2, 4, 0, 0, []),
  (99, .invokevirtual 99, 3, 42, 2, 0, [(0, 1)]),
  (103, .aload_n 0, 1, 0, 0, 0, []),
  (104, .iload 4, 2, 4, 0, 0, []),
  (106, .iload_n 1, 1, 1, 0, 0, []),
  (107, .iload_n 2, 1, 2, 0, 0, []),
  (108, .iload_n 3, 1, 3, 0, 0, []),
  (109, .invokevirtual 103, 3, 118, 5, 0, [(0, 1)]),
  (112, .istore 5, 2, 5, 0, 0, []),
  (114, .aload_n 0, 1, 0, 0, 0, []),
  (115, .getfield 31, 3, 1, 5, 0, []),
  (118, .ifCond .ne 8, 3, 126, 0, 0, []),
  (121, .aload_n 0, 1, 0, 0, 0, []),
  (122, .iconst (-1), 1, 0, 0, (-1), []),
  (123, .putfield 28, 3, 1, 4, 0, []),
  (126, .iload 5, 2, 5, 0, 0, [])]
def pg_t133 : List (Nat × Nat) := [(28, 3), (48, 4), (74, 1), (102, 1), (128, 1)]
/-- 134: TicketTag.word(II)I -/
def pg_y134 : ev_M := (⟨"TicketTag", "word", "(II)I"⟩, prog_1_method_17_code, 3, (Option.some Jvm.ClassFile.FieldType.int), [], 6, 82)
def pg_c134 : List (Nat × ev_I) := [(0, .iload_n 1, 1, 1, 0, 0, []),
  (1, .bipush 63, 2, 0, 0, 63, []),
  (3, .invokestatic 83, 3, 1, 2, 0, []),
  (6, .ifCond .eq 11, 3, 17, 0, 0, []),
  (9, .iload_n 2, 1, 2, 0, 0, []),
  (10, .iconst 3, 1, 0, 0, 3, []),
  (11, .invokestatic 83, 3, 1, 2, 0, []),
  (14, .ifCond .ne 13, 3, 27, 0, 0, []),
  (27, .aload_n 0, 1, 0, 0, 0, []),
  (28, .getfield 10, 3, 1, 0, 0, []),
  (31, .iload_n 1, 1, 1, 0, 0, []),
  (32, .iload_n 2, 1, 2, 0, 0, []),
  (33, .invokevirtual 120, 3, 8, 3, 0, [(0, 0)])]
def pg_t134 : List (Nat × Nat) := [(17, 5), (36, 1)]
/-- 135: TicketTagModel.validate(III)I -/
def pg_y135 : ev_M := (⟨"TicketTagModel", "validate", "(III)I"⟩, prog_4_method_34_code, 7, (Option.some Jvm.ClassFile.FieldType.int), [], 6, 172)
def pg_c135 : List (Nat × ev_I) := [(0, .aload_n 0, 1, 0, 0, 0, []),
  (1, .iconst 1, 1, 0, 0, 1, []),
  (2, .iload_n 1, 1, 1, 0, 0, []),
  (3, .iconst 0, 1, 0, 0, 0, []),
  (4, .sipush 255, 3, 0, 0, 255, []),
  (7, .invokestatic 93, 3, 23, 3, 0, []),
  (10, .ifCond .eq 23, 3, 33, 0, 0, []),
  (13, .iload_n 2, 1, 2, 0, 0, []),
  (14, .iconst 0, 1, 0, 0, 0, []),
  (15, .bipush 15, 2, 0, 0, 15, []),
  (17, .invokestatic 93, 3, 23, 3, 0, []),
  (20, .ifCond .eq 13, 3, 33, 0, 0, []),
  (23, .iload_n 3, 1, 3, 0, 0, []),
  (24, .iconst 0, 1, 0, 0, 0, []),
  (25, .bipush 15, 2, 0, 0, 15, []),
  (27, .invokestatic 93, 3, 23, 3, 0, []),
  (30, .ifCond .ne 7, 3, 37, 0, 0, []),
  (33, .iconst 1, 1, 0, 0, 1, []),
  (34, .goto 4, 3, 38, 0, 0, []),
  (37, .iconst 0, 1, 0, 0, 0, []),
  (38, .invokevirtual 101, 3, 22, 3, 0, [(0, 2)]),
  (41, .ifCond .ne 23, 3, 64, 0, 0, []),
  (44, .aload_n 0, 1, 0, 0, 0, []),
  (45, .iconst 2, 1, 0, 0, 2, []),
  (46, .aload_n 0, 1, 0, 0, 0, []),
  (47, .getfield 23, 3, 2, 5, 0, []),
  (50, .ifCond .ge 7, 3, 57, 0, 0, []),
  (53, .iconst 1, 1, 0, 0, 1, []),
  (54, .goto 4, 3, 58, 0, 0, []),
  (57, .iconst 0, 1, 0, 0, 0, []),
  (58, .invokevirtual 101, 3, 22, 3, 0, [(0, 2)]),
  (61, .ifCond .eq 5, 3, 66, 0, 0, []),
  (64, .iconst 0, 1, 0, 0, 0, []),
  (66, .aload_n 0, 1, 0, 0, 0, []),
  (67, .getfield 19, 3, 2, 4, 0, []),
  (70, .aload_n 0, 1, 0, 0, 0, []),
  (71, .getfield 23, 3, 2, 5, 0, []),
  (74, .baload, 1, 0, 0, 0, []),
  (75, .ifCond .eq 9, 3, 84, 0, 0, []),
  (78, .aload_n 0, 1, 0, 0, 0, []),
  (79, .iconst 1, 1, 0, 0, 1, []),
  (80, .invokevirtual 129, 3, 30, 2, 0, [(0, 2)]),
  (84, .aload_n 0, 1, 0, 0, 0, []),
  (85, .invokevirtual 74, 3, 63, 1, 0, [(0, 2)]),
  (88, .ifCond .ne 9, 3, 97, 0, 0, []),
  (91, .aload_n 0, 1, 0, 0, 0, []),
  (92, .iconst 2, 1, 0, 0, 2, []),
  (93, .invokevirtual 129, 3, 30, 2, 0, [(0, 2)]),
  (97, .aload_n 0, 1, 0, 0, 0, []),
  (98, .iconst 0, 1, 0, 0, 0, []),
  (99, .putfield 126, 3, 2, 7, 0, []),
  (102, .aload_n 0, 1, 0, 0, 0, []),
  (103, .invokevirtual 114, 3, 112, 1, 0, [(0, 2)]),
  (106, .istore 4, 2, 4, 0, 0, []),
  (108, .aload_n 0, 1, 0, 0, 0, []),
  (109, .invokevirtual 123, 3, 27, 1, 0, [(0, 2)]),
  (112, .istore 5, 2, 5, 0, 0, []),
  (114, .iload 4, 2, 4, 0, 0, []),
  (116, .ifCond .lt 70, 3, 186, 0, 0, []),
  (119, .aload_n 0, 1, 0, 0, 0, []),
  (120, .getfield 111, 3, 2, 6, 0, []),
  (123, .ifCond .eq 63, 3, 186, 0, 0, []),
  (126, .aload_n 0, 1, 0, 0, 0, []),
  (127, .iload 4, 2, 4, 0, 0, []),
  (129, .iconst 3, 1, 0, 0, 3, []),
  (130, .invokevirtual 50, 3, 19, 3, 0, [(0, 2)]),
  (133, .sipush 255, 3, 0, 0, 255, []),
  (136, .iand, 1, 0, 0, 0, []),
  (137, .iload_n 1, 1, 1, 0, 0, []),
  (138, .if_icmp .ne 48, 3, 186, 0, 0, []),
  (141, .aload_n 0, 1, 0, 0, 0, []),
  (142, .iload 4, 2, 4, 0, 0, []),
  (144, .invokevirtual 87, 3, 60, 2, 0, [(0, 2)]),
  (147, .aload_n 0, 1, 0, 0, 0, []),
  (148, .iload 4, 2, 4, 0, 0, []),
  (150, .iconst 5, 1, 0, 0, 5, []),
  (151, .invokevirtual 50, 3, 19, 3, 0, [(0, 2)]),
  (154, .sipush 255, 3, 0, 0, 255, []),
  (157, .iand, 1, 0, 0, 0, []),
  (158, .iadd, 1, 0, 0, 0, []),
  (159, .iload 5, 2, 5, 0, 0, []),
  (161, .iconst 5, 1, 0, 0, 5, []),
  (162, .invokestatic 132, 3, 24, 3, 0, []),
  (165, .ifCond .eq 21, 3, 186, 0, 0, []),
  (168, .aload_n 0, 1, 0, 0, 0, []),
  (169, .iconst 0, 1, 0, 0, 0, []),
  (170, .putfield 111, 3, 2, 6, 1, []),
  (173, .aload_n 0, 1, 0, 0, 0, []),
  (174, .iload 4, 2, 4, 0, 0, []),
  (176, .iconst 4, 1, 0, 0, 4, []),
  (177, .invokevirtual 50, 3, 19, 3, 0, [(0, 2)]),
  (180, .iconst 4, 1, 0, 0, 4, []),
  (181, .ishr, 1, 0, 0, 0, []),
  (182, .bipush 15, 2, 0, 0, 15, []),
  (184, .iand, 1, 0, 0, 0, []),
  (186, .aload_n 0, 1, 0, 0, 0, []),
  (187, .iconst 5, 1, 0, 0, 5, []),
  (188, .invokevirtual 66, 3, 84, 2, 0, [(0, 2)]),
  (191, .istore 6, 2, 6, 0, 0, []),
  (193, .aload_n 0, 1, 0, 0, 0, []),
  (194, .invokevirtual 74, 3, 63, 1, 0, [(0, 2)]),
  (197, .iconst 2, 1, 0, 0, 2, []),
  (198, .if_icmp .eq 112, 3, 310, 0, 0, []),
  (201, .iload 4, 2, 4, 0, 0, []),
  (203, .ifCond .lt 107, 3, 310, 0, 0, []),
  (206, .aload_n 0, 1, 0, 0, 0, []),
  (207, .iload 4, 2, 4, 0, 0, []),
  (209, .invokevirtual 87, 3, 60, 2, 0, [(0, 2)]),
  (212, .iload 5, 2, 5, 0, 0, []),
  (214, .bipush 75, 2, 0, 0, 75, []),
  (216, .invokestatic 132, 3, 24, 3, 0, []),
  (219, .ifCond .eq 91, 3, 310, 0, 0, []),
  (222, .aload_n 0, 1, 0, 0, 0, []),
  (223, .iload 4, 2, 4, 0, 0, []),
  (225, .iconst 4, 1, 0, 0, 4, []),
  (226, .invokevirtual 50, 3, 19, 3, 0, [(0, 2)]),
  (229, .bipush 15, 2, 0, 0, 15, []),
  (231, .iand, 1, 0, 0, 0, []),
  (232, .iload_n 3, 1, 3, 0, 0, []),
  (233, .if_icmp .ne 77, 3, 310, 0, 0, []),
  (236, .aload_n 0, 1, 0, 0, 0, []),
  (237, .iload 4, 2, 4, 0, 0, []),
  (239, .invokevirtual 90, 3, 67, 2, 0, [(0, 2)]),
  (242, .iconst 2, 1, 0, 0, 2, []),
  (243, .if_icmp .ge 67, 3, 310, 0, 0, []),
  (246, .aload_n 0, 1, 0, 0, 0, []),
  (247, .iload_n 1, 1, 1, 0, 0, []),
  (248, .iload_n 2, 1, 2, 0, 0, []),
  (249, .iload_n 3, 1, 3, 0, 0, []),
  (250, .iconst 1, 1, 0, 0, 1, []),
  (251, .aload_n 0, 1, 0, 0, 0, []),
  (252, .iload 4, 2, 4, 0, 0, []),
  (254, .invokevirtual 87, 3, 60, 2, 0, [(0, 2)]),
  (257, .aload_n 0, 1, 0, 0, 0, []),
  (258, .iload 4, 2, 4, 0, 0, []),
  (260, .invokevirtual 90, 3, 67, 2, 0, [(0, 2)]),
  (263, .iconst 1, 1, 0, 0, 1, []),
  (264, .iadd, 1, 0, 0, 0, []),
  (265, .aload_n 0, 1, 0, 0, 0, []),
  (266, .invokevirtual 74, 3, 63, 1, 0, [(0, 2)]),
  (269, .iconst 1, 1, 0, 0, 1, []),
  (270, .if_icmp .ne 10, 3, 280, 0, 0, []),
  (273, .aload_n 0, 1, 0, 0, 0, []),
  (274, .invokevirtual 78, 3, 64, 1, 0, [(0, 2)]),
  (277, .goto 23, 3, 300, 0, 0, []),
  (280, .iload 6, 2, 6, 0, 0, []),
  (282, .ifCond .ge 7, 3, 289, 0, 0, []),
  (285, .iconst 0, 1, 0, 0, 0, []),
  (286, .goto 14, 3, 300, 0, 0, []),
  (289, .aload_n 0, 1, 0, 0, 0, []),
  (290, .iload 6, 2, 6, 0, 0, []),
  (292, .iconst 0, 1, 0, 0, 0, []),
  (293, .invokevirtual 50, 3, 19, 3, 0, [(0, 2)]),
  (296, .sipush 255, 3, 0, 0, 255, []),
  (299, .iand, 1, 0, 0, 0, []),
  (300, .iconst 0, 1, 0, 0, 0, []),
  (301, .invokevirtual 135, 3, 113, 9, 0, [(0, 2)]),
  (304, .aload_n 0, 1, 0, 0, 0, []),
  (305, .iconst 1, 1, 0, 0, 1, []),
  (306, .invokevirtual 139, 3, 99, 2, 0, [(0, 2)]),
  (310, .aload_n 0, 1, 0, 0, 0, []),
  (311, .invokevirtual 74, 3, 63, 1, 0, [(0, 2)]),
  (314, .iconst 2, 1, 0, 0, 2, []),
  (315, .if_icmp .ne 11, 3, 326, 0, 0, []),
  (318, .aload_n 0, 1, 0, 0, 0, []),
  (319, .iload_n 1, 1, 1, 0, 0, []),
  (320, .iload_n 2, 1, 2, 0, 0, []),
  (321, .iload_n 3, 1, 3, 0, 0, []),
  (322, .invokevirtual 142, 3, 123, 4, 0, [(0, 2)]),
  (326, .aload_n 0, 1, 0, 0, 0, []),
  (327, .invokevirtual 74, 3, 63, 1, 0, [(0, 2)]),
  (330, .iconst 1, 1, 0, 0, 1, []),
  (331, .if_icmp .ne 13, 3, 344, 0, 0, []),
  (334, .aload_n 0, 1, 0, 0, 0, []),
  (335, .iload_n 1, 1, 1, 0, 0, []),
  (336, .iload_n 2, 1, 2, 0, 0, []),
  (337, .iload_n 3, 1, 3, 0, 0, []),
  (338, .invokevirtual 146, 3, 119, 4, 0, [(0, 2)]),
  (341, .goto 12, 3, 353, 0, 0, []),
  (344, .aload_n 0, 1, 0, 0, 0, []),
  (345, .iload_n 1, 1, 1, 0, 0, []),
  (346, .iload_n 2, 1, 2, 0, 0, []),
  (347, .iload_n 3, 1, 3, 0, 0, []),
  (348, .iload 6, 2, 6, 0, 0, []),
  (350, .invokevirtual 149, 3, 125, 5, 0, [(0, 2)])]
def pg_t135 : List (Nat × Nat) := [(65, 1), (83, 1), (96, 1), (185, 1), (309, 1), (325, 1), (353, 1)]
/-- 136: TicketTagLaw.bar(LTicketTag;IZ)I -/
def pg_y136 : ev_M := (⟨"TicketTagLaw", "bar", "(LTicketTag;IZ)I"⟩, method_5_code, 4, Option.some Jvm.ClassFile.FieldType.int, [(0, 6, 9, 13)], 7, 108)
def pg_c136 : List (Nat × ev_I) := [(0, .aload_n 0, 1, 0, 0, 0, []),
  (1, .iload_n 1, 1, 1, 0, 0, []),
  (2, .iload_n 2, 1, 2, 0, 0, []),
  (3, .invokevirtual 21, 3, 126, 3, 0, [(0, 1)]),
  (6, .goto 6, 3, 12, 0, 0, []),
  (9, .astore_n 3, 1, 3, 0, 0, []),
  (10, .iconst 1, 1, 0, 0, 1, []),
  (12, .iconst 0, 1, 0, 0, 0, [])]
def pg_t136 : List (Nat × Nat) := [(11, 1), (13, 1)]
/-- 137: TicketTagLaw.inspect(LTicketTag;III[J)I -/
def pg_y137 : ev_M := (⟨"TicketTagLaw", "inspect", "(LTicketTag;III[J)I"⟩, method_10_code, 6, Option.some Jvm.ClassFile.FieldType.int, [(0, 12, 15, 13)], 7, 164)
def pg_c137 : List (Nat × ev_I) := [(0, .aload 4, 2, 4, 0, 0, []),
  (2, .iconst 0, 1, 0, 0, 0, []),
  (3, .aload_n 0, 1, 0, 0, 0, []),
  (4, .iload_n 1, 1, 1, 0, 0, []),
  (5, .iload_n 2, 1, 2, 0, 0, []),
  (6, .iload_n 3, 1, 3, 0, 0, []),
  (7, .invokevirtual 40, 3, 127, 4, 0, [(0, 1)]),
  (10, .i2l, 1, 0, 0, 0, []),
  (11, .lastore, 1, 0, 0, 0, []),
  (12, .goto 7, 3, 19, 0, 0, []),
  (15, .astore 5, 2, 5, 0, 0, []),
  (17, .iconst 1, 1, 0, 0, 1, []),
  (19, .iconst 0, 1, 0, 0, 0, [])]
def pg_t137 : List (Nat × Nat) := [(18, 1), (20, 1)]
/-- 138: TicketTagLaw.issue(LTicketTag;IIII[J)I -/
def pg_y138 : ev_M := (⟨"TicketTagLaw", "issue", "(LTicketTag;IIII[J)I"⟩, method_3_code, 7, Option.some Jvm.ClassFile.FieldType.int, [(0, 21, 24, 13), (0, 21, 28, 15)], 7, 163)
def pg_c138 : List (Nat × ev_I) := [(0, .aload 5, 2, 5, 0, 0, []),
  (2, .iconst 0, 1, 0, 0, 0, []),
  (3, .aload_n 0, 1, 0, 0, 0, []),
  (4, .iload_n 1, 1, 1, 0, 0, []),
  (5, .iload_n 2, 1, 2, 0, 0, []),
  (6, .iload_n 3, 1, 3, 0, 0, []),
  (7, .iload 4, 2, 4, 0, 0, []),
  (9, .invokevirtual 7, 3, 128, 5, 0, [(0, 1)]),
  (12, .ifCond .eq 7, 3, 19, 0, 0, []),
  (15, .lconst 1, 1, 0, 0, 0, []),
  (16, .goto 4, 3, 20, 0, 0, []),
  (19, .lconst 0, 1, 0, 0, 0, []),
  (20, .lastore, 1, 0, 0, 0, []),
  (21, .goto 11, 3, 32, 0, 0, []),
  (24, .astore 6, 2, 6, 0, 0, []),
  (26, .iconst 1, 1, 0, 0, 1, []),
  (28, .astore 6, 2, 6, 0, 0, []),
  (30, .iconst 2, 1, 0, 0, 2, []),
  (32, .iconst 0, 1, 0, 0, 0, [])]
def pg_t138 : List (Nat × Nat) := [(27, 1), (31, 1), (33, 1)]
/-- 139: TicketTagLaw.present(LTicketTag;I[J)I -/
def pg_y139 : ev_M := (⟨"TicketTagLaw", "present", "(LTicketTag;I[J)I"⟩, method_6_code, 4, Option.some Jvm.ClassFile.FieldType.int, [(0, 9, 12, 13), (0, 9, 15, 15)], 7, 185)
def pg_c139 : List (Nat × ev_I) := [(0, .aload_n 2, 1, 2, 0, 0, []),
  (1, .iconst 0, 1, 0, 0, 0, []),
  (2, .aload_n 0, 1, 0, 0, 0, []),
  (3, .iload_n 1, 1, 1, 0, 0, []),
  (4, .invokevirtual 25, 3, 129, 2, 0, [(0, 1)]),
  (7, .i2l, 1, 0, 0, 0, []),
  (8, .lastore, 1, 0, 0, 0, []),
  (9, .goto 9, 3, 18, 0, 0, []),
  (12, .astore_n 3, 1, 3, 0, 0, []),
  (13, .iconst 1, 1, 0, 0, 1, []),
  (15, .astore_n 3, 1, 3, 0, 0, []),
  (16, .iconst 2, 1, 0, 0, 2, []),
  (18, .iconst 0, 1, 0, 0, 0, [])]
def pg_t139 : List (Nat × Nat) := [(14, 1), (17, 1), (19, 1)]
/-- 140: TicketTagLaw.setClock(LTicketTag;III)I -/
def pg_y140 : ev_M := (⟨"TicketTagLaw", "setClock", "(LTicketTag;III)I"⟩, method_4_code, 5, Option.some Jvm.ClassFile.FieldType.int, [(0, 7, 10, 13)], 7, 109)
def pg_c140 : List (Nat × ev_I) := [(0, .aload_n 0, 1, 0, 0, 0, []),
  (1, .iload_n 1, 1, 1, 0, 0, []),
  (2, .iload_n 2, 1, 2, 0, 0, []),
  (3, .iload_n 3, 1, 3, 0, 0, []),
  (4, .invokevirtual 17, 3, 130, 4, 0, [(0, 1)]),
  (7, .goto 7, 3, 14, 0, 0, []),
  (10, .astore 4, 2, 4, 0, 0, []),
  (12, .iconst 1, 1, 0, 0, 1, []),
  (14, .iconst 0, 1, 0, 0, 0, [])]
def pg_t140 : List (Nat × Nat) := [(13, 1), (15, 1)]
/-- 141: TicketTagLaw.tearAfter(LTicketTag;II)I -/
def pg_y141 : ev_M := (⟨"TicketTagLaw", "tearAfter", "(LTicketTag;II)I"⟩, method_9_code, 4, Option.some Jvm.ClassFile.FieldType.int, [(0, 6, 9, 13)], 7, 108)
def pg_c141 : List (Nat × ev_I) := [(0, .aload_n 0, 1, 0, 0, 0, []),
  (1, .iload_n 1, 1, 1, 0, 0, []),
  (2, .iload_n 2, 1, 2, 0, 0, []),
  (3, .invokevirtual 36, 3, 131, 3, 0, [(0, 1)]),
  (6, .goto 6, 3, 12, 0, 0, []),
  (9, .astore_n 3, 1, 3, 0, 0, []),
  (10, .iconst 1, 1, 0, 0, 1, []),
  (12, .iconst 0, 1, 0, 0, 0, [])]
def pg_t141 : List (Nat × Nat) := [(11, 1), (13, 1)]
/-- 142: TicketTagLaw.topUp(LTicketTag;I[J)I -/
def pg_y142 : ev_M := (⟨"TicketTagLaw", "topUp", "(LTicketTag;I[J)I"⟩, method_8_code, 4, Option.some Jvm.ClassFile.FieldType.int, [(0, 9, 12, 13), (0, 9, 15, 15)], 7, 133)
def pg_c142 : List (Nat × ev_I) := [(0, .aload_n 2, 1, 2, 0, 0, []),
  (1, .iconst 0, 1, 0, 0, 0, []),
  (2, .aload_n 0, 1, 0, 0, 0, []),
  (3, .iload_n 1, 1, 1, 0, 0, []),
  (4, .invokevirtual 33, 3, 132, 2, 0, [(0, 1)]),
  (7, .i2l, 1, 0, 0, 0, []),
  (8, .lastore, 1, 0, 0, 0, []),
  (9, .goto 9, 3, 18, 0, 0, []),
  (12, .astore_n 3, 1, 3, 0, 0, []),
  (13, .iconst 1, 1, 0, 0, 1, []),
  (15, .astore_n 3, 1, 3, 0, 0, []),
  (16, .iconst 2, 1, 0, 0, 2, []),
  (18, .iconst 0, 1, 0, 0, 0, [])]
def pg_t142 : List (Nat × Nat) := [(14, 1), (17, 1), (19, 1)]
/-- 143: TicketTagLaw.validate(LTicketTag;III[J)I -/
def pg_y143 : ev_M := (⟨"TicketTagLaw", "validate", "(LTicketTag;III[J)I"⟩, method_7_code, 6, Option.some Jvm.ClassFile.FieldType.int, [(0, 12, 15, 13), (0, 12, 19, 15)], 7, 200)
def pg_c143 : List (Nat × ev_I) := [(0, .aload 4, 2, 4, 0, 0, []),
  (2, .iconst 0, 1, 0, 0, 0, []),
  (3, .aload_n 0, 1, 0, 0, 0, []),
  (4, .iload_n 1, 1, 1, 0, 0, []),
  (5, .iload_n 2, 1, 2, 0, 0, []),
  (6, .iload_n 3, 1, 3, 0, 0, []),
  (7, .invokevirtual 29, 3, 133, 4, 0, [(0, 1)]),
  (10, .i2l, 1, 0, 0, 0, []),
  (11, .lastore, 1, 0, 0, 0, []),
  (12, .goto 11, 3, 23, 0, 0, []),
  (15, .astore 5, 2, 5, 0, 0, []),
  (17, .iconst 1, 1, 0, 0, 1, []),
  (19, .astore 5, 2, 5, 0, 0, []),
  (21, .iconst 2, 1, 0, 0, 2, []),
  (23, .iconst 0, 1, 0, 0, 0, [])]
def pg_t143 : List (Nat × Nat) := [(18, 1), (22, 1), (24, 1)]
/-- 144: TicketTagLaw.word(LTicketTag;II[J)I -/
def pg_y144 : ev_M := (⟨"TicketTagLaw", "word", "(LTicketTag;II[J)I"⟩, method_11_code, 5, Option.some Jvm.ClassFile.FieldType.int, [(0, 10, 13, 47)], 7, 108)
def pg_c144 : List (Nat × ev_I) := [(0, .aload_n 3, 1, 3, 0, 0, []),
  (1, .iconst 0, 1, 0, 0, 0, []),
  (2, .aload_n 0, 1, 0, 0, 0, []),
  (3, .iload_n 1, 1, 1, 0, 0, []),
  (4, .iload_n 2, 1, 2, 0, 0, []),
  (5, .invokevirtual 43, 3, 134, 3, 0, [(0, 1)]),
  (8, .i2l, 1, 0, 0, 0, []),
  (9, .lastore, 1, 0, 0, 0, []),
  (10, .goto 7, 3, 17, 0, 0, []),
  (13, .astore 4, 2, 4, 0, 0, []),
  (15, .iconst 1, 1, 0, 0, 1, []),
  (17, .iconst 0, 1, 0, 0, 0, [])]
def pg_t144 : List (Nat × Nat) := [(16, 1), (18, 1)]
def pg_ml : List ev_M := [pg_y0, pg_y1, pg_y2, pg_y3, pg_y4, pg_y5, pg_y6, pg_y7, pg_y8, pg_y9, pg_y10, pg_y11, pg_y12, pg_y13, pg_y14, pg_y15, pg_y16, pg_y17, pg_y18, pg_y19, pg_y20, pg_y21, pg_y22, pg_y23, pg_y24, pg_y25, pg_y26, pg_y27, pg_y28, pg_y29, pg_y30, pg_y31, pg_y32, pg_y33, pg_y34, pg_y35, pg_y36, pg_y37, pg_y38, pg_y39, pg_y40, pg_y41, pg_y42, pg_y43, pg_y44, pg_y45, pg_y46, pg_y47, pg_y48, pg_y49, pg_y50, pg_y51, pg_y52, pg_y53, pg_y54, pg_y55, pg_y56, pg_y57, pg_y58, pg_y59, pg_y60, pg_y61, pg_y62, pg_y63, pg_y64, pg_y65, pg_y66, pg_y67, pg_y68, pg_y69, pg_y70, pg_y71, pg_y72, pg_y73, pg_y74, pg_y75, pg_y76, pg_y77, pg_y78, pg_y79, pg_y80, pg_y81, pg_y82, pg_y83, pg_y84, pg_y85, pg_y86, pg_y87, pg_y88, pg_y89, pg_y90, pg_y91, pg_y92, pg_y93, pg_y94, pg_y95, pg_y96, pg_y97, pg_y98, pg_y99, pg_y100, pg_y101, pg_y102, pg_y103, pg_y104, pg_y105, pg_y106, pg_y107, pg_y108, pg_y109, pg_y110, pg_y111, pg_y112, pg_y113, pg_y114, pg_y115, pg_y116, pg_y117, pg_y118, pg_y119, pg_y120, pg_y121, pg_y122, pg_y123, pg_y124, pg_y125, pg_y126, pg_y127, pg_y128, pg_y129, pg_y130, pg_y131, pg_y132, pg_y133, pg_y134, pg_y135, pg_y136, pg_y137, pg_y138, pg_y139, pg_y140, pg_y141, pg_y142, pg_y143, pg_y144]
def pg_mt (j : Nat) : Option ev_M := pg_ml[j]?
end
section
/-! THE PROGRAM: the words that the tables say -/
def ev_gw (w : Jvm.Cond) : Bool := match w with
  | .arrayClass _ => true
  | .methodLinkNest .. => true
  | .fieldLinkNest .. => true
  | .declares _ => true
  | .castable .. => true
  | .stringRef .. => true
  | w => w.onTables && w.keeps
theorem ev_gw_ok {w : Jvm.Cond} (h : ev_gw w = true) {A A' : Array Value} {u U : State} (hW : u.WarmedH U.vm) (hb : w.before A u = true) : w.before A' U = true := by
  unfold ev_gw at h
  split at h
  · exact word_at hW (Or.inr ⟨_, rfl⟩) hb
  · exact va_Nw.use rfl (va_Nw.warmM hW (va_Nw.of rfl hb))
  · exact va_Nw.use rfl (va_Nw.warmF hW (va_Nw.of rfl hb))
  · exact va_Nw.use rfl (va_Nw.warmD hW (va_Nw.of rfl hb))
  · have h1 := Cond.faceAtom_setVm (args := A) hW.alike _ rfl hb
    exact va_tabs rfl (rfl : (u.setVm U.vm).vm = U.vm) h1
  · have h1 := Cond.stringRef_warmed hW hb
    simp only [Cond.before, Cond.holds, Cond.value, State.names, State.poolOf?, State.resolvedAt?] at h1 ⊢
    exact h1
  · exact word_at hW (Or.inl h) hb
def pg_TB : List Jvm.Cond := lw_tbl.filter ev_gw
theorem pg_tb : ev_Tb pg_TB := fun w hw A A' u U hW hb => ev_gw_ok (List.mem_filter.mp hw).2 hW hb
end
section
/-! THE PROGRAM: the words that the tables say, by their kinds (laid by wip/gen/gen.py) -/
def pg_l_fieldLink : List Jvm.Cond := [(Jvm.Cond.fieldLink "TicketTag$Memory" (11 : Nat) "TicketTag$Memory" "words" "[I"), (Jvm.Cond.fieldLink "TicketTag$Memory" (15 : Nat) "TicketTag$Memory" "draft" "[I"), (Jvm.Cond.fieldLink "TicketTag$Memory" (18 : Nat) "TicketTag$Memory" "written" "I"), (Jvm.Cond.fieldLink "TicketTag$Memory" (22 : Nat) "TicketTag$Memory" "tears" "I"), (Jvm.Cond.fieldLink "TicketTag$Memory" (25 : Nat) "TicketTag$Memory" "near" "Z"), (Jvm.Cond.fieldLink "TicketTag$Memory" (29 : Nat) "TicketTag$Memory" "tearing" "Z"), (Jvm.Cond.fieldLink "TicketTag$Memory" (32 : Nat) "TicketTag$Memory" "wordsBeforeTear" "I"), (Jvm.Cond.fieldLink "TicketTag$Memory" (35 : Nat) "TicketTag$Memory" "junk" "I"), (Jvm.Cond.fieldLink "TicketTag" (10 : Nat) "TicketTag" "memory" "LTicketTag$Memory;"), (Jvm.Cond.fieldLink "TicketTag" (16 : Nat) "TicketTag" "clocks" "[I"), (Jvm.Cond.fieldLink "TicketTag" (20 : Nat) "TicketTag" "barring" "[Z"), (Jvm.Cond.fieldLink "TicketTag" (24 : Nat) "TicketTag" "dialogueGate" "I"), (Jvm.Cond.fieldLink "TicketTag" (28 : Nat) "TicketTag" "openRecord" "I"), (Jvm.Cond.fieldLink "TicketTag" (31 : Nat) "TicketTag" "refusal" "I"), (Jvm.Cond.fieldLink "java/lang/Throwable" (198 : Nat) "java/lang/Throwable" "backtrace" "Ljava/lang/Object;"), (Jvm.Cond.fieldLink "java/lang/Throwable" (13 : Nat) "java/lang/Throwable" "UNASSIGNED_STACK" "[Ljava/lang/StackTraceElement;"), (Jvm.Cond.fieldLink "java/lang/Throwable" (20 : Nat) "java/lang/Throwable" "SUPPRESSED_SENTINEL" "Ljava/util/List;"), (Jvm.Cond.fieldLink "java/lang/Throwable" (198 : Nat) "java/lang/Throwable" "backtrace" "Ljava/lang/Object;"), (Jvm.Cond.fieldLink "java/lang/Throwable" (31 : Nat) "java/lang/Throwable" "detailMessage" "Ljava/lang/String;"), (Jvm.Cond.fieldLink "java/lang/Throwable" (7 : Nat) "java/lang/Throwable" "cause" "Ljava/lang/Throwable;"), (Jvm.Cond.fieldLink "java/lang/Throwable" (17 : Nat) "java/lang/Throwable" "stackTrace" "[Ljava/lang/StackTraceElement;"), (Jvm.Cond.fieldLink "java/lang/Throwable" (24 : Nat) "java/lang/Throwable" "suppressedExceptions" "Ljava/util/List;"), (Jvm.Cond.fieldLink "TicketTagModel" (33 : Nat) "TicketTagModel" "thrown" "I"), (Jvm.Cond.fieldLink "TicketTagModel" (7 : Nat) "TicketTagModel" "words" "[I"), (Jvm.Cond.fieldLink "TicketTagModel" (13 : Nat) "TicketTagModel" "days" "[I"), (Jvm.Cond.fieldLink "TicketTagModel" (16 : Nat) "TicketTagModel" "minutes" "[I"), (Jvm.Cond.fieldLink "TicketTagModel" (19 : Nat) "TicketTagModel" "barred" "[Z"), (Jvm.Cond.fieldLink "TicketTagModel" (23 : Nat) "TicketTagModel" "gate" "I"), (Jvm.Cond.fieldLink "TicketTagModel" (111 : Nat) "TicketTagModel" "open" "Z"), (Jvm.Cond.fieldLink "TicketTagModel" (126 : Nat) "TicketTagModel" "reason" "I"), (Jvm.Cond.fieldLink "TicketTagModel" (27 : Nat) "TicketTagModel" "tear" "I"), (Jvm.Cond.fieldLink "TicketTagModel" (43 : Nat) "TicketTagModel" "junk" "I"), (Jvm.Cond.fieldLink "TicketTagModel" (36 : Nat) "TicketTagModel" "torn" "Z"), (Jvm.Cond.fieldLink "TicketTagModel" (40 : Nat) "TicketTagModel" "written" "I"), (Jvm.Cond.fieldLink "TicketTagModel" (46 : Nat) "TicketTagModel" "tears" "I"), (Jvm.Cond.fieldLink "TicketTagModel" (30 : Nat) "TicketTagModel" "record" "[I")]
theorem pg_i_fieldLink : (pg_l_fieldLink.all fun w => decide (w ∈ tables_1) && ev_gw w) = true := by decide +kernel
def pg_l_fieldLinkNest : List Jvm.Cond := []
theorem pg_i_fieldLinkNest : (pg_l_fieldLinkNest.all fun w => decide (w ∈ tables_1) && ev_gw w) = true := by decide +kernel
def pg_l_methodLink : List Jvm.Cond := [(Jvm.Cond.methodLink "TicketTagLaw" (49 : Nat) ({ cls := "TicketTag", name := "<init>", desc := "()V" } : Jvm.MethodName)), (Jvm.Cond.methodLink "TicketTag" (1 : Nat) ({ cls := "java/lang/Object", name := "<init>", desc := "()V" } : Jvm.MethodName)), (Jvm.Cond.methodLink "TicketTag$Memory" (3 : Nat) ({ cls := "java/lang/Object", name := "<init>", desc := "()V" } : Jvm.MethodName)), (Jvm.Cond.methodLink "TicketTagLaw" (82 : Nat) ({ cls := "TicketTag", name := "reason", desc := "()I" } : Jvm.MethodName)), (Jvm.Cond.methodLink "TicketTagLaw" (90 : Nat) ({ cls := "TicketTag", name := "away", desc := "()Z" } : Jvm.MethodName)), (Jvm.Cond.methodLink "TicketTagLaw" (95 : Nat) ({ cls := "TicketTag", name := "rides", desc := "()I" } : Jvm.MethodName)), (Jvm.Cond.methodLink "TicketTag" (54 : Nat) ({ cls := "TicketTag", name := "kindOfTag", desc := "()I" } : Jvm.MethodName)), (Jvm.Cond.methodLink "TicketTag" (139 : Nat) ({ cls := "TicketTag", name := "parameter", desc := "(I)I" } : Jvm.MethodName)), (Jvm.Cond.methodLink "TicketTag" (142 : Nat) ({ cls := "TicketTag", name := "bitsOn", desc := "()I" } : Jvm.MethodName)), (Jvm.Cond.methodLink "TicketTag" (203 : Nat) ({ cls := "java/lang/Integer", name := "bitCount", desc := "(I)I" } : Jvm.MethodName)), (Jvm.Cond.methodLink "TicketTag" (145 : Nat) ({ cls := "java/lang/Math", name := "max", desc := "(II)I" } : Jvm.MethodName)), (Jvm.Cond.methodLink "TicketTagLaw" (99 : Nat) ({ cls := "TicketTag", name := "cents", desc := "()I" } : Jvm.MethodName)), (Jvm.Cond.methodLink "TicketTag" (110 : Nat) ({ cls := "TicketTag", name := "latestValue", desc := "()I" } : Jvm.MethodName)), (Jvm.Cond.methodLink "TicketTag$Memory" (57 : Nat) ({ cls := "TicketTag$Memory", name := "twinOf", desc := "(II)I" } : Jvm.MethodName)), (Jvm.Cond.methodLink "TicketTag$Memory" (60 : Nat) ({ cls := "TicketTag$Memory", name := "isRight", desc := "(I)Z" } : Jvm.MethodName)), (Jvm.Cond.methodLink "TicketTag$Memory" (49 : Nat) ({ cls := "TicketTag$Memory", name := "at", desc := "(II)I" } : Jvm.MethodName)), (Jvm.Cond.methodLink "TicketTag$Memory" (53 : Nat) ({ cls := "TicketTag$Memory", name := "addToSum", desc := "(II)I" } : Jvm.MethodName)), (Jvm.Cond.methodLink "TicketTag" (117 : Nat) ({ cls := "TicketTag", name := "centsOf", desc := "(I)I" } : Jvm.MethodName)), (Jvm.Cond.methodLink "TicketTagLaw" (103 : Nat) ({ cls := "TicketTag", name := "capLeft", desc := "(I)I" } : Jvm.MethodName)), (Jvm.Cond.methodLink "TicketTag" (150 : Nat) ({ cls := "TicketTag", name := "capLeftBy", desc := "(II)I" } : Jvm.MethodName)), (Jvm.Cond.methodLink "TicketTag" (261 : Nat) ({ cls := "TicketTag", name := "chargedOn", desc := "(II)I" } : Jvm.MethodName)), (Jvm.Cond.methodLink "TicketTagLaw" (107 : Nat) ({ cls := "TicketTag", name := "journey", desc := "(II)I" } : Jvm.MethodName)), (Jvm.Cond.methodLink "TicketTag" (93 : Nat) ({ cls := "TicketTag", name := "lastRideRecord", desc := "()I" } : Jvm.MethodName)), (Jvm.Cond.methodLink "TicketTag" (279 : Nat) ({ cls := "TicketTag", name := "isVoid", desc := "(I)Z" } : Jvm.MethodName)), (Jvm.Cond.methodLink "TicketTag" (99 : Nat) ({ cls := "TicketTag", name := "codeOf", desc := "(I)I" } : Jvm.MethodName)), (Jvm.Cond.methodLink "TicketTag" (233 : Nat) ({ cls := "TicketTag", name := "counterOf", desc := "(I)I" } : Jvm.MethodName)), (Jvm.Cond.methodLink "TicketTag" (83 : Nat) ({ cls := "TicketTag", name := "isUpTo", desc := "(II)Z" } : Jvm.MethodName)), (Jvm.Cond.methodLink "TicketTag" (153 : Nat) ({ cls := "TicketTag", name := "numberOf", desc := "(I)I" } : Jvm.MethodName)), (Jvm.Cond.methodLink "TicketTag" (156 : Nat) ({ cls := "TicketTag", name := "journeyRecord", desc := "(I)I" } : Jvm.MethodName)), (Jvm.Cond.methodLink "TicketTag" (273 : Nat) ({ cls := "TicketTag", name := "journeyPlace", desc := "(I)I" } : Jvm.MethodName)), (Jvm.Cond.methodLink "TicketTag" (159 : Nat) ({ cls := "TicketTag", name := "lineOf", desc := "(I)I" } : Jvm.MethodName)), (Jvm.Cond.methodLink "TicketTag" (162 : Nat) ({ cls := "TicketTag", name := "zoneOf", desc := "(I)I" } : Jvm.MethodName)), (Jvm.Cond.methodLink "TicketTag" (165 : Nat) ({ cls := "TicketTag", name := "directionOf", desc := "(I)I" } : Jvm.MethodName)), (Jvm.Cond.methodLink "TicketTag" (168 : Nat) ({ cls := "TicketTag", name := "gateOf", desc := "(I)I" } : Jvm.MethodName)), (Jvm.Cond.methodLink "TicketTagLaw" (111 : Nat) ({ cls := "TicketTag", name := "lastRide", desc := "(I)I" } : Jvm.MethodName)), (Jvm.Cond.methodLink "TicketTag" (171 : Nat) ({ cls := "TicketTag", name := "beganMinuteOf", desc := "(I)I" } : Jvm.MethodName)), (Jvm.Cond.methodLink "TicketTag" (174 : Nat) ({ cls := "TicketTag", name := "usedOf", desc := "(I)I" } : Jvm.MethodName)), (Jvm.Cond.methodLink "TicketTag" (177 : Nat) ({ cls := "TicketTag", name := "isJourneyWanting", desc := "(I)Z" } : Jvm.MethodName)), (Jvm.Cond.methodLink "TicketTagLaw" (122 : Nat) ({ cls := "TicketTag", name := "count", desc := "(I)I" } : Jvm.MethodName)), (Jvm.Cond.methodLink "TicketTagLaw" (53 : Nat) ({ cls := "TicketTagLaw", name := "issue", desc := "(LTicketTag;IIII[J)I" } : Jvm.MethodName)), (Jvm.Cond.methodLink "TicketTagLaw" (7 : Nat) ({ cls := "TicketTag", name := "issue", desc := "(IIII)Z" } : Jvm.MethodName)), (Jvm.Cond.methodLink "TicketTag" (34 : Nat) ({ cls := "TicketTag", name := "isProduct", desc := "(IIII)Z" } : Jvm.MethodName)), (Jvm.Cond.methodLink "java/lang/Throwable" (1 : Nat) ({ cls := "java/lang/Object", name := "<init>", desc := "()V" } : Jvm.MethodName)), (Jvm.Cond.methodLink "java/lang/Throwable" (27 : Nat) ({ cls := "java/lang/Throwable", name := "fillInStackTrace", desc := "()Ljava/lang/Throwable;" } : Jvm.MethodName)), (Jvm.Cond.methodLink "java/lang/Throwable" (202 : Nat) ({ cls := "java/lang/Throwable", name := "fillInStackTrace", desc := "(I)Ljava/lang/Throwable;" } : Jvm.MethodName)), (Jvm.Cond.methodLink "TicketTag" (42 : Nat) ({ cls := "java/lang/IllegalArgumentException", name := "<init>", desc := "(Ljava/lang/String;)V" } : Jvm.MethodName)), (Jvm.Cond.methodLink "java/lang/IllegalArgumentException" (7 : Nat) ({ cls := "java/lang/RuntimeException", name := "<init>", desc := "(Ljava/lang/String;)V" } : Jvm.MethodName)), (Jvm.Cond.methodLink "java/lang/RuntimeException" (7 : Nat) ({ cls := "java/lang/Exception", name := "<init>", desc := "(Ljava/lang/String;)V" } : Jvm.MethodName)), (Jvm.Cond.methodLink "java/lang/Exception" (7 : Nat) ({ cls := "java/lang/Throwable", name := "<init>", desc := "(Ljava/lang/String;)V" } : Jvm.MethodName)), (Jvm.Cond.methodLink "TicketTag" (53 : Nat) ({ cls := "java/lang/IllegalStateException", name := "<init>", desc := "(Ljava/lang/String;)V" } : Jvm.MethodName)), (Jvm.Cond.methodLink "java/lang/IllegalStateException" (7 : Nat) ({ cls := "java/lang/RuntimeException", name := "<init>", desc := "(Ljava/lang/String;)V" } : Jvm.MethodName)), (Jvm.Cond.methodLink "TicketTag" (58 : Nat) ({ cls := "TicketTag", name := "writeProduct", desc := "(IIII)V" } : Jvm.MethodName)), (Jvm.Cond.methodLink "TicketTag$Memory" (38 : Nat) ({ cls := "TicketTag$Memory", name := "isTearDue", desc := "()Z" } : Jvm.MethodName)), (Jvm.Cond.methodLink "TicketTag$Memory" (42 : Nat) ({ cls := "TicketTag$Memory", name := "goAway", desc := "()V" } : Jvm.MethodName)), (Jvm.Cond.methodLink "TicketTag" (123 : Nat) ({ cls := "TicketTag", name := "draftValue", desc := "(III)V" } : Jvm.MethodName)), (Jvm.Cond.methodLink "TicketTag$Memory" (64 : Nat) ({ cls := "TicketTag$Memory", name := "latestOf", desc := "(I)I" } : Jvm.MethodName)), (Jvm.Cond.methodLink "TicketTag$Memory" (68 : Nat) ({ cls := "TicketTag$Memory", name := "writeDraft", desc := "(II)Z" } : Jvm.MethodName)), (Jvm.Cond.methodLink "TicketTag$Memory" (45 : Nat) ({ cls := "TicketTag$Memory", name := "write", desc := "(III)Z" } : Jvm.MethodName)), (Jvm.Cond.methodLink "TicketTagLaw" (63 : Nat) ({ cls := "TicketTagLaw", name := "setClock", desc := "(LTicketTag;III)I" } : Jvm.MethodName)), (Jvm.Cond.methodLink "TicketTagLaw" (17 : Nat) ({ cls := "TicketTag", name := "setClock", desc := "(III)V" } : Jvm.MethodName)), (Jvm.Cond.methodLink "TicketTag" (62 : Nat) ({ cls := "TicketTag", name := "isGate", desc := "(I)Z" } : Jvm.MethodName)), (Jvm.Cond.methodLink "TicketTag" (66 : Nat) ({ cls := "TicketTag", name := "isTime", desc := "(II)Z" } : Jvm.MethodName)), (Jvm.Cond.methodLink "TicketTagLaw" (67 : Nat) ({ cls := "TicketTagLaw", name := "bar", desc := "(LTicketTag;IZ)I" } : Jvm.MethodName)), (Jvm.Cond.methodLink "TicketTagLaw" (21 : Nat) ({ cls := "TicketTag", name := "bar", desc := "(IZ)V" } : Jvm.MethodName)), (Jvm.Cond.methodLink "TicketTagLaw" (71 : Nat) ({ cls := "TicketTagLaw", name := "present", desc := "(LTicketTag;I[J)I" } : Jvm.MethodName)), (Jvm.Cond.methodLink "TicketTagLaw" (25 : Nat) ({ cls := "TicketTag", name := "present", desc := "(I)I" } : Jvm.MethodName)), (Jvm.Cond.methodLink "TicketTag" (77 : Nat) ({ cls := "TicketTag", name := "takeBackVoidRide", desc := "()Z" } : Jvm.MethodName)), (Jvm.Cond.methodLink "TicketTag" (80 : Nat) ({ cls := "TicketTag", name := "finishLastRide", desc := "()Z" } : Jvm.MethodName)), (Jvm.Cond.methodLink "TicketTag" (246 : Nat) ({ cls := "TicketTag", name := "writeJourneyOf", desc := "(I)Z" } : Jvm.MethodName)), (Jvm.Cond.methodLink "TicketTag" (270 : Nat) ({ cls := "TicketTag", name := "rodeAt", desc := "(I)I" } : Jvm.MethodName)), (Jvm.Cond.methodLink "TicketTag" (230 : Nat) ({ cls := "TicketTag", name := "beganAt", desc := "(I)I" } : Jvm.MethodName)), (Jvm.Cond.methodLink "TicketTagLaw" (75 : Nat) ({ cls := "TicketTagLaw", name := "validate", desc := "(LTicketTag;III[J)I" } : Jvm.MethodName)), (Jvm.Cond.methodLink "TicketTagLaw" (29 : Nat) ({ cls := "TicketTag", name := "validate", desc := "(III)I" } : Jvm.MethodName)), (Jvm.Cond.methodLink "TicketTag" (90 : Nat) ({ cls := "TicketTag", name := "reasonAtGate", desc := "()I" } : Jvm.MethodName)), (Jvm.Cond.methodLink "TicketTag" (96 : Nat) ({ cls := "TicketTag", name := "isOpenFor", desc := "(II)Z" } : Jvm.MethodName)), (Jvm.Cond.methodLink "TicketTag" (227 : Nat) ({ cls := "TicketTag", name := "now", desc := "()I" } : Jvm.MethodName)), (Jvm.Cond.methodLink "TicketTag" (103 : Nat) ({ cls := "TicketTag", name := "takeRide", desc := "(IIII)I" } : Jvm.MethodName)), (Jvm.Cond.methodLink "TicketTag" (208 : Nat) ({ cls := "TicketTag", name := "isFreeAfter", desc := "(II)Z" } : Jvm.MethodName)), (Jvm.Cond.methodLink "TicketTag" (185 : Nat) ({ cls := "TicketTag", name := "beganWithin", desc := "(III)Z" } : Jvm.MethodName)), (Jvm.Cond.methodLink "TicketTag" (211 : Nat) ({ cls := "TicketTag", name := "rideFree", desc := "(III)I" } : Jvm.MethodName)), (Jvm.Cond.methodLink "TicketTag" (236 : Nat) ({ cls := "TicketTag", name := "manner", desc := "(II)I" } : Jvm.MethodName)), (Jvm.Cond.methodLink "TicketTag" (243 : Nat) ({ cls := "TicketTag", name := "newestRide", desc := "()I" } : Jvm.MethodName)), (Jvm.Cond.methodLink "TicketTag" (215 : Nat) ({ cls := "TicketTag", name := "rideOnPass", desc := "(III)I" } : Jvm.MethodName)), (Jvm.Cond.methodLink "TicketTag" (182 : Nat) ({ cls := "TicketTag", name := "reasonByPass", desc := "(II)I" } : Jvm.MethodName)), (Jvm.Cond.methodLink "TicketTag" (249 : Nat) ({ cls := "TicketTag", name := "refuse", desc := "(I)I" } : Jvm.MethodName)), (Jvm.Cond.methodLink "TicketTag" (252 : Nat) ({ cls := "TicketTag", name := "draftNewTransfer", desc := "(IIII)V" } : Jvm.MethodName)), (Jvm.Cond.methodLink "TicketTag" (218 : Nat) ({ cls := "TicketTag", name := "rideOnCarnet", desc := "(II)I" } : Jvm.MethodName)), (Jvm.Cond.methodLink "TicketTag" (255 : Nat) ({ cls := "TicketTag", name := "writeNextBit", desc := "()Z" } : Jvm.MethodName)), (Jvm.Cond.methodLink "TicketTag" (221 : Nat) ({ cls := "TicketTag", name := "fare", desc := "(II)I" } : Jvm.MethodName)), (Jvm.Cond.methodLink "TicketTag" (224 : Nat) ({ cls := "TicketTag", name := "rideOnPurse", desc := "(III)I" } : Jvm.MethodName)), (Jvm.Cond.methodLink "TicketTag" (258 : Nat) ({ cls := "TicketTag", name := "chargeBy", desc := "(III)I" } : Jvm.MethodName)), (Jvm.Cond.methodLink "TicketTag" (264 : Nat) ({ cls := "java/lang/Math", name := "min", desc := "(II)I" } : Jvm.MethodName)), (Jvm.Cond.methodLink "TicketTagLaw" (79 : Nat) ({ cls := "TicketTagLaw", name := "topUp", desc := "(LTicketTag;I[J)I" } : Jvm.MethodName)), (Jvm.Cond.methodLink "TicketTagLaw" (33 : Nat) ({ cls := "TicketTag", name := "topUp", desc := "(I)I" } : Jvm.MethodName)), (Jvm.Cond.methodLink "TicketTag" (113 : Nat) ({ cls := "TicketTag", name := "reasonAgainstTopUp", desc := "(II)I" } : Jvm.MethodName)), (Jvm.Cond.methodLink "TicketTagLaw" (86 : Nat) ({ cls := "TicketTagLaw", name := "tearAfter", desc := "(LTicketTag;II)I" } : Jvm.MethodName)), (Jvm.Cond.methodLink "TicketTagLaw" (36 : Nat) ({ cls := "TicketTag", name := "tearAfter", desc := "(II)V" } : Jvm.MethodName)), (Jvm.Cond.methodLink "TicketTagLaw" (115 : Nat) ({ cls := "TicketTagLaw", name := "inspect", desc := "(LTicketTag;III[J)I" } : Jvm.MethodName)), (Jvm.Cond.methodLink "TicketTagLaw" (40 : Nat) ({ cls := "TicketTag", name := "inspect", desc := "(III)I" } : Jvm.MethodName)), (Jvm.Cond.methodLink "TicketTagLaw" (118 : Nat) ({ cls := "TicketTagLaw", name := "word", desc := "(LTicketTag;II[J)I" } : Jvm.MethodName)), (Jvm.Cond.methodLink "TicketTagLaw" (43 : Nat) ({ cls := "TicketTag", name := "word", desc := "(II)I" } : Jvm.MethodName)), (Jvm.Cond.methodLink "TicketTag" (193 : Nat) ({ cls := "java/lang/IndexOutOfBoundsException", name := "<init>", desc := "(Ljava/lang/String;)V" } : Jvm.MethodName)), (Jvm.Cond.methodLink "java/lang/IndexOutOfBoundsException" (7 : Nat) ({ cls := "java/lang/RuntimeException", name := "<init>", desc := "(Ljava/lang/String;)V" } : Jvm.MethodName)), (Jvm.Cond.methodLink "TicketTagLaw" (52 : Nat) ({ cls := "TicketTagModel", name := "<init>", desc := "()V" } : Jvm.MethodName)), (Jvm.Cond.methodLink "TicketTagModel" (1 : Nat) ({ cls := "java/lang/Object", name := "<init>", desc := "()V" } : Jvm.MethodName)), (Jvm.Cond.methodLink "TicketTagLaw" (59 : Nat) ({ cls := "TicketTagModel", name := "thrown", desc := "()I" } : Jvm.MethodName)), (Jvm.Cond.methodLink "TicketTagLaw" (58 : Nat) ({ cls := "TicketTagModel", name := "issue", desc := "(IIII)Z" } : Jvm.MethodName)), (Jvm.Cond.methodLink "TicketTagModel" (97 : Nat) ({ cls := "TicketTagModel", name := "isProduct", desc := "(IIII)Z" } : Jvm.MethodName)), (Jvm.Cond.methodLink "TicketTagModel" (93 : Nat) ({ cls := "TicketTagModel", name := "isIn", desc := "(III)Z" } : Jvm.MethodName)), (Jvm.Cond.methodLink "TicketTagModel" (101 : Nat) ({ cls := "TicketTagModel", name := "fails", desc := "(IZ)Z" } : Jvm.MethodName)), (Jvm.Cond.methodLink "TicketTagModel" (74 : Nat) ({ cls := "TicketTagModel", name := "kind", desc := "()I" } : Jvm.MethodName)), (Jvm.Cond.methodLink "TicketTagModel" (50 : Nat) ({ cls := "TicketTagModel", name := "at", desc := "(II)I" } : Jvm.MethodName)), (Jvm.Cond.methodLink "TicketTagModel" (62 : Nat) ({ cls := "TicketTagModel", name := "write", desc := "(III)V" } : Jvm.MethodName)), (Jvm.Cond.methodLink "TicketTagModel" (105 : Nat) ({ cls := "TicketTagModel", name := "clear", desc := "()V" } : Jvm.MethodName)), (Jvm.Cond.methodLink "TicketTagModel" (108 : Nat) ({ cls := "TicketTagModel", name := "writeTwin", desc := "(I)V" } : Jvm.MethodName)), (Jvm.Cond.methodLink "TicketTagModel" (66 : Nat) ({ cls := "TicketTagModel", name := "latest", desc := "(I)I" } : Jvm.MethodName)), (Jvm.Cond.methodLink "TicketTagModel" (57 : Nat) ({ cls := "TicketTagModel", name := "isRight", desc := "(I)Z" } : Jvm.MethodName)), (Jvm.Cond.methodLink "TicketTagModel" (54 : Nat) ({ cls := "TicketTagModel", name := "add", desc := "(II)I" } : Jvm.MethodName)), (Jvm.Cond.methodLink "TicketTagModel" (70 : Nat) ({ cls := "TicketTagModel", name := "writeRecord", desc := "(I)V" } : Jvm.MethodName)), (Jvm.Cond.methodLink "TicketTagLaw" (66 : Nat) ({ cls := "TicketTagModel", name := "setClock", desc := "(III)V" } : Jvm.MethodName)), (Jvm.Cond.methodLink "TicketTagLaw" (70 : Nat) ({ cls := "TicketTagModel", name := "bar", desc := "(IZ)V" } : Jvm.MethodName)), (Jvm.Cond.methodLink "TicketTagLaw" (74 : Nat) ({ cls := "TicketTagModel", name := "present", desc := "(I)I" } : Jvm.MethodName)), (Jvm.Cond.methodLink "TicketTagModel" (81 : Nat) ({ cls := "TicketTagModel", name := "isVoid", desc := "(I)Z" } : Jvm.MethodName)), (Jvm.Cond.methodLink "TicketTagModel" (78 : Nat) ({ cls := "TicketTagModel", name := "ridesTaken", desc := "()I" } : Jvm.MethodName)), (Jvm.Cond.methodLink "TicketTagModel" (114 : Nat) ({ cls := "TicketTagModel", name := "lastBlock", desc := "()I" } : Jvm.MethodName)), (Jvm.Cond.methodLink "TicketTagModel" (117 : Nat) ({ cls := "TicketTagModel", name := "hasJourney", desc := "(I)Z" } : Jvm.MethodName)), (Jvm.Cond.methodLink "TicketTagModel" (84 : Nat) ({ cls := "TicketTagModel", name := "placeOf", desc := "(I)I" } : Jvm.MethodName)), (Jvm.Cond.methodLink "TicketTagModel" (120 : Nat) ({ cls := "TicketTagModel", name := "writeJourney", desc := "(I)V" } : Jvm.MethodName)), (Jvm.Cond.methodLink "TicketTagModel" (87 : Nat) ({ cls := "TicketTagModel", name := "began", desc := "(I)I" } : Jvm.MethodName)), (Jvm.Cond.methodLink "TicketTagModel" (90 : Nat) ({ cls := "TicketTagModel", name := "used", desc := "(I)I" } : Jvm.MethodName)), (Jvm.Cond.methodLink "TicketTagLaw" (78 : Nat) ({ cls := "TicketTagModel", name := "validate", desc := "(III)I" } : Jvm.MethodName)), (Jvm.Cond.methodLink "TicketTagModel" (129 : Nat) ({ cls := "TicketTagModel", name := "refuse", desc := "(I)I" } : Jvm.MethodName)), (Jvm.Cond.methodLink "TicketTagModel" (123 : Nat) ({ cls := "TicketTagModel", name := "now", desc := "()I" } : Jvm.MethodName)), (Jvm.Cond.methodLink "TicketTagModel" (132 : Nat) ({ cls := "TicketTagModel", name := "isWithin", desc := "(III)Z" } : Jvm.MethodName)), (Jvm.Cond.methodLink "TicketTagModel" (135 : Nat) ({ cls := "TicketTagModel", name := "ride", desc := "(IIIIIIII)V" } : Jvm.MethodName)), (Jvm.Cond.methodLink "TicketTagModel" (139 : Nat) ({ cls := "TicketTagModel", name := "done", desc := "(I)I" } : Jvm.MethodName)), (Jvm.Cond.methodLink "TicketTagModel" (142 : Nat) ({ cls := "TicketTagModel", name := "pass", desc := "(III)I" } : Jvm.MethodName)), (Jvm.Cond.methodLink "TicketTagModel" (146 : Nat) ({ cls := "TicketTagModel", name := "carnet", desc := "(III)I" } : Jvm.MethodName)), (Jvm.Cond.methodLink "TicketTagModel" (149 : Nat) ({ cls := "TicketTagModel", name := "purse", desc := "(IIII)I" } : Jvm.MethodName)), (Jvm.Cond.methodLink "TicketTagModel" (153 : Nat) ({ cls := "TicketTagModel", name := "left", desc := "(II)I" } : Jvm.MethodName)), (Jvm.Cond.methodLink "TicketTagModel" (156 : Nat) ({ cls := "TicketTagModel", name := "less", desc := "(II)I" } : Jvm.MethodName)), (Jvm.Cond.methodLink "TicketTagLaw" (81 : Nat) ({ cls := "TicketTagModel", name := "topUp", desc := "(I)I" } : Jvm.MethodName)), (Jvm.Cond.methodLink "TicketTagLaw" (85 : Nat) ({ cls := "TicketTagModel", name := "reason", desc := "()I" } : Jvm.MethodName)), (Jvm.Cond.methodLink "TicketTagLaw" (89 : Nat) ({ cls := "TicketTagModel", name := "tearAfter", desc := "(II)V" } : Jvm.MethodName)), (Jvm.Cond.methodLink "TicketTagLaw" (94 : Nat) ({ cls := "TicketTagModel", name := "away", desc := "()Z" } : Jvm.MethodName)), (Jvm.Cond.methodLink "TicketTagLaw" (98 : Nat) ({ cls := "TicketTagModel", name := "rides", desc := "()I" } : Jvm.MethodName)), (Jvm.Cond.methodLink "TicketTagLaw" (102 : Nat) ({ cls := "TicketTagModel", name := "cents", desc := "()I" } : Jvm.MethodName)), (Jvm.Cond.methodLink "TicketTagLaw" (106 : Nat) ({ cls := "TicketTagModel", name := "capLeft", desc := "(I)I" } : Jvm.MethodName)), (Jvm.Cond.methodLink "TicketTagLaw" (110 : Nat) ({ cls := "TicketTagModel", name := "journey", desc := "(II)I" } : Jvm.MethodName)), (Jvm.Cond.methodLink "TicketTagLaw" (114 : Nat) ({ cls := "TicketTagModel", name := "lastRide", desc := "(I)I" } : Jvm.MethodName)), (Jvm.Cond.methodLink "TicketTagLaw" (117 : Nat) ({ cls := "TicketTagModel", name := "inspect", desc := "(III)I" } : Jvm.MethodName)), (Jvm.Cond.methodLink "TicketTagLaw" (121 : Nat) ({ cls := "TicketTagModel", name := "word", desc := "(II)I" } : Jvm.MethodName)), (Jvm.Cond.methodLink "TicketTagLaw" (125 : Nat) ({ cls := "TicketTagModel", name := "count", desc := "(I)I" } : Jvm.MethodName))]
theorem pg_i_methodLink : (pg_l_methodLink.all fun w => decide (w ∈ tables_1) && ev_gw w) = true := by decide +kernel
def pg_l_methodLinkNest : List Jvm.Cond := [(Jvm.Cond.methodLinkNest "TicketTag" (9 : Nat) ({ cls := "TicketTag$Memory", name := "<init>", desc := "()V" } : Jvm.MethodName) "TicketTag"), (Jvm.Cond.methodLinkNest "TicketTag" (45 : Nat) ({ cls := "TicketTag$Memory", name := "isNear", desc := "()Z" } : Jvm.MethodName) "TicketTag"), (Jvm.Cond.methodLinkNest "TicketTag" (136 : Nat) ({ cls := "TicketTag$Memory", name := "goAway", desc := "()V" } : Jvm.MethodName) "TicketTag"), (Jvm.Cond.methodLinkNest "TicketTag" (120 : Nat) ({ cls := "TicketTag$Memory", name := "at", desc := "(II)I" } : Jvm.MethodName) "TicketTag"), (Jvm.Cond.methodLinkNest "TicketTag" (267 : Nat) ({ cls := "TicketTag$Memory", name := "latestOf", desc := "(I)I" } : Jvm.MethodName) "TicketTag"), (Jvm.Cond.methodLinkNest "TicketTag" (285 : Nat) ({ cls := "TicketTag$Memory", name := "twinOf", desc := "(II)I" } : Jvm.MethodName) "TicketTag"), (Jvm.Cond.methodLinkNest "TicketTag" (288 : Nat) ({ cls := "TicketTag$Memory", name := "isRight", desc := "(I)Z" } : Jvm.MethodName) "TicketTag"), (Jvm.Cond.methodLinkNest "TicketTag" (194 : Nat) ({ cls := "TicketTag$Memory", name := "wordsWritten", desc := "()I" } : Jvm.MethodName) "TicketTag"), (Jvm.Cond.methodLinkNest "TicketTag" (197 : Nat) ({ cls := "TicketTag$Memory", name := "timesTorn", desc := "()I" } : Jvm.MethodName) "TicketTag"), (Jvm.Cond.methodLinkNest "TicketTag" (200 : Nat) ({ cls := "TicketTag$Memory", name := "write", desc := "(III)Z" } : Jvm.MethodName) "TicketTag"), (Jvm.Cond.methodLinkNest "TicketTag" (239 : Nat) ({ cls := "TicketTag$Memory", name := "draft", desc := "(IIIIII)V" } : Jvm.MethodName) "TicketTag"), (Jvm.Cond.methodLinkNest "TicketTag" (127 : Nat) ({ cls := "TicketTag$Memory", name := "writeTwin", desc := "(I)Z" } : Jvm.MethodName) "TicketTag"), (Jvm.Cond.methodLinkNest "TicketTag" (74 : Nat) ({ cls := "TicketTag$Memory", name := "comeNear", desc := "()V" } : Jvm.MethodName) "TicketTag"), (Jvm.Cond.methodLinkNest "TicketTag" (282 : Nat) ({ cls := "TicketTag$Memory", name := "erase", desc := "(I)Z" } : Jvm.MethodName) "TicketTag"), (Jvm.Cond.methodLinkNest "TicketTag" (276 : Nat) ({ cls := "TicketTag$Memory", name := "writeDraft", desc := "(II)Z" } : Jvm.MethodName) "TicketTag"), (Jvm.Cond.methodLinkNest "TicketTag" (132 : Nat) ({ cls := "TicketTag$Memory", name := "planTear", desc := "(II)V" } : Jvm.MethodName) "TicketTag")]
theorem pg_i_methodLinkNest : (pg_l_methodLinkNest.all fun w => decide (w ∈ tables_1) && ev_gw w) = true := by decide +kernel
def pg_l_instanceMethod : List Jvm.Cond := [(Jvm.Cond.instanceMethod ({ cls := "TicketTag", name := "<init>", desc := "()V" } : Jvm.MethodName)), (Jvm.Cond.instanceMethod ({ cls := "java/lang/Object", name := "<init>", desc := "()V" } : Jvm.MethodName)), (Jvm.Cond.instanceMethod ({ cls := "TicketTag$Memory", name := "<init>", desc := "()V" } : Jvm.MethodName)), (Jvm.Cond.instanceMethod ({ cls := "TicketTag", name := "reason", desc := "()I" } : Jvm.MethodName)), (Jvm.Cond.instanceMethod ({ cls := "TicketTag", name := "away", desc := "()Z" } : Jvm.MethodName)), (Jvm.Cond.instanceMethod ({ cls := "TicketTag$Memory", name := "isNear", desc := "()Z" } : Jvm.MethodName)), (Jvm.Cond.instanceMethod ({ cls := "TicketTag$Memory", name := "goAway", desc := "()V" } : Jvm.MethodName)), (Jvm.Cond.instanceMethod ({ cls := "TicketTag", name := "rides", desc := "()I" } : Jvm.MethodName)), (Jvm.Cond.instanceMethod ({ cls := "TicketTag", name := "kindOfTag", desc := "()I" } : Jvm.MethodName)), (Jvm.Cond.instanceMethod ({ cls := "TicketTag$Memory", name := "at", desc := "(II)I" } : Jvm.MethodName)), (Jvm.Cond.instanceMethod ({ cls := "TicketTag", name := "parameter", desc := "(I)I" } : Jvm.MethodName)), (Jvm.Cond.instanceMethod ({ cls := "TicketTag", name := "bitsOn", desc := "()I" } : Jvm.MethodName)), (Jvm.Cond.instanceMethod ({ cls := "TicketTag", name := "cents", desc := "()I" } : Jvm.MethodName)), (Jvm.Cond.instanceMethod ({ cls := "TicketTag", name := "latestValue", desc := "()I" } : Jvm.MethodName)), (Jvm.Cond.instanceMethod ({ cls := "TicketTag$Memory", name := "latestOf", desc := "(I)I" } : Jvm.MethodName)), (Jvm.Cond.instanceMethod ({ cls := "TicketTag$Memory", name := "isRight", desc := "(I)Z" } : Jvm.MethodName)), (Jvm.Cond.instanceMethod ({ cls := "TicketTag", name := "centsOf", desc := "(I)I" } : Jvm.MethodName)), (Jvm.Cond.instanceMethod ({ cls := "TicketTag", name := "capLeft", desc := "(I)I" } : Jvm.MethodName)), (Jvm.Cond.instanceMethod ({ cls := "TicketTag", name := "capLeftBy", desc := "(II)I" } : Jvm.MethodName)), (Jvm.Cond.instanceMethod ({ cls := "TicketTag", name := "chargedOn", desc := "(II)I" } : Jvm.MethodName)), (Jvm.Cond.instanceMethod ({ cls := "TicketTag", name := "journey", desc := "(II)I" } : Jvm.MethodName)), (Jvm.Cond.instanceMethod ({ cls := "TicketTag", name := "lastRideRecord", desc := "()I" } : Jvm.MethodName)), (Jvm.Cond.instanceMethod ({ cls := "TicketTag", name := "isVoid", desc := "(I)Z" } : Jvm.MethodName)), (Jvm.Cond.instanceMethod ({ cls := "TicketTag", name := "codeOf", desc := "(I)I" } : Jvm.MethodName)), (Jvm.Cond.instanceMethod ({ cls := "TicketTag", name := "counterOf", desc := "(I)I" } : Jvm.MethodName)), (Jvm.Cond.instanceMethod ({ cls := "TicketTag", name := "numberOf", desc := "(I)I" } : Jvm.MethodName)), (Jvm.Cond.instanceMethod ({ cls := "TicketTag", name := "journeyRecord", desc := "(I)I" } : Jvm.MethodName)), (Jvm.Cond.instanceMethod ({ cls := "TicketTag", name := "lineOf", desc := "(I)I" } : Jvm.MethodName)), (Jvm.Cond.instanceMethod ({ cls := "TicketTag", name := "zoneOf", desc := "(I)I" } : Jvm.MethodName)), (Jvm.Cond.instanceMethod ({ cls := "TicketTag", name := "directionOf", desc := "(I)I" } : Jvm.MethodName)), (Jvm.Cond.instanceMethod ({ cls := "TicketTag", name := "gateOf", desc := "(I)I" } : Jvm.MethodName)), (Jvm.Cond.instanceMethod ({ cls := "TicketTag", name := "lastRide", desc := "(I)I" } : Jvm.MethodName)), (Jvm.Cond.instanceMethod ({ cls := "TicketTag", name := "beganMinuteOf", desc := "(I)I" } : Jvm.MethodName)), (Jvm.Cond.instanceMethod ({ cls := "TicketTag", name := "usedOf", desc := "(I)I" } : Jvm.MethodName)), (Jvm.Cond.instanceMethod ({ cls := "TicketTag", name := "isJourneyWanting", desc := "(I)Z" } : Jvm.MethodName)), (Jvm.Cond.instanceMethod ({ cls := "TicketTag", name := "count", desc := "(I)I" } : Jvm.MethodName)), (Jvm.Cond.instanceMethod ({ cls := "TicketTag$Memory", name := "wordsWritten", desc := "()I" } : Jvm.MethodName)), (Jvm.Cond.instanceMethod ({ cls := "TicketTag$Memory", name := "timesTorn", desc := "()I" } : Jvm.MethodName)), (Jvm.Cond.instanceMethod ({ cls := "TicketTag", name := "issue", desc := "(IIII)Z" } : Jvm.MethodName)), (Jvm.Cond.instanceMethod ({ cls := "java/lang/Throwable", name := "<init>", desc := "()V" } : Jvm.MethodName)), (Jvm.Cond.instanceMethod ({ cls := "java/lang/Throwable", name := "fillInStackTrace", desc := "()Ljava/lang/Throwable;" } : Jvm.MethodName)), (Jvm.Cond.instanceMethod ({ cls := "java/lang/Throwable", name := "fillInStackTrace", desc := "(I)Ljava/lang/Throwable;" } : Jvm.MethodName)), (Jvm.Cond.instanceMethod ({ cls := "java/lang/IllegalArgumentException", name := "<init>", desc := "(Ljava/lang/String;)V" } : Jvm.MethodName)), (Jvm.Cond.instanceMethod ({ cls := "java/lang/RuntimeException", name := "<init>", desc := "(Ljava/lang/String;)V" } : Jvm.MethodName)), (Jvm.Cond.instanceMethod ({ cls := "java/lang/Exception", name := "<init>", desc := "(Ljava/lang/String;)V" } : Jvm.MethodName)), (Jvm.Cond.instanceMethod ({ cls := "java/lang/Throwable", name := "<init>", desc := "(Ljava/lang/String;)V" } : Jvm.MethodName)), (Jvm.Cond.instanceMethod ({ cls := "java/lang/IllegalStateException", name := "<init>", desc := "(Ljava/lang/String;)V" } : Jvm.MethodName)), (Jvm.Cond.instanceMethod ({ cls := "TicketTag", name := "writeProduct", desc := "(IIII)V" } : Jvm.MethodName)), (Jvm.Cond.instanceMethod ({ cls := "TicketTag$Memory", name := "write", desc := "(III)Z" } : Jvm.MethodName)), (Jvm.Cond.instanceMethod ({ cls := "TicketTag$Memory", name := "isTearDue", desc := "()Z" } : Jvm.MethodName)), (Jvm.Cond.instanceMethod ({ cls := "TicketTag", name := "draftValue", desc := "(III)V" } : Jvm.MethodName)), (Jvm.Cond.instanceMethod ({ cls := "TicketTag$Memory", name := "draft", desc := "(IIIIII)V" } : Jvm.MethodName)), (Jvm.Cond.instanceMethod ({ cls := "TicketTag$Memory", name := "writeTwin", desc := "(I)Z" } : Jvm.MethodName)), (Jvm.Cond.instanceMethod ({ cls := "TicketTag$Memory", name := "writeDraft", desc := "(II)Z" } : Jvm.MethodName)), (Jvm.Cond.instanceMethod ({ cls := "TicketTag", name := "setClock", desc := "(III)V" } : Jvm.MethodName)), (Jvm.Cond.instanceMethod ({ cls := "TicketTag", name := "bar", desc := "(IZ)V" } : Jvm.MethodName)), (Jvm.Cond.instanceMethod ({ cls := "TicketTag", name := "present", desc := "(I)I" } : Jvm.MethodName)), (Jvm.Cond.instanceMethod ({ cls := "TicketTag$Memory", name := "comeNear", desc := "()V" } : Jvm.MethodName)), (Jvm.Cond.instanceMethod ({ cls := "TicketTag", name := "takeBackVoidRide", desc := "()Z" } : Jvm.MethodName)), (Jvm.Cond.instanceMethod ({ cls := "TicketTag$Memory", name := "erase", desc := "(I)Z" } : Jvm.MethodName)), (Jvm.Cond.instanceMethod ({ cls := "TicketTag", name := "finishLastRide", desc := "()Z" } : Jvm.MethodName)), (Jvm.Cond.instanceMethod ({ cls := "TicketTag", name := "writeJourneyOf", desc := "(I)Z" } : Jvm.MethodName)), (Jvm.Cond.instanceMethod ({ cls := "TicketTag", name := "rodeAt", desc := "(I)I" } : Jvm.MethodName)), (Jvm.Cond.instanceMethod ({ cls := "TicketTag", name := "beganAt", desc := "(I)I" } : Jvm.MethodName)), (Jvm.Cond.instanceMethod ({ cls := "TicketTag", name := "validate", desc := "(III)I" } : Jvm.MethodName)), (Jvm.Cond.instanceMethod ({ cls := "TicketTag", name := "reasonAtGate", desc := "()I" } : Jvm.MethodName)), (Jvm.Cond.instanceMethod ({ cls := "TicketTag", name := "isOpenFor", desc := "(II)Z" } : Jvm.MethodName)), (Jvm.Cond.instanceMethod ({ cls := "TicketTag", name := "now", desc := "()I" } : Jvm.MethodName)), (Jvm.Cond.instanceMethod ({ cls := "TicketTag", name := "takeRide", desc := "(IIII)I" } : Jvm.MethodName)), (Jvm.Cond.instanceMethod ({ cls := "TicketTag", name := "isFreeAfter", desc := "(II)Z" } : Jvm.MethodName)), (Jvm.Cond.instanceMethod ({ cls := "TicketTag", name := "beganWithin", desc := "(III)Z" } : Jvm.MethodName)), (Jvm.Cond.instanceMethod ({ cls := "TicketTag", name := "rideFree", desc := "(III)I" } : Jvm.MethodName)), (Jvm.Cond.instanceMethod ({ cls := "TicketTag", name := "manner", desc := "(II)I" } : Jvm.MethodName)), (Jvm.Cond.instanceMethod ({ cls := "TicketTag", name := "newestRide", desc := "()I" } : Jvm.MethodName)), (Jvm.Cond.instanceMethod ({ cls := "TicketTag", name := "rideOnPass", desc := "(III)I" } : Jvm.MethodName)), (Jvm.Cond.instanceMethod ({ cls := "TicketTag", name := "reasonByPass", desc := "(II)I" } : Jvm.MethodName)), (Jvm.Cond.instanceMethod ({ cls := "TicketTag", name := "refuse", desc := "(I)I" } : Jvm.MethodName)), (Jvm.Cond.instanceMethod ({ cls := "TicketTag", name := "draftNewTransfer", desc := "(IIII)V" } : Jvm.MethodName)), (Jvm.Cond.instanceMethod ({ cls := "TicketTag", name := "rideOnCarnet", desc := "(II)I" } : Jvm.MethodName)), (Jvm.Cond.instanceMethod ({ cls := "TicketTag", name := "writeNextBit", desc := "()Z" } : Jvm.MethodName)), (Jvm.Cond.instanceMethod ({ cls := "TicketTag", name := "rideOnPurse", desc := "(III)I" } : Jvm.MethodName)), (Jvm.Cond.instanceMethod ({ cls := "TicketTag", name := "chargeBy", desc := "(III)I" } : Jvm.MethodName)), (Jvm.Cond.instanceMethod ({ cls := "TicketTag", name := "topUp", desc := "(I)I" } : Jvm.MethodName)), (Jvm.Cond.instanceMethod ({ cls := "TicketTag", name := "reasonAgainstTopUp", desc := "(II)I" } : Jvm.MethodName)), (Jvm.Cond.instanceMethod ({ cls := "TicketTag", name := "tearAfter", desc := "(II)V" } : Jvm.MethodName)), (Jvm.Cond.instanceMethod ({ cls := "TicketTag$Memory", name := "planTear", desc := "(II)V" } : Jvm.MethodName)), (Jvm.Cond.instanceMethod ({ cls := "TicketTag", name := "inspect", desc := "(III)I" } : Jvm.MethodName)), (Jvm.Cond.instanceMethod ({ cls := "TicketTag", name := "word", desc := "(II)I" } : Jvm.MethodName)), (Jvm.Cond.instanceMethod ({ cls := "java/lang/IndexOutOfBoundsException", name := "<init>", desc := "(Ljava/lang/String;)V" } : Jvm.MethodName)), (Jvm.Cond.instanceMethod ({ cls := "TicketTagModel", name := "<init>", desc := "()V" } : Jvm.MethodName)), (Jvm.Cond.instanceMethod ({ cls := "TicketTagModel", name := "thrown", desc := "()I" } : Jvm.MethodName)), (Jvm.Cond.instanceMethod ({ cls := "TicketTagModel", name := "issue", desc := "(IIII)Z" } : Jvm.MethodName)), (Jvm.Cond.instanceMethod ({ cls := "TicketTagModel", name := "isProduct", desc := "(IIII)Z" } : Jvm.MethodName)), (Jvm.Cond.instanceMethod ({ cls := "TicketTagModel", name := "fails", desc := "(IZ)Z" } : Jvm.MethodName)), (Jvm.Cond.instanceMethod ({ cls := "TicketTagModel", name := "kind", desc := "()I" } : Jvm.MethodName)), (Jvm.Cond.instanceMethod ({ cls := "TicketTagModel", name := "at", desc := "(II)I" } : Jvm.MethodName)), (Jvm.Cond.instanceMethod ({ cls := "TicketTagModel", name := "write", desc := "(III)V" } : Jvm.MethodName)), (Jvm.Cond.instanceMethod ({ cls := "TicketTagModel", name := "clear", desc := "()V" } : Jvm.MethodName)), (Jvm.Cond.instanceMethod ({ cls := "TicketTagModel", name := "writeTwin", desc := "(I)V" } : Jvm.MethodName)), (Jvm.Cond.instanceMethod ({ cls := "TicketTagModel", name := "latest", desc := "(I)I" } : Jvm.MethodName)), (Jvm.Cond.instanceMethod ({ cls := "TicketTagModel", name := "isRight", desc := "(I)Z" } : Jvm.MethodName)), (Jvm.Cond.instanceMethod ({ cls := "TicketTagModel", name := "writeRecord", desc := "(I)V" } : Jvm.MethodName)), (Jvm.Cond.instanceMethod ({ cls := "TicketTagModel", name := "setClock", desc := "(III)V" } : Jvm.MethodName)), (Jvm.Cond.instanceMethod ({ cls := "TicketTagModel", name := "bar", desc := "(IZ)V" } : Jvm.MethodName)), (Jvm.Cond.instanceMethod ({ cls := "TicketTagModel", name := "present", desc := "(I)I" } : Jvm.MethodName)), (Jvm.Cond.instanceMethod ({ cls := "TicketTagModel", name := "isVoid", desc := "(I)Z" } : Jvm.MethodName)), (Jvm.Cond.instanceMethod ({ cls := "TicketTagModel", name := "ridesTaken", desc := "()I" } : Jvm.MethodName)), (Jvm.Cond.instanceMethod ({ cls := "TicketTagModel", name := "lastBlock", desc := "()I" } : Jvm.MethodName)), (Jvm.Cond.instanceMethod ({ cls := "TicketTagModel", name := "hasJourney", desc := "(I)Z" } : Jvm.MethodName)), (Jvm.Cond.instanceMethod ({ cls := "TicketTagModel", name := "placeOf", desc := "(I)I" } : Jvm.MethodName)), (Jvm.Cond.instanceMethod ({ cls := "TicketTagModel", name := "writeJourney", desc := "(I)V" } : Jvm.MethodName)), (Jvm.Cond.instanceMethod ({ cls := "TicketTagModel", name := "began", desc := "(I)I" } : Jvm.MethodName)), (Jvm.Cond.instanceMethod ({ cls := "TicketTagModel", name := "used", desc := "(I)I" } : Jvm.MethodName)), (Jvm.Cond.instanceMethod ({ cls := "TicketTagModel", name := "validate", desc := "(III)I" } : Jvm.MethodName)), (Jvm.Cond.instanceMethod ({ cls := "TicketTagModel", name := "refuse", desc := "(I)I" } : Jvm.MethodName)), (Jvm.Cond.instanceMethod ({ cls := "TicketTagModel", name := "now", desc := "()I" } : Jvm.MethodName)), (Jvm.Cond.instanceMethod ({ cls := "TicketTagModel", name := "ride", desc := "(IIIIIIII)V" } : Jvm.MethodName)), (Jvm.Cond.instanceMethod ({ cls := "TicketTagModel", name := "done", desc := "(I)I" } : Jvm.MethodName)), (Jvm.Cond.instanceMethod ({ cls := "TicketTagModel", name := "pass", desc := "(III)I" } : Jvm.MethodName)), (Jvm.Cond.instanceMethod ({ cls := "TicketTagModel", name := "carnet", desc := "(III)I" } : Jvm.MethodName)), (Jvm.Cond.instanceMethod ({ cls := "TicketTagModel", name := "purse", desc := "(IIII)I" } : Jvm.MethodName)), (Jvm.Cond.instanceMethod ({ cls := "TicketTagModel", name := "topUp", desc := "(I)I" } : Jvm.MethodName)), (Jvm.Cond.instanceMethod ({ cls := "TicketTagModel", name := "reason", desc := "()I" } : Jvm.MethodName)), (Jvm.Cond.instanceMethod ({ cls := "TicketTagModel", name := "tearAfter", desc := "(II)V" } : Jvm.MethodName)), (Jvm.Cond.instanceMethod ({ cls := "TicketTagModel", name := "away", desc := "()Z" } : Jvm.MethodName)), (Jvm.Cond.instanceMethod ({ cls := "TicketTagModel", name := "rides", desc := "()I" } : Jvm.MethodName)), (Jvm.Cond.instanceMethod ({ cls := "TicketTagModel", name := "cents", desc := "()I" } : Jvm.MethodName)), (Jvm.Cond.instanceMethod ({ cls := "TicketTagModel", name := "capLeft", desc := "(I)I" } : Jvm.MethodName)), (Jvm.Cond.instanceMethod ({ cls := "TicketTagModel", name := "journey", desc := "(II)I" } : Jvm.MethodName)), (Jvm.Cond.instanceMethod ({ cls := "TicketTagModel", name := "lastRide", desc := "(I)I" } : Jvm.MethodName)), (Jvm.Cond.instanceMethod ({ cls := "TicketTagModel", name := "inspect", desc := "(III)I" } : Jvm.MethodName)), (Jvm.Cond.instanceMethod ({ cls := "TicketTagModel", name := "word", desc := "(II)I" } : Jvm.MethodName)), (Jvm.Cond.instanceMethod ({ cls := "TicketTagModel", name := "count", desc := "(I)I" } : Jvm.MethodName))]
theorem pg_i_instanceMethod : (pg_l_instanceMethod.all fun w => decide (w ∈ tables_1) && ev_gw w) = true := by decide +kernel
def pg_l_initialized : List Jvm.Cond := [(Jvm.Cond.initialized "TicketTagLaw"), (Jvm.Cond.initialized "TicketTag"), (Jvm.Cond.initialized "TicketTag$Memory"), (Jvm.Cond.initialized "TicketTagModel"), (Jvm.Cond.initialized "java/lang/Throwable"), (Jvm.Cond.initialized "java/lang/Exception"), (Jvm.Cond.initialized "java/lang/RuntimeException"), (Jvm.Cond.initialized "java/lang/IllegalArgumentException"), (Jvm.Cond.initialized "java/lang/IllegalStateException"), (Jvm.Cond.initialized "java/lang/Integer"), (Jvm.Cond.initialized "java/lang/Math"), (Jvm.Cond.initialized "java/lang/IndexOutOfBoundsException")]
theorem pg_i_initialized : (pg_l_initialized.all fun w => decide (w ∈ tables_1) && ev_gw w) = true := by decide +kernel
def pg_l_static : List Jvm.Cond := [(Jvm.Cond.static ({ cls := "java/lang/Integer", name := "bitCount", desc := "(I)I" } : Jvm.MethodName)), (Jvm.Cond.static ({ cls := "java/lang/Math", name := "max", desc := "(II)I" } : Jvm.MethodName)), (Jvm.Cond.static ({ cls := "TicketTag$Memory", name := "twinOf", desc := "(II)I" } : Jvm.MethodName)), (Jvm.Cond.static ({ cls := "TicketTag$Memory", name := "addToSum", desc := "(II)I" } : Jvm.MethodName)), (Jvm.Cond.static ({ cls := "TicketTag", name := "isUpTo", desc := "(II)Z" } : Jvm.MethodName)), (Jvm.Cond.static ({ cls := "TicketTag", name := "journeyPlace", desc := "(I)I" } : Jvm.MethodName)), (Jvm.Cond.static ({ cls := "TicketTagLaw", name := "issue", desc := "(LTicketTag;IIII[J)I" } : Jvm.MethodName)), (Jvm.Cond.static ({ cls := "TicketTag", name := "isProduct", desc := "(IIII)Z" } : Jvm.MethodName)), (Jvm.Cond.static ({ cls := "TicketTagLaw", name := "setClock", desc := "(LTicketTag;III)I" } : Jvm.MethodName)), (Jvm.Cond.static ({ cls := "TicketTag", name := "isGate", desc := "(I)Z" } : Jvm.MethodName)), (Jvm.Cond.static ({ cls := "TicketTag", name := "isTime", desc := "(II)Z" } : Jvm.MethodName)), (Jvm.Cond.static ({ cls := "TicketTagLaw", name := "bar", desc := "(LTicketTag;IZ)I" } : Jvm.MethodName)), (Jvm.Cond.static ({ cls := "TicketTagLaw", name := "present", desc := "(LTicketTag;I[J)I" } : Jvm.MethodName)), (Jvm.Cond.static ({ cls := "TicketTagLaw", name := "validate", desc := "(LTicketTag;III[J)I" } : Jvm.MethodName)), (Jvm.Cond.static ({ cls := "TicketTag", name := "fare", desc := "(II)I" } : Jvm.MethodName)), (Jvm.Cond.static ({ cls := "java/lang/Math", name := "min", desc := "(II)I" } : Jvm.MethodName)), (Jvm.Cond.static ({ cls := "TicketTagLaw", name := "topUp", desc := "(LTicketTag;I[J)I" } : Jvm.MethodName)), (Jvm.Cond.static ({ cls := "TicketTagLaw", name := "tearAfter", desc := "(LTicketTag;II)I" } : Jvm.MethodName)), (Jvm.Cond.static ({ cls := "TicketTagLaw", name := "inspect", desc := "(LTicketTag;III[J)I" } : Jvm.MethodName)), (Jvm.Cond.static ({ cls := "TicketTagLaw", name := "word", desc := "(LTicketTag;II[J)I" } : Jvm.MethodName)), (Jvm.Cond.static ({ cls := "TicketTagModel", name := "isIn", desc := "(III)Z" } : Jvm.MethodName)), (Jvm.Cond.static ({ cls := "TicketTagModel", name := "add", desc := "(II)I" } : Jvm.MethodName)), (Jvm.Cond.static ({ cls := "TicketTagModel", name := "isWithin", desc := "(III)Z" } : Jvm.MethodName)), (Jvm.Cond.static ({ cls := "TicketTagModel", name := "left", desc := "(II)I" } : Jvm.MethodName)), (Jvm.Cond.static ({ cls := "TicketTagModel", name := "less", desc := "(II)I" } : Jvm.MethodName))]
theorem pg_i_static : (pg_l_static.all fun w => decide (w ∈ tables_1) && ev_gw w) = true := by decide +kernel
def pg_l_constant : List Jvm.Cond := [(Jvm.Cond.constant "java/lang/Integer" (265 : Nat) (1431655765 : Int32)), (Jvm.Cond.constant "java/lang/Integer" (266 : Nat) (858993459 : Int32)), (Jvm.Cond.constant "java/lang/Integer" (267 : Nat) (252645135 : Int32)), (Jvm.Cond.constant "TicketTag$Memory" (56 : Nat) (65535 : Int32)), (Jvm.Cond.constant "TicketTag" (107 : Nat) (65535 : Int32)), (Jvm.Cond.constant "TicketTagModel" (49 : Nat) (65535 : Int32)), (Jvm.Cond.constant "TicketTagModel" (61 : Nat) (32768 : Int32))]
theorem pg_i_constant : (pg_l_constant.all fun w => decide (w ∈ tables_1) && ev_gw w) = true := by decide +kernel
def pg_l_selects : List Jvm.Cond := k2_sels lw_privs ++ [(Jvm.Cond.selects "TicketTag" ({ cls := "TicketTag", name := "reason", desc := "()I" } : Jvm.MethodName) ({ cls := "TicketTag", name := "reason", desc := "()I" } : Jvm.MethodName)), (Jvm.Cond.selects "TicketTag" ({ cls := "TicketTag", name := "away", desc := "()Z" } : Jvm.MethodName) ({ cls := "TicketTag", name := "away", desc := "()Z" } : Jvm.MethodName)), (Jvm.Cond.selects "TicketTag" ({ cls := "TicketTag", name := "rides", desc := "()I" } : Jvm.MethodName) ({ cls := "TicketTag", name := "rides", desc := "()I" } : Jvm.MethodName)), (Jvm.Cond.selects "TicketTag" ({ cls := "TicketTag", name := "cents", desc := "()I" } : Jvm.MethodName) ({ cls := "TicketTag", name := "cents", desc := "()I" } : Jvm.MethodName)), (Jvm.Cond.selects "TicketTag" ({ cls := "TicketTag", name := "capLeft", desc := "(I)I" } : Jvm.MethodName) ({ cls := "TicketTag", name := "capLeft", desc := "(I)I" } : Jvm.MethodName)), (Jvm.Cond.selects "TicketTag" ({ cls := "TicketTag", name := "journey", desc := "(II)I" } : Jvm.MethodName) ({ cls := "TicketTag", name := "journey", desc := "(II)I" } : Jvm.MethodName)), (Jvm.Cond.selects "TicketTag" ({ cls := "TicketTag", name := "lastRide", desc := "(I)I" } : Jvm.MethodName) ({ cls := "TicketTag", name := "lastRide", desc := "(I)I" } : Jvm.MethodName)), (Jvm.Cond.selects "TicketTag" ({ cls := "TicketTag", name := "count", desc := "(I)I" } : Jvm.MethodName) ({ cls := "TicketTag", name := "count", desc := "(I)I" } : Jvm.MethodName)), (Jvm.Cond.selects "TicketTag" ({ cls := "TicketTag", name := "issue", desc := "(IIII)Z" } : Jvm.MethodName) ({ cls := "TicketTag", name := "issue", desc := "(IIII)Z" } : Jvm.MethodName)), (Jvm.Cond.selects "java/lang/IllegalArgumentException" ({ cls := "java/lang/Throwable", name := "fillInStackTrace", desc := "(I)Ljava/lang/Throwable;" } : Jvm.MethodName) ({ cls := "java/lang/Throwable", name := "fillInStackTrace", desc := "(I)Ljava/lang/Throwable;" } : Jvm.MethodName)), (Jvm.Cond.selects "java/lang/IllegalArgumentException" ({ cls := "java/lang/Throwable", name := "fillInStackTrace", desc := "()Ljava/lang/Throwable;" } : Jvm.MethodName) ({ cls := "java/lang/Throwable", name := "fillInStackTrace", desc := "()Ljava/lang/Throwable;" } : Jvm.MethodName)), (Jvm.Cond.selects "java/lang/IllegalStateException" ({ cls := "java/lang/Throwable", name := "fillInStackTrace", desc := "()Ljava/lang/Throwable;" } : Jvm.MethodName) ({ cls := "java/lang/Throwable", name := "fillInStackTrace", desc := "()Ljava/lang/Throwable;" } : Jvm.MethodName)), (Jvm.Cond.selects "java/lang/IndexOutOfBoundsException" ({ cls := "java/lang/Throwable", name := "fillInStackTrace", desc := "()Ljava/lang/Throwable;" } : Jvm.MethodName) ({ cls := "java/lang/Throwable", name := "fillInStackTrace", desc := "()Ljava/lang/Throwable;" } : Jvm.MethodName)), (Jvm.Cond.selects "java/lang/IllegalStateException" ({ cls := "java/lang/Throwable", name := "fillInStackTrace", desc := "(I)Ljava/lang/Throwable;" } : Jvm.MethodName) ({ cls := "java/lang/Throwable", name := "fillInStackTrace", desc := "(I)Ljava/lang/Throwable;" } : Jvm.MethodName)), (Jvm.Cond.selects "TicketTag" ({ cls := "TicketTag", name := "setClock", desc := "(III)V" } : Jvm.MethodName) ({ cls := "TicketTag", name := "setClock", desc := "(III)V" } : Jvm.MethodName)), (Jvm.Cond.selects "TicketTag" ({ cls := "TicketTag", name := "bar", desc := "(IZ)V" } : Jvm.MethodName) ({ cls := "TicketTag", name := "bar", desc := "(IZ)V" } : Jvm.MethodName)), (Jvm.Cond.selects "TicketTag" ({ cls := "TicketTag", name := "present", desc := "(I)I" } : Jvm.MethodName) ({ cls := "TicketTag", name := "present", desc := "(I)I" } : Jvm.MethodName)), (Jvm.Cond.selects "TicketTag" ({ cls := "TicketTag", name := "validate", desc := "(III)I" } : Jvm.MethodName) ({ cls := "TicketTag", name := "validate", desc := "(III)I" } : Jvm.MethodName)), (Jvm.Cond.selects "TicketTag" ({ cls := "TicketTag", name := "topUp", desc := "(I)I" } : Jvm.MethodName) ({ cls := "TicketTag", name := "topUp", desc := "(I)I" } : Jvm.MethodName)), (Jvm.Cond.selects "TicketTag" ({ cls := "TicketTag", name := "tearAfter", desc := "(II)V" } : Jvm.MethodName) ({ cls := "TicketTag", name := "tearAfter", desc := "(II)V" } : Jvm.MethodName)), (Jvm.Cond.selects "TicketTag" ({ cls := "TicketTag", name := "inspect", desc := "(III)I" } : Jvm.MethodName) ({ cls := "TicketTag", name := "inspect", desc := "(III)I" } : Jvm.MethodName)), (Jvm.Cond.selects "TicketTag" ({ cls := "TicketTag", name := "word", desc := "(II)I" } : Jvm.MethodName) ({ cls := "TicketTag", name := "word", desc := "(II)I" } : Jvm.MethodName)), (Jvm.Cond.selects "java/lang/IndexOutOfBoundsException" ({ cls := "java/lang/Throwable", name := "fillInStackTrace", desc := "(I)Ljava/lang/Throwable;" } : Jvm.MethodName) ({ cls := "java/lang/Throwable", name := "fillInStackTrace", desc := "(I)Ljava/lang/Throwable;" } : Jvm.MethodName)), (Jvm.Cond.selects "TicketTagModel" ({ cls := "TicketTagModel", name := "thrown", desc := "()I" } : Jvm.MethodName) ({ cls := "TicketTagModel", name := "thrown", desc := "()I" } : Jvm.MethodName)), (Jvm.Cond.selects "TicketTagModel" ({ cls := "TicketTagModel", name := "issue", desc := "(IIII)Z" } : Jvm.MethodName) ({ cls := "TicketTagModel", name := "issue", desc := "(IIII)Z" } : Jvm.MethodName)), (Jvm.Cond.selects "TicketTagModel" ({ cls := "TicketTagModel", name := "setClock", desc := "(III)V" } : Jvm.MethodName) ({ cls := "TicketTagModel", name := "setClock", desc := "(III)V" } : Jvm.MethodName)), (Jvm.Cond.selects "TicketTagModel" ({ cls := "TicketTagModel", name := "bar", desc := "(IZ)V" } : Jvm.MethodName) ({ cls := "TicketTagModel", name := "bar", desc := "(IZ)V" } : Jvm.MethodName)), (Jvm.Cond.selects "TicketTagModel" ({ cls := "TicketTagModel", name := "present", desc := "(I)I" } : Jvm.MethodName) ({ cls := "TicketTagModel", name := "present", desc := "(I)I" } : Jvm.MethodName)), (Jvm.Cond.selects "TicketTagModel" ({ cls := "TicketTagModel", name := "validate", desc := "(III)I" } : Jvm.MethodName) ({ cls := "TicketTagModel", name := "validate", desc := "(III)I" } : Jvm.MethodName)), (Jvm.Cond.selects "TicketTagModel" ({ cls := "TicketTagModel", name := "topUp", desc := "(I)I" } : Jvm.MethodName) ({ cls := "TicketTagModel", name := "topUp", desc := "(I)I" } : Jvm.MethodName)), (Jvm.Cond.selects "TicketTagModel" ({ cls := "TicketTagModel", name := "reason", desc := "()I" } : Jvm.MethodName) ({ cls := "TicketTagModel", name := "reason", desc := "()I" } : Jvm.MethodName)), (Jvm.Cond.selects "TicketTagModel" ({ cls := "TicketTagModel", name := "tearAfter", desc := "(II)V" } : Jvm.MethodName) ({ cls := "TicketTagModel", name := "tearAfter", desc := "(II)V" } : Jvm.MethodName)), (Jvm.Cond.selects "TicketTagModel" ({ cls := "TicketTagModel", name := "away", desc := "()Z" } : Jvm.MethodName) ({ cls := "TicketTagModel", name := "away", desc := "()Z" } : Jvm.MethodName)), (Jvm.Cond.selects "TicketTagModel" ({ cls := "TicketTagModel", name := "rides", desc := "()I" } : Jvm.MethodName) ({ cls := "TicketTagModel", name := "rides", desc := "()I" } : Jvm.MethodName)), (Jvm.Cond.selects "TicketTagModel" ({ cls := "TicketTagModel", name := "cents", desc := "()I" } : Jvm.MethodName) ({ cls := "TicketTagModel", name := "cents", desc := "()I" } : Jvm.MethodName)), (Jvm.Cond.selects "TicketTagModel" ({ cls := "TicketTagModel", name := "capLeft", desc := "(I)I" } : Jvm.MethodName) ({ cls := "TicketTagModel", name := "capLeft", desc := "(I)I" } : Jvm.MethodName)), (Jvm.Cond.selects "TicketTagModel" ({ cls := "TicketTagModel", name := "journey", desc := "(II)I" } : Jvm.MethodName) ({ cls := "TicketTagModel", name := "journey", desc := "(II)I" } : Jvm.MethodName)), (Jvm.Cond.selects "TicketTagModel" ({ cls := "TicketTagModel", name := "lastRide", desc := "(I)I" } : Jvm.MethodName) ({ cls := "TicketTagModel", name := "lastRide", desc := "(I)I" } : Jvm.MethodName)), (Jvm.Cond.selects "TicketTagModel" ({ cls := "TicketTagModel", name := "inspect", desc := "(III)I" } : Jvm.MethodName) ({ cls := "TicketTagModel", name := "inspect", desc := "(III)I" } : Jvm.MethodName)), (Jvm.Cond.selects "TicketTagModel" ({ cls := "TicketTagModel", name := "word", desc := "(II)I" } : Jvm.MethodName) ({ cls := "TicketTagModel", name := "word", desc := "(II)I" } : Jvm.MethodName)), (Jvm.Cond.selects "TicketTagModel" ({ cls := "TicketTagModel", name := "count", desc := "(I)I" } : Jvm.MethodName) ({ cls := "TicketTagModel", name := "count", desc := "(I)I" } : Jvm.MethodName))]
theorem pg_i_selects : (pg_l_selects.all fun w => decide (w ∈ lw_tbl) && ev_gw w) = true := by decide +kernel
def pg_hs (w : Jvm.Cond) : Bool := match w with
  | .fieldLink .. => decide (w ∈ pg_l_fieldLink)
  | .fieldLinkNest .. => decide (w ∈ pg_l_fieldLinkNest)
  | .methodLink .. => decide (w ∈ pg_l_methodLink)
  | .methodLinkNest .. => decide (w ∈ pg_l_methodLinkNest)
  | .instanceMethod .. => decide (w ∈ pg_l_instanceMethod)
  | .initialized .. => decide (w ∈ pg_l_initialized)
  | .static .. => decide (w ∈ pg_l_static)
  | .constant .. => decide (w ∈ pg_l_constant)
  | .selects .. => decide (w ∈ pg_l_selects)
  | _ => false
theorem pg_in {l big : List Jvm.Cond} (h : (l.all fun w => decide (w ∈ big) && ev_gw w) = true) (hb : ∀ w ∈ big, w ∈ lw_tbl) {w : Jvm.Cond} (hw : decide (w ∈ l) = true) : w ∈ pg_TB := by
  have h1 := List.all_eq_true.mp h w (of_decide_eq_true hw)
  simp only [Bool.and_eq_true, decide_eq_true_eq] at h1
  exact List.mem_filter.mpr ⟨hb w h1.1, h1.2⟩
theorem pg_hhs : ∀ w, pg_hs w = true → w ∈ pg_TB := fun w h => by
  have ht : ∀ w ∈ tables_1, w ∈ lw_tbl := fun w hw => List.mem_append_right _ hw
  unfold pg_hs at h
  split at h
  · exact pg_in pg_i_fieldLink ht h
  · exact pg_in pg_i_fieldLinkNest ht h
  · exact pg_in pg_i_methodLink ht h
  · exact pg_in pg_i_methodLinkNest ht h
  · exact pg_in pg_i_instanceMethod ht h
  · exact pg_in pg_i_initialized ht h
  · exact pg_in pg_i_static ht h
  · exact pg_in pg_i_constant ht h
  · exact pg_in pg_i_selects (fun _ hw => hw) h
  · cases h
end
section
/-! THE PROGRAM: the tables say what stands in the bytes (laid by wip/gen/gen.py) -/
theorem pg_k0 : pg_c0.all (fun z => ev_ok pg_hs pg_cl pg_mt "TicketTag" "TicketTag" prog_1_method_38_code 2 0 0 z.1 z.2) = true := by decide +kernel
theorem pg_o0 : ∀ pc q, ev_lu pg_c0 pc = some q → ev_ok pg_hs pg_cl pg_mt "TicketTag" "TicketTag" prog_1_method_38_code 2 0 0 pc q = true := fun pc q h => List.all_eq_true.mp pg_k0 (pc, q) (ev_lu_mem h)
theorem pg_k1 : pg_c1.all (fun z => ev_ok pg_hs pg_cl pg_mt "TicketTag" "TicketTag" prog_1_method_19_code 2 0 0 z.1 z.2) = true := by decide +kernel
theorem pg_o1 : ∀ pc q, ev_lu pg_c1 pc = some q → ev_ok pg_hs pg_cl pg_mt "TicketTag" "TicketTag" prog_1_method_19_code 2 0 0 pc q = true := fun pc q h => List.all_eq_true.mp pg_k1 (pc, q) (ev_lu_mem h)
theorem pg_k2 : pg_c2.all (fun z => ev_ok pg_hs pg_cl pg_mt "TicketTag" "TicketTag" prog_1_method_54_code 1 0 0 z.1 z.2) = true := by decide +kernel
theorem pg_o2 : ∀ pc q, ev_lu pg_c2 pc = some q → ev_ok pg_hs pg_cl pg_mt "TicketTag" "TicketTag" prog_1_method_54_code 1 0 0 pc q = true := fun pc q h => List.all_eq_true.mp pg_k2 (pc, q) (ev_lu_mem h)
theorem pg_k3 : pg_c3.all (fun z => ev_ok pg_hs pg_cl pg_mt "TicketTag" "TicketTag" prog_1_method_42_code 3 0 0 z.1 z.2) = true := by decide +kernel
theorem pg_o3 : ∀ pc q, ev_lu pg_c3 pc = some q → ev_ok pg_hs pg_cl pg_mt "TicketTag" "TicketTag" prog_1_method_42_code 3 0 0 pc q = true := fun pc q h => List.all_eq_true.mp pg_k3 (pc, q) (ev_lu_mem h)
theorem pg_k4 : pg_c4.all (fun z => ev_ok pg_hs pg_cl pg_mt "TicketTag" "TicketTag" prog_1_method_27_code 1 0 0 z.1 z.2) = true := by decide +kernel
theorem pg_o4 : ∀ pc q, ev_lu pg_c4 pc = some q → ev_ok pg_hs pg_cl pg_mt "TicketTag" "TicketTag" prog_1_method_27_code 1 0 0 pc q = true := fun pc q h => List.all_eq_true.mp pg_k4 (pc, q) (ev_lu_mem h)
theorem pg_k5 : pg_c5.all (fun z => ev_ok pg_hs pg_cl pg_mt "TicketTag" "TicketTag" prog_1_method_8_code 1 0 0 z.1 z.2) = true := by decide +kernel
theorem pg_o5 : ∀ pc q, ev_lu pg_c5 pc = some q → ev_ok pg_hs pg_cl pg_mt "TicketTag" "TicketTag" prog_1_method_8_code 1 0 0 pc q = true := fun pc q h => List.all_eq_true.mp pg_k5 (pc, q) (ev_lu_mem h)
theorem pg_k6 : pg_c6.all (fun z => ev_ok pg_hs pg_cl pg_mt "TicketTag" "TicketTag" prog_1_method_31_code 2 0 0 z.1 z.2) = true := by decide +kernel
theorem pg_o6 : ∀ pc q, ev_lu pg_c6 pc = some q → ev_ok pg_hs pg_cl pg_mt "TicketTag" "TicketTag" prog_1_method_31_code 2 0 0 pc q = true := fun pc q h => List.all_eq_true.mp pg_k6 (pc, q) (ev_lu_mem h)
theorem pg_k7 : pg_c7.all (fun z => ev_ok pg_hs pg_cl pg_mt "TicketTag$Memory" "TicketTag" prog_2_method_13_code 3 0 0 z.1 z.2) = true := by decide +kernel
theorem pg_o7 : ∀ pc q, ev_lu pg_c7 pc = some q → ev_ok pg_hs pg_cl pg_mt "TicketTag$Memory" "TicketTag" prog_2_method_13_code 3 0 0 pc q = true := fun pc q h => List.all_eq_true.mp pg_k7 (pc, q) (ev_lu_mem h)
theorem pg_k8 : pg_c8.all (fun z => ev_ok pg_hs pg_cl pg_mt "TicketTag$Memory" "TicketTag" prog_2_method_8_code 4 0 0 z.1 z.2) = true := by decide +kernel
theorem pg_o8 : ∀ pc q, ev_lu pg_c8 pc = some q → ev_ok pg_hs pg_cl pg_mt "TicketTag$Memory" "TicketTag" prog_2_method_8_code 4 0 0 pc q = true := fun pc q h => List.all_eq_true.mp pg_k8 (pc, q) (ev_lu_mem h)
theorem pg_k9 : pg_c9.all (fun z => ev_ok pg_hs pg_cl pg_mt "TicketTag$Memory" "TicketTag" prog_2_method_5_code 1 0 0 z.1 z.2) = true := by decide +kernel
theorem pg_o9 : ∀ pc q, ev_lu pg_c9 pc = some q → ev_ok pg_hs pg_cl pg_mt "TicketTag$Memory" "TicketTag" prog_2_method_5_code 1 0 0 pc q = true := fun pc q h => List.all_eq_true.mp pg_k9 (pc, q) (ev_lu_mem h)
theorem pg_k10 : pg_c10.all (fun z => ev_ok pg_hs pg_cl pg_mt "TicketTag$Memory" "TicketTag" prog_2_method_16_code 7 0 0 z.1 z.2) = true := by decide +kernel
theorem pg_o10 : ∀ pc q, ev_lu pg_c10 pc = some q → ev_ok pg_hs pg_cl pg_mt "TicketTag$Memory" "TicketTag" prog_2_method_16_code 7 0 0 pc q = true := fun pc q h => List.all_eq_true.mp pg_k10 (pc, q) (ev_lu_mem h)
theorem pg_k11 : pg_c11.all (fun z => ev_ok pg_hs pg_cl pg_mt "TicketTag$Memory" "TicketTag" prog_2_method_6_code 1 0 0 z.1 z.2) = true := by decide +kernel
theorem pg_o11 : ∀ pc q, ev_lu pg_c11 pc = some q → ev_ok pg_hs pg_cl pg_mt "TicketTag$Memory" "TicketTag" prog_2_method_6_code 1 0 0 pc q = true := fun pc q h => List.all_eq_true.mp pg_k11 (pc, q) (ev_lu_mem h)
theorem pg_k12 : pg_c12.all (fun z => ev_ok pg_hs pg_cl pg_mt "TicketTag$Memory" "TicketTag" prog_2_method_2_code 1 0 0 z.1 z.2) = true := by decide +kernel
theorem pg_o12 : ∀ pc q, ev_lu pg_c12 pc = some q → ev_ok pg_hs pg_cl pg_mt "TicketTag$Memory" "TicketTag" prog_2_method_2_code 1 0 0 pc q = true := fun pc q h => List.all_eq_true.mp pg_k12 (pc, q) (ev_lu_mem h)
theorem pg_k13 : pg_c13.all (fun z => ev_ok pg_hs pg_cl pg_mt "TicketTag$Memory" "TicketTag" prog_2_method_10_code 1 0 0 z.1 z.2) = true := by decide +kernel
theorem pg_o13 : ∀ pc q, ev_lu pg_c13 pc = some q → ev_ok pg_hs pg_cl pg_mt "TicketTag$Memory" "TicketTag" prog_2_method_10_code 1 0 0 pc q = true := fun pc q h => List.all_eq_true.mp pg_k13 (pc, q) (ev_lu_mem h)
theorem pg_k14 : pg_c14.all (fun z => ev_ok pg_hs pg_cl pg_mt "TicketTag$Memory" "TicketTag" prog_2_method_7_code 3 0 0 z.1 z.2) = true := by decide +kernel
theorem pg_o14 : ∀ pc q, ev_lu pg_c14 pc = some q → ev_ok pg_hs pg_cl pg_mt "TicketTag$Memory" "TicketTag" prog_2_method_7_code 3 0 0 pc q = true := fun pc q h => List.all_eq_true.mp pg_k14 (pc, q) (ev_lu_mem h)
theorem pg_k15 : pg_c15.all (fun z => ev_ok pg_hs pg_cl pg_mt "TicketTag$Memory" "TicketTag" prog_2_method_4_code 1 0 0 z.1 z.2) = true := by decide +kernel
theorem pg_o15 : ∀ pc q, ev_lu pg_c15 pc = some q → ev_ok pg_hs pg_cl pg_mt "TicketTag$Memory" "TicketTag" prog_2_method_4_code 1 0 0 pc q = true := fun pc q h => List.all_eq_true.mp pg_k15 (pc, q) (ev_lu_mem h)
theorem pg_k16 : pg_c16.all (fun z => ev_ok pg_hs pg_cl pg_mt "TicketTag$Memory" "TicketTag" prog_2_method_14_code 2 0 0 z.1 z.2) = true := by decide +kernel
theorem pg_o16 : ∀ pc q, ev_lu pg_c16 pc = some q → ev_ok pg_hs pg_cl pg_mt "TicketTag$Memory" "TicketTag" prog_2_method_14_code 2 0 0 pc q = true := fun pc q h => List.all_eq_true.mp pg_k16 (pc, q) (ev_lu_mem h)
theorem pg_k17 : pg_c17.all (fun z => ev_ok pg_hs pg_cl pg_mt "TicketTag$Memory" "TicketTag" prog_2_method_3_code 1 0 0 z.1 z.2) = true := by decide +kernel
theorem pg_o17 : ∀ pc q, ev_lu pg_c17 pc = some q → ev_ok pg_hs pg_cl pg_mt "TicketTag$Memory" "TicketTag" prog_2_method_3_code 1 0 0 pc q = true := fun pc q h => List.all_eq_true.mp pg_k17 (pc, q) (ev_lu_mem h)
theorem pg_k18 : pg_c18.all (fun z => ev_ok pg_hs pg_cl pg_mt "TicketTagModel" "TicketTag" prog_4_method_6_code 2 0 0 z.1 z.2) = true := by decide +kernel
theorem pg_o18 : ∀ pc q, ev_lu pg_c18 pc = some q → ev_ok pg_hs pg_cl pg_mt "TicketTagModel" "TicketTag" prog_4_method_6_code 2 0 0 pc q = true := fun pc q h => List.all_eq_true.mp pg_k18 (pc, q) (ev_lu_mem h)
theorem pg_k19 : pg_c19.all (fun z => ev_ok pg_hs pg_cl pg_mt "TicketTagModel" "TicketTag" prog_4_method_4_code 3 0 0 z.1 z.2) = true := by decide +kernel
theorem pg_o19 : ∀ pc q, ev_lu pg_c19 pc = some q → ev_ok pg_hs pg_cl pg_mt "TicketTagModel" "TicketTag" prog_4_method_4_code 3 0 0 pc q = true := fun pc q h => List.all_eq_true.mp pg_k19 (pc, q) (ev_lu_mem h)
theorem pg_k20 : pg_c20.all (fun z => ev_ok pg_hs pg_cl pg_mt "TicketTagModel" "TicketTag" prog_4_method_41_code 2 0 0 z.1 z.2) = true := by decide +kernel
theorem pg_o20 : ∀ pc q, ev_lu pg_c20 pc = some q → ev_ok pg_hs pg_cl pg_mt "TicketTagModel" "TicketTag" prog_4_method_41_code 2 0 0 pc q = true := fun pc q h => List.all_eq_true.mp pg_k20 (pc, q) (ev_lu_mem h)
theorem pg_k21 : pg_c21.all (fun z => ev_ok pg_hs pg_cl pg_mt "TicketTagModel" "TicketTag" prog_4_method_27_code 2 0 0 z.1 z.2) = true := by decide +kernel
theorem pg_o21 : ∀ pc q, ev_lu pg_c21 pc = some q → ev_ok pg_hs pg_cl pg_mt "TicketTagModel" "TicketTag" prog_4_method_27_code 2 0 0 pc q = true := fun pc q h => List.all_eq_true.mp pg_k21 (pc, q) (ev_lu_mem h)
theorem pg_k22 : pg_c22.all (fun z => ev_ok pg_hs pg_cl pg_mt "TicketTagModel" "TicketTag" prog_4_method_3_code 3 0 0 z.1 z.2) = true := by decide +kernel
theorem pg_o22 : ∀ pc q, ev_lu pg_c22 pc = some q → ev_ok pg_hs pg_cl pg_mt "TicketTagModel" "TicketTag" prog_4_method_3_code 3 0 0 pc q = true := fun pc q h => List.all_eq_true.mp pg_k22 (pc, q) (ev_lu_mem h)
theorem pg_k23 : pg_c23.all (fun z => ev_ok pg_hs pg_cl pg_mt "TicketTagModel" "TicketTag" prog_4_method_24_code 3 0 0 z.1 z.2) = true := by decide +kernel
theorem pg_o23 : ∀ pc q, ev_lu pg_c23 pc = some q → ev_ok pg_hs pg_cl pg_mt "TicketTagModel" "TicketTag" prog_4_method_24_code 3 0 0 pc q = true := fun pc q h => List.all_eq_true.mp pg_k23 (pc, q) (ev_lu_mem h)
theorem pg_k24 : pg_c24.all (fun z => ev_ok pg_hs pg_cl pg_mt "TicketTagModel" "TicketTag" prog_4_method_21_code 3 0 0 z.1 z.2) = true := by decide +kernel
theorem pg_o24 : ∀ pc q, ev_lu pg_c24 pc = some q → ev_ok pg_hs pg_cl pg_mt "TicketTagModel" "TicketTag" prog_4_method_21_code 3 0 0 pc q = true := fun pc q h => List.all_eq_true.mp pg_k24 (pc, q) (ev_lu_mem h)
theorem pg_k25 : pg_c25.all (fun z => ev_ok pg_hs pg_cl pg_mt "TicketTagModel" "TicketTag" prog_4_method_23_code 2 0 0 z.1 z.2) = true := by decide +kernel
theorem pg_o25 : ∀ pc q, ev_lu pg_c25 pc = some q → ev_ok pg_hs pg_cl pg_mt "TicketTagModel" "TicketTag" prog_4_method_23_code 2 0 0 pc q = true := fun pc q h => List.all_eq_true.mp pg_k25 (pc, q) (ev_lu_mem h)
theorem pg_k26 : pg_c26.all (fun z => ev_ok pg_hs pg_cl pg_mt "TicketTagModel" "TicketTag" prog_4_method_22_code 2 0 0 z.1 z.2) = true := by decide +kernel
theorem pg_o26 : ∀ pc q, ev_lu pg_c26 pc = some q → ev_ok pg_hs pg_cl pg_mt "TicketTagModel" "TicketTag" prog_4_method_22_code 2 0 0 pc q = true := fun pc q h => List.all_eq_true.mp pg_k26 (pc, q) (ev_lu_mem h)
theorem pg_k27 : pg_c27.all (fun z => ev_ok pg_hs pg_cl pg_mt "TicketTagModel" "TicketTag" prog_4_method_20_code 1 0 0 z.1 z.2) = true := by decide +kernel
theorem pg_o27 : ∀ pc q, ev_lu pg_c27 pc = some q → ev_ok pg_hs pg_cl pg_mt "TicketTagModel" "TicketTag" prog_4_method_20_code 1 0 0 pc q = true := fun pc q h => List.all_eq_true.mp pg_k27 (pc, q) (ev_lu_mem h)
theorem pg_k28 : pg_c28.all (fun z => ev_ok pg_hs pg_cl pg_mt "TicketTagModel" "TicketTag" prog_4_method_17_code 2 0 0 z.1 z.2) = true := by decide +kernel
theorem pg_o28 : ∀ pc q, ev_lu pg_c28 pc = some q → ev_ok pg_hs pg_cl pg_mt "TicketTagModel" "TicketTag" prog_4_method_17_code 2 0 0 pc q = true := fun pc q h => List.all_eq_true.mp pg_k28 (pc, q) (ev_lu_mem h)
theorem pg_k29 : pg_c29.all (fun z => ev_ok pg_hs pg_cl pg_mt "TicketTagModel" "TicketTag" prog_4_method_39_code 1 0 0 z.1 z.2) = true := by decide +kernel
theorem pg_o29 : ∀ pc q, ev_lu pg_c29 pc = some q → ev_ok pg_hs pg_cl pg_mt "TicketTagModel" "TicketTag" prog_4_method_39_code 1 0 0 pc q = true := fun pc q h => List.all_eq_true.mp pg_k29 (pc, q) (ev_lu_mem h)
theorem pg_k30 : pg_c30.all (fun z => ev_ok pg_hs pg_cl pg_mt "TicketTagModel" "TicketTag" prog_4_method_33_code 2 0 0 z.1 z.2) = true := by decide +kernel
theorem pg_o30 : ∀ pc q, ev_lu pg_c30 pc = some q → ev_ok pg_hs pg_cl pg_mt "TicketTagModel" "TicketTag" prog_4_method_33_code 2 0 0 pc q = true := fun pc q h => List.all_eq_true.mp pg_k30 (pc, q) (ev_lu_mem h)
theorem pg_k31 : pg_c31.all (fun z => ev_ok pg_hs pg_cl pg_mt "TicketTagModel" "TicketTag" prog_4_method_2_code 1 0 0 z.1 z.2) = true := by decide +kernel
theorem pg_o31 : ∀ pc q, ev_lu pg_c31 pc = some q → ev_ok pg_hs pg_cl pg_mt "TicketTagModel" "TicketTag" prog_4_method_2_code 1 0 0 pc q = true := fun pc q h => List.all_eq_true.mp pg_k31 (pc, q) (ev_lu_mem h)
theorem pg_k32 : pg_c32.all (fun z => ev_ok pg_hs pg_cl pg_mt "TicketTagModel" "TicketTag" prog_4_method_5_code 6 0 0 z.1 z.2) = true := by decide +kernel
theorem pg_o32 : ∀ pc q, ev_lu pg_c32 pc = some q → ev_ok pg_hs pg_cl pg_mt "TicketTagModel" "TicketTag" prog_4_method_5_code 6 0 0 pc q = true := fun pc q h => List.all_eq_true.mp pg_k32 (pc, q) (ev_lu_mem h)
theorem pg_k33 : pg_c33.all (fun z => ev_ok pg_hs pg_cl pg_mt "java/lang/Integer" "TicketTag" prog_9_method_49_code 1 0 0 z.1 z.2) = true := by decide +kernel
theorem pg_o33 : ∀ pc q, ev_lu pg_c33 pc = some q → ev_ok pg_hs pg_cl pg_mt "java/lang/Integer" "TicketTag" prog_9_method_49_code 1 0 0 pc q = true := fun pc q h => List.all_eq_true.mp pg_k33 (pc, q) (ev_lu_mem h)
theorem pg_k34 : pg_c34.all (fun z => ev_ok pg_hs pg_cl pg_mt "java/lang/Math" "TicketTag" prog_10_method_65_code 2 0 0 z.1 z.2) = true := by decide +kernel
theorem pg_o34 : ∀ pc q, ev_lu pg_c34 pc = some q → ev_ok pg_hs pg_cl pg_mt "java/lang/Math" "TicketTag" prog_10_method_65_code 2 0 0 pc q = true := fun pc q h => List.all_eq_true.mp pg_k34 (pc, q) (ev_lu_mem h)
theorem pg_k35 : pg_c35.all (fun z => ev_ok pg_hs pg_cl pg_mt "java/lang/Math" "TicketTag" prog_10_method_69_code 2 0 0 z.1 z.2) = true := by decide +kernel
theorem pg_o35 : ∀ pc q, ev_lu pg_c35 pc = some q → ev_ok pg_hs pg_cl pg_mt "java/lang/Math" "TicketTag" prog_10_method_69_code 2 0 0 pc q = true := fun pc q h => List.all_eq_true.mp pg_k35 (pc, q) (ev_lu_mem h)
theorem pg_k36 : pg_c36.all (fun z => ev_ok pg_hs pg_cl pg_mt "TicketTag" "TicketTag" prog_1_method_10_code 1 1 24 z.1 z.2) = true := by decide +kernel
theorem pg_o36 : ∀ pc q, ev_lu pg_c36 pc = some q → ev_ok pg_hs pg_cl pg_mt "TicketTag" "TicketTag" prog_1_method_10_code 1 1 24 pc q = true := fun pc q h => List.all_eq_true.mp pg_k36 (pc, q) (ev_lu_mem h)
theorem pg_k37 : pg_c37.all (fun z => ev_ok pg_hs pg_cl pg_mt "TicketTag" "TicketTag" prog_1_method_58_code 2 1 27 z.1 z.2) = true := by decide +kernel
theorem pg_o37 : ∀ pc q, ev_lu pg_c37 pc = some q → ev_ok pg_hs pg_cl pg_mt "TicketTag" "TicketTag" prog_1_method_58_code 2 1 27 pc q = true := fun pc q h => List.all_eq_true.mp pg_k37 (pc, q) (ev_lu_mem h)
theorem pg_k38 : pg_c38.all (fun z => ev_ok pg_hs pg_cl pg_mt "TicketTag" "TicketTag" prog_1_method_60_code 2 1 27 z.1 z.2) = true := by decide +kernel
theorem pg_o38 : ∀ pc q, ev_lu pg_c38 pc = some q → ev_ok pg_hs pg_cl pg_mt "TicketTag" "TicketTag" prog_1_method_60_code 2 1 27 pc q = true := fun pc q h => List.all_eq_true.mp pg_k38 (pc, q) (ev_lu_mem h)
theorem pg_k39 : pg_c39.all (fun z => ev_ok pg_hs pg_cl pg_mt "TicketTag" "TicketTag" prog_1_method_26_code 3 1 27 z.1 z.2) = true := by decide +kernel
theorem pg_o39 : ∀ pc q, ev_lu pg_c39 pc = some q → ev_ok pg_hs pg_cl pg_mt "TicketTag" "TicketTag" prog_1_method_26_code 3 1 27 pc q = true := fun pc q h => List.all_eq_true.mp pg_k39 (pc, q) (ev_lu_mem h)
theorem pg_k40 : pg_c40.all (fun z => ev_ok pg_hs pg_cl pg_mt "TicketTag" "TicketTag" prog_1_method_62_code 2 1 27 z.1 z.2) = true := by decide +kernel
theorem pg_o40 : ∀ pc q, ev_lu pg_c40 pc = some q → ev_ok pg_hs pg_cl pg_mt "TicketTag" "TicketTag" prog_1_method_62_code 2 1 27 pc q = true := fun pc q h => List.all_eq_true.mp pg_k40 (pc, q) (ev_lu_mem h)
theorem pg_k41 : pg_c41.all (fun z => ev_ok pg_hs pg_cl pg_mt "TicketTag" "TicketTag" prog_1_method_41_code 3 1 27 z.1 z.2) = true := by decide +kernel
theorem pg_o41 : ∀ pc q, ev_lu pg_c41 pc = some q → ev_ok pg_hs pg_cl pg_mt "TicketTag" "TicketTag" prog_1_method_41_code 3 1 27 pc q = true := fun pc q h => List.all_eq_true.mp pg_k41 (pc, q) (ev_lu_mem h)
theorem pg_k42 : pg_c42.all (fun z => ev_ok pg_hs pg_cl pg_mt "TicketTag" "TicketTag" prog_1_method_68_code 2 1 27 z.1 z.2) = true := by decide +kernel
theorem pg_o42 : ∀ pc q, ev_lu pg_c42 pc = some q → ev_ok pg_hs pg_cl pg_mt "TicketTag" "TicketTag" prog_1_method_68_code 2 1 27 pc q = true := fun pc q h => List.all_eq_true.mp pg_k42 (pc, q) (ev_lu_mem h)
theorem pg_k43 : pg_c43.all (fun z => ev_ok pg_hs pg_cl pg_mt "TicketTag" "TicketTag" prog_1_method_63_code 2 1 27 z.1 z.2) = true := by decide +kernel
theorem pg_o43 : ∀ pc q, ev_lu pg_c43 pc = some q → ev_ok pg_hs pg_cl pg_mt "TicketTag" "TicketTag" prog_1_method_63_code 2 1 27 pc q = true := fun pc q h => List.all_eq_true.mp pg_k43 (pc, q) (ev_lu_mem h)
theorem pg_k44 : pg_c44.all (fun z => ev_ok pg_hs pg_cl pg_mt "TicketTag" "TicketTag" prog_1_method_67_code 2 1 27 z.1 z.2) = true := by decide +kernel
theorem pg_o44 : ∀ pc q, ev_lu pg_c44 pc = some q → ev_ok pg_hs pg_cl pg_mt "TicketTag" "TicketTag" prog_1_method_67_code 2 1 27 pc q = true := fun pc q h => List.all_eq_true.mp pg_k44 (pc, q) (ev_lu_mem h)
theorem pg_k45 : pg_c45.all (fun z => ev_ok pg_hs pg_cl pg_mt "TicketTag" "TicketTag" prog_1_method_43_code 5 1 30 z.1 z.2) = true := by decide +kernel
theorem pg_o45 : ∀ pc q, ev_lu pg_c45 pc = some q → ev_ok pg_hs pg_cl pg_mt "TicketTag" "TicketTag" prog_1_method_43_code 5 1 30 pc q = true := fun pc q h => List.all_eq_true.mp pg_k45 (pc, q) (ev_lu_mem h)
theorem pg_k46 : pg_c46.all (fun z => ev_ok pg_hs pg_cl pg_mt "TicketTag" "TicketTag" prog_1_method_45_code 4 1 30 z.1 z.2) = true := by decide +kernel
theorem pg_o46 : ∀ pc q, ev_lu pg_c46 pc = some q → ev_ok pg_hs pg_cl pg_mt "TicketTag" "TicketTag" prog_1_method_45_code 4 1 30 pc q = true := fun pc q h => List.all_eq_true.mp pg_k46 (pc, q) (ev_lu_mem h)
theorem pg_k47 : pg_c47.all (fun z => ev_ok pg_hs pg_cl pg_mt "TicketTag" "TicketTag" prog_1_method_69_code 2 1 27 z.1 z.2) = true := by decide +kernel
theorem pg_o47 : ∀ pc q, ev_lu pg_c47 pc = some q → ev_ok pg_hs pg_cl pg_mt "TicketTag" "TicketTag" prog_1_method_69_code 2 1 27 pc q = true := fun pc q h => List.all_eq_true.mp pg_k47 (pc, q) (ev_lu_mem h)
theorem pg_k48 : pg_c48.all (fun z => ev_ok pg_hs pg_cl pg_mt "TicketTag" "TicketTag" prog_1_method_20_code 1 1 25 z.1 z.2) = true := by decide +kernel
theorem pg_o48 : ∀ pc q, ev_lu pg_c48 pc = some q → ev_ok pg_hs pg_cl pg_mt "TicketTag" "TicketTag" prog_1_method_20_code 1 1 25 pc q = true := fun pc q h => List.all_eq_true.mp pg_k48 (pc, q) (ev_lu_mem h)
theorem pg_k49 : pg_c49.all (fun z => ev_ok pg_hs pg_cl pg_mt "TicketTag" "TicketTag" prog_1_method_22_code 4 1 25 z.1 z.2) = true := by decide +kernel
theorem pg_o49 : ∀ pc q, ev_lu pg_c49 pc = some q → ev_ok pg_hs pg_cl pg_mt "TicketTag" "TicketTag" prog_1_method_22_code 4 1 25 pc q = true := fun pc q h => List.all_eq_true.mp pg_k49 (pc, q) (ev_lu_mem h)
theorem pg_k50 : pg_c50.all (fun z => ev_ok pg_hs pg_cl pg_mt "TicketTag" "TicketTag" prog_1_method_21_code 2 1 25 z.1 z.2) = true := by decide +kernel
theorem pg_o50 : ∀ pc q, ev_lu pg_c50 pc = some q → ev_ok pg_hs pg_cl pg_mt "TicketTag" "TicketTag" prog_1_method_21_code 2 1 25 pc q = true := fun pc q h => List.all_eq_true.mp pg_k50 (pc, q) (ev_lu_mem h)
theorem pg_k51 : pg_c51.all (fun z => ev_ok pg_hs pg_cl pg_mt "TicketTag" "TicketTag" prog_1_method_24_code 1 1 27 z.1 z.2) = true := by decide +kernel
theorem pg_o51 : ∀ pc q, ev_lu pg_c51 pc = some q → ev_ok pg_hs pg_cl pg_mt "TicketTag" "TicketTag" prog_1_method_24_code 1 1 27 pc q = true := fun pc q h => List.all_eq_true.mp pg_k51 (pc, q) (ev_lu_mem h)
theorem pg_k52 : pg_c52.all (fun z => ev_ok pg_hs pg_cl pg_mt "TicketTag" "TicketTag" prog_1_method_65_code 2 1 27 z.1 z.2) = true := by decide +kernel
theorem pg_o52 : ∀ pc q, ev_lu pg_c52 pc = some q → ev_ok pg_hs pg_cl pg_mt "TicketTag" "TicketTag" prog_1_method_65_code 2 1 27 pc q = true := fun pc q h => List.all_eq_true.mp pg_k52 (pc, q) (ev_lu_mem h)
theorem pg_k53 : pg_c53.all (fun z => ev_ok pg_hs pg_cl pg_mt "TicketTag" "TicketTag" prog_1_method_64_code 2 1 27 z.1 z.2) = true := by decide +kernel
theorem pg_o53 : ∀ pc q, ev_lu pg_c53 pc = some q → ev_ok pg_hs pg_cl pg_mt "TicketTag" "TicketTag" prog_1_method_64_code 2 1 27 pc q = true := fun pc q h => List.all_eq_true.mp pg_k53 (pc, q) (ev_lu_mem h)
theorem pg_k54 : pg_c54.all (fun z => ev_ok pg_hs pg_cl pg_mt "TicketTag" "TicketTag" prog_1_method_25_code 2 1 27 z.1 z.2) = true := by decide +kernel
theorem pg_o54 : ∀ pc q, ev_lu pg_c54 pc = some q → ev_ok pg_hs pg_cl pg_mt "TicketTag" "TicketTag" prog_1_method_25_code 2 1 27 pc q = true := fun pc q h => List.all_eq_true.mp pg_k54 (pc, q) (ev_lu_mem h)
theorem pg_k55 : pg_c55.all (fun z => ev_ok pg_hs pg_cl pg_mt "TicketTag" "TicketTag" prog_1_method_61_code 2 1 27 z.1 z.2) = true := by decide +kernel
theorem pg_o55 : ∀ pc q, ev_lu pg_c55 pc = some q → ev_ok pg_hs pg_cl pg_mt "TicketTag" "TicketTag" prog_1_method_61_code 2 1 27 pc q = true := fun pc q h => List.all_eq_true.mp pg_k55 (pc, q) (ev_lu_mem h)
theorem pg_k56 : pg_c56.all (fun z => ev_ok pg_hs pg_cl pg_mt "TicketTag" "TicketTag" prog_1_method_66_code 2 1 27 z.1 z.2) = true := by decide +kernel
theorem pg_o56 : ∀ pc q, ev_lu pg_c56 pc = some q → ev_ok pg_hs pg_cl pg_mt "TicketTag" "TicketTag" prog_1_method_66_code 2 1 27 pc q = true := fun pc q h => List.all_eq_true.mp pg_k56 (pc, q) (ev_lu_mem h)
theorem pg_k57 : pg_c57.all (fun z => ev_ok pg_hs pg_cl pg_mt "TicketTag$Memory" "TicketTag" prog_2_method_12_code 4 1 27 z.1 z.2) = true := by decide +kernel
theorem pg_o57 : ∀ pc q, ev_lu pg_c57 pc = some q → ev_ok pg_hs pg_cl pg_mt "TicketTag$Memory" "TicketTag" prog_2_method_12_code 4 1 27 pc q = true := fun pc q h => List.all_eq_true.mp pg_k57 (pc, q) (ev_lu_mem h)
theorem pg_k58 : pg_c58.all (fun z => ev_ok pg_hs pg_cl pg_mt "TicketTag$Memory" "TicketTag" prog_2_method_9_code 6 1 24 z.1 z.2) = true := by decide +kernel
theorem pg_o58 : ∀ pc q, ev_lu pg_c58 pc = some q → ev_ok pg_hs pg_cl pg_mt "TicketTag$Memory" "TicketTag" prog_2_method_9_code 6 1 24 pc q = true := fun pc q h => List.all_eq_true.mp pg_k58 (pc, q) (ev_lu_mem h)
theorem pg_k59 : pg_c59.all (fun z => ev_ok pg_hs pg_cl pg_mt "TicketTagModel" "TicketTag" prog_4_method_29_code 3 1 26 z.1 z.2) = true := by decide +kernel
theorem pg_o59 : ∀ pc q, ev_lu pg_c59 pc = some q → ev_ok pg_hs pg_cl pg_mt "TicketTagModel" "TicketTag" prog_4_method_29_code 3 1 26 pc q = true := fun pc q h => List.all_eq_true.mp pg_k59 (pc, q) (ev_lu_mem h)
theorem pg_k60 : pg_c60.all (fun z => ev_ok pg_hs pg_cl pg_mt "TicketTagModel" "TicketTag" prog_4_method_15_code 2 1 26 z.1 z.2) = true := by decide +kernel
theorem pg_o60 : ∀ pc q, ev_lu pg_c60 pc = some q → ev_ok pg_hs pg_cl pg_mt "TicketTagModel" "TicketTag" prog_4_method_15_code 2 1 26 pc q = true := fun pc q h => List.all_eq_true.mp pg_k60 (pc, q) (ev_lu_mem h)
theorem pg_k61 : pg_c61.all (fun z => ev_ok pg_hs pg_cl pg_mt "TicketTagModel" "TicketTag" prog_4_method_25_code 6 1 26 z.1 z.2) = true := by decide +kernel
theorem pg_o61 : ∀ pc q, ev_lu pg_c61 pc = some q → ev_ok pg_hs pg_cl pg_mt "TicketTagModel" "TicketTag" prog_4_method_25_code 6 1 26 pc q = true := fun pc q h => List.all_eq_true.mp pg_k61 (pc, q) (ev_lu_mem h)
theorem pg_k62 : pg_c62.all (fun z => ev_ok pg_hs pg_cl pg_mt "TicketTagModel" "TicketTag" prog_4_method_7_code 4 1 26 z.1 z.2) = true := by decide +kernel
theorem pg_o62 : ∀ pc q, ev_lu pg_c62 pc = some q → ev_ok pg_hs pg_cl pg_mt "TicketTagModel" "TicketTag" prog_4_method_7_code 4 1 26 pc q = true := fun pc q h => List.all_eq_true.mp pg_k62 (pc, q) (ev_lu_mem h)
theorem pg_k63 : pg_c63.all (fun z => ev_ok pg_hs pg_cl pg_mt "TicketTagModel" "TicketTag" prog_4_method_11_code 1 1 26 z.1 z.2) = true := by decide +kernel
theorem pg_o63 : ∀ pc q, ev_lu pg_c63 pc = some q → ev_ok pg_hs pg_cl pg_mt "TicketTagModel" "TicketTag" prog_4_method_11_code 1 1 26 pc q = true := fun pc q h => List.all_eq_true.mp pg_k63 (pc, q) (ev_lu_mem h)
theorem pg_k64 : pg_c64.all (fun z => ev_ok pg_hs pg_cl pg_mt "TicketTagModel" "TicketTag" prog_4_method_12_code 3 1 26 z.1 z.2) = true := by decide +kernel
theorem pg_o64 : ∀ pc q, ev_lu pg_c64 pc = some q → ev_ok pg_hs pg_cl pg_mt "TicketTagModel" "TicketTag" prog_4_method_12_code 3 1 26 pc q = true := fun pc q h => List.all_eq_true.mp pg_k64 (pc, q) (ev_lu_mem h)
theorem pg_k65 : pg_c65.all (fun z => ev_ok pg_hs pg_cl pg_mt "TicketTagModel" "TicketTag" prog_4_method_28_code 4 1 26 z.1 z.2) = true := by decide +kernel
theorem pg_o65 : ∀ pc q, ev_lu pg_c65 pc = some q → ev_ok pg_hs pg_cl pg_mt "TicketTagModel" "TicketTag" prog_4_method_28_code 4 1 26 pc q = true := fun pc q h => List.all_eq_true.mp pg_k65 (pc, q) (ev_lu_mem h)
theorem pg_k66 : pg_c66.all (fun z => ev_ok pg_hs pg_cl pg_mt "TicketTagModel" "TicketTag" prog_4_method_40_code 3 1 26 z.1 z.2) = true := by decide +kernel
theorem pg_o66 : ∀ pc q, ev_lu pg_c66 pc = some q → ev_ok pg_hs pg_cl pg_mt "TicketTagModel" "TicketTag" prog_4_method_40_code 3 1 26 pc q = true := fun pc q h => List.all_eq_true.mp pg_k66 (pc, q) (ev_lu_mem h)
theorem pg_k67 : pg_c67.all (fun z => ev_ok pg_hs pg_cl pg_mt "TicketTagModel" "TicketTag" prog_4_method_16_code 2 1 26 z.1 z.2) = true := by decide +kernel
theorem pg_o67 : ∀ pc q, ev_lu pg_c67 pc = some q → ev_ok pg_hs pg_cl pg_mt "TicketTagModel" "TicketTag" prog_4_method_16_code 2 1 26 pc q = true := fun pc q h => List.all_eq_true.mp pg_k67 (pc, q) (ev_lu_mem h)
theorem pg_k68 : pg_c68.all (fun z => ev_ok pg_hs pg_cl pg_mt "TicketTagModel" "TicketTag" prog_4_method_48_code 3 1 26 z.1 z.2) = true := by decide +kernel
theorem pg_o68 : ∀ pc q, ev_lu pg_c68 pc = some q → ev_ok pg_hs pg_cl pg_mt "TicketTagModel" "TicketTag" prog_4_method_48_code 3 1 26 pc q = true := fun pc q h => List.all_eq_true.mp pg_k68 (pc, q) (ev_lu_mem h)
theorem pg_k69 : pg_c69.all (fun z => ev_ok pg_hs pg_cl pg_mt "TicketTagModel" "TicketTag" prog_4_method_9_code 4 1 29 z.1 z.2) = true := by decide +kernel
theorem pg_o69 : ∀ pc q, ev_lu pg_c69 pc = some q → ev_ok pg_hs pg_cl pg_mt "TicketTagModel" "TicketTag" prog_4_method_9_code 4 1 29 pc q = true := fun pc q h => List.all_eq_true.mp pg_k69 (pc, q) (ev_lu_mem h)
theorem pg_k70 : pg_c70.all (fun z => ev_ok pg_hs pg_cl pg_mt "TicketTag" "TicketTag" prog_1_method_57_code 4 2 52 z.1 z.2) = true := by decide +kernel
theorem pg_o70 : ∀ pc q, ev_lu pg_c70 pc = some q → ev_ok pg_hs pg_cl pg_mt "TicketTag" "TicketTag" prog_1_method_57_code 4 2 52 pc q = true := fun pc q h => List.all_eq_true.mp pg_k70 (pc, q) (ev_lu_mem h)
theorem pg_k71 : pg_c71.all (fun z => ev_ok pg_hs pg_cl pg_mt "TicketTag" "TicketTag" prog_1_method_40_code 3 2 53 z.1 z.2) = true := by decide +kernel
theorem pg_o71 : ∀ pc q, ev_lu pg_c71 pc = some q → ev_ok pg_hs pg_cl pg_mt "TicketTag" "TicketTag" prog_1_method_40_code 3 2 53 pc q = true := fun pc q h => List.all_eq_true.mp pg_k71 (pc, q) (ev_lu_mem h)
theorem pg_k72 : pg_c72.all (fun z => ev_ok pg_hs pg_cl pg_mt "TicketTag" "TicketTag" prog_1_method_18_code 2 2 53 z.1 z.2) = true := by decide +kernel
theorem pg_o72 : ∀ pc q, ev_lu pg_c72 pc = some q → ev_ok pg_hs pg_cl pg_mt "TicketTag" "TicketTag" prog_1_method_18_code 2 2 53 pc q = true := fun pc q h => List.all_eq_true.mp pg_k72 (pc, q) (ev_lu_mem h)
theorem pg_k73 : pg_c73.all (fun z => ev_ok pg_hs pg_cl pg_mt "TicketTag" "TicketTag" prog_1_method_55_code 3 2 54 z.1 z.2) = true := by decide +kernel
theorem pg_o73 : ∀ pc q, ev_lu pg_c73 pc = some q → ev_ok pg_hs pg_cl pg_mt "TicketTag" "TicketTag" prog_1_method_55_code 3 2 54 pc q = true := fun pc q h => List.all_eq_true.mp pg_k73 (pc, q) (ev_lu_mem h)
theorem pg_k74 : pg_c74.all (fun z => ev_ok pg_hs pg_cl pg_mt "TicketTag" "TicketTag" prog_1_method_28_code 1 2 51 z.1 z.2) = true := by decide +kernel
theorem pg_o74 : ∀ pc q, ev_lu pg_c74 pc = some q → ev_ok pg_hs pg_cl pg_mt "TicketTag" "TicketTag" prog_1_method_28_code 1 2 51 pc q = true := fun pc q h => List.all_eq_true.mp pg_k74 (pc, q) (ev_lu_mem h)
theorem pg_k75 : pg_c75.all (fun z => ev_ok pg_hs pg_cl pg_mt "TicketTag" "TicketTag" prog_1_method_30_code 3 2 52 z.1 z.2) = true := by decide +kernel
theorem pg_o75 : ∀ pc q, ev_lu pg_c75 pc = some q → ev_ok pg_hs pg_cl pg_mt "TicketTag" "TicketTag" prog_1_method_30_code 3 2 52 pc q = true := fun pc q h => List.all_eq_true.mp pg_k75 (pc, q) (ev_lu_mem h)
theorem pg_k76 : pg_c76.all (fun z => ev_ok pg_hs pg_cl pg_mt "TicketTag" "TicketTag" prog_1_method_11_code 1 2 53 z.1 z.2) = true := by decide +kernel
theorem pg_o76 : ∀ pc q, ev_lu pg_c76 pc = some q → ev_ok pg_hs pg_cl pg_mt "TicketTag" "TicketTag" prog_1_method_11_code 1 2 53 pc q = true := fun pc q h => List.all_eq_true.mp pg_k76 (pc, q) (ev_lu_mem h)
theorem pg_k77 : pg_c77.all (fun z => ev_ok pg_hs pg_cl pg_mt "TicketTag" "TicketTag" prog_1_method_59_code 2 2 52 z.1 z.2) = true := by decide +kernel
theorem pg_o77 : ∀ pc q, ev_lu pg_c77 pc = some q → ev_ok pg_hs pg_cl pg_mt "TicketTag" "TicketTag" prog_1_method_59_code 2 2 52 pc q = true := fun pc q h => List.all_eq_true.mp pg_k77 (pc, q) (ev_lu_mem h)
theorem pg_k78 : pg_c78.all (fun z => ev_ok pg_hs pg_cl pg_mt "TicketTag" "TicketTag" prog_1_method_44_code 4 2 53 z.1 z.2) = true := by decide +kernel
theorem pg_o78 : ∀ pc q, ev_lu pg_c78 pc = some q → ev_ok pg_hs pg_cl pg_mt "TicketTag" "TicketTag" prog_1_method_44_code 4 2 53 pc q = true := fun pc q h => List.all_eq_true.mp pg_k78 (pc, q) (ev_lu_mem h)
theorem pg_k79 : pg_c79.all (fun z => ev_ok pg_hs pg_cl pg_mt "TicketTag$Memory" "TicketTag" prog_2_method_11_code 3 2 53 z.1 z.2) = true := by decide +kernel
theorem pg_o79 : ∀ pc q, ev_lu pg_c79 pc = some q → ev_ok pg_hs pg_cl pg_mt "TicketTag$Memory" "TicketTag" prog_2_method_11_code 3 2 53 pc q = true := fun pc q h => List.all_eq_true.mp pg_k79 (pc, q) (ev_lu_mem h)
theorem pg_k80 : pg_c80.all (fun z => ev_ok pg_hs pg_cl pg_mt "TicketTag$Memory" "TicketTag" prog_2_method_15_code 4 2 54 z.1 z.2) = true := by decide +kernel
theorem pg_o80 : ∀ pc q, ev_lu pg_c80 pc = some q → ev_ok pg_hs pg_cl pg_mt "TicketTag$Memory" "TicketTag" prog_2_method_15_code 4 2 54 pc q = true := fun pc q h => List.all_eq_true.mp pg_k80 (pc, q) (ev_lu_mem h)
theorem pg_k81 : pg_c81.all (fun z => ev_ok pg_hs pg_cl pg_mt "TicketTag$Memory" "TicketTag" prog_2_method_18_code 5 2 53 z.1 z.2) = true := by decide +kernel
theorem pg_o81 : ∀ pc q, ev_lu pg_c81 pc = some q → ev_ok pg_hs pg_cl pg_mt "TicketTag$Memory" "TicketTag" prog_2_method_18_code 5 2 53 pc q = true := fun pc q h => List.all_eq_true.mp pg_k81 (pc, q) (ev_lu_mem h)
theorem pg_k82 : pg_c82.all (fun z => ev_ok pg_hs pg_cl pg_mt "TicketTagModel" "TicketTag" prog_4_method_49_code 2 2 52 z.1 z.2) = true := by decide +kernel
theorem pg_o82 : ∀ pc q, ev_lu pg_c82 pc = some q → ev_ok pg_hs pg_cl pg_mt "TicketTagModel" "TicketTag" prog_4_method_49_code 2 2 52 pc q = true := fun pc q h => List.all_eq_true.mp pg_k82 (pc, q) (ev_lu_mem h)
theorem pg_k83 : pg_c83.all (fun z => ev_ok pg_hs pg_cl pg_mt "TicketTagModel" "TicketTag" prog_4_method_18_code 2 2 53 z.1 z.2) = true := by decide +kernel
theorem pg_o83 : ∀ pc q, ev_lu pg_c83 pc = some q → ev_ok pg_hs pg_cl pg_mt "TicketTagModel" "TicketTag" prog_4_method_18_code 2 2 53 pc q = true := fun pc q h => List.all_eq_true.mp pg_k83 (pc, q) (ev_lu_mem h)
theorem pg_k84 : pg_c84.all (fun z => ev_ok pg_hs pg_cl pg_mt "TicketTagModel" "TicketTag" prog_4_method_8_code 5 2 53 z.1 z.2) = true := by decide +kernel
theorem pg_o84 : ∀ pc q, ev_lu pg_c84 pc = some q → ev_ok pg_hs pg_cl pg_mt "TicketTagModel" "TicketTag" prog_4_method_8_code 5 2 53 pc q = true := fun pc q h => List.all_eq_true.mp pg_k84 (pc, q) (ev_lu_mem h)
theorem pg_k85 : pg_c85.all (fun z => ev_ok pg_hs pg_cl pg_mt "TicketTagModel" "TicketTag" prog_4_method_42_code 1 2 52 z.1 z.2) = true := by decide +kernel
theorem pg_o85 : ∀ pc q, ev_lu pg_c85 pc = some q → ev_ok pg_hs pg_cl pg_mt "TicketTagModel" "TicketTag" prog_4_method_42_code 1 2 52 pc q = true := fun pc q h => List.all_eq_true.mp pg_k85 (pc, q) (ev_lu_mem h)
theorem pg_k86 : pg_c86.all (fun z => ev_ok pg_hs pg_cl pg_mt "TicketTagModel" "TicketTag" prog_4_method_19_code 3 2 56 z.1 z.2) = true := by decide +kernel
theorem pg_o86 : ∀ pc q, ev_lu pg_c86 pc = some q → ev_ok pg_hs pg_cl pg_mt "TicketTagModel" "TicketTag" prog_4_method_19_code 3 2 56 pc q = true := fun pc q h => List.all_eq_true.mp pg_k86 (pc, q) (ev_lu_mem h)
theorem pg_k87 : pg_c87.all (fun z => ev_ok pg_hs pg_cl pg_mt "TicketTag" "TicketTag" prog_1_method_39_code 4 3 79 z.1 z.2) = true := by decide +kernel
theorem pg_o87 : ∀ pc q, ev_lu pg_c87 pc = some q → ev_ok pg_hs pg_cl pg_mt "TicketTag" "TicketTag" prog_1_method_39_code 4 3 79 pc q = true := fun pc q h => List.all_eq_true.mp pg_k87 (pc, q) (ev_lu_mem h)
theorem pg_k88 : pg_c88.all (fun z => ev_ok pg_hs pg_cl pg_mt "TicketTag" "TicketTag" prog_1_method_33_code 3 3 79 z.1 z.2) = true := by decide +kernel
theorem pg_o88 : ∀ pc q, ev_lu pg_c88 pc = some q → ev_ok pg_hs pg_cl pg_mt "TicketTag" "TicketTag" prog_1_method_33_code 3 3 79 pc q = true := fun pc q h => List.all_eq_true.mp pg_k88 (pc, q) (ev_lu_mem h)
theorem pg_k89 : pg_c89.all (fun z => ev_ok pg_hs pg_cl pg_mt "TicketTag" "TicketTag" prog_1_method_56_code 2 3 80 z.1 z.2) = true := by decide +kernel
theorem pg_o89 : ∀ pc q, ev_lu pg_c89 pc = some q → ev_ok pg_hs pg_cl pg_mt "TicketTag" "TicketTag" prog_1_method_56_code 2 3 80 pc q = true := fun pc q h => List.all_eq_true.mp pg_k89 (pc, q) (ev_lu_mem h)
theorem pg_k90 : pg_c90.all (fun z => ev_ok pg_hs pg_cl pg_mt "TicketTag" "TicketTag" prog_1_method_50_code 3 3 77 z.1 z.2) = true := by decide +kernel
theorem pg_o90 : ∀ pc q, ev_lu pg_c90 pc = some q → ev_ok pg_hs pg_cl pg_mt "TicketTag" "TicketTag" prog_1_method_50_code 3 3 77 pc q = true := fun pc q h => List.all_eq_true.mp pg_k90 (pc, q) (ev_lu_mem h)
theorem pg_k91 : pg_c91.all (fun z => ev_ok pg_hs pg_cl pg_mt "TicketTag" "TicketTag" prog_1_method_52_code 5 3 81 z.1 z.2) = true := by decide +kernel
theorem pg_o91 : ∀ pc q, ev_lu pg_c91 pc = some q → ev_ok pg_hs pg_cl pg_mt "TicketTag" "TicketTag" prog_1_method_52_code 5 3 81 pc q = true := fun pc q h => List.all_eq_true.mp pg_k91 (pc, q) (ev_lu_mem h)
theorem pg_k92 : pg_c92.all (fun z => ev_ok pg_hs pg_cl pg_mt "TicketTag" "TicketTag" prog_1_method_53_code 1 3 81 z.1 z.2) = true := by decide +kernel
theorem pg_o92 : ∀ pc q, ev_lu pg_c92 pc = some q → ev_ok pg_hs pg_cl pg_mt "TicketTag" "TicketTag" prog_1_method_53_code 1 3 81 pc q = true := fun pc q h => List.all_eq_true.mp pg_k92 (pc, q) (ev_lu_mem h)
theorem pg_k93 : pg_c93.all (fun z => ev_ok pg_hs pg_cl pg_mt "TicketTag" "TicketTag" prog_1_method_46_code 1 3 81 z.1 z.2) = true := by decide +kernel
theorem pg_o93 : ∀ pc q, ev_lu pg_c93 pc = some q → ev_ok pg_hs pg_cl pg_mt "TicketTag" "TicketTag" prog_1_method_46_code 1 3 81 pc q = true := fun pc q h => List.all_eq_true.mp pg_k93 (pc, q) (ev_lu_mem h)
theorem pg_k94 : pg_c94.all (fun z => ev_ok pg_hs pg_cl pg_mt "TicketTag" "TicketTag" prog_1_method_29_code 4 3 75 z.1 z.2) = true := by decide +kernel
theorem pg_o94 : ∀ pc q, ev_lu pg_c94 pc = some q → ev_ok pg_hs pg_cl pg_mt "TicketTag" "TicketTag" prog_1_method_29_code 4 3 75 pc q = true := fun pc q h => List.all_eq_true.mp pg_k94 (pc, q) (ev_lu_mem h)
theorem pg_k95 : pg_c95.all (fun z => ev_ok pg_hs pg_cl pg_mt "TicketTag" "TicketTag" prog_1_method_47_code 3 3 81 z.1 z.2) = true := by decide +kernel
theorem pg_o95 : ∀ pc q, ev_lu pg_c95 pc = some q → ev_ok pg_hs pg_cl pg_mt "TicketTag" "TicketTag" prog_1_method_47_code 3 3 81 pc q = true := fun pc q h => List.all_eq_true.mp pg_k95 (pc, q) (ev_lu_mem h)
theorem pg_k96 : pg_c96.all (fun z => ev_ok pg_hs pg_cl pg_mt "TicketTag$Memory" "TicketTag" prog_2_method_17_code 3 3 81 z.1 z.2) = true := by decide +kernel
theorem pg_o96 : ∀ pc q, ev_lu pg_c96 pc = some q → ev_ok pg_hs pg_cl pg_mt "TicketTag$Memory" "TicketTag" prog_2_method_17_code 3 3 81 pc q = true := fun pc q h => List.all_eq_true.mp pg_k96 (pc, q) (ev_lu_mem h)
theorem pg_k97 : pg_c97.all (fun z => ev_ok pg_hs pg_cl pg_mt "TicketTagModel" "TicketTag" prog_4_method_44_code 3 3 81 z.1 z.2) = true := by decide +kernel
theorem pg_o97 : ∀ pc q, ev_lu pg_c97 pc = some q → ev_ok pg_hs pg_cl pg_mt "TicketTagModel" "TicketTag" prog_4_method_44_code 3 3 81 pc q = true := fun pc q h => List.all_eq_true.mp pg_k97 (pc, q) (ev_lu_mem h)
theorem pg_k98 : pg_c98.all (fun z => ev_ok pg_hs pg_cl pg_mt "TicketTagModel" "TicketTag" prog_4_method_43_code 2 3 81 z.1 z.2) = true := by decide +kernel
theorem pg_o98 : ∀ pc q, ev_lu pg_c98 pc = some q → ev_ok pg_hs pg_cl pg_mt "TicketTagModel" "TicketTag" prog_4_method_43_code 2 3 81 pc q = true := fun pc q h => List.all_eq_true.mp pg_k98 (pc, q) (ev_lu_mem h)
theorem pg_k99 : pg_c99.all (fun z => ev_ok pg_hs pg_cl pg_mt "TicketTagModel" "TicketTag" prog_4_method_32_code 2 3 82 z.1 z.2) = true := by decide +kernel
theorem pg_o99 : ∀ pc q, ev_lu pg_c99 pc = some q → ev_ok pg_hs pg_cl pg_mt "TicketTagModel" "TicketTag" prog_4_method_32_code 2 3 82 pc q = true := fun pc q h => List.all_eq_true.mp pg_k99 (pc, q) (ev_lu_mem h)
theorem pg_k100 : pg_c100.all (fun z => ev_ok pg_hs pg_cl pg_mt "TicketTagModel" "TicketTag" prog_4_method_13_code 4 3 81 z.1 z.2) = true := by decide +kernel
theorem pg_o100 : ∀ pc q, ev_lu pg_c100 pc = some q → ev_ok pg_hs pg_cl pg_mt "TicketTagModel" "TicketTag" prog_4_method_13_code 4 3 81 pc q = true := fun pc q h => List.all_eq_true.mp pg_k100 (pc, q) (ev_lu_mem h)
theorem pg_k101 : pg_c101.all (fun z => ev_ok pg_hs pg_cl pg_mt "TicketTagModel" "TicketTag" prog_4_method_10_code 3 3 81 z.1 z.2) = true := by decide +kernel
theorem pg_o101 : ∀ pc q, ev_lu pg_c101 pc = some q → ev_ok pg_hs pg_cl pg_mt "TicketTagModel" "TicketTag" prog_4_method_10_code 3 3 81 pc q = true := fun pc q h => List.all_eq_true.mp pg_k101 (pc, q) (ev_lu_mem h)
theorem pg_k102 : pg_c102.all (fun z => ev_ok pg_hs pg_cl pg_mt "TicketTag" "TicketTag" prog_1_method_13_code 3 4 105 z.1 z.2) = true := by decide +kernel
theorem pg_o102 : ∀ pc q, ev_lu pg_c102 pc = some q → ev_ok pg_hs pg_cl pg_mt "TicketTag" "TicketTag" prog_1_method_13_code 3 4 105 pc q = true := fun pc q h => List.all_eq_true.mp pg_k102 (pc, q) (ev_lu_mem h)
theorem pg_k103 : pg_c103.all (fun z => ev_ok pg_hs pg_cl pg_mt "TicketTag" "TicketTag" prog_1_method_12_code 2 4 105 z.1 z.2) = true := by decide +kernel
theorem pg_o103 : ∀ pc q, ev_lu pg_c103 pc = some q → ev_ok pg_hs pg_cl pg_mt "TicketTag" "TicketTag" prog_1_method_12_code 2 4 105 pc q = true := fun pc q h => List.all_eq_true.mp pg_k103 (pc, q) (ev_lu_mem h)
theorem pg_k104 : pg_c104.all (fun z => ev_ok pg_hs pg_cl pg_mt "TicketTag" "TicketTag" prog_1_method_51_code 3 4 109 z.1 z.2) = true := by decide +kernel
theorem pg_o104 : ∀ pc q, ev_lu pg_c104 pc = some q → ev_ok pg_hs pg_cl pg_mt "TicketTag" "TicketTag" prog_1_method_51_code 3 4 109 pc q = true := fun pc q h => List.all_eq_true.mp pg_k104 (pc, q) (ev_lu_mem h)
theorem pg_k105 : pg_c105.all (fun z => ev_ok pg_hs pg_cl pg_mt "TicketTag" "TicketTag" prog_1_method_34_code 6 4 107 z.1 z.2) = true := by decide +kernel
theorem pg_o105 : ∀ pc q, ev_lu pg_c105 pc = some q → ev_ok pg_hs pg_cl pg_mt "TicketTag" "TicketTag" prog_1_method_34_code 6 4 107 pc q = true := fun pc q h => List.all_eq_true.mp pg_k105 (pc, q) (ev_lu_mem h)
theorem pg_k106 : pg_c106.all (fun z => ev_ok pg_hs pg_cl pg_mt "TicketTag" "TicketTag" prog_1_method_36_code 5 4 107 z.1 z.2) = true := by decide +kernel
theorem pg_o106 : ∀ pc q, ev_lu pg_c106 pc = some q → ev_ok pg_hs pg_cl pg_mt "TicketTag" "TicketTag" prog_1_method_36_code 5 4 107 pc q = true := fun pc q h => List.all_eq_true.mp pg_k106 (pc, q) (ev_lu_mem h)
theorem pg_k107 : pg_c107.all (fun z => ev_ok pg_hs pg_cl pg_mt "TicketTag" "TicketTag" prog_1_method_35_code 5 4 107 z.1 z.2) = true := by decide +kernel
theorem pg_o107 : ∀ pc q, ev_lu pg_c107 pc = some q → ev_ok pg_hs pg_cl pg_mt "TicketTag" "TicketTag" prog_1_method_35_code 5 4 107 pc q = true := fun pc q h => List.all_eq_true.mp pg_k107 (pc, q) (ev_lu_mem h)
theorem pg_k108 : pg_c108.all (fun z => ev_ok pg_hs pg_cl pg_mt "TicketTag" "TicketTag" prog_1_method_37_code 11 4 107 z.1 z.2) = true := by decide +kernel
theorem pg_o108 : ∀ pc q, ev_lu pg_c108 pc = some q → ev_ok pg_hs pg_cl pg_mt "TicketTag" "TicketTag" prog_1_method_37_code 11 4 107 pc q = true := fun pc q h => List.all_eq_true.mp pg_k108 (pc, q) (ev_lu_mem h)
theorem pg_k109 : pg_c109.all (fun z => ev_ok pg_hs pg_cl pg_mt "TicketTag" "TicketTag" prog_1_method_48_code 2 4 109 z.1 z.2) = true := by decide +kernel
theorem pg_o109 : ∀ pc q, ev_lu pg_c109 pc = some q → ev_ok pg_hs pg_cl pg_mt "TicketTag" "TicketTag" prog_1_method_48_code 2 4 109 pc q = true := fun pc q h => List.all_eq_true.mp pg_k109 (pc, q) (ev_lu_mem h)
theorem pg_k110 : pg_c110.all (fun z => ev_ok pg_hs pg_cl pg_mt "TicketTag" "TicketTag" prog_1_method_23_code 5 4 107 z.1 z.2) = true := by decide +kernel
theorem pg_o110 : ∀ pc q, ev_lu pg_c110 pc = some q → ev_ok pg_hs pg_cl pg_mt "TicketTag" "TicketTag" prog_1_method_23_code 5 4 107 pc q = true := fun pc q h => List.all_eq_true.mp pg_k110 (pc, q) (ev_lu_mem h)
theorem pg_k111 : pg_c111.all (fun z => ev_ok pg_hs pg_cl pg_mt "TicketTagModel" "TicketTag" prog_4_method_26_code 6 4 107 z.1 z.2) = true := by decide +kernel
theorem pg_o111 : ∀ pc q, ev_lu pg_c111 pc = some q → ev_ok pg_hs pg_cl pg_mt "TicketTagModel" "TicketTag" prog_4_method_26_code 6 4 107 pc q = true := fun pc q h => List.all_eq_true.mp pg_k111 (pc, q) (ev_lu_mem h)
theorem pg_k112 : pg_c112.all (fun z => ev_ok pg_hs pg_cl pg_mt "TicketTagModel" "TicketTag" prog_4_method_14_code 3 4 108 z.1 z.2) = true := by decide +kernel
theorem pg_o112 : ∀ pc q, ev_lu pg_c112 pc = some q → ev_ok pg_hs pg_cl pg_mt "TicketTagModel" "TicketTag" prog_4_method_14_code 3 4 108 pc q = true := fun pc q h => List.all_eq_true.mp pg_k112 (pc, q) (ev_lu_mem h)
theorem pg_k113 : pg_c113.all (fun z => ev_ok pg_hs pg_cl pg_mt "TicketTagModel" "TicketTag" prog_4_method_31_code 9 4 107 z.1 z.2) = true := by decide +kernel
theorem pg_o113 : ∀ pc q, ev_lu pg_c113 pc = some q → ev_ok pg_hs pg_cl pg_mt "TicketTagModel" "TicketTag" prog_4_method_31_code 9 4 107 pc q = true := fun pc q h => List.all_eq_true.mp pg_k113 (pc, q) (ev_lu_mem h)
theorem pg_k114 : pg_c114.all (fun z => ev_ok pg_hs pg_cl pg_mt "TicketTagModel" "TicketTag" prog_4_method_38_code 3 4 107 z.1 z.2) = true := by decide +kernel
theorem pg_o114 : ∀ pc q, ev_lu pg_c114 pc = some q → ev_ok pg_hs pg_cl pg_mt "TicketTagModel" "TicketTag" prog_4_method_38_code 3 4 107 pc q = true := fun pc q h => List.all_eq_true.mp pg_k114 (pc, q) (ev_lu_mem h)
theorem pg_k115 : pg_c115.all (fun z => ev_ok pg_hs pg_cl pg_mt "TicketTag" "TicketTag" prog_1_method_49_code 2 5 135 z.1 z.2) = true := by decide +kernel
theorem pg_o115 : ∀ pc q, ev_lu pg_c115 pc = some q → ev_ok pg_hs pg_cl pg_mt "TicketTag" "TicketTag" prog_1_method_49_code 2 5 135 pc q = true := fun pc q h => List.all_eq_true.mp pg_k115 (pc, q) (ev_lu_mem h)
theorem pg_k116 : pg_c116.all (fun z => ev_ok pg_hs pg_cl pg_mt "TicketTag" "TicketTag" prog_1_method_14_code 5 5 135 z.1 z.2) = true := by decide +kernel
theorem pg_o116 : ∀ pc q, ev_lu pg_c116 pc = some q → ev_ok pg_hs pg_cl pg_mt "TicketTag" "TicketTag" prog_1_method_14_code 5 5 135 pc q = true := fun pc q h => List.all_eq_true.mp pg_k116 (pc, q) (ev_lu_mem h)
theorem pg_k117 : pg_c117.all (fun z => ev_ok pg_hs pg_cl pg_mt "TicketTag" "TicketTag" prog_1_method_15_code 3 5 135 z.1 z.2) = true := by decide +kernel
theorem pg_o117 : ∀ pc q, ev_lu pg_c117 pc = some q → ev_ok pg_hs pg_cl pg_mt "TicketTag" "TicketTag" prog_1_method_15_code 3 5 135 pc q = true := fun pc q h => List.all_eq_true.mp pg_k117 (pc, q) (ev_lu_mem h)
theorem pg_k118 : pg_c118.all (fun z => ev_ok pg_hs pg_cl pg_mt "TicketTag" "TicketTag" prog_1_method_32_code 7 5 141 z.1 z.2) = true := by decide +kernel
theorem pg_o118 : ∀ pc q, ev_lu pg_c118 pc = some q → ev_ok pg_hs pg_cl pg_mt "TicketTag" "TicketTag" prog_1_method_32_code 7 5 141 pc q = true := fun pc q h => List.all_eq_true.mp pg_k118 (pc, q) (ev_lu_mem h)
theorem pg_k119 : pg_c119.all (fun z => ev_ok pg_hs pg_cl pg_mt "TicketTagModel" "TicketTag" prog_4_method_36_code 6 5 139 z.1 z.2) = true := by decide +kernel
theorem pg_o119 : ∀ pc q, ev_lu pg_c119 pc = some q → ev_ok pg_hs pg_cl pg_mt "TicketTagModel" "TicketTag" prog_4_method_36_code 6 5 139 pc q = true := fun pc q h => List.all_eq_true.mp pg_k119 (pc, q) (ev_lu_mem h)
theorem pg_k120 : pg_c120.all (fun z => ev_ok pg_hs pg_cl pg_mt "TicketTagModel" "TicketTag" prog_4_method_47_code 5 5 134 z.1 z.2) = true := by decide +kernel
theorem pg_o120 : ∀ pc q, ev_lu pg_c120 pc = some q → ev_ok pg_hs pg_cl pg_mt "TicketTagModel" "TicketTag" prog_4_method_47_code 5 5 134 pc q = true := fun pc q h => List.all_eq_true.mp pg_k120 (pc, q) (ev_lu_mem h)
theorem pg_k121 : pg_c121.all (fun z => ev_ok pg_hs pg_cl pg_mt "TicketTagModel" "TicketTag" prog_4_method_45_code 6 5 134 z.1 z.2) = true := by decide +kernel
theorem pg_o121 : ∀ pc q, ev_lu pg_c121 pc = some q → ev_ok pg_hs pg_cl pg_mt "TicketTagModel" "TicketTag" prog_4_method_45_code 6 5 134 pc q = true := fun pc q h => List.all_eq_true.mp pg_k121 (pc, q) (ev_lu_mem h)
theorem pg_k122 : pg_c122.all (fun z => ev_ok pg_hs pg_cl pg_mt "TicketTagModel" "TicketTag" prog_4_method_46_code 3 5 134 z.1 z.2) = true := by decide +kernel
theorem pg_o122 : ∀ pc q, ev_lu pg_c122 pc = some q → ev_ok pg_hs pg_cl pg_mt "TicketTagModel" "TicketTag" prog_4_method_46_code 3 5 134 pc q = true := fun pc q h => List.all_eq_true.mp pg_k122 (pc, q) (ev_lu_mem h)
theorem pg_k123 : pg_c123.all (fun z => ev_ok pg_hs pg_cl pg_mt "TicketTagModel" "TicketTag" prog_4_method_35_code 4 5 139 z.1 z.2) = true := by decide +kernel
theorem pg_o123 : ∀ pc q, ev_lu pg_c123 pc = some q → ev_ok pg_hs pg_cl pg_mt "TicketTagModel" "TicketTag" prog_4_method_35_code 4 5 139 pc q = true := fun pc q h => List.all_eq_true.mp pg_k123 (pc, q) (ev_lu_mem h)
theorem pg_k124 : pg_c124.all (fun z => ev_ok pg_hs pg_cl pg_mt "TicketTagModel" "TicketTag" prog_4_method_30_code 4 5 134 z.1 z.2) = true := by decide +kernel
theorem pg_o124 : ∀ pc q, ev_lu pg_c124 pc = some q → ev_ok pg_hs pg_cl pg_mt "TicketTagModel" "TicketTag" prog_4_method_30_code 4 5 134 pc q = true := fun pc q h => List.all_eq_true.mp pg_k124 (pc, q) (ev_lu_mem h)
theorem pg_k125 : pg_c125.all (fun z => ev_ok pg_hs pg_cl pg_mt "TicketTagModel" "TicketTag" prog_4_method_37_code 10 5 139 z.1 z.2) = true := by decide +kernel
theorem pg_o125 : ∀ pc q, ev_lu pg_c125 pc = some q → ev_ok pg_hs pg_cl pg_mt "TicketTagModel" "TicketTag" prog_4_method_37_code 10 5 139 pc q = true := fun pc q h => List.all_eq_true.mp pg_k125 (pc, q) (ev_lu_mem h)
theorem pg_k126 : pg_c126.all (fun z => ev_ok pg_hs pg_cl pg_mt "TicketTag" "TicketTag" prog_1_method_4_code 3 6 82 z.1 z.2) = true := by decide +kernel
theorem pg_o126 : ∀ pc q, ev_lu pg_c126 pc = some q → ev_ok pg_hs pg_cl pg_mt "TicketTag" "TicketTag" prog_1_method_4_code 3 6 82 pc q = true := fun pc q h => List.all_eq_true.mp pg_k126 (pc, q) (ev_lu_mem h)
theorem pg_k127 : pg_c127.all (fun z => ev_ok pg_hs pg_cl pg_mt "TicketTag" "TicketTag" prog_1_method_16_code 6 6 135 z.1 z.2) = true := by decide +kernel
theorem pg_o127 : ∀ pc q, ev_lu pg_c127 pc = some q → ev_ok pg_hs pg_cl pg_mt "TicketTag" "TicketTag" prog_1_method_16_code 6 6 135 pc q = true := fun pc q h => List.all_eq_true.mp pg_k127 (pc, q) (ev_lu_mem h)
theorem pg_k128 : pg_c128.all (fun z => ev_ok pg_hs pg_cl pg_mt "TicketTag" "TicketTag" prog_1_method_2_code 5 6 135 z.1 z.2) = true := by decide +kernel
theorem pg_o128 : ∀ pc q, ev_lu pg_c128 pc = some q → ev_ok pg_hs pg_cl pg_mt "TicketTag" "TicketTag" prog_1_method_2_code 5 6 135 pc q = true := fun pc q h => List.all_eq_true.mp pg_k128 (pc, q) (ev_lu_mem h)
theorem pg_k129 : pg_c129.all (fun z => ev_ok pg_hs pg_cl pg_mt "TicketTag" "TicketTag" prog_1_method_5_code 2 6 160 z.1 z.2) = true := by decide +kernel
theorem pg_o129 : ∀ pc q, ev_lu pg_c129 pc = some q → ev_ok pg_hs pg_cl pg_mt "TicketTag" "TicketTag" prog_1_method_5_code 2 6 160 pc q = true := fun pc q h => List.all_eq_true.mp pg_k129 (pc, q) (ev_lu_mem h)
theorem pg_k130 : pg_c130.all (fun z => ev_ok pg_hs pg_cl pg_mt "TicketTag" "TicketTag" prog_1_method_3_code 4 6 82 z.1 z.2) = true := by decide +kernel
theorem pg_o130 : ∀ pc q, ev_lu pg_c130 pc = some q → ev_ok pg_hs pg_cl pg_mt "TicketTag" "TicketTag" prog_1_method_3_code 4 6 82 pc q = true := fun pc q h => List.all_eq_true.mp pg_k130 (pc, q) (ev_lu_mem h)
theorem pg_k131 : pg_c131.all (fun z => ev_ok pg_hs pg_cl pg_mt "TicketTag" "TicketTag" prog_1_method_9_code 3 6 82 z.1 z.2) = true := by decide +kernel
theorem pg_o131 : ∀ pc q, ev_lu pg_c131 pc = some q → ev_ok pg_hs pg_cl pg_mt "TicketTag" "TicketTag" prog_1_method_9_code 3 6 82 pc q = true := fun pc q h => List.all_eq_true.mp pg_k131 (pc, q) (ev_lu_mem h)
theorem pg_k132 : pg_c132.all (fun z => ev_ok pg_hs pg_cl pg_mt "TicketTag" "TicketTag" prog_1_method_7_code 3 6 107 z.1 z.2) = true := by decide +kernel
theorem pg_o132 : ∀ pc q, ev_lu pg_c132 pc = some q → ev_ok pg_hs pg_cl pg_mt "TicketTag" "TicketTag" prog_1_method_7_code 3 6 107 pc q = true := fun pc q h => List.all_eq_true.mp pg_k132 (pc, q) (ev_lu_mem h)
theorem pg_k133 : pg_c133.all (fun z => ev_ok pg_hs pg_cl pg_mt "TicketTag" "TicketTag" prog_1_method_6_code 6 6 171 z.1 z.2) = true := by decide +kernel
theorem pg_o133 : ∀ pc q, ev_lu pg_c133 pc = some q → ev_ok pg_hs pg_cl pg_mt "TicketTag" "TicketTag" prog_1_method_6_code 6 6 171 pc q = true := fun pc q h => List.all_eq_true.mp pg_k133 (pc, q) (ev_lu_mem h)
theorem pg_k134 : pg_c134.all (fun z => ev_ok pg_hs pg_cl pg_mt "TicketTag" "TicketTag" prog_1_method_17_code 3 6 82 z.1 z.2) = true := by decide +kernel
theorem pg_o134 : ∀ pc q, ev_lu pg_c134 pc = some q → ev_ok pg_hs pg_cl pg_mt "TicketTag" "TicketTag" prog_1_method_17_code 3 6 82 pc q = true := fun pc q h => List.all_eq_true.mp pg_k134 (pc, q) (ev_lu_mem h)
theorem pg_k135 : pg_c135.all (fun z => ev_ok pg_hs pg_cl pg_mt "TicketTagModel" "TicketTag" prog_4_method_34_code 7 6 172 z.1 z.2) = true := by decide +kernel
theorem pg_o135 : ∀ pc q, ev_lu pg_c135 pc = some q → ev_ok pg_hs pg_cl pg_mt "TicketTagModel" "TicketTag" prog_4_method_34_code 7 6 172 pc q = true := fun pc q h => List.all_eq_true.mp pg_k135 (pc, q) (ev_lu_mem h)
theorem pg_k136 : pg_c136.all (fun z => ev_ok pg_hs pg_cl pg_mt "TicketTagLaw" "TicketTag" method_5_code 4 7 108 z.1 z.2) = true := by decide +kernel
theorem pg_o136 : ∀ pc q, ev_lu pg_c136 pc = some q → ev_ok pg_hs pg_cl pg_mt "TicketTagLaw" "TicketTag" method_5_code 4 7 108 pc q = true := fun pc q h => List.all_eq_true.mp pg_k136 (pc, q) (ev_lu_mem h)
theorem pg_k137 : pg_c137.all (fun z => ev_ok pg_hs pg_cl pg_mt "TicketTagLaw" "TicketTag" method_10_code 6 7 164 z.1 z.2) = true := by decide +kernel
theorem pg_o137 : ∀ pc q, ev_lu pg_c137 pc = some q → ev_ok pg_hs pg_cl pg_mt "TicketTagLaw" "TicketTag" method_10_code 6 7 164 pc q = true := fun pc q h => List.all_eq_true.mp pg_k137 (pc, q) (ev_lu_mem h)
theorem pg_k138 : pg_c138.all (fun z => ev_ok pg_hs pg_cl pg_mt "TicketTagLaw" "TicketTag" method_3_code 7 7 163 z.1 z.2) = true := by decide +kernel
theorem pg_o138 : ∀ pc q, ev_lu pg_c138 pc = some q → ev_ok pg_hs pg_cl pg_mt "TicketTagLaw" "TicketTag" method_3_code 7 7 163 pc q = true := fun pc q h => List.all_eq_true.mp pg_k138 (pc, q) (ev_lu_mem h)
theorem pg_k139 : pg_c139.all (fun z => ev_ok pg_hs pg_cl pg_mt "TicketTagLaw" "TicketTag" method_6_code 4 7 185 z.1 z.2) = true := by decide +kernel
theorem pg_o139 : ∀ pc q, ev_lu pg_c139 pc = some q → ev_ok pg_hs pg_cl pg_mt "TicketTagLaw" "TicketTag" method_6_code 4 7 185 pc q = true := fun pc q h => List.all_eq_true.mp pg_k139 (pc, q) (ev_lu_mem h)
theorem pg_k140 : pg_c140.all (fun z => ev_ok pg_hs pg_cl pg_mt "TicketTagLaw" "TicketTag" method_4_code 5 7 109 z.1 z.2) = true := by decide +kernel
theorem pg_o140 : ∀ pc q, ev_lu pg_c140 pc = some q → ev_ok pg_hs pg_cl pg_mt "TicketTagLaw" "TicketTag" method_4_code 5 7 109 pc q = true := fun pc q h => List.all_eq_true.mp pg_k140 (pc, q) (ev_lu_mem h)
theorem pg_k141 : pg_c141.all (fun z => ev_ok pg_hs pg_cl pg_mt "TicketTagLaw" "TicketTag" method_9_code 4 7 108 z.1 z.2) = true := by decide +kernel
theorem pg_o141 : ∀ pc q, ev_lu pg_c141 pc = some q → ev_ok pg_hs pg_cl pg_mt "TicketTagLaw" "TicketTag" method_9_code 4 7 108 pc q = true := fun pc q h => List.all_eq_true.mp pg_k141 (pc, q) (ev_lu_mem h)
theorem pg_k142 : pg_c142.all (fun z => ev_ok pg_hs pg_cl pg_mt "TicketTagLaw" "TicketTag" method_8_code 4 7 133 z.1 z.2) = true := by decide +kernel
theorem pg_o142 : ∀ pc q, ev_lu pg_c142 pc = some q → ev_ok pg_hs pg_cl pg_mt "TicketTagLaw" "TicketTag" method_8_code 4 7 133 pc q = true := fun pc q h => List.all_eq_true.mp pg_k142 (pc, q) (ev_lu_mem h)
theorem pg_k143 : pg_c143.all (fun z => ev_ok pg_hs pg_cl pg_mt "TicketTagLaw" "TicketTag" method_7_code 6 7 200 z.1 z.2) = true := by decide +kernel
theorem pg_o143 : ∀ pc q, ev_lu pg_c143 pc = some q → ev_ok pg_hs pg_cl pg_mt "TicketTagLaw" "TicketTag" method_7_code 6 7 200 pc q = true := fun pc q h => List.all_eq_true.mp pg_k143 (pc, q) (ev_lu_mem h)
theorem pg_k144 : pg_c144.all (fun z => ev_ok pg_hs pg_cl pg_mt "TicketTagLaw" "TicketTag" method_11_code 5 7 108 z.1 z.2) = true := by decide +kernel
theorem pg_o144 : ∀ pc q, ev_lu pg_c144 pc = some q → ev_ok pg_hs pg_cl pg_mt "TicketTagLaw" "TicketTag" method_11_code 5 7 108 pc q = true := fun pc q h => List.all_eq_true.mp pg_k144 (pc, q) (ev_lu_mem h)
end
section
/-! THE PROGRAM: the words of its code (laid by wip/gen/gen.py) -/
set_option maxRecDepth 100000 in
theorem pg_w0 : ev_cw pg_y0 ∈ pg_TB := List.mem_filter.mpr ⟨List.mem_append_right _ (List.mem_append_right _ (List.mem_append_right _ (List.mem_append_left _ (List.mem_of_getElem? (i := 14) rfl)))), rfl⟩
set_option maxRecDepth 100000 in
theorem pg_w1 : ev_cw pg_y1 ∈ pg_TB := List.mem_filter.mpr ⟨List.mem_append_right _ (List.mem_append_left _ (List.mem_of_getElem? (i := 181) rfl)), rfl⟩
set_option maxRecDepth 100000 in
theorem pg_w2 : ev_cw pg_y2 ∈ pg_TB := List.mem_filter.mpr ⟨List.mem_append_right _ (List.mem_append_left _ (List.mem_of_getElem? (i := 193) rfl)), rfl⟩
set_option maxRecDepth 100000 in
theorem pg_w3 : ev_cw pg_y3 ∈ pg_TB := List.mem_filter.mpr ⟨List.mem_append_right _ (List.mem_append_right _ (List.mem_append_left _ (List.mem_of_getElem? (i := 223) rfl))), rfl⟩
set_option maxRecDepth 100000 in
theorem pg_w4 : ev_cw pg_y4 ∈ pg_TB := List.mem_filter.mpr ⟨List.mem_append_right _ (List.mem_append_right _ (List.mem_append_left _ (List.mem_of_getElem? (i := 203) rfl))), rfl⟩
set_option maxRecDepth 100000 in
theorem pg_w5 : ev_cw pg_y5 ∈ pg_TB := List.mem_filter.mpr ⟨List.mem_append_right _ (List.mem_append_left _ (List.mem_of_getElem? (i := 75) rfl)), rfl⟩
set_option maxRecDepth 100000 in
theorem pg_w6 : ev_cw pg_y6 ∈ pg_TB := List.mem_filter.mpr ⟨List.mem_append_right _ (List.mem_append_right _ (List.mem_append_left _ (List.mem_of_getElem? (i := 239) rfl))), rfl⟩
set_option maxRecDepth 100000 in
theorem pg_w7 : ev_cw pg_y7 ∈ pg_TB := List.mem_filter.mpr ⟨List.mem_append_right _ (List.mem_append_left _ (List.mem_of_getElem? (i := 139) rfl)), rfl⟩
set_option maxRecDepth 100000 in
theorem pg_w8 : ev_cw pg_y8 ∈ pg_TB := List.mem_filter.mpr ⟨List.mem_append_right _ (List.mem_append_left _ (List.mem_of_getElem? (i := 99) rfl)), rfl⟩
set_option maxRecDepth 100000 in
theorem pg_w9 : ev_cw pg_y9 ∈ pg_TB := List.mem_filter.mpr ⟨List.mem_append_right _ (List.mem_append_right _ (List.mem_append_left _ (List.mem_of_getElem? (i := 157) rfl))), rfl⟩
set_option maxRecDepth 100000 in
theorem pg_w10 : ev_cw pg_y10 ∈ pg_TB := List.mem_filter.mpr ⟨List.mem_append_right _ (List.mem_append_right _ (List.mem_append_left _ (List.mem_of_getElem? (i := 114) rfl))), rfl⟩
set_option maxRecDepth 100000 in
theorem pg_w11 : ev_cw pg_y11 ∈ pg_TB := List.mem_filter.mpr ⟨List.mem_append_right _ (List.mem_append_left _ (List.mem_of_getElem? (i := 87) rfl)), rfl⟩
set_option maxRecDepth 100000 in
theorem pg_w12 : ev_cw pg_y12 ∈ pg_TB := List.mem_filter.mpr ⟨List.mem_append_right _ (List.mem_append_left _ (List.mem_of_getElem? (i := 83) rfl)), rfl⟩
set_option maxRecDepth 100000 in
theorem pg_w13 : ev_cw pg_y13 ∈ pg_TB := List.mem_filter.mpr ⟨List.mem_append_right _ (List.mem_append_right _ (List.mem_append_left _ (List.mem_of_getElem? (i := 105) rfl))), rfl⟩
set_option maxRecDepth 100000 in
theorem pg_w14 : ev_cw pg_y14 ∈ pg_TB := List.mem_filter.mpr ⟨List.mem_append_right _ (List.mem_append_right _ (List.mem_append_right _ (List.mem_append_left _ (List.mem_of_getElem? (i := 49) rfl)))), rfl⟩
set_option maxRecDepth 100000 in
theorem pg_w15 : ev_cw pg_y15 ∈ pg_TB := List.mem_filter.mpr ⟨List.mem_append_right _ (List.mem_append_left _ (List.mem_of_getElem? (i := 237) rfl)), rfl⟩
set_option maxRecDepth 100000 in
theorem pg_w16 : ev_cw pg_y16 ∈ pg_TB := List.mem_filter.mpr ⟨List.mem_append_right _ (List.mem_append_left _ (List.mem_of_getElem? (i := 131) rfl)), rfl⟩
set_option maxRecDepth 100000 in
theorem pg_w17 : ev_cw pg_y17 ∈ pg_TB := List.mem_filter.mpr ⟨List.mem_append_right _ (List.mem_append_left _ (List.mem_of_getElem? (i := 233) rfl)), rfl⟩
set_option maxRecDepth 100000 in
theorem pg_w18 : ev_cw pg_y18 ∈ pg_TB := List.mem_filter.mpr ⟨List.mem_append_right _ (List.mem_append_right _ (List.mem_append_right _ (List.mem_append_left _ (List.mem_of_getElem? (i := 181) rfl)))), rfl⟩
set_option maxRecDepth 100000 in
theorem pg_w19 : ev_cw pg_y19 ∈ pg_TB := List.mem_filter.mpr ⟨List.mem_append_right _ (List.mem_append_right _ (List.mem_append_right _ (List.mem_append_left _ (List.mem_of_getElem? (i := 158) rfl)))), rfl⟩
set_option maxRecDepth 100000 in
theorem pg_w20 : ev_cw pg_y20 ∈ pg_TB := List.mem_filter.mpr ⟨List.mem_append_right _ (List.mem_append_right _ (List.mem_append_right _ (List.mem_append_right _ (List.mem_of_getElem? (i := 47) rfl)))), rfl⟩
set_option maxRecDepth 100000 in
theorem pg_w21 : ev_cw pg_y21 ∈ pg_TB := List.mem_filter.mpr ⟨List.mem_append_right _ (List.mem_append_right _ (List.mem_append_right _ (List.mem_append_left _ (List.mem_of_getElem? (i := 166) rfl)))), rfl⟩
set_option maxRecDepth 100000 in
theorem pg_w22 : ev_cw pg_y22 ∈ pg_TB := List.mem_filter.mpr ⟨List.mem_append_right _ (List.mem_append_right _ (List.mem_append_right _ (List.mem_append_left _ (List.mem_of_getElem? (i := 150) rfl)))), rfl⟩
set_option maxRecDepth 100000 in
theorem pg_w23 : ev_cw pg_y23 ∈ pg_TB := List.mem_filter.mpr ⟨List.mem_append_right _ (List.mem_append_right _ (List.mem_append_right _ (List.mem_append_left _ (List.mem_of_getElem? (i := 146) rfl)))), rfl⟩
set_option maxRecDepth 100000 in
theorem pg_w24 : ev_cw pg_y24 ∈ pg_TB := List.mem_filter.mpr ⟨List.mem_append_right _ (List.mem_append_right _ (List.mem_append_right _ (List.mem_append_right _ (List.mem_of_getElem? (i := 5) rfl)))), rfl⟩
set_option maxRecDepth 100000 in
theorem pg_w25 : ev_cw pg_y25 ∈ pg_TB := List.mem_filter.mpr ⟨List.mem_append_right _ (List.mem_append_right _ (List.mem_append_right _ (List.mem_append_right _ (List.mem_of_getElem? (i := 28) rfl)))), rfl⟩
set_option maxRecDepth 100000 in
theorem pg_w26 : ev_cw pg_y26 ∈ pg_TB := List.mem_filter.mpr ⟨List.mem_append_right _ (List.mem_append_right _ (List.mem_append_right _ (List.mem_append_right _ (List.mem_of_getElem? (i := 31) rfl)))), rfl⟩
set_option maxRecDepth 100000 in
theorem pg_w27 : ev_cw pg_y27 ∈ pg_TB := List.mem_filter.mpr ⟨List.mem_append_right _ (List.mem_append_right _ (List.mem_append_right _ (List.mem_append_right _ (List.mem_of_getElem? (i := 2) rfl)))), rfl⟩
set_option maxRecDepth 100000 in
theorem pg_w28 : ev_cw pg_y28 ∈ pg_TB := List.mem_filter.mpr ⟨List.mem_append_right _ (List.mem_append_right _ (List.mem_append_right _ (List.mem_append_left _ (List.mem_of_getElem? (i := 218) rfl)))), rfl⟩
set_option maxRecDepth 100000 in
theorem pg_w29 : ev_cw pg_y29 ∈ pg_TB := List.mem_filter.mpr ⟨List.mem_append_right _ (List.mem_append_right _ (List.mem_append_right _ (List.mem_append_right _ (List.mem_of_getElem? (i := 39) rfl)))), rfl⟩
set_option maxRecDepth 100000 in
theorem pg_w30 : ev_cw pg_y30 ∈ pg_TB := List.mem_filter.mpr ⟨List.mem_append_right _ (List.mem_append_right _ (List.mem_append_right _ (List.mem_append_left _ (List.mem_of_getElem? (i := 238) rfl)))), rfl⟩
set_option maxRecDepth 100000 in
theorem pg_w31 : ev_cw pg_y31 ∈ pg_TB := List.mem_filter.mpr ⟨List.mem_append_right _ (List.mem_append_right _ (List.mem_append_right _ (List.mem_append_left _ (List.mem_of_getElem? (i := 134) rfl)))), rfl⟩
set_option maxRecDepth 100000 in
theorem pg_w32 : ev_cw pg_y32 ∈ pg_TB := List.mem_filter.mpr ⟨List.mem_append_right _ (List.mem_append_right _ (List.mem_append_right _ (List.mem_append_left _ (List.mem_of_getElem? (i := 162) rfl)))), rfl⟩
set_option maxRecDepth 100000 in
theorem pg_w33 : ev_cw pg_y33 ∈ pg_TB := List.mem_filter.mpr ⟨List.mem_append_right _ (List.mem_append_left _ (List.mem_of_getElem? (i := 110) rfl)), rfl⟩
set_option maxRecDepth 100000 in
theorem pg_w34 : ev_cw pg_y34 ∈ pg_TB := List.mem_filter.mpr ⟨List.mem_append_right _ (List.mem_append_left _ (List.mem_of_getElem? (i := 116) rfl)), rfl⟩
set_option maxRecDepth 100000 in
theorem pg_w35 : ev_cw pg_y35 ∈ pg_TB := List.mem_filter.mpr ⟨List.mem_append_right _ (List.mem_append_right _ (List.mem_append_right _ (List.mem_append_left _ (List.mem_of_getElem? (i := 25) rfl)))), rfl⟩
set_option maxRecDepth 100000 in
theorem pg_w36 : ev_cw pg_y36 ∈ pg_TB := List.mem_filter.mpr ⟨List.mem_append_right _ (List.mem_append_left _ (List.mem_of_getElem? (i := 79) rfl)), rfl⟩
set_option maxRecDepth 100000 in
theorem pg_w37 : ev_cw pg_y37 ∈ pg_TB := List.mem_filter.mpr ⟨List.mem_append_right _ (List.mem_append_right _ (List.mem_append_left _ (List.mem_of_getElem? (i := 181) rfl))), rfl⟩
set_option maxRecDepth 100000 in
theorem pg_w38 : ev_cw pg_y38 ∈ pg_TB := List.mem_filter.mpr ⟨List.mem_append_right _ (List.mem_append_left _ (List.mem_of_getElem? (i := 217) rfl)), rfl⟩
set_option maxRecDepth 100000 in
theorem pg_w39 : ev_cw pg_y39 ∈ pg_TB := List.mem_filter.mpr ⟨List.mem_append_right _ (List.mem_append_left _ (List.mem_of_getElem? (i := 107) rfl)), rfl⟩
set_option maxRecDepth 100000 in
theorem pg_w40 : ev_cw pg_y40 ∈ pg_TB := List.mem_filter.mpr ⟨List.mem_append_right _ (List.mem_append_left _ (List.mem_of_getElem? (i := 144) rfl)), rfl⟩
set_option maxRecDepth 100000 in
theorem pg_w41 : ev_cw pg_y41 ∈ pg_TB := List.mem_filter.mpr ⟨List.mem_append_right _ (List.mem_append_left _ (List.mem_of_getElem? (i := 156) rfl)), rfl⟩
set_option maxRecDepth 100000 in
theorem pg_w42 : ev_cw pg_y42 ∈ pg_TB := List.mem_filter.mpr ⟨List.mem_append_right _ (List.mem_append_left _ (List.mem_of_getElem? (i := 172) rfl)), rfl⟩
set_option maxRecDepth 100000 in
theorem pg_w43 : ev_cw pg_y43 ∈ pg_TB := List.mem_filter.mpr ⟨List.mem_append_right _ (List.mem_append_left _ (List.mem_of_getElem? (i := 176) rfl)), rfl⟩
set_option maxRecDepth 100000 in
theorem pg_w44 : ev_cw pg_y44 ∈ pg_TB := List.mem_filter.mpr ⟨List.mem_append_right _ (List.mem_append_left _ (List.mem_of_getElem? (i := 205) rfl)), rfl⟩
set_option maxRecDepth 100000 in
theorem pg_w45 : ev_cw pg_y45 ∈ pg_TB := List.mem_filter.mpr ⟨List.mem_append_right _ (List.mem_append_right _ (List.mem_append_right _ (List.mem_append_left _ (List.mem_of_getElem? (i := 3) rfl)))), rfl⟩
set_option maxRecDepth 100000 in
theorem pg_w46 : ev_cw pg_y46 ∈ pg_TB := List.mem_filter.mpr ⟨List.mem_append_right _ (List.mem_append_right _ (List.mem_append_left _ (List.mem_of_getElem? (i := 110) rfl))), rfl⟩
set_option maxRecDepth 100000 in
theorem pg_w47 : ev_cw pg_y47 ∈ pg_TB := List.mem_filter.mpr ⟨List.mem_append_right _ (List.mem_append_left _ (List.mem_of_getElem? (i := 209) rfl)), rfl⟩
set_option maxRecDepth 100000 in
theorem pg_w48 : ev_cw pg_y48 ∈ pg_TB := List.mem_filter.mpr ⟨List.mem_append_right _ (List.mem_append_right _ (List.mem_append_left _ (List.mem_of_getElem? (i := 134) rfl))), rfl⟩
set_option maxRecDepth 100000 in
theorem pg_w49 : ev_cw pg_y49 ∈ pg_TB := List.mem_filter.mpr ⟨List.mem_append_right _ (List.mem_append_right _ (List.mem_append_left _ (List.mem_of_getElem? (i := 9) rfl))), rfl⟩
set_option maxRecDepth 100000 in
theorem pg_w50 : ev_cw pg_y50 ∈ pg_TB := List.mem_filter.mpr ⟨List.mem_append_right _ (List.mem_append_right _ (List.mem_append_left _ (List.mem_of_getElem? (i := 137) rfl))), rfl⟩
set_option maxRecDepth 100000 in
theorem pg_w51 : ev_cw pg_y51 ∈ pg_TB := List.mem_filter.mpr ⟨List.mem_append_right _ (List.mem_append_left _ (List.mem_of_getElem? (i := 95) rfl)), rfl⟩
set_option maxRecDepth 100000 in
theorem pg_w52 : ev_cw pg_y52 ∈ pg_TB := List.mem_filter.mpr ⟨List.mem_append_right _ (List.mem_append_left _ (List.mem_of_getElem? (i := 197) rfl)), rfl⟩
set_option maxRecDepth 100000 in
theorem pg_w53 : ev_cw pg_y53 ∈ pg_TB := List.mem_filter.mpr ⟨List.mem_append_right _ (List.mem_append_left _ (List.mem_of_getElem? (i := 185) rfl)), rfl⟩
set_option maxRecDepth 100000 in
theorem pg_w54 : ev_cw pg_y54 ∈ pg_TB := List.mem_filter.mpr ⟨List.mem_append_right _ (List.mem_append_left _ (List.mem_of_getElem? (i := 103) rfl)), rfl⟩
set_option maxRecDepth 100000 in
theorem pg_w55 : ev_cw pg_y55 ∈ pg_TB := List.mem_filter.mpr ⟨List.mem_append_right _ (List.mem_append_left _ (List.mem_of_getElem? (i := 221) rfl)), rfl⟩
set_option maxRecDepth 100000 in
theorem pg_w56 : ev_cw pg_y56 ∈ pg_TB := List.mem_filter.mpr ⟨List.mem_append_right _ (List.mem_append_left _ (List.mem_of_getElem? (i := 201) rfl)), rfl⟩
set_option maxRecDepth 100000 in
theorem pg_w57 : ev_cw pg_y57 ∈ pg_TB := List.mem_filter.mpr ⟨List.mem_append_right _ (List.mem_append_left _ (List.mem_of_getElem? (i := 135) rfl)), rfl⟩
set_option maxRecDepth 100000 in
theorem pg_w58 : ev_cw pg_y58 ∈ pg_TB := List.mem_filter.mpr ⟨List.mem_append_right _ (List.mem_append_right _ (List.mem_append_left _ (List.mem_of_getElem? (i := 101) rfl))), rfl⟩
set_option maxRecDepth 100000 in
theorem pg_w59 : ev_cw pg_y59 ∈ pg_TB := List.mem_filter.mpr ⟨List.mem_append_right _ (List.mem_append_right _ (List.mem_append_right _ (List.mem_append_left _ (List.mem_of_getElem? (i := 194) rfl)))), rfl⟩
set_option maxRecDepth 100000 in
theorem pg_w60 : ev_cw pg_y60 ∈ pg_TB := List.mem_filter.mpr ⟨List.mem_append_right _ (List.mem_append_right _ (List.mem_append_right _ (List.mem_append_left _ (List.mem_of_getElem? (i := 226) rfl)))), rfl⟩
set_option maxRecDepth 100000 in
theorem pg_w61 : ev_cw pg_y61 ∈ pg_TB := List.mem_filter.mpr ⟨List.mem_append_right _ (List.mem_append_right _ (List.mem_append_right _ (List.mem_append_left _ (List.mem_of_getElem? (i := 142) rfl)))), rfl⟩
set_option maxRecDepth 100000 in
theorem pg_w62 : ev_cw pg_y62 ∈ pg_TB := List.mem_filter.mpr ⟨List.mem_append_right _ (List.mem_append_right _ (List.mem_append_right _ (List.mem_append_left _ (List.mem_of_getElem? (i := 178) rfl)))), rfl⟩
set_option maxRecDepth 100000 in
theorem pg_w63 : ev_cw pg_y63 ∈ pg_TB := List.mem_filter.mpr ⟨List.mem_append_right _ (List.mem_append_right _ (List.mem_append_right _ (List.mem_append_left _ (List.mem_of_getElem? (i := 154) rfl)))), rfl⟩
set_option maxRecDepth 100000 in
theorem pg_w64 : ev_cw pg_y64 ∈ pg_TB := List.mem_filter.mpr ⟨List.mem_append_right _ (List.mem_append_right _ (List.mem_append_right _ (List.mem_append_left _ (List.mem_of_getElem? (i := 206) rfl)))), rfl⟩
set_option maxRecDepth 100000 in
theorem pg_w65 : ev_cw pg_y65 ∈ pg_TB := List.mem_filter.mpr ⟨List.mem_append_right _ (List.mem_append_right _ (List.mem_append_right _ (List.mem_append_left _ (List.mem_of_getElem? (i := 190) rfl)))), rfl⟩
set_option maxRecDepth 100000 in
theorem pg_w66 : ev_cw pg_y66 ∈ pg_TB := List.mem_filter.mpr ⟨List.mem_append_right _ (List.mem_append_right _ (List.mem_append_right _ (List.mem_append_right _ (List.mem_of_getElem? (i := 43) rfl)))), rfl⟩
set_option maxRecDepth 100000 in
theorem pg_w67 : ev_cw pg_y67 ∈ pg_TB := List.mem_filter.mpr ⟨List.mem_append_right _ (List.mem_append_right _ (List.mem_append_right _ (List.mem_append_left _ (List.mem_of_getElem? (i := 230) rfl)))), rfl⟩
set_option maxRecDepth 100000 in
theorem pg_w68 : ev_cw pg_y68 ∈ pg_TB := List.mem_filter.mpr ⟨List.mem_append_right _ (List.mem_append_right _ (List.mem_append_right _ (List.mem_append_right _ (List.mem_of_getElem? (i := 75) rfl)))), rfl⟩
set_option maxRecDepth 100000 in
theorem pg_w69 : ev_cw pg_y69 ∈ pg_TB := List.mem_filter.mpr ⟨List.mem_append_right _ (List.mem_append_right _ (List.mem_append_right _ (List.mem_append_left _ (List.mem_of_getElem? (i := 186) rfl)))), rfl⟩
set_option maxRecDepth 100000 in
theorem pg_w70 : ev_cw pg_y70 ∈ pg_TB := List.mem_filter.mpr ⟨List.mem_append_right _ (List.mem_append_right _ (List.mem_append_left _ (List.mem_of_getElem? (i := 215) rfl))), rfl⟩
set_option maxRecDepth 100000 in
theorem pg_w71 : ev_cw pg_y71 ∈ pg_TB := List.mem_filter.mpr ⟨List.mem_append_right _ (List.mem_append_left _ (List.mem_of_getElem? (i := 152) rfl)), rfl⟩
set_option maxRecDepth 100000 in
theorem pg_w72 : ev_cw pg_y72 ∈ pg_TB := List.mem_filter.mpr ⟨List.mem_append_right _ (List.mem_append_left _ (List.mem_of_getElem? (i := 229) rfl)), rfl⟩
set_option maxRecDepth 100000 in
theorem pg_w73 : ev_cw pg_y73 ∈ pg_TB := List.mem_filter.mpr ⟨List.mem_append_right _ (List.mem_append_left _ (List.mem_of_getElem? (i := 190) rfl)), rfl⟩
set_option maxRecDepth 100000 in
theorem pg_w74 : ev_cw pg_y74 ∈ pg_TB := List.mem_filter.mpr ⟨List.mem_append_right _ (List.mem_append_right _ (List.mem_append_left _ (List.mem_of_getElem? (i := 195) rfl))), rfl⟩
set_option maxRecDepth 100000 in
theorem pg_w75 : ev_cw pg_y75 ∈ pg_TB := List.mem_filter.mpr ⟨List.mem_append_right _ (List.mem_append_right _ (List.mem_append_left _ (List.mem_of_getElem? (i := 235) rfl))), rfl⟩
set_option maxRecDepth 100000 in
theorem pg_w76 : ev_cw pg_y76 ∈ pg_TB := List.mem_filter.mpr ⟨List.mem_append_right _ (List.mem_append_left _ (List.mem_of_getElem? (i := 91) rfl)), rfl⟩
set_option maxRecDepth 100000 in
theorem pg_w77 : ev_cw pg_y77 ∈ pg_TB := List.mem_filter.mpr ⟨List.mem_append_right _ (List.mem_append_right _ (List.mem_append_left _ (List.mem_of_getElem? (i := 177) rfl))), rfl⟩
set_option maxRecDepth 100000 in
theorem pg_w78 : ev_cw pg_y78 ∈ pg_TB := List.mem_filter.mpr ⟨List.mem_append_right _ (List.mem_append_right _ (List.mem_append_right _ (List.mem_append_left _ (List.mem_of_getElem? (i := 11) rfl)))), rfl⟩
set_option maxRecDepth 100000 in
theorem pg_w79 : ev_cw pg_y79 ∈ pg_TB := List.mem_filter.mpr ⟨List.mem_append_right _ (List.mem_append_right _ (List.mem_append_left _ (List.mem_of_getElem? (i := 165) rfl))), rfl⟩
set_option maxRecDepth 100000 in
theorem pg_w80 : ev_cw pg_y80 ∈ pg_TB := List.mem_filter.mpr ⟨List.mem_append_right _ (List.mem_append_left _ (List.mem_of_getElem? (i := 128) rfl)), rfl⟩
set_option maxRecDepth 100000 in
theorem pg_w81 : ev_cw pg_y81 ∈ pg_TB := List.mem_filter.mpr ⟨List.mem_append_right _ (List.mem_append_right _ (List.mem_append_left _ (List.mem_of_getElem? (i := 123) rfl))), rfl⟩
set_option maxRecDepth 100000 in
theorem pg_w82 : ev_cw pg_y82 ∈ pg_TB := List.mem_filter.mpr ⟨List.mem_append_right _ (List.mem_append_right _ (List.mem_append_right _ (List.mem_append_right _ (List.mem_of_getElem? (i := 79) rfl)))), rfl⟩
set_option maxRecDepth 100000 in
theorem pg_w83 : ev_cw pg_y83 ∈ pg_TB := List.mem_filter.mpr ⟨List.mem_append_right _ (List.mem_append_right _ (List.mem_append_right _ (List.mem_append_left _ (List.mem_of_getElem? (i := 214) rfl)))), rfl⟩
set_option maxRecDepth 100000 in
theorem pg_w84 : ev_cw pg_y84 ∈ pg_TB := List.mem_filter.mpr ⟨List.mem_append_right _ (List.mem_append_right _ (List.mem_append_right _ (List.mem_append_left _ (List.mem_of_getElem? (i := 174) rfl)))), rfl⟩
set_option maxRecDepth 100000 in
theorem pg_w85 : ev_cw pg_y85 ∈ pg_TB := List.mem_filter.mpr ⟨List.mem_append_right _ (List.mem_append_right _ (List.mem_append_right _ (List.mem_append_right _ (List.mem_of_getElem? (i := 51) rfl)))), rfl⟩
set_option maxRecDepth 100000 in
theorem pg_w86 : ev_cw pg_y86 ∈ pg_TB := List.mem_filter.mpr ⟨List.mem_append_right _ (List.mem_append_right _ (List.mem_append_right _ (List.mem_append_left _ (List.mem_of_getElem? (i := 222) rfl)))), rfl⟩
set_option maxRecDepth 100000 in
theorem pg_w87 : ev_cw pg_y87 ∈ pg_TB := List.mem_filter.mpr ⟨List.mem_append_right _ (List.mem_append_right _ (List.mem_append_right _ (List.mem_append_left _ (List.mem_of_getElem? (i := 22) rfl)))), rfl⟩
set_option maxRecDepth 100000 in
theorem pg_w88 : ev_cw pg_y88 ∈ pg_TB := List.mem_filter.mpr ⟨List.mem_append_right _ (List.mem_append_right _ (List.mem_append_left _ (List.mem_of_getElem? (i := 211) rfl))), rfl⟩
set_option maxRecDepth 100000 in
theorem pg_w89 : ev_cw pg_y89 ∈ pg_TB := List.mem_filter.mpr ⟨List.mem_append_right _ (List.mem_append_left _ (List.mem_of_getElem? (i := 225) rfl)), rfl⟩
set_option maxRecDepth 100000 in
theorem pg_w90 : ev_cw pg_y90 ∈ pg_TB := List.mem_filter.mpr ⟨List.mem_append_right _ (List.mem_append_right _ (List.mem_append_left _ (List.mem_of_getElem? (i := 199) rfl))), rfl⟩
set_option maxRecDepth 100000 in
theorem pg_w91 : ev_cw pg_y91 ∈ pg_TB := List.mem_filter.mpr ⟨List.mem_append_right _ (List.mem_append_left _ (List.mem_of_getElem? (i := 168) rfl)), rfl⟩
set_option maxRecDepth 100000 in
theorem pg_w92 : ev_cw pg_y92 ∈ pg_TB := List.mem_filter.mpr ⟨List.mem_append_right _ (List.mem_append_left _ (List.mem_of_getElem? (i := 124) rfl)), rfl⟩
set_option maxRecDepth 100000 in
theorem pg_w93 : ev_cw pg_y93 ∈ pg_TB := List.mem_filter.mpr ⟨List.mem_append_right _ (List.mem_append_right _ (List.mem_append_left _ (List.mem_of_getElem? (i := 227) rfl))), rfl⟩
set_option maxRecDepth 100000 in
theorem pg_w94 : ev_cw pg_y94 ∈ pg_TB := List.mem_filter.mpr ⟨List.mem_append_right _ (List.mem_append_right _ (List.mem_append_right _ (List.mem_append_left _ (List.mem_of_getElem? (i := 37) rfl)))), rfl⟩
set_option maxRecDepth 100000 in
theorem pg_w95 : ev_cw pg_y95 ∈ pg_TB := List.mem_filter.mpr ⟨List.mem_append_right _ (List.mem_append_right _ (List.mem_append_left _ (List.mem_of_getElem? (i := 173) rfl))), rfl⟩
set_option maxRecDepth 100000 in
theorem pg_w96 : ev_cw pg_y96 ∈ pg_TB := List.mem_filter.mpr ⟨List.mem_append_right _ (List.mem_append_right _ (List.mem_append_left _ (List.mem_of_getElem? (i := 118) rfl))), rfl⟩
set_option maxRecDepth 100000 in
theorem pg_w97 : ev_cw pg_y97 ∈ pg_TB := List.mem_filter.mpr ⟨List.mem_append_right _ (List.mem_append_right _ (List.mem_append_right _ (List.mem_append_right _ (List.mem_of_getElem? (i := 59) rfl)))), rfl⟩
set_option maxRecDepth 100000 in
theorem pg_w98 : ev_cw pg_y98 ∈ pg_TB := List.mem_filter.mpr ⟨List.mem_append_right _ (List.mem_append_right _ (List.mem_append_right _ (List.mem_append_right _ (List.mem_of_getElem? (i := 55) rfl)))), rfl⟩
set_option maxRecDepth 100000 in
theorem pg_w99 : ev_cw pg_y99 ∈ pg_TB := List.mem_filter.mpr ⟨List.mem_append_right _ (List.mem_append_right _ (List.mem_append_right _ (List.mem_append_right _ (List.mem_of_getElem? (i := 13) rfl)))), rfl⟩
set_option maxRecDepth 100000 in
theorem pg_w100 : ev_cw pg_y100 ∈ pg_TB := List.mem_filter.mpr ⟨List.mem_append_right _ (List.mem_append_right _ (List.mem_append_right _ (List.mem_append_left _ (List.mem_of_getElem? (i := 202) rfl)))), rfl⟩
set_option maxRecDepth 100000 in
theorem pg_w101 : ev_cw pg_y101 ∈ pg_TB := List.mem_filter.mpr ⟨List.mem_append_right _ (List.mem_append_right _ (List.mem_append_right _ (List.mem_append_left _ (List.mem_of_getElem? (i := 170) rfl)))), rfl⟩
set_option maxRecDepth 100000 in
theorem pg_w102 : ev_cw pg_y102 ∈ pg_TB := List.mem_filter.mpr ⟨List.mem_append_right _ (List.mem_append_left _ (List.mem_of_getElem? (i := 148) rfl)), rfl⟩
set_option maxRecDepth 100000 in
theorem pg_w103 : ev_cw pg_y103 ∈ pg_TB := List.mem_filter.mpr ⟨List.mem_append_right _ (List.mem_append_left _ (List.mem_of_getElem? (i := 120) rfl)), rfl⟩
set_option maxRecDepth 100000 in
theorem pg_w104 : ev_cw pg_y104 ∈ pg_TB := List.mem_filter.mpr ⟨List.mem_append_right _ (List.mem_append_left _ (List.mem_of_getElem? (i := 164) rfl)), rfl⟩
set_option maxRecDepth 100000 in
theorem pg_w105 : ev_cw pg_y105 ∈ pg_TB := List.mem_filter.mpr ⟨List.mem_append_right _ (List.mem_append_right _ (List.mem_append_left _ (List.mem_of_getElem? (i := 219) rfl))), rfl⟩
set_option maxRecDepth 100000 in
theorem pg_w106 : ev_cw pg_y106 ∈ pg_TB := List.mem_filter.mpr ⟨List.mem_append_right _ (List.mem_append_right _ (List.mem_append_right _ (List.mem_append_left _ (List.mem_of_getElem? (i := 7) rfl)))), rfl⟩
set_option maxRecDepth 100000 in
theorem pg_w107 : ev_cw pg_y107 ∈ pg_TB := List.mem_filter.mpr ⟨List.mem_append_right _ (List.mem_append_right _ (List.mem_append_left _ (List.mem_of_getElem? (i := 231) rfl))), rfl⟩
set_option maxRecDepth 100000 in
theorem pg_w108 : ev_cw pg_y108 ∈ pg_TB := List.mem_filter.mpr ⟨List.mem_append_right _ (List.mem_append_right _ (List.mem_append_right _ (List.mem_append_left _ (List.mem_of_getElem? (i := 18) rfl)))), rfl⟩
set_option maxRecDepth 100000 in
theorem pg_w109 : ev_cw pg_y109 ∈ pg_TB := List.mem_filter.mpr ⟨List.mem_append_right _ (List.mem_append_right _ (List.mem_append_left _ (List.mem_of_getElem? (i := 161) rfl))), rfl⟩
set_option maxRecDepth 100000 in
theorem pg_w110 : ev_cw pg_y110 ∈ pg_TB := List.mem_filter.mpr ⟨List.mem_append_right _ (List.mem_append_right _ (List.mem_append_left _ (List.mem_of_getElem? (i := 97) rfl))), rfl⟩
set_option maxRecDepth 100000 in
theorem pg_w111 : ev_cw pg_y111 ∈ pg_TB := List.mem_filter.mpr ⟨List.mem_append_right _ (List.mem_append_right _ (List.mem_append_right _ (List.mem_append_left _ (List.mem_of_getElem? (i := 138) rfl)))), rfl⟩
set_option maxRecDepth 100000 in
theorem pg_w112 : ev_cw pg_y112 ∈ pg_TB := List.mem_filter.mpr ⟨List.mem_append_right _ (List.mem_append_right _ (List.mem_append_right _ (List.mem_append_left _ (List.mem_of_getElem? (i := 210) rfl)))), rfl⟩
set_option maxRecDepth 100000 in
theorem pg_w113 : ev_cw pg_y113 ∈ pg_TB := List.mem_filter.mpr ⟨List.mem_append_right _ (List.mem_append_right _ (List.mem_append_right _ (List.mem_append_right _ (List.mem_of_getElem? (i := 9) rfl)))), rfl⟩
set_option maxRecDepth 100000 in
theorem pg_w114 : ev_cw pg_y114 ∈ pg_TB := List.mem_filter.mpr ⟨List.mem_append_right _ (List.mem_append_right _ (List.mem_append_right _ (List.mem_append_right _ (List.mem_of_getElem? (i := 35) rfl)))), rfl⟩
set_option maxRecDepth 100000 in
theorem pg_w115 : ev_cw pg_y115 ∈ pg_TB := List.mem_filter.mpr ⟨List.mem_append_right _ (List.mem_append_right _ (List.mem_append_left _ (List.mem_of_getElem? (i := 169) rfl))), rfl⟩
set_option maxRecDepth 100000 in
theorem pg_w116 : ev_cw pg_y116 ∈ pg_TB := List.mem_filter.mpr ⟨List.mem_append_right _ (List.mem_append_left _ (List.mem_of_getElem? (i := 160) rfl)), rfl⟩
set_option maxRecDepth 100000 in
theorem pg_w117 : ev_cw pg_y117 ∈ pg_TB := List.mem_filter.mpr ⟨List.mem_append_right _ (List.mem_append_left _ (List.mem_of_getElem? (i := 213) rfl)), rfl⟩
set_option maxRecDepth 100000 in
theorem pg_w118 : ev_cw pg_y118 ∈ pg_TB := List.mem_filter.mpr ⟨List.mem_append_right _ (List.mem_append_right _ (List.mem_append_left _ (List.mem_of_getElem? (i := 207) rfl))), rfl⟩
set_option maxRecDepth 100000 in
theorem pg_w119 : ev_cw pg_y119 ∈ pg_TB := List.mem_filter.mpr ⟨List.mem_append_right _ (List.mem_append_right _ (List.mem_append_right _ (List.mem_append_right _ (List.mem_of_getElem? (i := 21) rfl)))), rfl⟩
set_option maxRecDepth 100000 in
theorem pg_w120 : ev_cw pg_y120 ∈ pg_TB := List.mem_filter.mpr ⟨List.mem_append_right _ (List.mem_append_right _ (List.mem_append_right _ (List.mem_append_right _ (List.mem_of_getElem? (i := 71) rfl)))), rfl⟩
set_option maxRecDepth 100000 in
theorem pg_w121 : ev_cw pg_y121 ∈ pg_TB := List.mem_filter.mpr ⟨List.mem_append_right _ (List.mem_append_right _ (List.mem_append_right _ (List.mem_append_right _ (List.mem_of_getElem? (i := 63) rfl)))), rfl⟩
set_option maxRecDepth 100000 in
theorem pg_w122 : ev_cw pg_y122 ∈ pg_TB := List.mem_filter.mpr ⟨List.mem_append_right _ (List.mem_append_right _ (List.mem_append_right _ (List.mem_append_right _ (List.mem_of_getElem? (i := 67) rfl)))), rfl⟩
set_option maxRecDepth 100000 in
theorem pg_w123 : ev_cw pg_y123 ∈ pg_TB := List.mem_filter.mpr ⟨List.mem_append_right _ (List.mem_append_right _ (List.mem_append_right _ (List.mem_append_right _ (List.mem_of_getElem? (i := 17) rfl)))), rfl⟩
set_option maxRecDepth 100000 in
theorem pg_w124 : ev_cw pg_y124 ∈ pg_TB := List.mem_filter.mpr ⟨List.mem_append_right _ (List.mem_append_right _ (List.mem_append_right _ (List.mem_append_left _ (List.mem_of_getElem? (i := 198) rfl)))), rfl⟩
set_option maxRecDepth 100000 in
theorem pg_w125 : ev_cw pg_y125 ∈ pg_TB := List.mem_filter.mpr ⟨List.mem_append_right _ (List.mem_append_right _ (List.mem_append_right _ (List.mem_append_right _ (List.mem_of_getElem? (i := 25) rfl)))), rfl⟩
set_option maxRecDepth 100000 in
theorem pg_w126 : ev_cw pg_y126 ∈ pg_TB := List.mem_filter.mpr ⟨List.mem_append_right _ (List.mem_append_right _ (List.mem_append_left _ (List.mem_of_getElem? (i := 145) rfl))), rfl⟩
set_option maxRecDepth 100000 in
theorem pg_w127 : ev_cw pg_y127 ∈ pg_TB := List.mem_filter.mpr ⟨List.mem_append_right _ (List.mem_append_right _ (List.mem_append_right _ (List.mem_append_left _ (List.mem_of_getElem? (i := 56) rfl)))), rfl⟩
set_option maxRecDepth 100000 in
theorem pg_w128 : ev_cw pg_y128 ∈ pg_TB := List.mem_filter.mpr ⟨List.mem_append_right _ (List.mem_append_right _ (List.mem_append_left _ (List.mem_of_getElem? (i := 6) rfl))), rfl⟩
set_option maxRecDepth 100000 in
theorem pg_w129 : ev_cw pg_y129 ∈ pg_TB := List.mem_filter.mpr ⟨List.mem_append_right _ (List.mem_append_right _ (List.mem_append_left _ (List.mem_of_getElem? (i := 153) rfl))), rfl⟩
set_option maxRecDepth 100000 in
theorem pg_w130 : ev_cw pg_y130 ∈ pg_TB := List.mem_filter.mpr ⟨List.mem_append_right _ (List.mem_append_right _ (List.mem_append_left _ (List.mem_of_getElem? (i := 131) rfl))), rfl⟩
set_option maxRecDepth 100000 in
theorem pg_w131 : ev_cw pg_y131 ∈ pg_TB := List.mem_filter.mpr ⟨List.mem_append_right _ (List.mem_append_right _ (List.mem_append_right _ (List.mem_append_left _ (List.mem_of_getElem? (i := 44) rfl)))), rfl⟩
set_option maxRecDepth 100000 in
theorem pg_w132 : ev_cw pg_y132 ∈ pg_TB := List.mem_filter.mpr ⟨List.mem_append_right _ (List.mem_append_right _ (List.mem_append_right _ (List.mem_append_left _ (List.mem_of_getElem? (i := 32) rfl)))), rfl⟩
set_option maxRecDepth 100000 in
theorem pg_w133 : ev_cw pg_y133 ∈ pg_TB := List.mem_filter.mpr ⟨List.mem_append_right _ (List.mem_append_right _ (List.mem_append_left _ (List.mem_of_getElem? (i := 189) rfl))), rfl⟩
set_option maxRecDepth 100000 in
theorem pg_w134 : ev_cw pg_y134 ∈ pg_TB := List.mem_filter.mpr ⟨List.mem_append_right _ (List.mem_append_right _ (List.mem_append_right _ (List.mem_append_left _ (List.mem_of_getElem? (i := 65) rfl)))), rfl⟩
set_option maxRecDepth 100000 in
theorem pg_w135 : ev_cw pg_y135 ∈ pg_TB := List.mem_filter.mpr ⟨List.mem_append_right _ (List.mem_append_right _ (List.mem_append_right _ (List.mem_append_left _ (List.mem_of_getElem? (i := 234) rfl)))), rfl⟩
set_option maxRecDepth 100000 in
theorem pg_w136 : ev_cw pg_y136 ∈ pg_TB := List.mem_filter.mpr ⟨List.mem_append_right _ (List.mem_append_right _ (List.mem_append_left _ (List.mem_of_getElem? (i := 141) rfl))), rfl⟩
set_option maxRecDepth 100000 in
theorem pg_w137 : ev_cw pg_y137 ∈ pg_TB := List.mem_filter.mpr ⟨List.mem_append_right _ (List.mem_append_right _ (List.mem_append_right _ (List.mem_append_left _ (List.mem_of_getElem? (i := 52) rfl)))), rfl⟩
set_option maxRecDepth 100000 in
theorem pg_w138 : ev_cw pg_y138 ∈ pg_TB := List.mem_filter.mpr ⟨List.mem_append_right _ (List.mem_append_right _ (List.mem_append_left _ (List.mem_of_getElem? (i := 0) rfl))), rfl⟩
set_option maxRecDepth 100000 in
theorem pg_w139 : ev_cw pg_y139 ∈ pg_TB := List.mem_filter.mpr ⟨List.mem_append_right _ (List.mem_append_right _ (List.mem_append_left _ (List.mem_of_getElem? (i := 149) rfl))), rfl⟩
set_option maxRecDepth 100000 in
theorem pg_w140 : ev_cw pg_y140 ∈ pg_TB := List.mem_filter.mpr ⟨List.mem_append_right _ (List.mem_append_right _ (List.mem_append_left _ (List.mem_of_getElem? (i := 127) rfl))), rfl⟩
set_option maxRecDepth 100000 in
theorem pg_w141 : ev_cw pg_y141 ∈ pg_TB := List.mem_filter.mpr ⟨List.mem_append_right _ (List.mem_append_right _ (List.mem_append_right _ (List.mem_append_left _ (List.mem_of_getElem? (i := 40) rfl)))), rfl⟩
set_option maxRecDepth 100000 in
theorem pg_w142 : ev_cw pg_y142 ∈ pg_TB := List.mem_filter.mpr ⟨List.mem_append_right _ (List.mem_append_right _ (List.mem_append_right _ (List.mem_append_left _ (List.mem_of_getElem? (i := 28) rfl)))), rfl⟩
set_option maxRecDepth 100000 in
theorem pg_w143 : ev_cw pg_y143 ∈ pg_TB := List.mem_filter.mpr ⟨List.mem_append_right _ (List.mem_append_right _ (List.mem_append_left _ (List.mem_of_getElem? (i := 185) rfl))), rfl⟩
set_option maxRecDepth 100000 in
theorem pg_w144 : ev_cw pg_y144 ∈ pg_TB := List.mem_filter.mpr ⟨List.mem_append_right _ (List.mem_append_right _ (List.mem_append_right _ (List.mem_append_left _ (List.mem_of_getElem? (i := 60) rfl)))), rfl⟩
set_option maxRecDepth 100000 in
theorem pg_wall : ∀ y ∈ pg_ml, ev_cw y ∈ pg_TB := List.forall_mem_cons.mpr ⟨pg_w0, List.forall_mem_cons.mpr ⟨pg_w1, List.forall_mem_cons.mpr ⟨pg_w2, List.forall_mem_cons.mpr ⟨pg_w3, List.forall_mem_cons.mpr ⟨pg_w4, List.forall_mem_cons.mpr ⟨pg_w5, List.forall_mem_cons.mpr ⟨pg_w6, List.forall_mem_cons.mpr ⟨pg_w7, List.forall_mem_cons.mpr ⟨pg_w8, List.forall_mem_cons.mpr ⟨pg_w9, List.forall_mem_cons.mpr ⟨pg_w10, List.forall_mem_cons.mpr ⟨pg_w11, List.forall_mem_cons.mpr ⟨pg_w12, List.forall_mem_cons.mpr ⟨pg_w13, List.forall_mem_cons.mpr ⟨pg_w14, List.forall_mem_cons.mpr ⟨pg_w15, List.forall_mem_cons.mpr ⟨pg_w16, List.forall_mem_cons.mpr ⟨pg_w17, List.forall_mem_cons.mpr ⟨pg_w18, List.forall_mem_cons.mpr ⟨pg_w19, List.forall_mem_cons.mpr ⟨pg_w20, List.forall_mem_cons.mpr ⟨pg_w21, List.forall_mem_cons.mpr ⟨pg_w22, List.forall_mem_cons.mpr ⟨pg_w23, List.forall_mem_cons.mpr ⟨pg_w24, List.forall_mem_cons.mpr ⟨pg_w25, List.forall_mem_cons.mpr ⟨pg_w26, List.forall_mem_cons.mpr ⟨pg_w27, List.forall_mem_cons.mpr ⟨pg_w28, List.forall_mem_cons.mpr ⟨pg_w29, List.forall_mem_cons.mpr ⟨pg_w30, List.forall_mem_cons.mpr ⟨pg_w31, List.forall_mem_cons.mpr ⟨pg_w32, List.forall_mem_cons.mpr ⟨pg_w33, List.forall_mem_cons.mpr ⟨pg_w34, List.forall_mem_cons.mpr ⟨pg_w35, List.forall_mem_cons.mpr ⟨pg_w36, List.forall_mem_cons.mpr ⟨pg_w37, List.forall_mem_cons.mpr ⟨pg_w38, List.forall_mem_cons.mpr ⟨pg_w39, List.forall_mem_cons.mpr ⟨pg_w40, List.forall_mem_cons.mpr ⟨pg_w41, List.forall_mem_cons.mpr ⟨pg_w42, List.forall_mem_cons.mpr ⟨pg_w43, List.forall_mem_cons.mpr ⟨pg_w44, List.forall_mem_cons.mpr ⟨pg_w45, List.forall_mem_cons.mpr ⟨pg_w46, List.forall_mem_cons.mpr ⟨pg_w47, List.forall_mem_cons.mpr ⟨pg_w48, List.forall_mem_cons.mpr ⟨pg_w49, List.forall_mem_cons.mpr ⟨pg_w50, List.forall_mem_cons.mpr ⟨pg_w51, List.forall_mem_cons.mpr ⟨pg_w52, List.forall_mem_cons.mpr ⟨pg_w53, List.forall_mem_cons.mpr ⟨pg_w54, List.forall_mem_cons.mpr ⟨pg_w55, List.forall_mem_cons.mpr ⟨pg_w56, List.forall_mem_cons.mpr ⟨pg_w57, List.forall_mem_cons.mpr ⟨pg_w58, List.forall_mem_cons.mpr ⟨pg_w59, List.forall_mem_cons.mpr ⟨pg_w60, List.forall_mem_cons.mpr ⟨pg_w61, List.forall_mem_cons.mpr ⟨pg_w62, List.forall_mem_cons.mpr ⟨pg_w63, List.forall_mem_cons.mpr ⟨pg_w64, List.forall_mem_cons.mpr ⟨pg_w65, List.forall_mem_cons.mpr ⟨pg_w66, List.forall_mem_cons.mpr ⟨pg_w67, List.forall_mem_cons.mpr ⟨pg_w68, List.forall_mem_cons.mpr ⟨pg_w69, List.forall_mem_cons.mpr ⟨pg_w70, List.forall_mem_cons.mpr ⟨pg_w71, List.forall_mem_cons.mpr ⟨pg_w72, List.forall_mem_cons.mpr ⟨pg_w73, List.forall_mem_cons.mpr ⟨pg_w74, List.forall_mem_cons.mpr ⟨pg_w75, List.forall_mem_cons.mpr ⟨pg_w76, List.forall_mem_cons.mpr ⟨pg_w77, List.forall_mem_cons.mpr ⟨pg_w78, List.forall_mem_cons.mpr ⟨pg_w79, List.forall_mem_cons.mpr ⟨pg_w80, List.forall_mem_cons.mpr ⟨pg_w81, List.forall_mem_cons.mpr ⟨pg_w82, List.forall_mem_cons.mpr ⟨pg_w83, List.forall_mem_cons.mpr ⟨pg_w84, List.forall_mem_cons.mpr ⟨pg_w85, List.forall_mem_cons.mpr ⟨pg_w86, List.forall_mem_cons.mpr ⟨pg_w87, List.forall_mem_cons.mpr ⟨pg_w88, List.forall_mem_cons.mpr ⟨pg_w89, List.forall_mem_cons.mpr ⟨pg_w90, List.forall_mem_cons.mpr ⟨pg_w91, List.forall_mem_cons.mpr ⟨pg_w92, List.forall_mem_cons.mpr ⟨pg_w93, List.forall_mem_cons.mpr ⟨pg_w94, List.forall_mem_cons.mpr ⟨pg_w95, List.forall_mem_cons.mpr ⟨pg_w96, List.forall_mem_cons.mpr ⟨pg_w97, List.forall_mem_cons.mpr ⟨pg_w98, List.forall_mem_cons.mpr ⟨pg_w99, List.forall_mem_cons.mpr ⟨pg_w100, List.forall_mem_cons.mpr ⟨pg_w101, List.forall_mem_cons.mpr ⟨pg_w102, List.forall_mem_cons.mpr ⟨pg_w103, List.forall_mem_cons.mpr ⟨pg_w104, List.forall_mem_cons.mpr ⟨pg_w105, List.forall_mem_cons.mpr ⟨pg_w106, List.forall_mem_cons.mpr ⟨pg_w107, List.forall_mem_cons.mpr ⟨pg_w108, List.forall_mem_cons.mpr ⟨pg_w109, List.forall_mem_cons.mpr ⟨pg_w110, List.forall_mem_cons.mpr ⟨pg_w111, List.forall_mem_cons.mpr ⟨pg_w112, List.forall_mem_cons.mpr ⟨pg_w113, List.forall_mem_cons.mpr ⟨pg_w114, List.forall_mem_cons.mpr ⟨pg_w115, List.forall_mem_cons.mpr ⟨pg_w116, List.forall_mem_cons.mpr ⟨pg_w117, List.forall_mem_cons.mpr ⟨pg_w118, List.forall_mem_cons.mpr ⟨pg_w119, List.forall_mem_cons.mpr ⟨pg_w120, List.forall_mem_cons.mpr ⟨pg_w121, List.forall_mem_cons.mpr ⟨pg_w122, List.forall_mem_cons.mpr ⟨pg_w123, List.forall_mem_cons.mpr ⟨pg_w124, List.forall_mem_cons.mpr ⟨pg_w125, List.forall_mem_cons.mpr ⟨pg_w126, List.forall_mem_cons.mpr ⟨pg_w127, List.forall_mem_cons.mpr ⟨pg_w128, List.forall_mem_cons.mpr ⟨pg_w129, List.forall_mem_cons.mpr ⟨pg_w130, List.forall_mem_cons.mpr ⟨pg_w131, List.forall_mem_cons.mpr ⟨pg_w132, List.forall_mem_cons.mpr ⟨pg_w133, List.forall_mem_cons.mpr ⟨pg_w134, List.forall_mem_cons.mpr ⟨pg_w135, List.forall_mem_cons.mpr ⟨pg_w136, List.forall_mem_cons.mpr ⟨pg_w137, List.forall_mem_cons.mpr ⟨pg_w138, List.forall_mem_cons.mpr ⟨pg_w139, List.forall_mem_cons.mpr ⟨pg_w140, List.forall_mem_cons.mpr ⟨pg_w141, List.forall_mem_cons.mpr ⟨pg_w142, List.forall_mem_cons.mpr ⟨pg_w143, List.forall_mem_cons.mpr ⟨pg_w144, fun _ h => absurd h List.not_mem_nil⟩⟩⟩⟩⟩⟩⟩⟩⟩⟩⟩⟩⟩⟩⟩⟩⟩⟩⟩⟩⟩⟩⟩⟩⟩⟩⟩⟩⟩⟩⟩⟩⟩⟩⟩⟩⟩⟩⟩⟩⟩⟩⟩⟩⟩⟩⟩⟩⟩⟩⟩⟩⟩⟩⟩⟩⟩⟩⟩⟩⟩⟩⟩⟩⟩⟩⟩⟩⟩⟩⟩⟩⟩⟩⟩⟩⟩⟩⟩⟩⟩⟩⟩⟩⟩⟩⟩⟩⟩⟩⟩⟩⟩⟩⟩⟩⟩⟩⟩⟩⟩⟩⟩⟩⟩⟩⟩⟩⟩⟩⟩⟩⟩⟩⟩⟩⟩⟩⟩⟩⟩⟩⟩⟩⟩⟩⟩⟩⟩⟩⟩⟩⟩⟩⟩⟩⟩⟩⟩⟩⟩⟩⟩⟩⟩
theorem pg_cd : ∀ j y, pg_mt j = some y → ev_cw y ∈ pg_TB := fun j y h => pg_wall y (List.mem_of_getElem? h)
end
section
/-! WHAT THE METHODS DO: the words in which it is said -/
abbrev sp_P : Type := Prop × ((Option Value ⊕ Nat) → ev_W → Prop)
/-- the answer, and the world as it was -/
def sp_e (v : Int32) (σ : ev_W) : sp_P := (True, fun o σ' => o = .inl (some (.int v)) ∧ σ = σ')
/-- an answer of a kind, and the world as it was -/
def sp_i (pre : Prop) (Q : Int32 → Prop) (σ : ev_W) : sp_P := (pre, fun o σ' => ∃ v : Int32, Q v ∧ o = .inl (some (.int v)) ∧ σ = σ')
/-- an answer, and another world -/
def sp_m (pre : Prop) (Q : Int32 → ev_W → Prop) : sp_P := (pre, fun o σ' => ∃ v : Int32, Q v σ' ∧ o = .inl (some (.int v)))
def sp_v (pre : Prop) (Q : ev_W → Prop) : sp_P := (pre, fun o σ' => Q σ' ∧ o = .inl none)
def sp_b (v : Int32) : Prop := v = 0 ∨ v = 1
theorem sp_in {i : Int32} {n : Nat} (h : decide (i < 0) = false) (h2 : decide (n ≤ i.toNatClampNeg) = false) : vp_in i n := fun z => z.elim (of_decide_eq_false h) (of_decide_eq_false h2)
theorem sp_in2 {i : Int32} {n : Nat} (hn : n < 2 ^ 31) (h : ¬ i < 0) (h2 : ¬ Int32.ofNat n ≤ i) : vp_in i n := by
  rcases pk_ix i hn with z | z | ⟨j, hj, rfl⟩
  · exact absurd z h
  · exact absurd z h2
  · exact vp_in_nI hj hn
/-- the class: gate, near and tearing are as they must be -/
def sp_inv (σ : ev_W) : Prop := vp_in (σ.1 0 3) 12 ∧ sp_b (σ.1 1 4) ∧ sp_b (σ.1 1 5)
/-- the class's memory writes: cells 1, 4, 5 alone; near and tearing stay booleans -/
def sp_w (σ σ' : ev_W) : Prop := (∀ k, k ≠ 1 → k ≠ 4 → k ≠ 5 → σ'.1 k = σ.1 k) ∧ σ'.2 = σ.2 ∧ (sp_b (σ.1 1 4) → sp_b (σ'.1 1 4)) ∧ (sp_b (σ.1 1 5) → sp_b (σ'.1 1 5))
/-- the class writes: its own cells alone; what must hold of them holds on -/
def sp_t (σ σ' : ev_W) : Prop := (∀ k, 6 ≤ k → σ'.1 k = σ.1 k) ∧ σ'.2 = σ.2 ∧ (sp_inv σ → sp_inv σ')
theorem sp_w.rf (σ : ev_W) : sp_w σ σ := ⟨fun _ _ _ _ => rfl, rfl, id, id⟩
theorem sp_t.rf (σ : ev_W) : sp_t σ σ := ⟨fun _ _ => rfl, rfl, id⟩
theorem sp_w.tr {a b c : ev_W} (h : sp_w a b) (g : sp_w b c) : sp_w a c := ⟨fun k x y z => (g.1 k x y z).trans (h.1 k x y z), g.2.1.trans h.2.1, fun x => g.2.2.1 (h.2.2.1 x), fun x => g.2.2.2 (h.2.2.2 x)⟩
theorem sp_t.tr {a b c : ev_W} (h : sp_t a b) (g : sp_t b c) : sp_t a c := ⟨fun k x => (g.1 k x).trans (h.1 k x), g.2.1.trans h.2.1, fun x => g.2.2 (h.2.2 x)⟩
theorem sp_w.t {a b : ev_W} (h : sp_w a b) : sp_t a b := ⟨fun k x => h.1 k (by omega) (by omega) (by omega), h.2.1, fun ⟨g1, g2, g3⟩ => ⟨by rw [h.1 0 (by decide) (by decide) (by decide)]; exact g1, h.2.2.1 g2, h.2.2.2 g3⟩⟩
theorem sp_w.inv {a b : ev_W} (h : sp_w a b) (i : sp_inv a) : sp_inv b := h.t.2.2 i
/-- the words of the class's memory: all 0 -/
def sp_zero (σ : ev_W) : Prop := ∀ i, σ.1 4 i = 0
theorem sp_up1 (σ : ev_W) (j : Nat) (x : Int32) (h4 : j = 4 → sp_b x) (h5 : j = 5 → sp_b x) : sp_w σ (ev_up σ 1 j x) := by
  refine ⟨fun k h _ _ => by simp [ev_up, h], rfl, fun h => ?_, fun h => ?_⟩
  · by_cases hj : j = 4
    · subst hj
      simpa [ev_up, upd] using h4 rfl
    · simpa [ev_up, upd, Ne.symm hj] using h
  · by_cases hj : j = 5
    · subst hj
      simpa [ev_up, upd] using h5 rfl
    · simpa [ev_up, upd, Ne.symm hj] using h
theorem sp_up45 (σ : ev_W) (c : Nat) (hc : c = 4 ∨ c = 5) (j : Nat) (x : Int32) : sp_w σ (ev_up σ c j x) := by
  have h1 : (1 : Nat) ≠ c := by omega
  refine ⟨fun k _ h4 h5 => ?_, rfl, fun h => ?_, fun h => ?_⟩
  · have : k ≠ c := by omega
    simp [ev_up, this]
  · simpa [ev_up, h1] using h
  · simpa [ev_up, h1] using h
theorem sp_up0 (σ : ev_W) (j : Nat) (x : Int32) (h3 : j = 3 → vp_in x 12) : sp_t σ (ev_up σ 0 j x) := by
  refine ⟨fun k h => ?_, rfl, fun ⟨g1, g2, g3⟩ => ⟨?_, ?_, ?_⟩⟩
  · have : k ≠ 0 := by omega
    simp [ev_up, this]
  · by_cases hj : j = 3
    · subst hj
      simpa [ev_up, upd] using h3 rfl
    · simpa [ev_up, upd, Ne.symm hj] using g1
  · simpa [ev_up] using g2
  · simpa [ev_up] using g3
theorem sp_up23 (σ : ev_W) (c : Nat) (hc : c = 2 ∨ c = 3) (j : Nat) (x : Int32) : sp_t σ (ev_up σ c j x) := by
  have h0 : (0 : Nat) ≠ c := by omega
  have h1 : (1 : Nat) ≠ c := by omega
  refine ⟨fun k h => ?_, rfl, fun ⟨g1, g2, g3⟩ => ⟨?_, ?_, ?_⟩⟩
  · have : k ≠ c := by omega
    simp [ev_up, this]
  · simpa [ev_up, h0] using g1
  · simpa [ev_up, h1] using g2
  · simpa [ev_up, h1] using g3
theorem sp_in3 {i : Int32} {n : Nat} (hn : n < 2 ^ 31) (h : ¬ i < 0) (h2 : i < Int32.ofNat n) : vp_in i n := sp_in2 hn h (fun z => by
  rw [Int32.lt_iff_toInt_lt] at h2
  rw [Int32.le_iff_toInt_le] at z
  omega)
/-- it throws (the kinds X), or it ends otherwise (N) -/
def sp_x (pre : Prop) (X : Nat → Prop) (N : Option Value → ev_W → Prop) (σ : ev_W) : sp_P := (pre ∧ 0 < σ.2.2, fun o σ' => (∃ k, X k ∧ o = .inr k ∧ σ'.1 = σ.1 ∧ σ'.2.1 = σ.2.1 ∧ σ'.2.2 + 1 = σ.2.2) ∨ (∃ v, N v σ' ∧ o = .inl v))
theorem sp_pos {n : Nat} (h : 0 < n) : ∃ b, n = b + 1 := ⟨n - 1, by omega⟩
def sp_upto (n t : Int32) : Int32 := if n < 0 then 0 else if t < n then 0 else 1
theorem sp_upto_b (n t : Int32) : sp_b (sp_upto n t) := by
  unfold sp_upto
  split
  · exact Or.inl rfl
  · split
    · exact Or.inl rfl
    · exact Or.inr rfl
def sp_time (a b : Int32) : Int32 := if sp_upto a 9999 = 0 then 0 else if sp_upto b 1439 = 0 then 0 else 1
def sp_add (a b : Int32) : Int32 := if a + b ≤ 65535 then a + b else a + b - 65535
def sp_at (σ : ev_W) (b w : Int32) : Int32 := if b * 4 + w < 0 then 0 else if Int32.ofNat 256 ≤ b * 4 + w then 0 else σ.1 4 (b * 4 + w).toNatClampNeg
theorem sp_at_zero {σ : ev_W} (h : sp_zero σ) (b w : Int32) : sp_at σ b w = 0 := by
  unfold sp_at
  rw [h]
  split
  · rfl
  · split <;> rfl
/-- what is to be shown of a method's body -/
def pg_Rn (F : ev_F) (j : Nat) (y : ev_M) (hd : List (Nat × Nat × Nat × Nat)) (tm : List (Nat × Nat)) : Prop := ∀ vs σ P, F j vs σ = some P → P.1 → (∀ u ∈ vs, u.category = 1) ∧ vs.length ≤ y.2.2.1 ∧ ev_Run pg_TB pg_cl pg_lay none F pg_mt hd y.1.cls y.2.1 y.2.2.1 y.2.2.2.2.2.1 y.2.2.2.2.2.2 (ev_at (ev_tl tm) σ.2.2 P.2) 0 (ev_ent vs y.2.2.1) [] σ
end
section
/-! WHAT THE METHODS DO (laid by wip/gen/spec.py) -/
/-- T_fare -/
def pf_0 (vs : List Value) (σ : ev_W) : Option sp_P := match vs with
  | [.int a, .int b] => some (sp_i True (fun _ => True) σ)
  | _ => none
/-- T_isUpTo -/
def pf_1 (vs : List Value) (σ : ev_W) : Option sp_P := match vs with
  | [.int n, .int t] => some (sp_e (sp_upto n t) σ)
  | _ => none
/-- T_journeyPlace -/
def pf_2 (vs : List Value) (σ : ev_W) : Option sp_P := match vs with
  | [.int a] => some (sp_i True (fun _ => True) σ)
  | _ => none
/-- T_manner -/
def pf_3 (vs : List Value) (σ : ev_W) : Option sp_P := match vs with
  | [.ref 0, .int a, .int b] => some (sp_i True (fun _ => True) σ)
  | _ => none
/-- T_now -/
def pf_4 (vs : List Value) (σ : ev_W) : Option sp_P := match vs with
  | [.ref 0] => some (sp_i (sp_inv σ) (fun _ => True) σ)
  | _ => none
/-- T_reason -/
def pf_5 (vs : List Value) (σ : ev_W) : Option sp_P := match vs with
  | [.ref 0] => some (sp_e (σ.1 0 5) σ)
  | _ => none
/-- T_refuse -/
def pf_6 (vs : List Value) (σ : ev_W) : Option sp_P := match vs with
  | [.ref 0, .int a] => some (sp_m True (fun v σ' => v = 3 ∧ σ' = ev_up σ 0 5 a))
  | _ => none
/-- M_addToSum -/
def pf_7 (vs : List Value) (σ : ev_W) : Option sp_P := match vs with
  | [.int a, .int b] => some (sp_e (sp_add a b) σ)
  | _ => none
/-- M_at -/
def pf_8 (vs : List Value) (σ : ev_W) : Option sp_P := match vs with
  | [.ref 1, .int b, .int w] => some (sp_e (sp_at σ b w) σ)
  | _ => none
/-- M_comeNear -/
def pf_9 (vs : List Value) (σ : ev_W) : Option sp_P := match vs with
  | [.ref 1] => some (sp_v True (fun σ' => σ' = ev_up σ 1 4 1))
  | _ => none
/-- M_goAway -/
def pf_11 (vs : List Value) (σ : ev_W) : Option sp_P := match vs with
  | [.ref 1] => some (sp_v True (fun σ' => σ' = ev_up (ev_up σ 1 4 0) 1 5 0))
  | _ => none
/-- M_isNear -/
def pf_12 (vs : List Value) (σ : ev_W) : Option sp_P := match vs with
  | [.ref 1] => some ((sp_b (σ.1 1 4), (sp_e (σ.1 1 4) σ).2))
  | _ => none
/-- M_timesTorn -/
def pf_15 (vs : List Value) (σ : ev_W) : Option sp_P := match vs with
  | [.ref 1] => some (sp_e (σ.1 1 3) σ)
  | _ => none
/-- M_wordsWritten -/
def pf_17 (vs : List Value) (σ : ev_W) : Option sp_P := match vs with
  | [.ref 1] => some (sp_e (σ.1 1 2) σ)
  | _ => none
/-- M_twinOf -/
def pf_16 (vs : List Value) (σ : ev_W) : Option sp_P := match vs with
  | [.int a, .int b] => some (sp_i True (fun _ => True) σ)
  | _ => none
/-- J_bitCount -/
def pf_33 (vs : List Value) (σ : ev_W) : Option sp_P := match vs with
  | [.int a] => some (sp_i True (fun v => a = 0 → v = 0) σ)
  | _ => none
/-- J_max -/
def pf_34 (vs : List Value) (σ : ev_W) : Option sp_P := match vs with
  | [.int a, .int b] => some (sp_e (if a < b then b else a) σ)
  | _ => none
/-- J_min -/
def pf_35 (vs : List Value) (σ : ev_W) : Option sp_P := match vs with
  | [.int a, .int b] => some (sp_e (if b < a then b else a) σ)
  | _ => none
/-- T_beganAt -/
def pf_37 (vs : List Value) (σ : ev_W) : Option sp_P := match vs with
  | [.ref 0, .int a] => some (sp_i True (fun _ => True) σ)
  | _ => none
/-- T_beganMinuteOf -/
def pf_38 (vs : List Value) (σ : ev_W) : Option sp_P := match vs with
  | [.ref 0, .int a] => some (sp_i True (fun _ => True) σ)
  | _ => none
/-- T_centsOf -/
def pf_40 (vs : List Value) (σ : ev_W) : Option sp_P := match vs with
  | [.ref 0, .int a] => some (sp_i True (fun _ => True) σ)
  | _ => none
/-- T_codeOf -/
def pf_42 (vs : List Value) (σ : ev_W) : Option sp_P := match vs with
  | [.ref 0, .int a] => some (sp_i True (fun _ => True) σ)
  | _ => none
/-- T_counterOf -/
def pf_43 (vs : List Value) (σ : ev_W) : Option sp_P := match vs with
  | [.ref 0, .int a] => some (sp_i True (fun _ => True) σ)
  | _ => none
/-- T_directionOf -/
def pf_44 (vs : List Value) (σ : ev_W) : Option sp_P := match vs with
  | [.ref 0, .int a] => some (sp_i True (fun _ => True) σ)
  | _ => none
/-- T_gateOf -/
def pf_47 (vs : List Value) (σ : ev_W) : Option sp_P := match vs with
  | [.ref 0, .int a] => some (sp_i True (fun _ => True) σ)
  | _ => none
/-- T_lineOf -/
def pf_52 (vs : List Value) (σ : ev_W) : Option sp_P := match vs with
  | [.ref 0, .int a] => some (sp_i True (fun _ => True) σ)
  | _ => none
/-- T_numberOf -/
def pf_53 (vs : List Value) (σ : ev_W) : Option sp_P := match vs with
  | [.ref 0, .int a] => some (sp_i True (fun _ => True) σ)
  | _ => none
/-- T_usedOf -/
def pf_55 (vs : List Value) (σ : ev_W) : Option sp_P := match vs with
  | [.ref 0, .int a] => some (sp_i True (fun _ => True) σ)
  | _ => none
/-- T_zoneOf -/
def pf_56 (vs : List Value) (σ : ev_W) : Option sp_P := match vs with
  | [.ref 0, .int a] => some (sp_i True (fun _ => True) σ)
  | _ => none
/-- T_chargedOn -/
def pf_41 (vs : List Value) (σ : ev_W) : Option sp_P := match vs with
  | [.ref 0, .int a, .int b] => some (sp_i True (fun _ => True) σ)
  | _ => none
/-- T_isGate -/
def pf_48 (vs : List Value) (σ : ev_W) : Option sp_P := match vs with
  | [.int n] => some (sp_e (sp_upto n 11) σ)
  | _ => none
/-- T_kindOfTag -/
def pf_51 (vs : List Value) (σ : ev_W) : Option sp_P := match vs with
  | [.ref 0] => some (sp_e (sp_at σ 0 0) σ)
  | _ => none
/-- T_parameter -/
def pf_54 (vs : List Value) (σ : ev_W) : Option sp_P := match vs with
  | [.ref 0, .int a] => some (sp_e (sp_at σ 0 a) σ)
  | _ => none
/-- T_isTime -/
def pf_50 (vs : List Value) (σ : ev_W) : Option sp_P := match vs with
  | [.int a, .int b] => some (sp_e (sp_time a b) σ)
  | _ => none
/-- T_bitsOn -/
def pf_39 (vs : List Value) (σ : ev_W) : Option sp_P := match vs with
  | [.ref 0] => some (sp_i True (fun v => sp_zero σ → v = 0) σ)
  | _ => none
/-- M_isRight -/
def pf_57 (vs : List Value) (σ : ev_W) : Option sp_P := match vs with
  | [.ref 1, .int r] => some (sp_i True (fun v => sp_b v ∧ (sp_zero σ → v = 0)) σ)
  | _ => none
/-- M_draft -/
def pf_10 (vs : List Value) (σ : ev_W) : Option sp_P := match vs with
  | [.ref 1, .int a, .int b, .int c, .int d, .int e, .int f] => some (sp_v True (fun σ' => sp_w σ σ'))
  | _ => none
/-- M_isTearDue -/
def pf_13 (vs : List Value) (σ : ev_W) : Option sp_P := match vs with
  | [.ref 1] => some (sp_m True (fun v σ' => sp_b v ∧ sp_w σ σ'))
  | _ => none
/-- M_planTear -/
def pf_14 (vs : List Value) (σ : ev_W) : Option sp_P := match vs with
  | [.ref 1, .int a, .int b] => some (sp_v True (fun σ' => sp_w σ σ'))
  | _ => none
/-- M_write -/
def pf_58 (vs : List Value) (σ : ev_W) : Option sp_P := match vs with
  | [.ref 1, .int a, .int b, .int c] => some (sp_m True (fun v σ' => sp_b v ∧ sp_w σ σ'))
  | _ => none
/-- M_erase -/
def pf_79 (vs : List Value) (σ : ev_W) : Option sp_P := match vs with
  | [.ref 1, .int a] => some (sp_m True (fun v σ' => sp_b v ∧ sp_w σ σ'))
  | _ => none
/-- M_writeDraft -/
def pf_81 (vs : List Value) (σ : ev_W) : Option sp_P := match vs with
  | [.ref 1, .int a, .int b] => some (sp_m True (fun v σ' => sp_b v ∧ sp_w σ σ'))
  | _ => none
/-- M_latestOf -/
def pf_80 (vs : List Value) (σ : ev_W) : Option sp_P := match vs with
  | [.ref 1, .int a] => some (sp_i True (fun v => sp_zero σ → v = -1) σ)
  | _ => none
/-- M_writeTwin -/
def pf_96 (vs : List Value) (σ : ev_W) : Option sp_P := match vs with
  | [.ref 1, .int a] => some (sp_m True (fun v σ' => sp_b v ∧ sp_w σ σ'))
  | _ => none
/-- T_draftNewTransfer -/
def pf_45 (vs : List Value) (σ : ev_W) : Option sp_P := match vs with
  | [.ref 0, .int a, .int b, .int c, .int d] => some (sp_v (sp_inv σ) (fun σ' => sp_w σ σ'))
  | _ => none
/-- T_draftValue -/
def pf_46 (vs : List Value) (σ : ev_W) : Option sp_P := match vs with
  | [.ref 0, .int a, .int b, .int c] => some (sp_v True (fun σ' => sp_w σ σ'))
  | _ => none
/-- T_beganWithin -/
def pf_70 (vs : List Value) (σ : ev_W) : Option sp_P := match vs with
  | [.ref 0, .int a, .int b, .int c] => some (sp_i True sp_b σ)
  | _ => none
/-- T_capLeftBy -/
def pf_71 (vs : List Value) (σ : ev_W) : Option sp_P := match vs with
  | [.ref 0, .int a, .int b] => some (sp_i True (fun _ => True) σ)
  | _ => none
/-- T_journeyRecord -/
def pf_73 (vs : List Value) (σ : ev_W) : Option sp_P := match vs with
  | [.ref 0, .int a] => some (sp_i True (fun _ => True) σ)
  | _ => none
/-- T_reasonAtGate -/
def pf_74 (vs : List Value) (σ : ev_W) : Option sp_P := match vs with
  | [.ref 0] => some (sp_i (sp_inv σ) (fun _ => True) σ)
  | _ => none
/-- T_reasonByPass -/
def pf_75 (vs : List Value) (σ : ev_W) : Option sp_P := match vs with
  | [.ref 0, .int a, .int b] => some (sp_i True (fun _ => True) σ)
  | _ => none
/-- T_rodeAt -/
def pf_77 (vs : List Value) (σ : ev_W) : Option sp_P := match vs with
  | [.ref 0, .int a] => some (sp_i True (fun _ => True) σ)
  | _ => none
/-- T_rides -/
def pf_76 (vs : List Value) (σ : ev_W) : Option sp_P := match vs with
  | [.ref 0] => some (sp_i True (fun v => sp_at σ 0 0 ≠ 1 → v = -1) σ)
  | _ => none
/-- T_writeNextBit -/
def pf_78 (vs : List Value) (σ : ev_W) : Option sp_P := match vs with
  | [.ref 0] => some (sp_m True (fun v σ' => sp_b v ∧ sp_w σ σ'))
  | _ => none
/-- T_chargeBy -/
def pf_87 (vs : List Value) (σ : ev_W) : Option sp_P := match vs with
  | [.ref 0, .int a, .int b, .int c] => some (sp_i True (fun _ => True) σ)
  | _ => none
/-- T_isFreeAfter -/
def pf_88 (vs : List Value) (σ : ev_W) : Option sp_P := match vs with
  | [.ref 0, .int a, .int b] => some (sp_i (sp_inv σ) sp_b σ)
  | _ => none
/-- T_isJourneyWanting -/
def pf_89 (vs : List Value) (σ : ev_W) : Option sp_P := match vs with
  | [.ref 0, .int a] => some (sp_i True sp_b σ)
  | _ => none
/-- T_isOpenFor -/
def pf_90 (vs : List Value) (σ : ev_W) : Option sp_P := match vs with
  | [.ref 0, .int a, .int b] => some (sp_i (sp_inv σ) sp_b σ)
  | _ => none
/-- T_isVoid -/
def pf_91 (vs : List Value) (σ : ev_W) : Option sp_P := match vs with
  | [.ref 0, .int a] => some (sp_i True sp_b σ)
  | _ => none
/-- T_latestValue -/
def pf_92 (vs : List Value) (σ : ev_W) : Option sp_P := match vs with
  | [.ref 0] => some (sp_i True (fun v => sp_at σ 0 0 ≠ 3 → v = -1) σ)
  | _ => none
/-- T_newestRide -/
def pf_93 (vs : List Value) (σ : ev_W) : Option sp_P := match vs with
  | [.ref 0] => some (sp_i True (fun _ => True) σ)
  | _ => none
/-- T_reasonAgainstTopUp -/
def pf_94 (vs : List Value) (σ : ev_W) : Option sp_P := match vs with
  | [.ref 0, .int a, .int b] => some (sp_i (sp_inv σ) (fun _ => True) σ)
  | _ => none
/-- T_writeJourneyOf -/
def pf_95 (vs : List Value) (σ : ev_W) : Option sp_P := match vs with
  | [.ref 0, .int a] => some (sp_m True (fun v σ' => sp_b v ∧ sp_w σ σ'))
  | _ => none
/-- T_capLeft -/
def pf_102 (vs : List Value) (σ : ev_W) : Option sp_P := match vs with
  | [.ref 0, .int a] => some (sp_i True (fun v => sp_at σ 0 0 ≠ 3 → v = -1) σ)
  | _ => none
/-- T_cents -/
def pf_103 (vs : List Value) (σ : ev_W) : Option sp_P := match vs with
  | [.ref 0] => some (sp_i True (fun v => sp_at σ 0 0 ≠ 3 → v = -1) σ)
  | _ => none
/-- T_lastRideRecord -/
def pf_104 (vs : List Value) (σ : ev_W) : Option sp_P := match vs with
  | [.ref 0] => some (sp_i True (fun v => sp_zero σ → v = -1) σ)
  | _ => none
/-- T_rideFree -/
def pf_105 (vs : List Value) (σ : ev_W) : Option sp_P := match vs with
  | [.ref 0, .int a, .int b, .int c] => some (sp_m (sp_inv σ) (fun _ σ' => sp_t σ σ'))
  | _ => none
/-- T_rideOnCarnet -/
def pf_106 (vs : List Value) (σ : ev_W) : Option sp_P := match vs with
  | [.ref 0, .int a, .int b] => some (sp_m (sp_inv σ) (fun _ σ' => sp_t σ σ'))
  | _ => none
/-- T_rideOnPass -/
def pf_107 (vs : List Value) (σ : ev_W) : Option sp_P := match vs with
  | [.ref 0, .int a, .int b, .int c] => some (sp_m (sp_inv σ) (fun _ σ' => sp_t σ σ'))
  | _ => none
/-- T_rideOnPurse -/
def pf_108 (vs : List Value) (σ : ev_W) : Option sp_P := match vs with
  | [.ref 0, .int a, .int b, .int c] => some (sp_m (sp_inv σ) (fun _ σ' => sp_t σ σ'))
  | _ => none
/-- T_takeRide -/
def pf_118 (vs : List Value) (σ : ev_W) : Option sp_P := match vs with
  | [.ref 0, .int a, .int b, .int c, .int d] => some (sp_m (sp_inv σ) (fun _ σ' => sp_t σ σ'))
  | _ => none
/-- T_writeProduct -/
def pf_110 (vs : List Value) (σ : ev_W) : Option sp_P := match vs with
  | [.ref 0, .int a, .int b, .int c, .int d] => some (sp_v True (fun σ' => sp_w σ σ'))
  | _ => none
/-- T_takeBackVoidRide -/
def pf_109 (vs : List Value) (σ : ev_W) : Option sp_P := match vs with
  | [.ref 0] => some (sp_m True (fun v σ' => sp_b v ∧ sp_w σ σ' ∧ (sp_zero σ → v = 1 ∧ σ' = σ)))
  | _ => none
/-- T_finishLastRide -/
def pf_115 (vs : List Value) (σ : ev_W) : Option sp_P := match vs with
  | [.ref 0] => some (sp_m True (fun v σ' => sp_b v ∧ sp_t σ σ' ∧ (sp_zero σ → v = 1 ∧ σ' = σ)))
  | _ => none
/-- T_journey -/
def pf_116 (vs : List Value) (σ : ev_W) : Option sp_P := match vs with
  | [.ref 0, .int a, .int b] => some (sp_i True (fun v => sp_zero σ → v = -1) σ)
  | _ => none
/-- T_lastRide -/
def pf_117 (vs : List Value) (σ : ev_W) : Option sp_P := match vs with
  | [.ref 0, .int a] => some (sp_i True (fun v => sp_zero σ → v = -1) σ)
  | _ => none
def pg_F : ev_F := fun j vs σ => match j with
  | 0 => pf_0 vs σ
  | 1 => pf_1 vs σ
  | 2 => pf_2 vs σ
  | 3 => pf_3 vs σ
  | 4 => pf_4 vs σ
  | 5 => pf_5 vs σ
  | 6 => pf_6 vs σ
  | 7 => pf_7 vs σ
  | 8 => pf_8 vs σ
  | 9 => pf_9 vs σ
  | 10 => pf_10 vs σ
  | 11 => pf_11 vs σ
  | 12 => pf_12 vs σ
  | 13 => pf_13 vs σ
  | 14 => pf_14 vs σ
  | 15 => pf_15 vs σ
  | 16 => pf_16 vs σ
  | 17 => pf_17 vs σ
  | 33 => pf_33 vs σ
  | 34 => pf_34 vs σ
  | 35 => pf_35 vs σ
  | 37 => pf_37 vs σ
  | 38 => pf_38 vs σ
  | 39 => pf_39 vs σ
  | 40 => pf_40 vs σ
  | 41 => pf_41 vs σ
  | 42 => pf_42 vs σ
  | 43 => pf_43 vs σ
  | 44 => pf_44 vs σ
  | 45 => pf_45 vs σ
  | 46 => pf_46 vs σ
  | 47 => pf_47 vs σ
  | 48 => pf_48 vs σ
  | 50 => pf_50 vs σ
  | 51 => pf_51 vs σ
  | 52 => pf_52 vs σ
  | 53 => pf_53 vs σ
  | 54 => pf_54 vs σ
  | 55 => pf_55 vs σ
  | 56 => pf_56 vs σ
  | 57 => pf_57 vs σ
  | 58 => pf_58 vs σ
  | 70 => pf_70 vs σ
  | 71 => pf_71 vs σ
  | 73 => pf_73 vs σ
  | 74 => pf_74 vs σ
  | 75 => pf_75 vs σ
  | 76 => pf_76 vs σ
  | 77 => pf_77 vs σ
  | 78 => pf_78 vs σ
  | 79 => pf_79 vs σ
  | 80 => pf_80 vs σ
  | 81 => pf_81 vs σ
  | 87 => pf_87 vs σ
  | 88 => pf_88 vs σ
  | 89 => pf_89 vs σ
  | 90 => pf_90 vs σ
  | 91 => pf_91 vs σ
  | 92 => pf_92 vs σ
  | 93 => pf_93 vs σ
  | 94 => pf_94 vs σ
  | 95 => pf_95 vs σ
  | 96 => pf_96 vs σ
  | 102 => pf_102 vs σ
  | 103 => pf_103 vs σ
  | 104 => pf_104 vs σ
  | 105 => pf_105 vs σ
  | 106 => pf_106 vs σ
  | 107 => pf_107 vs σ
  | 108 => pf_108 vs σ
  | 109 => pf_109 vs σ
  | 110 => pf_110 vs σ
  | 115 => pf_115 vs σ
  | 116 => pf_116 vs σ
  | 117 => pf_117 vs σ
  | 118 => pf_118 vs σ
  | _ => none
end
section
/-! THE RUNS OF THE BODIES (laid by wip/gen/spec.py) -/
theorem pr_0 : pg_Rn pg_F 0 pg_y0 [] pg_t0 := by
  intro vs σ P h hp
  replace h : pf_0 vs σ = some P := h
  unfold pf_0 at h
  split at h
  · rename_i a b
    cases h
    refine ⟨by simp [Value.category], Nat.le_of_ble_eq_true rfl, ev_go pg_hhs pg_cd pg_o0 (fun _ => false) 2000 (Q1 := ev_at (ev_tl pg_t0) σ.2.2 (sp_i True (fun _ => True) σ).2) ?_ (fun _ _ _ _ h => ev_fin h)⟩
    change ev_wp pg_F pg_lay none [] (ev_lu pg_c0) (fun _ => false) _ 2000 0 [some (.int a), some (.int b)] [] σ
    exact ⟨_, rfl, Nat.le_refl _, _, trivial, rfl, rfl⟩
  · cases h
theorem pr_1 : pg_Rn pg_F 1 pg_y1 [] pg_t1 := by
  intro vs σ P h hp
  replace h : pf_1 vs σ = some P := h
  unfold pf_1 at h
  split at h
  · rename_i n t
    cases h
    refine ⟨by simp [Value.category], Nat.le_of_ble_eq_true rfl, ev_go pg_hhs pg_cd pg_o1 (fun _ => false) 2000 (Q1 := ev_at (ev_tl pg_t1) σ.2.2 (sp_e (sp_upto n t) σ).2) ?_ (fun _ _ _ _ h => ev_fin h)⟩
    change ev_wp pg_F pg_lay none [] (ev_lu pg_c1) (fun _ => false) _ 2000 0 [some (.int n), some (.int t)] [] σ
    refine ⟨fun (h1 : n < 0) => ?_, fun (h1 : ¬ n < 0) => ?_⟩
    · skip
      change ev_wp pg_F pg_lay none [] (ev_lu pg_c1) (fun _ => false) _ 1998 13 [some (.int n), some (.int t)] [] σ
      exact ⟨_, rfl, by first | exact Or.inl rfl | exact Or.inr rfl, Nat.le_refl _, congrArg (fun z => Sum.inl (some (Value.int z))) (by simp only [sp_upto, h1, ↓reduceIte]), rfl⟩
    · skip
      change ev_wp pg_F pg_lay none [] (ev_lu pg_c1) (fun _ => false) _ 1998 4 [some (.int n), some (.int t)] [] σ
      refine ⟨fun (h2 : t < n) => ?_, fun (h2 : ¬ t < n) => ?_⟩
      · skip
        change ev_wp pg_F pg_lay none [] (ev_lu pg_c1) (fun _ => false) _ 1995 13 [some (.int n), some (.int t)] [] σ
        exact ⟨_, rfl, by first | exact Or.inl rfl | exact Or.inr rfl, Nat.le_refl _, congrArg (fun z => Sum.inl (some (Value.int z))) (by simp only [sp_upto, h1, h2, ↓reduceIte]), rfl⟩
      · skip
        change ev_wp pg_F pg_lay none [] (ev_lu pg_c1) (fun _ => false) _ 1995 9 [some (.int n), some (.int t)] [] σ
        exact ⟨_, rfl, by first | exact Or.inl rfl | exact Or.inr rfl, Nat.le_refl _, congrArg (fun z => Sum.inl (some (Value.int z))) (by simp only [sp_upto, h1, h2, ↓reduceIte]), rfl⟩
  · cases h
theorem pr_2 : pg_Rn pg_F 2 pg_y2 [] pg_t2 := by
  intro vs σ P h hp
  replace h : pf_2 vs σ = some P := h
  unfold pf_2 at h
  split at h
  · rename_i a
    cases h
    refine ⟨by simp [Value.category], Nat.le_of_ble_eq_true rfl, ev_go pg_hhs pg_cd pg_o2 (fun _ => false) 2000 (Q1 := ev_at (ev_tl pg_t2) σ.2.2 (sp_i True (fun _ => True) σ).2) ?_ (fun _ _ _ _ h => ev_fin h)⟩
    change ev_wp pg_F pg_lay none [] (ev_lu pg_c2) (fun _ => false) _ 2000 0 [some (.int a)] [] σ
    exact ⟨_, rfl, Nat.le_refl _, _, trivial, rfl, rfl⟩
  · cases h
theorem pr_3 : pg_Rn pg_F 3 pg_y3 [] pg_t3 := by
  intro vs σ P h hp
  replace h : pf_3 vs σ = some P := h
  unfold pf_3 at h
  split at h
  · rename_i a b
    cases h
    refine ⟨by simp [Value.category], Nat.le_of_ble_eq_true rfl, ev_go pg_hhs pg_cd pg_o3 (fun _ => false) 2000 (Q1 := ev_at (ev_tl pg_t3) σ.2.2 (sp_i True (fun _ => True) σ).2) ?_ (fun _ _ _ _ h => ev_fin h)⟩
    change ev_wp pg_F pg_lay none [] (ev_lu pg_c3) (fun _ => false) _ 2000 0 [some (.ref 0), some (.int a), some (.int b)] [] σ
    exact ⟨_, rfl, Nat.le_refl _, _, trivial, rfl, rfl⟩
  · cases h
theorem pr_4 : pg_Rn pg_F 4 pg_y4 [] pg_t4 := by
  intro vs σ P h hp
  replace h : pf_4 vs σ = some P := h
  unfold pf_4 at h
  split at h
  · cases h
    refine ⟨by simp [Value.category], Nat.le_of_ble_eq_true rfl, ev_go pg_hhs pg_cd pg_o4 (fun _ => false) 2000 (Q1 := ev_at (ev_tl pg_t4) σ.2.2 (sp_i (sp_inv σ) (fun _ => True) σ).2) ?_ (fun _ _ _ _ h => ev_fin h)⟩
    change ev_wp pg_F pg_lay none [] (ev_lu pg_c4) (fun _ => false) _ 2000 0 [some (.ref 0)] [] σ
    refine ⟨hp.1, ?_⟩
    exact ⟨_, rfl, Nat.le_refl _, _, trivial, rfl, rfl⟩
  · cases h
theorem pr_5 : pg_Rn pg_F 5 pg_y5 [] pg_t5 := by
  intro vs σ P h hp
  replace h : pf_5 vs σ = some P := h
  unfold pf_5 at h
  split at h
  · cases h
    refine ⟨by simp [Value.category], Nat.le_of_ble_eq_true rfl, ev_go pg_hhs pg_cd pg_o5 (fun _ => false) 2000 (Q1 := ev_at (ev_tl pg_t5) σ.2.2 (sp_e (σ.1 0 5) σ).2) ?_ (fun _ _ _ _ h => ev_fin h)⟩
    change ev_wp pg_F pg_lay none [] (ev_lu pg_c5) (fun _ => false) _ 2000 0 [some (.ref 0)] [] σ
    exact ⟨_, rfl, Nat.le_refl _, rfl, rfl⟩
  · cases h
theorem pr_6 : pg_Rn pg_F 6 pg_y6 [] pg_t6 := by
  intro vs σ P h hp
  replace h : pf_6 vs σ = some P := h
  unfold pf_6 at h
  split at h
  · rename_i a
    cases h
    refine ⟨by simp [Value.category], Nat.le_of_ble_eq_true rfl, ev_go pg_hhs pg_cd pg_o6 (fun _ => false) 2000 (Q1 := ev_at (ev_tl pg_t6) σ.2.2 (sp_m True (fun v σ' => v = 3 ∧ σ' = ev_up σ 0 5 a)).2) ?_ (fun _ _ _ _ h => ev_fin h)⟩
    change ev_wp pg_F pg_lay none [] (ev_lu pg_c6) (fun _ => false) _ 2000 0 [some (.ref 0), some (.int a)] [] σ
    exact ⟨_, rfl, Nat.le_refl _, _, ⟨rfl, rfl⟩, rfl⟩
  · cases h
theorem pr_7 : pg_Rn pg_F 7 pg_y7 [] pg_t7 := by
  intro vs σ P h hp
  replace h : pf_7 vs σ = some P := h
  unfold pf_7 at h
  split at h
  · rename_i a b
    cases h
    refine ⟨by simp [Value.category], Nat.le_of_ble_eq_true rfl, ev_go pg_hhs pg_cd pg_o7 (fun _ => false) 2000 (Q1 := ev_at (ev_tl pg_t7) σ.2.2 (sp_e (sp_add a b) σ).2) ?_ (fun _ _ _ _ h => ev_fin h)⟩
    change ev_wp pg_F pg_lay none [] (ev_lu pg_c7) (fun _ => false) _ 2000 0 [some (.int a), some (.int b), none] [] σ
    refine ⟨fun (h1 : (a + b) ≤ 65535) => ?_, fun (h1 : ¬ (a + b) ≤ 65535) => ?_⟩
    · skip
      change ev_wp pg_F pg_lay none [] (ev_lu pg_c7) (fun _ => false) _ 1993 17 [some (.int a), some (.int b), some (.int (a + b))] [] σ
      exact ⟨_, rfl, Nat.le_refl _, congrArg (fun z => Sum.inl (some (Value.int z))) (by simp only [sp_add, h1, ↓reduceIte]), rfl⟩
    · skip
      change ev_wp pg_F pg_lay none [] (ev_lu pg_c7) (fun _ => false) _ 1993 10 [some (.int a), some (.int b), some (.int (a + b))] [] σ
      exact ⟨_, rfl, Nat.le_refl _, congrArg (fun z => Sum.inl (some (Value.int z))) (by simp only [sp_add, h1, ↓reduceIte]), rfl⟩
  · cases h
theorem pr_8 : pg_Rn pg_F 8 pg_y8 [] pg_t8 := by
  intro vs σ P h hp
  replace h : pf_8 vs σ = some P := h
  unfold pf_8 at h
  split at h
  · rename_i b w
    cases h
    refine ⟨by simp [Value.category], Nat.le_of_ble_eq_true rfl, ev_go pg_hhs pg_cd pg_o8 (fun _ => false) 2000 (Q1 := ev_at (ev_tl pg_t8) σ.2.2 (sp_e (sp_at σ b w) σ).2) ?_ (fun _ _ _ _ h => ev_fin h)⟩
    change ev_wp pg_F pg_lay none [] (ev_lu pg_c8) (fun _ => false) _ 2000 0 [some (.ref 1), some (.int b), some (.int w), none] [] σ
    refine ⟨fun (h1 : ((b * 4) + w) < 0) => ?_, fun (h1 : ¬ ((b * 4) + w) < 0) => ?_⟩
    · skip
      change ev_wp pg_F pg_lay none [] (ev_lu pg_c8) (fun _ => false) _ 1992 28 [some (.ref 1), some (.int b), some (.int w), some (.int ((b * 4) + w))] [] σ
      exact ⟨_, rfl, Nat.le_refl _, congrArg (fun z => Sum.inl (some (Value.int z))) (by simp only [sp_at, h1, ↓reduceIte]), rfl⟩
    · skip
      change ev_wp pg_F pg_lay none [] (ev_lu pg_c8) (fun _ => false) _ 1992 10 [some (.ref 1), some (.int b), some (.int w), some (.int ((b * 4) + w))] [] σ
      refine ⟨fun (h2 : (Int32.ofNat 256) ≤ ((b * 4) + w)) => ?_, fun (h2 : ¬ (Int32.ofNat 256) ≤ ((b * 4) + w)) => ?_⟩
      · skip
        change ev_wp pg_F pg_lay none [] (ev_lu pg_c8) (fun _ => false) _ 1987 28 [some (.ref 1), some (.int b), some (.int w), some (.int ((b * 4) + w))] [] σ
        exact ⟨_, rfl, Nat.le_refl _, congrArg (fun z => Sum.inl (some (Value.int z))) (by simp only [sp_at, h1, h2, ↓reduceIte]), rfl⟩
      · skip
        change ev_wp pg_F pg_lay none [] (ev_lu pg_c8) (fun _ => false) _ 1987 19 [some (.ref 1), some (.int b), some (.int w), some (.int ((b * 4) + w))] [] σ
        refine ⟨sp_in2 (by decide) h1 h2, ?_⟩
        change ev_wp pg_F pg_lay none [] (ev_lu pg_c8) (fun _ => false) _ 1983 25 [some (.ref 1), some (.int b), some (.int w), some (.int ((b * 4) + w))] [.int (σ.1 4 (Int32.toNatClampNeg ((b * 4) + w)))] σ
        exact ⟨_, rfl, Nat.le_refl _, congrArg (fun z => Sum.inl (some (Value.int z))) (by simp only [sp_at, h1, h2, ↓reduceIte]), rfl⟩
  · cases h
theorem pr_9 : pg_Rn pg_F 9 pg_y9 [] pg_t9 := by
  intro vs σ P h hp
  replace h : pf_9 vs σ = some P := h
  unfold pf_9 at h
  split at h
  · cases h
    refine ⟨by simp [Value.category], Nat.le_of_ble_eq_true rfl, ev_go pg_hhs pg_cd pg_o9 (fun _ => false) 2000 (Q1 := ev_at (ev_tl pg_t9) σ.2.2 (sp_v True (fun σ' => σ' = ev_up σ 1 4 1)).2) ?_ (fun _ _ _ _ h => ev_fin h)⟩
    change ev_wp pg_F pg_lay none [] (ev_lu pg_c9) (fun _ => false) _ 2000 0 [some (.ref 1)] [] σ
    refine ⟨Or.inr rfl, ?_⟩
    exact ⟨rfl, Nat.le_refl _, rfl, rfl⟩
  · cases h
theorem pr_11 : pg_Rn pg_F 11 pg_y11 [] pg_t11 := by
  intro vs σ P h hp
  replace h : pf_11 vs σ = some P := h
  unfold pf_11 at h
  split at h
  · cases h
    refine ⟨by simp [Value.category], Nat.le_of_ble_eq_true rfl, ev_go pg_hhs pg_cd pg_o11 (fun _ => false) 2000 (Q1 := ev_at (ev_tl pg_t11) σ.2.2 (sp_v True (fun σ' => σ' = ev_up (ev_up σ 1 4 0) 1 5 0)).2) ?_ (fun _ _ _ _ h => ev_fin h)⟩
    change ev_wp pg_F pg_lay none [] (ev_lu pg_c11) (fun _ => false) _ 2000 0 [some (.ref 1)] [] σ
    refine ⟨Or.inl rfl, ?_⟩
    change ev_wp pg_F pg_lay none [] (ev_lu pg_c11) (fun _ => false) _ 1997 5 [some (.ref 1)] [] (ev_up σ 1 4 0)
    refine ⟨Or.inl rfl, ?_⟩
    exact ⟨rfl, Nat.le_refl _, rfl, rfl⟩
  · cases h
theorem pr_12 : pg_Rn pg_F 12 pg_y12 [] pg_t12 := by
  intro vs σ P h hp
  replace h : pf_12 vs σ = some P := h
  unfold pf_12 at h
  split at h
  · cases h
    refine ⟨by simp [Value.category], Nat.le_of_ble_eq_true rfl, ev_go pg_hhs pg_cd pg_o12 (fun _ => false) 2000 (Q1 := ev_at (ev_tl pg_t12) σ.2.2 ((sp_b (σ.1 1 4), (sp_e (σ.1 1 4) σ).2)).2) ?_ (fun _ _ _ _ h => ev_fin h)⟩
    change ev_wp pg_F pg_lay none [] (ev_lu pg_c12) (fun _ => false) _ 2000 0 [some (.ref 1)] [] σ
    exact ⟨_, rfl, hp, Nat.le_refl _, rfl, rfl⟩
  · cases h
theorem pr_15 : pg_Rn pg_F 15 pg_y15 [] pg_t15 := by
  intro vs σ P h hp
  replace h : pf_15 vs σ = some P := h
  unfold pf_15 at h
  split at h
  · cases h
    refine ⟨by simp [Value.category], Nat.le_of_ble_eq_true rfl, ev_go pg_hhs pg_cd pg_o15 (fun _ => false) 2000 (Q1 := ev_at (ev_tl pg_t15) σ.2.2 (sp_e (σ.1 1 3) σ).2) ?_ (fun _ _ _ _ h => ev_fin h)⟩
    change ev_wp pg_F pg_lay none [] (ev_lu pg_c15) (fun _ => false) _ 2000 0 [some (.ref 1)] [] σ
    exact ⟨_, rfl, Nat.le_refl _, rfl, rfl⟩
  · cases h
theorem pr_17 : pg_Rn pg_F 17 pg_y17 [] pg_t17 := by
  intro vs σ P h hp
  replace h : pf_17 vs σ = some P := h
  unfold pf_17 at h
  split at h
  · cases h
    refine ⟨by simp [Value.category], Nat.le_of_ble_eq_true rfl, ev_go pg_hhs pg_cd pg_o17 (fun _ => false) 2000 (Q1 := ev_at (ev_tl pg_t17) σ.2.2 (sp_e (σ.1 1 2) σ).2) ?_ (fun _ _ _ _ h => ev_fin h)⟩
    change ev_wp pg_F pg_lay none [] (ev_lu pg_c17) (fun _ => false) _ 2000 0 [some (.ref 1)] [] σ
    exact ⟨_, rfl, Nat.le_refl _, rfl, rfl⟩
  · cases h
theorem pr_16 : pg_Rn pg_F 16 pg_y16 [] pg_t16 := by
  intro vs σ P h hp
  replace h : pf_16 vs σ = some P := h
  unfold pf_16 at h
  split at h
  · rename_i a b
    cases h
    refine ⟨by simp [Value.category], Nat.le_of_ble_eq_true rfl, ev_go pg_hhs pg_cd pg_o16 (fun _ => false) 2000 (Q1 := ev_at (ev_tl pg_t16) σ.2.2 (sp_i True (fun _ => True) σ).2) ?_ (fun _ _ _ _ h => ev_fin h)⟩
    change ev_wp pg_F pg_lay none [] (ev_lu pg_c16) (fun _ => false) _ 2000 0 [some (.int a), some (.int b)] [] σ
    refine ⟨fun (h1 : b = a) => ?_, fun (h1 : ¬ b = a) => ?_⟩
    · skip
      change ev_wp pg_F pg_lay none [] (ev_lu pg_c16) (fun _ => false) _ 1997 5 [some (.int a), some (.int b)] [] σ
      exact ⟨_, rfl, Nat.le_refl _, _, trivial, rfl, rfl⟩
    · skip
      change ev_wp pg_F pg_lay none [] (ev_lu pg_c16) (fun _ => false) _ 1997 11 [some (.int a), some (.int b)] [] σ
      exact ⟨_, rfl, Nat.le_refl _, _, trivial, rfl, rfl⟩
  · cases h
theorem pr_33 : pg_Rn pg_F 33 pg_y33 [] pg_t33 := by
  intro vs σ P h hp
  replace h : pf_33 vs σ = some P := h
  unfold pf_33 at h
  split at h
  · rename_i a
    cases h
    refine ⟨by simp [Value.category], Nat.le_of_ble_eq_true rfl, ev_go pg_hhs pg_cd pg_o33 (fun _ => false) 2000 (Q1 := ev_at (ev_tl pg_t33) σ.2.2 (sp_i True (fun v => a = 0 → v = 0) σ).2) ?_ (fun _ _ _ _ h => ev_fin h)⟩
    change ev_wp pg_F pg_lay none [] (ev_lu pg_c33) (fun _ => false) _ 2000 0 [some (.int a)] [] σ
    exact ⟨_, rfl, Nat.le_refl _, _, fun h => by subst h; decide +kernel, rfl, rfl⟩
  · cases h
theorem pr_34 : pg_Rn pg_F 34 pg_y34 [] pg_t34 := by
  intro vs σ P h hp
  replace h : pf_34 vs σ = some P := h
  unfold pf_34 at h
  split at h
  · rename_i a b
    cases h
    refine ⟨by simp [Value.category], Nat.le_of_ble_eq_true rfl, ev_go pg_hhs pg_cd pg_o34 (fun _ => false) 2000 (Q1 := ev_at (ev_tl pg_t34) σ.2.2 (sp_e (if a < b then b else a) σ).2) ?_ (fun _ _ _ _ h => ev_fin h)⟩
    change ev_wp pg_F pg_lay none [] (ev_lu pg_c34) (fun _ => false) _ 2000 0 [some (.int a), some (.int b)] [] σ
    refine ⟨fun (h1 : a < b) => ?_, fun (h1 : ¬ a < b) => ?_⟩
    · skip
      change ev_wp pg_F pg_lay none [] (ev_lu pg_c34) (fun _ => false) _ 1997 9 [some (.int a), some (.int b)] [] σ
      exact ⟨_, rfl, Nat.le_refl _, congrArg (fun z => Sum.inl (some (Value.int z))) (by simp only [h1, ↓reduceIte]), rfl⟩
    · skip
      change ev_wp pg_F pg_lay none [] (ev_lu pg_c34) (fun _ => false) _ 1997 5 [some (.int a), some (.int b)] [] σ
      exact ⟨_, rfl, Nat.le_refl _, congrArg (fun z => Sum.inl (some (Value.int z))) (by simp only [h1, ↓reduceIte]), rfl⟩
  · cases h
theorem pr_35 : pg_Rn pg_F 35 pg_y35 [] pg_t35 := by
  intro vs σ P h hp
  replace h : pf_35 vs σ = some P := h
  unfold pf_35 at h
  split at h
  · rename_i a b
    cases h
    refine ⟨by simp [Value.category], Nat.le_of_ble_eq_true rfl, ev_go pg_hhs pg_cd pg_o35 (fun _ => false) 2000 (Q1 := ev_at (ev_tl pg_t35) σ.2.2 (sp_e (if b < a then b else a) σ).2) ?_ (fun _ _ _ _ h => ev_fin h)⟩
    change ev_wp pg_F pg_lay none [] (ev_lu pg_c35) (fun _ => false) _ 2000 0 [some (.int a), some (.int b)] [] σ
    refine ⟨fun (h1 : b < a) => ?_, fun (h1 : ¬ b < a) => ?_⟩
    · skip
      change ev_wp pg_F pg_lay none [] (ev_lu pg_c35) (fun _ => false) _ 1997 9 [some (.int a), some (.int b)] [] σ
      exact ⟨_, rfl, Nat.le_refl _, congrArg (fun z => Sum.inl (some (Value.int z))) (by simp only [h1, ↓reduceIte]), rfl⟩
    · skip
      change ev_wp pg_F pg_lay none [] (ev_lu pg_c35) (fun _ => false) _ 1997 5 [some (.int a), some (.int b)] [] σ
      exact ⟨_, rfl, Nat.le_refl _, congrArg (fun z => Sum.inl (some (Value.int z))) (by simp only [h1, ↓reduceIte]), rfl⟩
  · cases h
theorem pr_37 : pg_Rn pg_F 37 pg_y37 [] pg_t37 := by
  intro vs σ P h hp
  replace h : pf_37 vs σ = some P := h
  unfold pf_37 at h
  split at h
  · rename_i a
    cases h
    refine ⟨by simp [Value.category], Nat.le_of_ble_eq_true rfl, ev_go pg_hhs pg_cd pg_o37 (fun _ => false) 2000 (Q1 := ev_at (ev_tl pg_t37) σ.2.2 (sp_i True (fun _ => True) σ).2) ?_ (fun _ _ _ _ h => ev_fin h)⟩
    change ev_wp pg_F pg_lay none [] (ev_lu pg_c37) (fun _ => false) _ 2000 0 [some (.ref 0), some (.int a)] [] σ
    refine ⟨trivial, ?_⟩
    rintro _ _ ⟨rfl, rfl⟩
    change ev_wp pg_F pg_lay none [] (ev_lu pg_c37) (fun _ => false) _ 1995 9 [some (.ref 0), some (.int a)] [.int (sp_at σ a 1)] σ
    refine ⟨trivial, ?_⟩
    rintro _ _ ⟨rfl, rfl⟩
    change ev_wp pg_F pg_lay none [] (ev_lu pg_c37) (fun _ => false) _ 1988 22 [some (.ref 0), some (.int a)] [.int (sp_at σ a 2), .int ((sp_at σ a 1) * 1440)] σ
    exact ⟨_, rfl, Nat.le_refl _, _, trivial, rfl, rfl⟩
  · cases h
theorem pr_38 : pg_Rn pg_F 38 pg_y38 [] pg_t38 := by
  intro vs σ P h hp
  replace h : pf_38 vs σ = some P := h
  unfold pf_38 at h
  split at h
  · rename_i a
    cases h
    refine ⟨by simp [Value.category], Nat.le_of_ble_eq_true rfl, ev_go pg_hhs pg_cd pg_o38 (fun _ => false) 2000 (Q1 := ev_at (ev_tl pg_t38) σ.2.2 (sp_i True (fun _ => True) σ).2) ?_ (fun _ _ _ _ h => ev_fin h)⟩
    change ev_wp pg_F pg_lay none [] (ev_lu pg_c38) (fun _ => false) _ 2000 0 [some (.ref 0), some (.int a)] [] σ
    refine ⟨trivial, ?_⟩
    rintro _ _ ⟨rfl, rfl⟩
    change ev_wp pg_F pg_lay none [] (ev_lu pg_c38) (fun _ => false) _ 1995 9 [some (.ref 0), some (.int a)] [.int (sp_at σ a 2)] σ
    exact ⟨_, rfl, Nat.le_refl _, _, trivial, rfl, rfl⟩
  · cases h
theorem pr_40 : pg_Rn pg_F 40 pg_y40 [] pg_t40 := by
  intro vs σ P h hp
  replace h : pf_40 vs σ = some P := h
  unfold pf_40 at h
  split at h
  · rename_i a
    cases h
    refine ⟨by simp [Value.category], Nat.le_of_ble_eq_true rfl, ev_go pg_hhs pg_cd pg_o40 (fun _ => false) 2000 (Q1 := ev_at (ev_tl pg_t40) σ.2.2 (sp_i True (fun _ => True) σ).2) ?_ (fun _ _ _ _ h => ev_fin h)⟩
    change ev_wp pg_F pg_lay none [] (ev_lu pg_c40) (fun _ => false) _ 2000 0 [some (.ref 0), some (.int a)] [] σ
    refine ⟨trivial, ?_⟩
    rintro _ _ ⟨rfl, rfl⟩
    exact ⟨_, rfl, Nat.le_refl _, _, trivial, rfl, rfl⟩
  · cases h
theorem pr_42 : pg_Rn pg_F 42 pg_y42 [] pg_t42 := by
  intro vs σ P h hp
  replace h : pf_42 vs σ = some P := h
  unfold pf_42 at h
  split at h
  · rename_i a
    cases h
    refine ⟨by simp [Value.category], Nat.le_of_ble_eq_true rfl, ev_go pg_hhs pg_cd pg_o42 (fun _ => false) 2000 (Q1 := ev_at (ev_tl pg_t42) σ.2.2 (sp_i True (fun _ => True) σ).2) ?_ (fun _ _ _ _ h => ev_fin h)⟩
    change ev_wp pg_F pg_lay none [] (ev_lu pg_c42) (fun _ => false) _ 2000 0 [some (.ref 0), some (.int a)] [] σ
    refine ⟨trivial, ?_⟩
    rintro _ _ ⟨rfl, rfl⟩
    change ev_wp pg_F pg_lay none [] (ev_lu pg_c42) (fun _ => false) _ 1995 9 [some (.ref 0), some (.int a)] [.int (sp_at σ a 4)] σ
    exact ⟨_, rfl, Nat.le_refl _, _, trivial, rfl, rfl⟩
  · cases h
theorem pr_43 : pg_Rn pg_F 43 pg_y43 [] pg_t43 := by
  intro vs σ P h hp
  replace h : pf_43 vs σ = some P := h
  unfold pf_43 at h
  split at h
  · rename_i a
    cases h
    refine ⟨by simp [Value.category], Nat.le_of_ble_eq_true rfl, ev_go pg_hhs pg_cd pg_o43 (fun _ => false) 2000 (Q1 := ev_at (ev_tl pg_t43) σ.2.2 (sp_i True (fun _ => True) σ).2) ?_ (fun _ _ _ _ h => ev_fin h)⟩
    change ev_wp pg_F pg_lay none [] (ev_lu pg_c43) (fun _ => false) _ 2000 0 [some (.ref 0), some (.int a)] [] σ
    refine ⟨trivial, ?_⟩
    rintro _ _ ⟨rfl, rfl⟩
    exact ⟨_, rfl, Nat.le_refl _, _, trivial, rfl, rfl⟩
  · cases h
theorem pr_44 : pg_Rn pg_F 44 pg_y44 [] pg_t44 := by
  intro vs σ P h hp
  replace h : pf_44 vs σ = some P := h
  unfold pf_44 at h
  split at h
  · rename_i a
    cases h
    refine ⟨by simp [Value.category], Nat.le_of_ble_eq_true rfl, ev_go pg_hhs pg_cd pg_o44 (fun _ => false) 2000 (Q1 := ev_at (ev_tl pg_t44) σ.2.2 (sp_i True (fun _ => True) σ).2) ?_ (fun _ _ _ _ h => ev_fin h)⟩
    change ev_wp pg_F pg_lay none [] (ev_lu pg_c44) (fun _ => false) _ 2000 0 [some (.ref 0), some (.int a)] [] σ
    refine ⟨trivial, ?_⟩
    rintro _ _ ⟨rfl, rfl⟩
    change ev_wp pg_F pg_lay none [] (ev_lu pg_c44) (fun _ => false) _ 1995 9 [some (.ref 0), some (.int a)] [.int (sp_at σ a 4)] σ
    exact ⟨_, rfl, Nat.le_refl _, _, trivial, rfl, rfl⟩
  · cases h
theorem pr_47 : pg_Rn pg_F 47 pg_y47 [] pg_t47 := by
  intro vs σ P h hp
  replace h : pf_47 vs σ = some P := h
  unfold pf_47 at h
  split at h
  · rename_i a
    cases h
    refine ⟨by simp [Value.category], Nat.le_of_ble_eq_true rfl, ev_go pg_hhs pg_cd pg_o47 (fun _ => false) 2000 (Q1 := ev_at (ev_tl pg_t47) σ.2.2 (sp_i True (fun _ => True) σ).2) ?_ (fun _ _ _ _ h => ev_fin h)⟩
    change ev_wp pg_F pg_lay none [] (ev_lu pg_c47) (fun _ => false) _ 2000 0 [some (.ref 0), some (.int a)] [] σ
    refine ⟨trivial, ?_⟩
    rintro _ _ ⟨rfl, rfl⟩
    change ev_wp pg_F pg_lay none [] (ev_lu pg_c47) (fun _ => false) _ 1995 9 [some (.ref 0), some (.int a)] [.int (sp_at σ a 4)] σ
    exact ⟨_, rfl, Nat.le_refl _, _, trivial, rfl, rfl⟩
  · cases h
theorem pr_52 : pg_Rn pg_F 52 pg_y52 [] pg_t52 := by
  intro vs σ P h hp
  replace h : pf_52 vs σ = some P := h
  unfold pf_52 at h
  split at h
  · rename_i a
    cases h
    refine ⟨by simp [Value.category], Nat.le_of_ble_eq_true rfl, ev_go pg_hhs pg_cd pg_o52 (fun _ => false) 2000 (Q1 := ev_at (ev_tl pg_t52) σ.2.2 (sp_i True (fun _ => True) σ).2) ?_ (fun _ _ _ _ h => ev_fin h)⟩
    change ev_wp pg_F pg_lay none [] (ev_lu pg_c52) (fun _ => false) _ 2000 0 [some (.ref 0), some (.int a)] [] σ
    refine ⟨trivial, ?_⟩
    rintro _ _ ⟨rfl, rfl⟩
    change ev_wp pg_F pg_lay none [] (ev_lu pg_c52) (fun _ => false) _ 1995 9 [some (.ref 0), some (.int a)] [.int (sp_at σ a 3)] σ
    exact ⟨_, rfl, Nat.le_refl _, _, trivial, rfl, rfl⟩
  · cases h
theorem pr_53 : pg_Rn pg_F 53 pg_y53 [] pg_t53 := by
  intro vs σ P h hp
  replace h : pf_53 vs σ = some P := h
  unfold pf_53 at h
  split at h
  · rename_i a
    cases h
    refine ⟨by simp [Value.category], Nat.le_of_ble_eq_true rfl, ev_go pg_hhs pg_cd pg_o53 (fun _ => false) 2000 (Q1 := ev_at (ev_tl pg_t53) σ.2.2 (sp_i True (fun _ => True) σ).2) ?_ (fun _ _ _ _ h => ev_fin h)⟩
    change ev_wp pg_F pg_lay none [] (ev_lu pg_c53) (fun _ => false) _ 2000 0 [some (.ref 0), some (.int a)] [] σ
    refine ⟨trivial, ?_⟩
    rintro _ _ ⟨rfl, rfl⟩
    exact ⟨_, rfl, Nat.le_refl _, _, trivial, rfl, rfl⟩
  · cases h
theorem pr_55 : pg_Rn pg_F 55 pg_y55 [] pg_t55 := by
  intro vs σ P h hp
  replace h : pf_55 vs σ = some P := h
  unfold pf_55 at h
  split at h
  · rename_i a
    cases h
    refine ⟨by simp [Value.category], Nat.le_of_ble_eq_true rfl, ev_go pg_hhs pg_cd pg_o55 (fun _ => false) 2000 (Q1 := ev_at (ev_tl pg_t55) σ.2.2 (sp_i True (fun _ => True) σ).2) ?_ (fun _ _ _ _ h => ev_fin h)⟩
    change ev_wp pg_F pg_lay none [] (ev_lu pg_c55) (fun _ => false) _ 2000 0 [some (.ref 0), some (.int a)] [] σ
    refine ⟨trivial, ?_⟩
    rintro _ _ ⟨rfl, rfl⟩
    change ev_wp pg_F pg_lay none [] (ev_lu pg_c55) (fun _ => false) _ 1995 9 [some (.ref 0), some (.int a)] [.int (sp_at σ a 2)] σ
    exact ⟨_, rfl, Nat.le_refl _, _, trivial, rfl, rfl⟩
  · cases h
theorem pr_56 : pg_Rn pg_F 56 pg_y56 [] pg_t56 := by
  intro vs σ P h hp
  replace h : pf_56 vs σ = some P := h
  unfold pf_56 at h
  split at h
  · rename_i a
    cases h
    refine ⟨by simp [Value.category], Nat.le_of_ble_eq_true rfl, ev_go pg_hhs pg_cd pg_o56 (fun _ => false) 2000 (Q1 := ev_at (ev_tl pg_t56) σ.2.2 (sp_i True (fun _ => True) σ).2) ?_ (fun _ _ _ _ h => ev_fin h)⟩
    change ev_wp pg_F pg_lay none [] (ev_lu pg_c56) (fun _ => false) _ 2000 0 [some (.ref 0), some (.int a)] [] σ
    refine ⟨trivial, ?_⟩
    rintro _ _ ⟨rfl, rfl⟩
    change ev_wp pg_F pg_lay none [] (ev_lu pg_c56) (fun _ => false) _ 1995 9 [some (.ref 0), some (.int a)] [.int (sp_at σ a 3)] σ
    exact ⟨_, rfl, Nat.le_refl _, _, trivial, rfl, rfl⟩
  · cases h
theorem pr_41 : pg_Rn pg_F 41 pg_y41 [] pg_t41 := by
  intro vs σ P h hp
  replace h : pf_41 vs σ = some P := h
  unfold pf_41 at h
  split at h
  · rename_i a b
    cases h
    refine ⟨by simp [Value.category], Nat.le_of_ble_eq_true rfl, ev_go pg_hhs pg_cd pg_o41 (fun _ => false) 2000 (Q1 := ev_at (ev_tl pg_t41) σ.2.2 (sp_i True (fun _ => True) σ).2) ?_ (fun _ _ _ _ h => ev_fin h)⟩
    change ev_wp pg_F pg_lay none [] (ev_lu pg_c41) (fun _ => false) _ 2000 0 [some (.ref 0), some (.int a), some (.int b)] [] σ
    refine ⟨trivial, ?_⟩
    rintro _ _ ⟨rfl, rfl⟩
    change ev_wp pg_F pg_lay none [] (ev_lu pg_c41) (fun _ => false) _ 1995 9 [some (.ref 0), some (.int a), some (.int b)] [.int (sp_at σ a 2)] σ
    refine ⟨fun (h1 : (sp_at σ a 2) = b) => ?_, fun (h1 : ¬ (sp_at σ a 2) = b) => ?_⟩
    · skip
      change ev_wp pg_F pg_lay none [] (ev_lu pg_c41) (fun _ => false) _ 1993 13 [some (.ref 0), some (.int a), some (.int b)] [] σ
      refine ⟨trivial, ?_⟩
      rintro _ _ ⟨rfl, rfl⟩
      change ev_wp pg_F pg_lay none [] (ev_lu pg_c41) (fun _ => false) _ 1988 22 [some (.ref 0), some (.int a), some (.int b)] [.int (sp_at σ a 3)] σ
      exact ⟨_, rfl, Nat.le_refl _, _, trivial, rfl, rfl⟩
    · skip
      change ev_wp pg_F pg_lay none [] (ev_lu pg_c41) (fun _ => false) _ 1993 25 [some (.ref 0), some (.int a), some (.int b)] [] σ
      exact ⟨_, rfl, Nat.le_refl _, _, trivial, rfl, rfl⟩
  · cases h
theorem pr_48 : pg_Rn pg_F 48 pg_y48 [] pg_t48 := by
  intro vs σ P h hp
  replace h : pf_48 vs σ = some P := h
  unfold pf_48 at h
  split at h
  · rename_i n
    cases h
    refine ⟨by simp [Value.category], Nat.le_of_ble_eq_true rfl, ev_go pg_hhs pg_cd pg_o48 (fun _ => false) 2000 (Q1 := ev_at (ev_tl pg_t48) σ.2.2 (sp_e (sp_upto n 11) σ).2) ?_ (fun _ _ _ _ h => ev_fin h)⟩
    change ev_wp pg_F pg_lay none [] (ev_lu pg_c48) (fun _ => false) _ 2000 0 [some (.int n)] [] σ
    refine ⟨trivial, ?_⟩
    rintro _ _ ⟨rfl, rfl⟩
    exact ⟨_, rfl, sp_upto_b _ _, Nat.le_refl _, rfl, rfl⟩
  · cases h
theorem pr_51 : pg_Rn pg_F 51 pg_y51 [] pg_t51 := by
  intro vs σ P h hp
  replace h : pf_51 vs σ = some P := h
  unfold pf_51 at h
  split at h
  · cases h
    refine ⟨by simp [Value.category], Nat.le_of_ble_eq_true rfl, ev_go pg_hhs pg_cd pg_o51 (fun _ => false) 2000 (Q1 := ev_at (ev_tl pg_t51) σ.2.2 (sp_e (sp_at σ 0 0) σ).2) ?_ (fun _ _ _ _ h => ev_fin h)⟩
    change ev_wp pg_F pg_lay none [] (ev_lu pg_c51) (fun _ => false) _ 2000 0 [some (.ref 0)] [] σ
    refine ⟨trivial, ?_⟩
    rintro _ _ ⟨rfl, rfl⟩
    exact ⟨_, rfl, Nat.le_refl _, rfl, rfl⟩
  · cases h
theorem pr_54 : pg_Rn pg_F 54 pg_y54 [] pg_t54 := by
  intro vs σ P h hp
  replace h : pf_54 vs σ = some P := h
  unfold pf_54 at h
  split at h
  · rename_i a
    cases h
    refine ⟨by simp [Value.category], Nat.le_of_ble_eq_true rfl, ev_go pg_hhs pg_cd pg_o54 (fun _ => false) 2000 (Q1 := ev_at (ev_tl pg_t54) σ.2.2 (sp_e (sp_at σ 0 a) σ).2) ?_ (fun _ _ _ _ h => ev_fin h)⟩
    change ev_wp pg_F pg_lay none [] (ev_lu pg_c54) (fun _ => false) _ 2000 0 [some (.ref 0), some (.int a)] [] σ
    refine ⟨trivial, ?_⟩
    rintro _ _ ⟨rfl, rfl⟩
    exact ⟨_, rfl, Nat.le_refl _, rfl, rfl⟩
  · cases h
theorem pr_50 : pg_Rn pg_F 50 pg_y50 [] pg_t50 := by
  intro vs σ P h hp
  replace h : pf_50 vs σ = some P := h
  unfold pf_50 at h
  split at h
  · rename_i a b
    cases h
    refine ⟨by simp [Value.category], Nat.le_of_ble_eq_true rfl, ev_go pg_hhs pg_cd pg_o50 (fun _ => false) 2000 (Q1 := ev_at (ev_tl pg_t50) σ.2.2 (sp_e (sp_time a b) σ).2) ?_ (fun _ _ _ _ h => ev_fin h)⟩
    change ev_wp pg_F pg_lay none [] (ev_lu pg_c50) (fun _ => false) _ 2000 0 [some (.int a), some (.int b)] [] σ
    refine ⟨trivial, ?_⟩
    rintro _ _ ⟨rfl, rfl⟩
    change ev_wp pg_F pg_lay none [] (ev_lu pg_c50) (fun _ => false) _ 1997 7 [some (.int a), some (.int b)] [.int (sp_upto a 9999)] σ
    refine ⟨fun (h1 : (sp_upto a 9999) = 0) => ?_, fun (h1 : ¬ (sp_upto a 9999) = 0) => ?_⟩
    · skip
      change ev_wp pg_F pg_lay none [] (ev_lu pg_c50) (fun _ => false) _ 1996 24 [some (.int a), some (.int b)] [] σ
      exact ⟨_, rfl, by first | exact Or.inl rfl | exact Or.inr rfl, Nat.le_refl _, congrArg (fun z => Sum.inl (some (Value.int z))) (by simp only [sp_time, h1, ↓reduceIte]), rfl⟩
    · skip
      change ev_wp pg_F pg_lay none [] (ev_lu pg_c50) (fun _ => false) _ 1996 10 [some (.int a), some (.int b)] [] σ
      refine ⟨trivial, ?_⟩
      rintro _ _ ⟨rfl, rfl⟩
      change ev_wp pg_F pg_lay none [] (ev_lu pg_c50) (fun _ => false) _ 1993 17 [some (.int a), some (.int b)] [.int (sp_upto b 1439)] σ
      refine ⟨fun (h2 : (sp_upto b 1439) = 0) => ?_, fun (h2 : ¬ (sp_upto b 1439) = 0) => ?_⟩
      · skip
        change ev_wp pg_F pg_lay none [] (ev_lu pg_c50) (fun _ => false) _ 1992 24 [some (.int a), some (.int b)] [] σ
        exact ⟨_, rfl, by first | exact Or.inl rfl | exact Or.inr rfl, Nat.le_refl _, congrArg (fun z => Sum.inl (some (Value.int z))) (by simp only [sp_time, h1, h2, ↓reduceIte]), rfl⟩
      · skip
        change ev_wp pg_F pg_lay none [] (ev_lu pg_c50) (fun _ => false) _ 1992 20 [some (.int a), some (.int b)] [] σ
        exact ⟨_, rfl, by first | exact Or.inl rfl | exact Or.inr rfl, Nat.le_refl _, congrArg (fun z => Sum.inl (some (Value.int z))) (by simp only [sp_time, h1, h2, ↓reduceIte]), rfl⟩
  · cases h
theorem pr_39 : pg_Rn pg_F 39 pg_y39 [] pg_t39 := by
  intro vs σ P h hp
  replace h : pf_39 vs σ = some P := h
  unfold pf_39 at h
  split at h
  · cases h
    refine ⟨by simp [Value.category], Nat.le_of_ble_eq_true rfl, ev_go pg_hhs pg_cd pg_o39 (fun _ => false) 2000 (Q1 := ev_at (ev_tl pg_t39) σ.2.2 (sp_i True (fun v => sp_zero σ → v = 0) σ).2) ?_ (fun _ _ _ _ h => ev_fin h)⟩
    change ev_wp pg_F pg_lay none [] (ev_lu pg_c39) (fun _ => false) _ 2000 0 [some (.ref 0), none, none] [] σ
    refine ⟨fun h => absurd h (by decide), fun _ => ?_⟩
    change ev_wp pg_F pg_lay none [] (ev_lu pg_c39) (fun _ => false) _ 1993 9 [some (.ref 0), some (.int 0), some (.int 0)] [] σ
    refine ⟨trivial, ?_⟩
    rintro _ _ ⟨rfl, rfl⟩
    change ev_wp pg_F pg_lay none [] (ev_lu pg_c39) (fun _ => false) _ 1987 19 [some (.ref 0), some (.int 0), some (.int 0)] [.int (sp_at σ 4 0), .int 0] σ
    refine ⟨trivial, ?_⟩
    rintro _ _ ⟨v1, k2, rfl, rfl⟩
    change ev_wp pg_F pg_lay none [] (ev_lu pg_c39) (fun _ => false) _ 1986 22 [some (.ref 0), some (.int 0), some (.int 0)] [.int v1, .int 0] σ
    refine ⟨fun h => absurd h (by decide), fun _ => ?_⟩
    change ev_wp pg_F pg_lay none [] (ev_lu pg_c39) (fun _ => false) _ 1979 9 [some (.ref 0), some (.int (0 + v1)), some (.int 1)] [] σ
    refine ⟨trivial, ?_⟩
    rintro _ _ ⟨rfl, rfl⟩
    change ev_wp pg_F pg_lay none [] (ev_lu pg_c39) (fun _ => false) _ 1973 19 [some (.ref 0), some (.int (0 + v1)), some (.int 1)] [.int (sp_at σ 4 1), .int (0 + v1)] σ
    refine ⟨trivial, ?_⟩
    rintro _ _ ⟨v3, k4, rfl, rfl⟩
    change ev_wp pg_F pg_lay none [] (ev_lu pg_c39) (fun _ => false) _ 1972 22 [some (.ref 0), some (.int (0 + v1)), some (.int 1)] [.int v3, .int (0 + v1)] σ
    refine ⟨fun h => absurd h (by decide), fun _ => ?_⟩
    change ev_wp pg_F pg_lay none [] (ev_lu pg_c39) (fun _ => false) _ 1965 9 [some (.ref 0), some (.int ((0 + v1) + v3)), some (.int 2)] [] σ
    refine ⟨trivial, ?_⟩
    rintro _ _ ⟨rfl, rfl⟩
    change ev_wp pg_F pg_lay none [] (ev_lu pg_c39) (fun _ => false) _ 1959 19 [some (.ref 0), some (.int ((0 + v1) + v3)), some (.int 2)] [.int (sp_at σ 4 2), .int ((0 + v1) + v3)] σ
    refine ⟨trivial, ?_⟩
    rintro _ _ ⟨v5, k6, rfl, rfl⟩
    change ev_wp pg_F pg_lay none [] (ev_lu pg_c39) (fun _ => false) _ 1958 22 [some (.ref 0), some (.int ((0 + v1) + v3)), some (.int 2)] [.int v5, .int ((0 + v1) + v3)] σ
    refine ⟨fun h => absurd h (by decide), fun _ => ?_⟩
    change ev_wp pg_F pg_lay none [] (ev_lu pg_c39) (fun _ => false) _ 1951 9 [some (.ref 0), some (.int (((0 + v1) + v3) + v5)), some (.int 3)] [] σ
    refine ⟨trivial, ?_⟩
    rintro _ _ ⟨rfl, rfl⟩
    change ev_wp pg_F pg_lay none [] (ev_lu pg_c39) (fun _ => false) _ 1945 19 [some (.ref 0), some (.int (((0 + v1) + v3) + v5)), some (.int 3)] [.int (sp_at σ 4 3), .int (((0 + v1) + v3) + v5)] σ
    refine ⟨trivial, ?_⟩
    rintro _ _ ⟨v7, k8, rfl, rfl⟩
    change ev_wp pg_F pg_lay none [] (ev_lu pg_c39) (fun _ => false) _ 1944 22 [some (.ref 0), some (.int (((0 + v1) + v3) + v5)), some (.int 3)] [.int v7, .int (((0 + v1) + v3) + v5)] σ
    refine ⟨fun _ => ?_, fun h => absurd (by decide) h⟩
    change ev_wp pg_F pg_lay none [] (ev_lu pg_c39) (fun _ => false) _ 1937 30 [some (.ref 0), some (.int ((((0 + v1) + v3) + v5) + v7)), some (.int 4)] [] σ
    exact ⟨_, rfl, Nat.le_refl _, _, fun hz => by rw [k2 (sp_at_zero hz _ _)]; rw [k4 (sp_at_zero hz _ _)]; rw [k6 (sp_at_zero hz _ _)]; rw [k8 (sp_at_zero hz _ _)]; decide +kernel, rfl, rfl⟩
  · cases h
theorem pr_57 : pg_Rn pg_F 57 pg_y57 [] pg_t57 := by
  intro vs σ P h hp
  replace h : pf_57 vs σ = some P := h
  unfold pf_57 at h
  split at h
  · rename_i r
    cases h
    refine ⟨by simp [Value.category], Nat.le_of_ble_eq_true rfl, ev_go pg_hhs pg_cd pg_o57 (fun _ => false) 2000 (Q1 := ev_at (ev_tl pg_t57) σ.2.2 (sp_i True (fun v => sp_b v ∧ (sp_zero σ → v = 0)) σ).2) ?_ (fun _ _ _ _ h => ev_fin h)⟩
    change ev_wp pg_F pg_lay none [] (ev_lu pg_c57) (fun _ => false) _ 2000 0 [some (.ref 1), some (.int r), none, none] [] σ
    refine ⟨fun h => absurd h (by decide), fun _ => ?_⟩
    change ev_wp pg_F pg_lay none [] (ev_lu pg_c57) (fun _ => false) _ 1993 10 [some (.ref 1), some (.int r), some (.int 0), some (.int 0)] [] σ
    refine ⟨trivial, ?_⟩
    rintro _ _ ⟨rfl, rfl⟩
    change ev_wp pg_F pg_lay none [] (ev_lu pg_c57) (fun _ => false) _ 1988 17 [some (.ref 1), some (.int r), some (.int 0), some (.int 0)] [.int (sp_at σ r 0), .int 0] σ
    refine ⟨trivial, ?_⟩
    rintro _ _ ⟨rfl, rfl⟩
    change ev_wp pg_F pg_lay none [] (ev_lu pg_c57) (fun _ => false) _ 1987 20 [some (.ref 1), some (.int r), some (.int 0), some (.int 0)] [.int (sp_add 0 (sp_at σ r 0))] σ
    refine ⟨fun h => absurd h (by decide), fun _ => ?_⟩
    change ev_wp pg_F pg_lay none [] (ev_lu pg_c57) (fun _ => false) _ 1981 10 [some (.ref 1), some (.int r), some (.int (sp_add 0 (sp_at σ r 0))), some (.int 1)] [] σ
    refine ⟨trivial, ?_⟩
    rintro _ _ ⟨rfl, rfl⟩
    change ev_wp pg_F pg_lay none [] (ev_lu pg_c57) (fun _ => false) _ 1976 17 [some (.ref 1), some (.int r), some (.int (sp_add 0 (sp_at σ r 0))), some (.int 1)] [.int (sp_at σ r 1), .int (sp_add 0 (sp_at σ r 0))] σ
    refine ⟨trivial, ?_⟩
    rintro _ _ ⟨rfl, rfl⟩
    change ev_wp pg_F pg_lay none [] (ev_lu pg_c57) (fun _ => false) _ 1975 20 [some (.ref 1), some (.int r), some (.int (sp_add 0 (sp_at σ r 0))), some (.int 1)] [.int (sp_add (sp_add 0 (sp_at σ r 0)) (sp_at σ r 1))] σ
    refine ⟨fun h => absurd h (by decide), fun _ => ?_⟩
    change ev_wp pg_F pg_lay none [] (ev_lu pg_c57) (fun _ => false) _ 1969 10 [some (.ref 1), some (.int r), some (.int (sp_add (sp_add 0 (sp_at σ r 0)) (sp_at σ r 1))), some (.int 2)] [] σ
    refine ⟨trivial, ?_⟩
    rintro _ _ ⟨rfl, rfl⟩
    change ev_wp pg_F pg_lay none [] (ev_lu pg_c57) (fun _ => false) _ 1964 17 [some (.ref 1), some (.int r), some (.int (sp_add (sp_add 0 (sp_at σ r 0)) (sp_at σ r 1))), some (.int 2)] [.int (sp_at σ r 2), .int (sp_add (sp_add 0 (sp_at σ r 0)) (sp_at σ r 1))] σ
    refine ⟨trivial, ?_⟩
    rintro _ _ ⟨rfl, rfl⟩
    change ev_wp pg_F pg_lay none [] (ev_lu pg_c57) (fun _ => false) _ 1963 20 [some (.ref 1), some (.int r), some (.int (sp_add (sp_add 0 (sp_at σ r 0)) (sp_at σ r 1))), some (.int 2)] [.int (sp_add (sp_add (sp_add 0 (sp_at σ r 0)) (sp_at σ r 1)) (sp_at σ r 2))] σ
    refine ⟨fun h => absurd h (by decide), fun _ => ?_⟩
    change ev_wp pg_F pg_lay none [] (ev_lu pg_c57) (fun _ => false) _ 1957 10 [some (.ref 1), some (.int r), some (.int (sp_add (sp_add (sp_add 0 (sp_at σ r 0)) (sp_at σ r 1)) (sp_at σ r 2))), some (.int 3)] [] σ
    refine ⟨trivial, ?_⟩
    rintro _ _ ⟨rfl, rfl⟩
    change ev_wp pg_F pg_lay none [] (ev_lu pg_c57) (fun _ => false) _ 1952 17 [some (.ref 1), some (.int r), some (.int (sp_add (sp_add (sp_add 0 (sp_at σ r 0)) (sp_at σ r 1)) (sp_at σ r 2))), some (.int 3)] [.int (sp_at σ r 3), .int (sp_add (sp_add (sp_add 0 (sp_at σ r 0)) (sp_at σ r 1)) (sp_at σ r 2))] σ
    refine ⟨trivial, ?_⟩
    rintro _ _ ⟨rfl, rfl⟩
    change ev_wp pg_F pg_lay none [] (ev_lu pg_c57) (fun _ => false) _ 1951 20 [some (.ref 1), some (.int r), some (.int (sp_add (sp_add (sp_add 0 (sp_at σ r 0)) (sp_at σ r 1)) (sp_at σ r 2))), some (.int 3)] [.int (sp_add (sp_add (sp_add (sp_add 0 (sp_at σ r 0)) (sp_at σ r 1)) (sp_at σ r 2)) (sp_at σ r 3))] σ
    refine ⟨fun h => absurd h (by decide), fun _ => ?_⟩
    change ev_wp pg_F pg_lay none [] (ev_lu pg_c57) (fun _ => false) _ 1945 10 [some (.ref 1), some (.int r), some (.int (sp_add (sp_add (sp_add (sp_add 0 (sp_at σ r 0)) (sp_at σ r 1)) (sp_at σ r 2)) (sp_at σ r 3))), some (.int 4)] [] σ
    refine ⟨trivial, ?_⟩
    rintro _ _ ⟨rfl, rfl⟩
    change ev_wp pg_F pg_lay none [] (ev_lu pg_c57) (fun _ => false) _ 1940 17 [some (.ref 1), some (.int r), some (.int (sp_add (sp_add (sp_add (sp_add 0 (sp_at σ r 0)) (sp_at σ r 1)) (sp_at σ r 2)) (sp_at σ r 3))), some (.int 4)] [.int (sp_at σ r 4), .int (sp_add (sp_add (sp_add (sp_add 0 (sp_at σ r 0)) (sp_at σ r 1)) (sp_at σ r 2)) (sp_at σ r 3))] σ
    refine ⟨trivial, ?_⟩
    rintro _ _ ⟨rfl, rfl⟩
    change ev_wp pg_F pg_lay none [] (ev_lu pg_c57) (fun _ => false) _ 1939 20 [some (.ref 1), some (.int r), some (.int (sp_add (sp_add (sp_add (sp_add 0 (sp_at σ r 0)) (sp_at σ r 1)) (sp_at σ r 2)) (sp_at σ r 3))), some (.int 4)] [.int (sp_add (sp_add (sp_add (sp_add (sp_add 0 (sp_at σ r 0)) (sp_at σ r 1)) (sp_at σ r 2)) (sp_at σ r 3)) (sp_at σ r 4))] σ
    refine ⟨fun h => absurd h (by decide), fun _ => ?_⟩
    change ev_wp pg_F pg_lay none [] (ev_lu pg_c57) (fun _ => false) _ 1933 10 [some (.ref 1), some (.int r), some (.int (sp_add (sp_add (sp_add (sp_add (sp_add 0 (sp_at σ r 0)) (sp_at σ r 1)) (sp_at σ r 2)) (sp_at σ r 3)) (sp_at σ r 4))), some (.int 5)] [] σ
    refine ⟨trivial, ?_⟩
    rintro _ _ ⟨rfl, rfl⟩
    change ev_wp pg_F pg_lay none [] (ev_lu pg_c57) (fun _ => false) _ 1928 17 [some (.ref 1), some (.int r), some (.int (sp_add (sp_add (sp_add (sp_add (sp_add 0 (sp_at σ r 0)) (sp_at σ r 1)) (sp_at σ r 2)) (sp_at σ r 3)) (sp_at σ r 4))), some (.int 5)] [.int (sp_at σ r 5), .int (sp_add (sp_add (sp_add (sp_add (sp_add 0 (sp_at σ r 0)) (sp_at σ r 1)) (sp_at σ r 2)) (sp_at σ r 3)) (sp_at σ r 4))] σ
    refine ⟨trivial, ?_⟩
    rintro _ _ ⟨rfl, rfl⟩
    change ev_wp pg_F pg_lay none [] (ev_lu pg_c57) (fun _ => false) _ 1927 20 [some (.ref 1), some (.int r), some (.int (sp_add (sp_add (sp_add (sp_add (sp_add 0 (sp_at σ r 0)) (sp_at σ r 1)) (sp_at σ r 2)) (sp_at σ r 3)) (sp_at σ r 4))), some (.int 5)] [.int (sp_add (sp_add (sp_add (sp_add (sp_add (sp_add 0 (sp_at σ r 0)) (sp_at σ r 1)) (sp_at σ r 2)) (sp_at σ r 3)) (sp_at σ r 4)) (sp_at σ r 5))] σ
    refine ⟨fun h => absurd h (by decide), fun _ => ?_⟩
    change ev_wp pg_F pg_lay none [] (ev_lu pg_c57) (fun _ => false) _ 1921 10 [some (.ref 1), some (.int r), some (.int (sp_add (sp_add (sp_add (sp_add (sp_add (sp_add 0 (sp_at σ r 0)) (sp_at σ r 1)) (sp_at σ r 2)) (sp_at σ r 3)) (sp_at σ r 4)) (sp_at σ r 5))), some (.int 6)] [] σ
    refine ⟨trivial, ?_⟩
    rintro _ _ ⟨rfl, rfl⟩
    change ev_wp pg_F pg_lay none [] (ev_lu pg_c57) (fun _ => false) _ 1916 17 [some (.ref 1), some (.int r), some (.int (sp_add (sp_add (sp_add (sp_add (sp_add (sp_add 0 (sp_at σ r 0)) (sp_at σ r 1)) (sp_at σ r 2)) (sp_at σ r 3)) (sp_at σ r 4)) (sp_at σ r 5))), some (.int 6)] [.int (sp_at σ r 6), .int (sp_add (sp_add (sp_add (sp_add (sp_add (sp_add 0 (sp_at σ r 0)) (sp_at σ r 1)) (sp_at σ r 2)) (sp_at σ r 3)) (sp_at σ r 4)) (sp_at σ r 5))] σ
    refine ⟨trivial, ?_⟩
    rintro _ _ ⟨rfl, rfl⟩
    change ev_wp pg_F pg_lay none [] (ev_lu pg_c57) (fun _ => false) _ 1915 20 [some (.ref 1), some (.int r), some (.int (sp_add (sp_add (sp_add (sp_add (sp_add (sp_add 0 (sp_at σ r 0)) (sp_at σ r 1)) (sp_at σ r 2)) (sp_at σ r 3)) (sp_at σ r 4)) (sp_at σ r 5))), some (.int 6)] [.int (sp_add (sp_add (sp_add (sp_add (sp_add (sp_add (sp_add 0 (sp_at σ r 0)) (sp_at σ r 1)) (sp_at σ r 2)) (sp_at σ r 3)) (sp_at σ r 4)) (sp_at σ r 5)) (sp_at σ r 6))] σ
    refine ⟨fun _ => ?_, fun h => absurd (by decide) h⟩
    change ev_wp pg_F pg_lay none [] (ev_lu pg_c57) (fun _ => false) _ 1909 27 [some (.ref 1), some (.int r), some (.int (sp_add (sp_add (sp_add (sp_add (sp_add (sp_add (sp_add 0 (sp_at σ r 0)) (sp_at σ r 1)) (sp_at σ r 2)) (sp_at σ r 3)) (sp_at σ r 4)) (sp_at σ r 5)) (sp_at σ r 6))), some (.int 7)] [] σ
    refine ⟨trivial, ?_⟩
    rintro _ _ ⟨rfl, rfl⟩
    change ev_wp pg_F pg_lay none [] (ev_lu pg_c57) (fun _ => false) _ 1905 34 [some (.ref 1), some (.int r), some (.int (sp_add (sp_add (sp_add (sp_add (sp_add (sp_add (sp_add 0 (sp_at σ r 0)) (sp_at σ r 1)) (sp_at σ r 2)) (sp_at σ r 3)) (sp_at σ r 4)) (sp_at σ r 5)) (sp_at σ r 6))), some (.int 7)] [.int (sp_at σ r 7)] σ
    refine ⟨fun (h1 : (sp_at σ r 7) = (65535 - (sp_add (sp_add (sp_add (sp_add (sp_add (sp_add (sp_add 0 (sp_at σ r 0)) (sp_at σ r 1)) (sp_at σ r 2)) (sp_at σ r 3)) (sp_at σ r 4)) (sp_at σ r 5)) (sp_at σ r 6)))) => ?_, fun (h1 : ¬ (sp_at σ r 7) = (65535 - (sp_add (sp_add (sp_add (sp_add (sp_add (sp_add (sp_add 0 (sp_at σ r 0)) (sp_at σ r 1)) (sp_at σ r 2)) (sp_at σ r 3)) (sp_at σ r 4)) (sp_at σ r 5)) (sp_at σ r 6)))) => ?_⟩
    · skip
      change ev_wp pg_F pg_lay none [] (ev_lu pg_c57) (fun _ => false) _ 1901 41 [some (.ref 1), some (.int r), some (.int (sp_add (sp_add (sp_add (sp_add (sp_add (sp_add (sp_add 0 (sp_at σ r 0)) (sp_at σ r 1)) (sp_at σ r 2)) (sp_at σ r 3)) (sp_at σ r 4)) (sp_at σ r 5)) (sp_at σ r 6))), some (.int 7)] [] σ
      exact ⟨_, rfl, by first | exact Or.inl rfl | exact Or.inr rfl, Nat.le_refl _, _, ⟨by first | exact Or.inl rfl | exact Or.inr rfl, fun hz => by first | rfl | (simp only [sp_at_zero hz] at h1; exact absurd h1 (by decide +kernel))⟩, rfl, rfl⟩
    · skip
      change ev_wp pg_F pg_lay none [] (ev_lu pg_c57) (fun _ => false) _ 1901 45 [some (.ref 1), some (.int r), some (.int (sp_add (sp_add (sp_add (sp_add (sp_add (sp_add (sp_add 0 (sp_at σ r 0)) (sp_at σ r 1)) (sp_at σ r 2)) (sp_at σ r 3)) (sp_at σ r 4)) (sp_at σ r 5)) (sp_at σ r 6))), some (.int 7)] [] σ
      exact ⟨_, rfl, by first | exact Or.inl rfl | exact Or.inr rfl, Nat.le_refl _, _, ⟨by first | exact Or.inl rfl | exact Or.inr rfl, fun hz => by first | rfl | (simp only [sp_at_zero hz] at h1; exact absurd h1 (by decide +kernel))⟩, rfl, rfl⟩
  · cases h
theorem pr_10 : pg_Rn pg_F 10 pg_y10 [] pg_t10 := by
  intro vs σ P h hp
  replace h : pf_10 vs σ = some P := h
  unfold pf_10 at h
  split at h
  · rename_i a b c d e f
    cases h
    refine ⟨by simp [Value.category], Nat.le_of_ble_eq_true rfl, ev_go pg_hhs pg_cd pg_o10 (fun _ => false) 2000 (Q1 := ev_at (ev_tl pg_t10) σ.2.2 (sp_v True (fun σ' => sp_w σ σ')).2) ?_ (fun _ _ _ _ h => ev_fin h)⟩
    change ev_wp pg_F pg_lay none [] (ev_lu pg_c10) (fun _ => false) _ 2000 0 [some (.ref 1), some (.int a), some (.int b), some (.int c), some (.int d), some (.int e), some (.int f)] [] σ
    refine ⟨sp_in rfl rfl, ?_⟩
    have r1 := (sp_w.rf σ).tr (sp_up45 σ 5 (Or.inr rfl) (Int32.toNatClampNeg 1) a)
    change ev_wp pg_F pg_lay none [] (ev_lu pg_c10) (fun _ => false) _ 1995 7 [some (.ref 1), some (.int a), some (.int b), some (.int c), some (.int d), some (.int e), some (.int f)] [] (ev_up σ 5 (Int32.toNatClampNeg 1) a)
    refine ⟨sp_in rfl rfl, ?_⟩
    have r2 := r1.tr (sp_up45 (ev_up σ 5 (Int32.toNatClampNeg 1) a) 5 (Or.inr rfl) (Int32.toNatClampNeg 2) b)
    change ev_wp pg_F pg_lay none [] (ev_lu pg_c10) (fun _ => false) _ 1990 14 [some (.ref 1), some (.int a), some (.int b), some (.int c), some (.int d), some (.int e), some (.int f)] [] (ev_up (ev_up σ 5 (Int32.toNatClampNeg 1) a) 5 (Int32.toNatClampNeg 2) b)
    refine ⟨sp_in rfl rfl, ?_⟩
    have r3 := r2.tr (sp_up45 (ev_up (ev_up σ 5 (Int32.toNatClampNeg 1) a) 5 (Int32.toNatClampNeg 2) b) 5 (Or.inr rfl) (Int32.toNatClampNeg 3) c)
    change ev_wp pg_F pg_lay none [] (ev_lu pg_c10) (fun _ => false) _ 1985 21 [some (.ref 1), some (.int a), some (.int b), some (.int c), some (.int d), some (.int e), some (.int f)] [] (ev_up (ev_up (ev_up σ 5 (Int32.toNatClampNeg 1) a) 5 (Int32.toNatClampNeg 2) b) 5 (Int32.toNatClampNeg 3) c)
    refine ⟨sp_in rfl rfl, ?_⟩
    have r4 := r3.tr (sp_up45 (ev_up (ev_up (ev_up σ 5 (Int32.toNatClampNeg 1) a) 5 (Int32.toNatClampNeg 2) b) 5 (Int32.toNatClampNeg 3) c) 5 (Or.inr rfl) (Int32.toNatClampNeg 4) d)
    change ev_wp pg_F pg_lay none [] (ev_lu pg_c10) (fun _ => false) _ 1980 29 [some (.ref 1), some (.int a), some (.int b), some (.int c), some (.int d), some (.int e), some (.int f)] [] (ev_up (ev_up (ev_up (ev_up σ 5 (Int32.toNatClampNeg 1) a) 5 (Int32.toNatClampNeg 2) b) 5 (Int32.toNatClampNeg 3) c) 5 (Int32.toNatClampNeg 4) d)
    refine ⟨sp_in rfl rfl, ?_⟩
    have r5 := r4.tr (sp_up45 (ev_up (ev_up (ev_up (ev_up σ 5 (Int32.toNatClampNeg 1) a) 5 (Int32.toNatClampNeg 2) b) 5 (Int32.toNatClampNeg 3) c) 5 (Int32.toNatClampNeg 4) d) 5 (Or.inr rfl) (Int32.toNatClampNeg 5) e)
    change ev_wp pg_F pg_lay none [] (ev_lu pg_c10) (fun _ => false) _ 1975 37 [some (.ref 1), some (.int a), some (.int b), some (.int c), some (.int d), some (.int e), some (.int f)] [] (ev_up (ev_up (ev_up (ev_up (ev_up σ 5 (Int32.toNatClampNeg 1) a) 5 (Int32.toNatClampNeg 2) b) 5 (Int32.toNatClampNeg 3) c) 5 (Int32.toNatClampNeg 4) d) 5 (Int32.toNatClampNeg 5) e)
    refine ⟨sp_in rfl rfl, ?_⟩
    have r6 := r5.tr (sp_up45 (ev_up (ev_up (ev_up (ev_up (ev_up σ 5 (Int32.toNatClampNeg 1) a) 5 (Int32.toNatClampNeg 2) b) 5 (Int32.toNatClampNeg 3) c) 5 (Int32.toNatClampNeg 4) d) 5 (Int32.toNatClampNeg 5) e) 5 (Or.inr rfl) (Int32.toNatClampNeg 6) f)
    exact ⟨rfl, Nat.le_of_eq (congrArg Prod.snd r6.2.1), r6, rfl⟩
  · cases h
theorem pr_13 : pg_Rn pg_F 13 pg_y13 [] pg_t13 := by
  intro vs σ P h hp
  replace h : pf_13 vs σ = some P := h
  unfold pf_13 at h
  split at h
  · cases h
    refine ⟨by simp [Value.category], Nat.le_of_ble_eq_true rfl, ev_go pg_hhs pg_cd pg_o13 (fun _ => false) 2000 (Q1 := ev_at (ev_tl pg_t13) σ.2.2 (sp_m True (fun v σ' => sp_b v ∧ sp_w σ σ')).2) ?_ (fun _ _ _ _ h => ev_fin h)⟩
    change ev_wp pg_F pg_lay none [] (ev_lu pg_c13) (fun _ => false) _ 2000 0 [some (.ref 1)] [] σ
    refine ⟨fun (h1 : (σ.1 1 5) = 0) => ?_, fun (h1 : ¬ (σ.1 1 5) = 0) => ?_⟩
    · skip
      change ev_wp pg_F pg_lay none [] (ev_lu pg_c13) (fun _ => false) _ 1997 14 [some (.ref 1)] [] σ
      exact ⟨_, rfl, by first | exact Or.inl rfl | exact Or.inr rfl, Nat.le_of_eq (congrArg Prod.snd (sp_w.rf σ).2.1), _, ⟨by first | exact Or.inl rfl | exact Or.inr rfl, (sp_w.rf σ)⟩, rfl⟩
    · skip
      change ev_wp pg_F pg_lay none [] (ev_lu pg_c13) (fun _ => false) _ 1997 7 [some (.ref 1)] [] σ
      refine ⟨fun (h2 : (σ.1 1 4) = 0) => ?_, fun (h2 : ¬ (σ.1 1 4) = 0) => ?_⟩
      · skip
        change ev_wp pg_F pg_lay none [] (ev_lu pg_c13) (fun _ => false) _ 1994 14 [some (.ref 1)] [] σ
        exact ⟨_, rfl, by first | exact Or.inl rfl | exact Or.inr rfl, Nat.le_of_eq (congrArg Prod.snd (sp_w.rf σ).2.1), _, ⟨by first | exact Or.inl rfl | exact Or.inr rfl, (sp_w.rf σ)⟩, rfl⟩
      · skip
        change ev_wp pg_F pg_lay none [] (ev_lu pg_c13) (fun _ => false) _ 1994 16 [some (.ref 1)] [] σ
        have r3 := (sp_w.rf σ).tr (sp_up1 σ 6 ((σ.1 1 6) - 1) (fun h => absurd h (by decide)) (fun h => absurd h (by decide)))
        refine ⟨fun (h4 : 0 ≤ ((ev_up σ 1 6 ((σ.1 1 6) - 1)).1 1 6)) => ?_, fun (h4 : ¬ 0 ≤ ((ev_up σ 1 6 ((σ.1 1 6) - 1)).1 1 6)) => ?_⟩
        · skip
          change ev_wp pg_F pg_lay none [] (ev_lu pg_c13) (fun _ => false) _ 1985 37 [some (.ref 1)] [] (ev_up σ 1 6 ((σ.1 1 6) - 1))
          exact ⟨_, rfl, by first | exact Or.inl rfl | exact Or.inr rfl, Nat.le_of_eq (congrArg Prod.snd r3.2.1), _, ⟨by first | exact Or.inl rfl | exact Or.inr rfl, r3⟩, rfl⟩
        · skip
          change ev_wp pg_F pg_lay none [] (ev_lu pg_c13) (fun _ => false) _ 1985 33 [some (.ref 1)] [] (ev_up σ 1 6 ((σ.1 1 6) - 1))
          exact ⟨_, rfl, by first | exact Or.inl rfl | exact Or.inr rfl, Nat.le_of_eq (congrArg Prod.snd r3.2.1), _, ⟨by first | exact Or.inl rfl | exact Or.inr rfl, r3⟩, rfl⟩
  · cases h
theorem pr_14 : pg_Rn pg_F 14 pg_y14 [] pg_t14 := by
  intro vs σ P h hp
  replace h : pf_14 vs σ = some P := h
  unfold pf_14 at h
  split at h
  · rename_i a b
    cases h
    refine ⟨by simp [Value.category], Nat.le_of_ble_eq_true rfl, ev_go pg_hhs pg_cd pg_o14 (fun _ => false) 2000 (Q1 := ev_at (ev_tl pg_t14) σ.2.2 (sp_v True (fun σ' => sp_w σ σ')).2) ?_ (fun _ _ _ _ h => ev_fin h)⟩
    change ev_wp pg_F pg_lay none [] (ev_lu pg_c14) (fun _ => false) _ 2000 0 [some (.ref 1), some (.int a), some (.int b)] [] σ
    refine ⟨Or.inr rfl, ?_⟩
    have r1 := (sp_w.rf σ).tr (sp_up1 σ 5 1 (fun h => absurd h (by decide)) (fun _ => Or.inr rfl))
    change ev_wp pg_F pg_lay none [] (ev_lu pg_c14) (fun _ => false) _ 1997 5 [some (.ref 1), some (.int a), some (.int b)] [] (ev_up σ 1 5 1)
    have r2 := r1.tr (sp_up1 (ev_up σ 1 5 1) 6 a (fun h => absurd h (by decide)) (fun h => absurd h (by decide)))
    have r3 := r2.tr (sp_up1 (ev_up (ev_up σ 1 5 1) 1 6 a) 7 b (fun h => absurd h (by decide)) (fun h => absurd h (by decide)))
    exact ⟨rfl, Nat.le_of_eq (congrArg Prod.snd r3.2.1), r3, rfl⟩
  · cases h
theorem pr_58 : pg_Rn pg_F 58 pg_y58 [] pg_t58 := by
  intro vs σ P h hp
  replace h : pf_58 vs σ = some P := h
  unfold pf_58 at h
  split at h
  · rename_i a b c
    cases h
    refine ⟨by simp [Value.category], Nat.le_of_ble_eq_true rfl, ev_go pg_hhs pg_cd pg_o58 (fun _ => false) 2000 (Q1 := ev_at (ev_tl pg_t58) σ.2.2 (sp_m True (fun v σ' => sp_b v ∧ sp_w σ σ')).2) ?_ (fun _ _ _ _ h => ev_fin h)⟩
    change ev_wp pg_F pg_lay none [] (ev_lu pg_c58) (fun _ => false) _ 2000 0 [some (.ref 1), some (.int a), some (.int b), some (.int c), none, none] [] σ
    refine ⟨fun (h1 : ((a * 4) + b) < 0) => ?_, fun (h1 : ¬ ((a * 4) + b) < 0) => ?_⟩
    · skip
      change ev_wp pg_F pg_lay none [] (ev_lu pg_c58) (fun _ => false) _ 1992 22 [some (.ref 1), some (.int a), some (.int b), some (.int c), some (.int ((a * 4) + b)), none] [] σ
      exact ⟨_, rfl, by first | exact Or.inl rfl | exact Or.inr rfl, Nat.le_of_eq (congrArg Prod.snd (sp_w.rf σ).2.1), _, ⟨by first | exact Or.inl rfl | exact Or.inr rfl, (sp_w.rf σ)⟩, rfl⟩
    · skip
      change ev_wp pg_F pg_lay none [] (ev_lu pg_c58) (fun _ => false) _ 1992 12 [some (.ref 1), some (.int a), some (.int b), some (.int c), some (.int ((a * 4) + b)), none] [] σ
      refine ⟨fun (h2 : ((a * 4) + b) < (Int32.ofNat 256)) => ?_, fun (h2 : ¬ ((a * 4) + b) < (Int32.ofNat 256)) => ?_⟩
      · skip
        change ev_wp pg_F pg_lay none [] (ev_lu pg_c58) (fun _ => false) _ 1987 24 [some (.ref 1), some (.int a), some (.int b), some (.int c), some (.int ((a * 4) + b)), none] [] σ
        refine ⟨fun (h3 : (((a * 4) + b) / 4) = 4) => ?_, fun (h3 : ¬ (((a * 4) + b) / 4) = 4) => ?_⟩
        · skip
          change ev_wp pg_F pg_lay none [] (ev_lu pg_c58) (fun _ => false) _ 1982 32 [some (.ref 1), some (.int a), some (.int b), some (.int c), some (.int ((a * 4) + b)), none] [] σ
          have r4 := (sp_w.rf σ).tr (sp_up1 σ 2 ((σ.1 1 2) + 1) (fun h => absurd h (by decide)) (fun h => absurd h (by decide)))
          refine ⟨trivial, ?_⟩
          rintro _ s7 ⟨v5, k6, rfl⟩
          have r8 := r4.tr k6.2
          change ev_wp pg_F pg_lay none [] (ev_lu pg_c58) (fun _ => false) _ 1971 53 [some (.ref 1), some (.int a), some (.int b), some (.int c), some (.int ((a * 4) + b)), some (.int 1)] [.int v5] s7
          refine ⟨fun (h9 : v5 = 0) => ?_, fun (h9 : ¬ v5 = 0) => ?_⟩
          · skip
            change ev_wp pg_F pg_lay none [] (ev_lu pg_c58) (fun _ => false) _ 1970 105 [some (.ref 1), some (.int a), some (.int b), some (.int c), some (.int ((a * 4) + b)), some (.int 1)] [] s7
            refine ⟨fun h => absurd h (by decide), fun _ => ?_⟩
            change ev_wp pg_F pg_lay none [] (ev_lu pg_c58) (fun _ => false) _ 1965 116 [some (.ref 1), some (.int a), some (.int b), some (.int c), some (.int ((a * 4) + b)), some (.int 1)] [.int ((a * 4) + b), .ref 4] s7
            refine ⟨sp_in3 (by decide) h1 h2, ?_⟩
            change ev_wp pg_F pg_lay none [] (ev_lu pg_c58) (fun _ => false) _ 1961 123 [some (.ref 1), some (.int a), some (.int b), some (.int c), some (.int ((a * 4) + b)), some (.int 1)] [.int (s7.1 4 (Int32.toNatClampNeg ((a * 4) + b))), .int ((a * 4) + b), .ref 4] s7
            refine ⟨sp_in3 (by decide) h1 h2, ?_⟩
            have r10 := r8.tr (sp_up45 s7 4 (Or.inl rfl) (Int32.toNatClampNeg ((a * 4) + b)) ((s7.1 4 (Int32.toNatClampNeg ((a * 4) + b))) ||| c))
            change ev_wp pg_F pg_lay none [] (ev_lu pg_c58) (fun _ => false) _ 1957 130 [some (.ref 1), some (.int a), some (.int b), some (.int c), some (.int ((a * 4) + b)), some (.int 1)] [] (ev_up s7 4 (Int32.toNatClampNeg ((a * 4) + b)) ((s7.1 4 (Int32.toNatClampNeg ((a * 4) + b))) ||| c))
            exact ⟨_, rfl, by first | exact Or.inl rfl | exact Or.inr rfl, Nat.le_of_eq (congrArg Prod.snd r10.2.1), _, ⟨by first | exact Or.inl rfl | exact Or.inr rfl, r10⟩, rfl⟩
          · skip
            change ev_wp pg_F pg_lay none [] (ev_lu pg_c58) (fun _ => false) _ 1970 56 [some (.ref 1), some (.int a), some (.int b), some (.int c), some (.int ((a * 4) + b)), some (.int 1)] [] s7
            refine ⟨fun h => absurd h (by decide), fun _ => ?_⟩
            change ev_wp pg_F pg_lay none [] (ev_lu pg_c58) (fun _ => false) _ 1965 67 [some (.ref 1), some (.int a), some (.int b), some (.int c), some (.int ((a * 4) + b)), some (.int 1)] [.int ((a * 4) + b), .ref 4] s7
            refine ⟨sp_in3 (by decide) h1 h2, ?_⟩
            change ev_wp pg_F pg_lay none [] (ev_lu pg_c58) (fun _ => false) _ 1961 74 [some (.ref 1), some (.int a), some (.int b), some (.int c), some (.int ((a * 4) + b)), some (.int 1)] [.int (s7.1 4 (Int32.toNatClampNeg ((a * 4) + b))), .int ((a * 4) + b), .ref 4] s7
            refine ⟨sp_in3 (by decide) h1 h2, ?_⟩
            have r11 := r8.tr (sp_up45 s7 4 (Or.inl rfl) (Int32.toNatClampNeg ((a * 4) + b)) ((s7.1 4 (Int32.toNatClampNeg ((a * 4) + b))) ||| (c &&& (s7.1 1 7))))
            change ev_wp pg_F pg_lay none [] (ev_lu pg_c58) (fun _ => false) _ 1954 89 [some (.ref 1), some (.int a), some (.int b), some (.int c), some (.int ((a * 4) + b)), some (.int 1)] [] (ev_up s7 4 (Int32.toNatClampNeg ((a * 4) + b)) ((s7.1 4 (Int32.toNatClampNeg ((a * 4) + b))) ||| (c &&& (s7.1 1 7))))
            have r12 := r11.tr (sp_up1 (ev_up s7 4 (Int32.toNatClampNeg ((a * 4) + b)) ((s7.1 4 (Int32.toNatClampNeg ((a * 4) + b))) ||| (c &&& (s7.1 1 7)))) 3 (((ev_up s7 4 (Int32.toNatClampNeg ((a * 4) + b)) ((s7.1 4 (Int32.toNatClampNeg ((a * 4) + b))) ||| (c &&& (s7.1 1 7)))).1 1 3) + 1) (fun h => absurd h (by decide)) (fun h => absurd h (by decide)))
            refine ⟨trivial, ?_⟩
            rintro _ _ ⟨rfl, rfl⟩
            have r13 := r12.tr ((sp_up1 (ev_up (ev_up s7 4 (Int32.toNatClampNeg ((a * 4) + b)) ((s7.1 4 (Int32.toNatClampNeg ((a * 4) + b))) ||| (c &&& (s7.1 1 7)))) 1 3 (((ev_up s7 4 (Int32.toNatClampNeg ((a * 4) + b)) ((s7.1 4 (Int32.toNatClampNeg ((a * 4) + b))) ||| (c &&& (s7.1 1 7)))).1 1 3) + 1)) 4 0 (fun _ => Or.inl rfl) (fun h => absurd h (by decide))).tr (sp_up1 _ 5 0 (fun h => absurd h (by decide)) (fun _ => Or.inl rfl)))
            change ev_wp pg_F pg_lay none [] (ev_lu pg_c58) (fun _ => false) _ 1946 103 [some (.ref 1), some (.int a), some (.int b), some (.int c), some (.int ((a * 4) + b)), some (.int 1)] [] (ev_up (ev_up (ev_up (ev_up s7 4 (Int32.toNatClampNeg ((a * 4) + b)) ((s7.1 4 (Int32.toNatClampNeg ((a * 4) + b))) ||| (c &&& (s7.1 1 7)))) 1 3 (((ev_up s7 4 (Int32.toNatClampNeg ((a * 4) + b)) ((s7.1 4 (Int32.toNatClampNeg ((a * 4) + b))) ||| (c &&& (s7.1 1 7)))).1 1 3) + 1)) 1 4 0) 1 5 0)
            exact ⟨_, rfl, by first | exact Or.inl rfl | exact Or.inr rfl, Nat.le_of_eq (congrArg Prod.snd r13.2.1), _, ⟨by first | exact Or.inl rfl | exact Or.inr rfl, r13⟩, rfl⟩
        · skip
          change ev_wp pg_F pg_lay none [] (ev_lu pg_c58) (fun _ => false) _ 1982 36 [some (.ref 1), some (.int a), some (.int b), some (.int c), some (.int ((a * 4) + b)), none] [] σ
          have r14 := (sp_w.rf σ).tr (sp_up1 σ 2 ((σ.1 1 2) + 1) (fun h => absurd h (by decide)) (fun h => absurd h (by decide)))
          refine ⟨trivial, ?_⟩
          rintro _ s17 ⟨v15, k16, rfl⟩
          have r18 := r14.tr k16.2
          change ev_wp pg_F pg_lay none [] (ev_lu pg_c58) (fun _ => false) _ 1972 53 [some (.ref 1), some (.int a), some (.int b), some (.int c), some (.int ((a * 4) + b)), some (.int 0)] [.int v15] s17
          refine ⟨fun (h19 : v15 = 0) => ?_, fun (h19 : ¬ v15 = 0) => ?_⟩
          · skip
            change ev_wp pg_F pg_lay none [] (ev_lu pg_c58) (fun _ => false) _ 1971 105 [some (.ref 1), some (.int a), some (.int b), some (.int c), some (.int ((a * 4) + b)), some (.int 0)] [] s17
            refine ⟨fun _ => ?_, fun h => absurd (by decide) h⟩
            change ev_wp pg_F pg_lay none [] (ev_lu pg_c58) (fun _ => false) _ 1966 128 [some (.ref 1), some (.int a), some (.int b), some (.int c), some (.int ((a * 4) + b)), some (.int 0)] [.int ((a * 4) + b), .ref 4] s17
            refine ⟨sp_in3 (by decide) h1 h2, ?_⟩
            have r20 := r18.tr (sp_up45 s17 4 (Or.inl rfl) (Int32.toNatClampNeg ((a * 4) + b)) c)
            change ev_wp pg_F pg_lay none [] (ev_lu pg_c58) (fun _ => false) _ 1964 130 [some (.ref 1), some (.int a), some (.int b), some (.int c), some (.int ((a * 4) + b)), some (.int 0)] [] (ev_up s17 4 (Int32.toNatClampNeg ((a * 4) + b)) c)
            exact ⟨_, rfl, by first | exact Or.inl rfl | exact Or.inr rfl, Nat.le_of_eq (congrArg Prod.snd r20.2.1), _, ⟨by first | exact Or.inl rfl | exact Or.inr rfl, r20⟩, rfl⟩
          · skip
            change ev_wp pg_F pg_lay none [] (ev_lu pg_c58) (fun _ => false) _ 1971 56 [some (.ref 1), some (.int a), some (.int b), some (.int c), some (.int ((a * 4) + b)), some (.int 0)] [] s17
            refine ⟨fun _ => ?_, fun h => absurd (by decide) h⟩
            change ev_wp pg_F pg_lay none [] (ev_lu pg_c58) (fun _ => false) _ 1966 84 [some (.ref 1), some (.int a), some (.int b), some (.int c), some (.int ((a * 4) + b)), some (.int 0)] [.int ((a * 4) + b), .ref 4] s17
            refine ⟨sp_in3 (by decide) h1 h2, ?_⟩
            have r21 := r18.tr (sp_up45 s17 4 (Or.inl rfl) (Int32.toNatClampNeg ((a * 4) + b)) (s17.1 1 7))
            change ev_wp pg_F pg_lay none [] (ev_lu pg_c58) (fun _ => false) _ 1963 89 [some (.ref 1), some (.int a), some (.int b), some (.int c), some (.int ((a * 4) + b)), some (.int 0)] [] (ev_up s17 4 (Int32.toNatClampNeg ((a * 4) + b)) (s17.1 1 7))
            have r22 := r21.tr (sp_up1 (ev_up s17 4 (Int32.toNatClampNeg ((a * 4) + b)) (s17.1 1 7)) 3 (((ev_up s17 4 (Int32.toNatClampNeg ((a * 4) + b)) (s17.1 1 7)).1 1 3) + 1) (fun h => absurd h (by decide)) (fun h => absurd h (by decide)))
            refine ⟨trivial, ?_⟩
            rintro _ _ ⟨rfl, rfl⟩
            have r23 := r22.tr ((sp_up1 (ev_up (ev_up s17 4 (Int32.toNatClampNeg ((a * 4) + b)) (s17.1 1 7)) 1 3 (((ev_up s17 4 (Int32.toNatClampNeg ((a * 4) + b)) (s17.1 1 7)).1 1 3) + 1)) 4 0 (fun _ => Or.inl rfl) (fun h => absurd h (by decide))).tr (sp_up1 _ 5 0 (fun h => absurd h (by decide)) (fun _ => Or.inl rfl)))
            change ev_wp pg_F pg_lay none [] (ev_lu pg_c58) (fun _ => false) _ 1955 103 [some (.ref 1), some (.int a), some (.int b), some (.int c), some (.int ((a * 4) + b)), some (.int 0)] [] (ev_up (ev_up (ev_up (ev_up s17 4 (Int32.toNatClampNeg ((a * 4) + b)) (s17.1 1 7)) 1 3 (((ev_up s17 4 (Int32.toNatClampNeg ((a * 4) + b)) (s17.1 1 7)).1 1 3) + 1)) 1 4 0) 1 5 0)
            exact ⟨_, rfl, by first | exact Or.inl rfl | exact Or.inr rfl, Nat.le_of_eq (congrArg Prod.snd r23.2.1), _, ⟨by first | exact Or.inl rfl | exact Or.inr rfl, r23⟩, rfl⟩
      · skip
        change ev_wp pg_F pg_lay none [] (ev_lu pg_c58) (fun _ => false) _ 1987 22 [some (.ref 1), some (.int a), some (.int b), some (.int c), some (.int ((a * 4) + b)), none] [] σ
        exact ⟨_, rfl, by first | exact Or.inl rfl | exact Or.inr rfl, Nat.le_of_eq (congrArg Prod.snd (sp_w.rf σ).2.1), _, ⟨by first | exact Or.inl rfl | exact Or.inr rfl, (sp_w.rf σ)⟩, rfl⟩
  · cases h
theorem pr_79 : pg_Rn pg_F 79 pg_y79 [] pg_t79 := by
  intro vs σ P h hp
  replace h : pf_79 vs σ = some P := h
  unfold pf_79 at h
  split at h
  · rename_i a
    cases h
    refine ⟨by simp [Value.category], Nat.le_of_ble_eq_true rfl, ev_go pg_hhs pg_cd pg_o79 (fun _ => false) 2000 (Q1 := ev_at (ev_tl pg_t79) σ.2.2 (sp_m True (fun v σ' => sp_b v ∧ sp_w σ σ')).2) ?_ (fun _ _ _ _ h => ev_fin h)⟩
    change ev_wp pg_F pg_lay none [] (ev_lu pg_c79) (fun _ => false) _ 2000 0 [some (.ref 1), some (.int a), none] [] σ
    refine ⟨fun h => absurd h (by decide), fun _ => ?_⟩
    change ev_wp pg_F pg_lay none [] (ev_lu pg_c79) (fun _ => false) _ 1995 8 [some (.ref 1), some (.int a), some (.int 0)] [] σ
    refine ⟨trivial, ?_⟩
    rintro _ s3 ⟨v1, k2, rfl⟩
    have r4 := (sp_w.rf σ).tr k2.2
    change ev_wp pg_F pg_lay none [] (ev_lu pg_c79) (fun _ => false) _ 1990 15 [some (.ref 1), some (.int a), some (.int 0)] [.int v1] s3
    refine ⟨fun (h5 : v1 = 0) => ?_, fun (h5 : ¬ v1 = 0) => ?_⟩
    · skip
      change ev_wp pg_F pg_lay none [] (ev_lu pg_c79) (fun _ => false) _ 1989 18 [some (.ref 1), some (.int a), some (.int 0)] [] s3
      exact ⟨_, rfl, by first | exact Or.inl rfl | exact Or.inr rfl, Nat.le_of_eq (congrArg Prod.snd r4.2.1), _, ⟨by first | exact Or.inl rfl | exact Or.inr rfl, r4⟩, rfl⟩
    · skip
      change ev_wp pg_F pg_lay none [] (ev_lu pg_c79) (fun _ => false) _ 1989 20 [some (.ref 1), some (.int a), some (.int 0)] [] s3
      refine ⟨fun h => absurd h (by decide), fun _ => ?_⟩
      change ev_wp pg_F pg_lay none [] (ev_lu pg_c79) (fun _ => false) _ 1984 8 [some (.ref 1), some (.int a), some (.int 1)] [] s3
      refine ⟨trivial, ?_⟩
      rintro _ s8 ⟨v6, k7, rfl⟩
      have r9 := r4.tr k7.2
      change ev_wp pg_F pg_lay none [] (ev_lu pg_c79) (fun _ => false) _ 1979 15 [some (.ref 1), some (.int a), some (.int 1)] [.int v6] s8
      refine ⟨fun (h10 : v6 = 0) => ?_, fun (h10 : ¬ v6 = 0) => ?_⟩
      · skip
        change ev_wp pg_F pg_lay none [] (ev_lu pg_c79) (fun _ => false) _ 1978 18 [some (.ref 1), some (.int a), some (.int 1)] [] s8
        exact ⟨_, rfl, by first | exact Or.inl rfl | exact Or.inr rfl, Nat.le_of_eq (congrArg Prod.snd r9.2.1), _, ⟨by first | exact Or.inl rfl | exact Or.inr rfl, r9⟩, rfl⟩
      · skip
        change ev_wp pg_F pg_lay none [] (ev_lu pg_c79) (fun _ => false) _ 1978 20 [some (.ref 1), some (.int a), some (.int 1)] [] s8
        refine ⟨fun h => absurd h (by decide), fun _ => ?_⟩
        change ev_wp pg_F pg_lay none [] (ev_lu pg_c79) (fun _ => false) _ 1973 8 [some (.ref 1), some (.int a), some (.int 2)] [] s8
        refine ⟨trivial, ?_⟩
        rintro _ s13 ⟨v11, k12, rfl⟩
        have r14 := r9.tr k12.2
        change ev_wp pg_F pg_lay none [] (ev_lu pg_c79) (fun _ => false) _ 1968 15 [some (.ref 1), some (.int a), some (.int 2)] [.int v11] s13
        refine ⟨fun (h15 : v11 = 0) => ?_, fun (h15 : ¬ v11 = 0) => ?_⟩
        · skip
          change ev_wp pg_F pg_lay none [] (ev_lu pg_c79) (fun _ => false) _ 1967 18 [some (.ref 1), some (.int a), some (.int 2)] [] s13
          exact ⟨_, rfl, by first | exact Or.inl rfl | exact Or.inr rfl, Nat.le_of_eq (congrArg Prod.snd r14.2.1), _, ⟨by first | exact Or.inl rfl | exact Or.inr rfl, r14⟩, rfl⟩
        · skip
          change ev_wp pg_F pg_lay none [] (ev_lu pg_c79) (fun _ => false) _ 1967 20 [some (.ref 1), some (.int a), some (.int 2)] [] s13
          refine ⟨fun h => absurd h (by decide), fun _ => ?_⟩
          change ev_wp pg_F pg_lay none [] (ev_lu pg_c79) (fun _ => false) _ 1962 8 [some (.ref 1), some (.int a), some (.int 3)] [] s13
          refine ⟨trivial, ?_⟩
          rintro _ s18 ⟨v16, k17, rfl⟩
          have r19 := r14.tr k17.2
          change ev_wp pg_F pg_lay none [] (ev_lu pg_c79) (fun _ => false) _ 1957 15 [some (.ref 1), some (.int a), some (.int 3)] [.int v16] s18
          refine ⟨fun (h20 : v16 = 0) => ?_, fun (h20 : ¬ v16 = 0) => ?_⟩
          · skip
            change ev_wp pg_F pg_lay none [] (ev_lu pg_c79) (fun _ => false) _ 1956 18 [some (.ref 1), some (.int a), some (.int 3)] [] s18
            exact ⟨_, rfl, by first | exact Or.inl rfl | exact Or.inr rfl, Nat.le_of_eq (congrArg Prod.snd r19.2.1), _, ⟨by first | exact Or.inl rfl | exact Or.inr rfl, r19⟩, rfl⟩
          · skip
            change ev_wp pg_F pg_lay none [] (ev_lu pg_c79) (fun _ => false) _ 1956 20 [some (.ref 1), some (.int a), some (.int 3)] [] s18
            refine ⟨fun h => absurd h (by decide), fun _ => ?_⟩
            change ev_wp pg_F pg_lay none [] (ev_lu pg_c79) (fun _ => false) _ 1951 8 [some (.ref 1), some (.int a), some (.int 4)] [] s18
            refine ⟨trivial, ?_⟩
            rintro _ s23 ⟨v21, k22, rfl⟩
            have r24 := r19.tr k22.2
            change ev_wp pg_F pg_lay none [] (ev_lu pg_c79) (fun _ => false) _ 1946 15 [some (.ref 1), some (.int a), some (.int 4)] [.int v21] s23
            refine ⟨fun (h25 : v21 = 0) => ?_, fun (h25 : ¬ v21 = 0) => ?_⟩
            · skip
              change ev_wp pg_F pg_lay none [] (ev_lu pg_c79) (fun _ => false) _ 1945 18 [some (.ref 1), some (.int a), some (.int 4)] [] s23
              exact ⟨_, rfl, by first | exact Or.inl rfl | exact Or.inr rfl, Nat.le_of_eq (congrArg Prod.snd r24.2.1), _, ⟨by first | exact Or.inl rfl | exact Or.inr rfl, r24⟩, rfl⟩
            · skip
              change ev_wp pg_F pg_lay none [] (ev_lu pg_c79) (fun _ => false) _ 1945 20 [some (.ref 1), some (.int a), some (.int 4)] [] s23
              refine ⟨fun h => absurd h (by decide), fun _ => ?_⟩
              change ev_wp pg_F pg_lay none [] (ev_lu pg_c79) (fun _ => false) _ 1940 8 [some (.ref 1), some (.int a), some (.int 5)] [] s23
              refine ⟨trivial, ?_⟩
              rintro _ s28 ⟨v26, k27, rfl⟩
              have r29 := r24.tr k27.2
              change ev_wp pg_F pg_lay none [] (ev_lu pg_c79) (fun _ => false) _ 1935 15 [some (.ref 1), some (.int a), some (.int 5)] [.int v26] s28
              refine ⟨fun (h30 : v26 = 0) => ?_, fun (h30 : ¬ v26 = 0) => ?_⟩
              · skip
                change ev_wp pg_F pg_lay none [] (ev_lu pg_c79) (fun _ => false) _ 1934 18 [some (.ref 1), some (.int a), some (.int 5)] [] s28
                exact ⟨_, rfl, by first | exact Or.inl rfl | exact Or.inr rfl, Nat.le_of_eq (congrArg Prod.snd r29.2.1), _, ⟨by first | exact Or.inl rfl | exact Or.inr rfl, r29⟩, rfl⟩
              · skip
                change ev_wp pg_F pg_lay none [] (ev_lu pg_c79) (fun _ => false) _ 1934 20 [some (.ref 1), some (.int a), some (.int 5)] [] s28
                refine ⟨fun h => absurd h (by decide), fun _ => ?_⟩
                change ev_wp pg_F pg_lay none [] (ev_lu pg_c79) (fun _ => false) _ 1929 8 [some (.ref 1), some (.int a), some (.int 6)] [] s28
                refine ⟨trivial, ?_⟩
                rintro _ s33 ⟨v31, k32, rfl⟩
                have r34 := r29.tr k32.2
                change ev_wp pg_F pg_lay none [] (ev_lu pg_c79) (fun _ => false) _ 1924 15 [some (.ref 1), some (.int a), some (.int 6)] [.int v31] s33
                refine ⟨fun (h35 : v31 = 0) => ?_, fun (h35 : ¬ v31 = 0) => ?_⟩
                · skip
                  change ev_wp pg_F pg_lay none [] (ev_lu pg_c79) (fun _ => false) _ 1923 18 [some (.ref 1), some (.int a), some (.int 6)] [] s33
                  exact ⟨_, rfl, by first | exact Or.inl rfl | exact Or.inr rfl, Nat.le_of_eq (congrArg Prod.snd r34.2.1), _, ⟨by first | exact Or.inl rfl | exact Or.inr rfl, r34⟩, rfl⟩
                · skip
                  change ev_wp pg_F pg_lay none [] (ev_lu pg_c79) (fun _ => false) _ 1923 20 [some (.ref 1), some (.int a), some (.int 6)] [] s33
                  refine ⟨fun h => absurd h (by decide), fun _ => ?_⟩
                  change ev_wp pg_F pg_lay none [] (ev_lu pg_c79) (fun _ => false) _ 1918 8 [some (.ref 1), some (.int a), some (.int 7)] [] s33
                  refine ⟨trivial, ?_⟩
                  rintro _ s38 ⟨v36, k37, rfl⟩
                  have r39 := r34.tr k37.2
                  change ev_wp pg_F pg_lay none [] (ev_lu pg_c79) (fun _ => false) _ 1913 15 [some (.ref 1), some (.int a), some (.int 7)] [.int v36] s38
                  refine ⟨fun (h40 : v36 = 0) => ?_, fun (h40 : ¬ v36 = 0) => ?_⟩
                  · skip
                    change ev_wp pg_F pg_lay none [] (ev_lu pg_c79) (fun _ => false) _ 1912 18 [some (.ref 1), some (.int a), some (.int 7)] [] s38
                    exact ⟨_, rfl, by first | exact Or.inl rfl | exact Or.inr rfl, Nat.le_of_eq (congrArg Prod.snd r39.2.1), _, ⟨by first | exact Or.inl rfl | exact Or.inr rfl, r39⟩, rfl⟩
                  · skip
                    change ev_wp pg_F pg_lay none [] (ev_lu pg_c79) (fun _ => false) _ 1912 20 [some (.ref 1), some (.int a), some (.int 7)] [] s38
                    refine ⟨fun _ => ?_, fun h => absurd (by decide) h⟩
                    change ev_wp pg_F pg_lay none [] (ev_lu pg_c79) (fun _ => false) _ 1907 26 [some (.ref 1), some (.int a), some (.int 8)] [] s38
                    exact ⟨_, rfl, by first | exact Or.inl rfl | exact Or.inr rfl, Nat.le_of_eq (congrArg Prod.snd r39.2.1), _, ⟨by first | exact Or.inl rfl | exact Or.inr rfl, r39⟩, rfl⟩
  · cases h
theorem pr_81 : pg_Rn pg_F 81 pg_y81 [] pg_t81 := by
  intro vs σ P h hp
  replace h : pf_81 vs σ = some P := h
  unfold pf_81 at h
  split at h
  · rename_i a b
    cases h
    refine ⟨by simp [Value.category], Nat.le_of_ble_eq_true rfl, ev_go pg_hhs pg_cd pg_o81 (fun _ => false) 2000 (Q1 := ev_at (ev_tl pg_t81) σ.2.2 (sp_m True (fun v σ' => sp_b v ∧ sp_w σ σ')).2) ?_ (fun _ _ _ _ h => ev_fin h)⟩
    change ev_wp pg_F pg_lay none [] (ev_lu pg_c81) (fun _ => false) _ 2000 0 [some (.ref 1), some (.int a), some (.int b), none, none] [] σ
    refine ⟨sp_in rfl rfl, ?_⟩
    have r1 := (sp_w.rf σ).tr (sp_up45 σ 5 (Or.inr rfl) (Int32.toNatClampNeg 0) b)
    change ev_wp pg_F pg_lay none [] (ev_lu pg_c81) (fun _ => false) _ 1995 7 [some (.ref 1), some (.int a), some (.int b), none, none] [] (ev_up σ 5 (Int32.toNatClampNeg 0) b)
    refine ⟨fun h => absurd h (by decide), fun _ => ?_⟩
    change ev_wp pg_F pg_lay none [] (ev_lu pg_c81) (fun _ => false) _ 1988 19 [some (.ref 1), some (.int a), some (.int b), some (.int 0), some (.int 0)] [] (ev_up σ 5 (Int32.toNatClampNeg 0) b)
    refine ⟨sp_in rfl rfl, ?_⟩
    change ev_wp pg_F pg_lay none [] (ev_lu pg_c81) (fun _ => false) _ 1981 30 [some (.ref 1), some (.int a), some (.int b), some (.int 0), some (.int 0)] [.int ((ev_up σ 5 (Int32.toNatClampNeg 0) b).1 5 (Int32.toNatClampNeg 0)), .int 0, .int a, .ref 1] (ev_up σ 5 (Int32.toNatClampNeg 0) b)
    refine ⟨trivial, ?_⟩
    rintro _ s4 ⟨v2, k3, rfl⟩
    have r5 := r1.tr k3.2
    change ev_wp pg_F pg_lay none [] (ev_lu pg_c81) (fun _ => false) _ 1980 33 [some (.ref 1), some (.int a), some (.int b), some (.int 0), some (.int 0)] [.int v2] s4
    refine ⟨fun (h6 : v2 = 0) => ?_, fun (h6 : ¬ v2 = 0) => ?_⟩
    · skip
      change ev_wp pg_F pg_lay none [] (ev_lu pg_c81) (fun _ => false) _ 1979 36 [some (.ref 1), some (.int a), some (.int b), some (.int 0), some (.int 0)] [] s4
      exact ⟨_, rfl, by first | exact Or.inl rfl | exact Or.inr rfl, Nat.le_of_eq (congrArg Prod.snd r5.2.1), _, ⟨by first | exact Or.inl rfl | exact Or.inr rfl, r5⟩, rfl⟩
    · skip
      change ev_wp pg_F pg_lay none [] (ev_lu pg_c81) (fun _ => false) _ 1979 38 [some (.ref 1), some (.int a), some (.int b), some (.int 0), some (.int 0)] [] s4
      refine ⟨sp_in rfl rfl, ?_⟩
      change ev_wp pg_F pg_lay none [] (ev_lu pg_c81) (fun _ => false) _ 1974 46 [some (.ref 1), some (.int a), some (.int b), some (.int 0), some (.int 0)] [.int (s4.1 5 (Int32.toNatClampNeg 0)), .int 0] s4
      refine ⟨trivial, ?_⟩
      rintro _ _ ⟨rfl, rfl⟩
      change ev_wp pg_F pg_lay none [] (ev_lu pg_c81) (fun _ => false) _ 1973 49 [some (.ref 1), some (.int a), some (.int b), some (.int 0), some (.int 0)] [.int (sp_add 0 (s4.1 5 (Int32.toNatClampNeg 0)))] s4
      refine ⟨fun h => absurd h (by decide), fun _ => ?_⟩
      change ev_wp pg_F pg_lay none [] (ev_lu pg_c81) (fun _ => false) _ 1967 19 [some (.ref 1), some (.int a), some (.int b), some (.int (sp_add 0 (s4.1 5 (Int32.toNatClampNeg 0)))), some (.int 1)] [] s4
      refine ⟨sp_in rfl rfl, ?_⟩
      change ev_wp pg_F pg_lay none [] (ev_lu pg_c81) (fun _ => false) _ 1960 30 [some (.ref 1), some (.int a), some (.int b), some (.int (sp_add 0 (s4.1 5 (Int32.toNatClampNeg 0)))), some (.int 1)] [.int (s4.1 5 (Int32.toNatClampNeg 1)), .int 1, .int a, .ref 1] s4
      refine ⟨trivial, ?_⟩
      rintro _ s9 ⟨v7, k8, rfl⟩
      have r10 := r5.tr k8.2
      change ev_wp pg_F pg_lay none [] (ev_lu pg_c81) (fun _ => false) _ 1959 33 [some (.ref 1), some (.int a), some (.int b), some (.int (sp_add 0 (s4.1 5 (Int32.toNatClampNeg 0)))), some (.int 1)] [.int v7] s9
      refine ⟨fun (h11 : v7 = 0) => ?_, fun (h11 : ¬ v7 = 0) => ?_⟩
      · skip
        change ev_wp pg_F pg_lay none [] (ev_lu pg_c81) (fun _ => false) _ 1958 36 [some (.ref 1), some (.int a), some (.int b), some (.int (sp_add 0 (s4.1 5 (Int32.toNatClampNeg 0)))), some (.int 1)] [] s9
        exact ⟨_, rfl, by first | exact Or.inl rfl | exact Or.inr rfl, Nat.le_of_eq (congrArg Prod.snd r10.2.1), _, ⟨by first | exact Or.inl rfl | exact Or.inr rfl, r10⟩, rfl⟩
      · skip
        change ev_wp pg_F pg_lay none [] (ev_lu pg_c81) (fun _ => false) _ 1958 38 [some (.ref 1), some (.int a), some (.int b), some (.int (sp_add 0 (s4.1 5 (Int32.toNatClampNeg 0)))), some (.int 1)] [] s9
        refine ⟨sp_in rfl rfl, ?_⟩
        change ev_wp pg_F pg_lay none [] (ev_lu pg_c81) (fun _ => false) _ 1953 46 [some (.ref 1), some (.int a), some (.int b), some (.int (sp_add 0 (s4.1 5 (Int32.toNatClampNeg 0)))), some (.int 1)] [.int (s9.1 5 (Int32.toNatClampNeg 1)), .int (sp_add 0 (s4.1 5 (Int32.toNatClampNeg 0)))] s9
        refine ⟨trivial, ?_⟩
        rintro _ _ ⟨rfl, rfl⟩
        change ev_wp pg_F pg_lay none [] (ev_lu pg_c81) (fun _ => false) _ 1952 49 [some (.ref 1), some (.int a), some (.int b), some (.int (sp_add 0 (s4.1 5 (Int32.toNatClampNeg 0)))), some (.int 1)] [.int (sp_add (sp_add 0 (s4.1 5 (Int32.toNatClampNeg 0))) (s9.1 5 (Int32.toNatClampNeg 1)))] s9
        refine ⟨fun h => absurd h (by decide), fun _ => ?_⟩
        change ev_wp pg_F pg_lay none [] (ev_lu pg_c81) (fun _ => false) _ 1946 19 [some (.ref 1), some (.int a), some (.int b), some (.int (sp_add (sp_add 0 (s4.1 5 (Int32.toNatClampNeg 0))) (s9.1 5 (Int32.toNatClampNeg 1)))), some (.int 2)] [] s9
        refine ⟨sp_in rfl rfl, ?_⟩
        change ev_wp pg_F pg_lay none [] (ev_lu pg_c81) (fun _ => false) _ 1939 30 [some (.ref 1), some (.int a), some (.int b), some (.int (sp_add (sp_add 0 (s4.1 5 (Int32.toNatClampNeg 0))) (s9.1 5 (Int32.toNatClampNeg 1)))), some (.int 2)] [.int (s9.1 5 (Int32.toNatClampNeg 2)), .int 2, .int a, .ref 1] s9
        refine ⟨trivial, ?_⟩
        rintro _ s14 ⟨v12, k13, rfl⟩
        have r15 := r10.tr k13.2
        change ev_wp pg_F pg_lay none [] (ev_lu pg_c81) (fun _ => false) _ 1938 33 [some (.ref 1), some (.int a), some (.int b), some (.int (sp_add (sp_add 0 (s4.1 5 (Int32.toNatClampNeg 0))) (s9.1 5 (Int32.toNatClampNeg 1)))), some (.int 2)] [.int v12] s14
        refine ⟨fun (h16 : v12 = 0) => ?_, fun (h16 : ¬ v12 = 0) => ?_⟩
        · skip
          change ev_wp pg_F pg_lay none [] (ev_lu pg_c81) (fun _ => false) _ 1937 36 [some (.ref 1), some (.int a), some (.int b), some (.int (sp_add (sp_add 0 (s4.1 5 (Int32.toNatClampNeg 0))) (s9.1 5 (Int32.toNatClampNeg 1)))), some (.int 2)] [] s14
          exact ⟨_, rfl, by first | exact Or.inl rfl | exact Or.inr rfl, Nat.le_of_eq (congrArg Prod.snd r15.2.1), _, ⟨by first | exact Or.inl rfl | exact Or.inr rfl, r15⟩, rfl⟩
        · skip
          change ev_wp pg_F pg_lay none [] (ev_lu pg_c81) (fun _ => false) _ 1937 38 [some (.ref 1), some (.int a), some (.int b), some (.int (sp_add (sp_add 0 (s4.1 5 (Int32.toNatClampNeg 0))) (s9.1 5 (Int32.toNatClampNeg 1)))), some (.int 2)] [] s14
          refine ⟨sp_in rfl rfl, ?_⟩
          change ev_wp pg_F pg_lay none [] (ev_lu pg_c81) (fun _ => false) _ 1932 46 [some (.ref 1), some (.int a), some (.int b), some (.int (sp_add (sp_add 0 (s4.1 5 (Int32.toNatClampNeg 0))) (s9.1 5 (Int32.toNatClampNeg 1)))), some (.int 2)] [.int (s14.1 5 (Int32.toNatClampNeg 2)), .int (sp_add (sp_add 0 (s4.1 5 (Int32.toNatClampNeg 0))) (s9.1 5 (Int32.toNatClampNeg 1)))] s14
          refine ⟨trivial, ?_⟩
          rintro _ _ ⟨rfl, rfl⟩
          change ev_wp pg_F pg_lay none [] (ev_lu pg_c81) (fun _ => false) _ 1931 49 [some (.ref 1), some (.int a), some (.int b), some (.int (sp_add (sp_add 0 (s4.1 5 (Int32.toNatClampNeg 0))) (s9.1 5 (Int32.toNatClampNeg 1)))), some (.int 2)] [.int (sp_add (sp_add (sp_add 0 (s4.1 5 (Int32.toNatClampNeg 0))) (s9.1 5 (Int32.toNatClampNeg 1))) (s14.1 5 (Int32.toNatClampNeg 2)))] s14
          refine ⟨fun h => absurd h (by decide), fun _ => ?_⟩
          change ev_wp pg_F pg_lay none [] (ev_lu pg_c81) (fun _ => false) _ 1925 19 [some (.ref 1), some (.int a), some (.int b), some (.int (sp_add (sp_add (sp_add 0 (s4.1 5 (Int32.toNatClampNeg 0))) (s9.1 5 (Int32.toNatClampNeg 1))) (s14.1 5 (Int32.toNatClampNeg 2)))), some (.int 3)] [] s14
          refine ⟨sp_in rfl rfl, ?_⟩
          change ev_wp pg_F pg_lay none [] (ev_lu pg_c81) (fun _ => false) _ 1918 30 [some (.ref 1), some (.int a), some (.int b), some (.int (sp_add (sp_add (sp_add 0 (s4.1 5 (Int32.toNatClampNeg 0))) (s9.1 5 (Int32.toNatClampNeg 1))) (s14.1 5 (Int32.toNatClampNeg 2)))), some (.int 3)] [.int (s14.1 5 (Int32.toNatClampNeg 3)), .int 3, .int a, .ref 1] s14
          refine ⟨trivial, ?_⟩
          rintro _ s19 ⟨v17, k18, rfl⟩
          have r20 := r15.tr k18.2
          change ev_wp pg_F pg_lay none [] (ev_lu pg_c81) (fun _ => false) _ 1917 33 [some (.ref 1), some (.int a), some (.int b), some (.int (sp_add (sp_add (sp_add 0 (s4.1 5 (Int32.toNatClampNeg 0))) (s9.1 5 (Int32.toNatClampNeg 1))) (s14.1 5 (Int32.toNatClampNeg 2)))), some (.int 3)] [.int v17] s19
          refine ⟨fun (h21 : v17 = 0) => ?_, fun (h21 : ¬ v17 = 0) => ?_⟩
          · skip
            change ev_wp pg_F pg_lay none [] (ev_lu pg_c81) (fun _ => false) _ 1916 36 [some (.ref 1), some (.int a), some (.int b), some (.int (sp_add (sp_add (sp_add 0 (s4.1 5 (Int32.toNatClampNeg 0))) (s9.1 5 (Int32.toNatClampNeg 1))) (s14.1 5 (Int32.toNatClampNeg 2)))), some (.int 3)] [] s19
            exact ⟨_, rfl, by first | exact Or.inl rfl | exact Or.inr rfl, Nat.le_of_eq (congrArg Prod.snd r20.2.1), _, ⟨by first | exact Or.inl rfl | exact Or.inr rfl, r20⟩, rfl⟩
          · skip
            change ev_wp pg_F pg_lay none [] (ev_lu pg_c81) (fun _ => false) _ 1916 38 [some (.ref 1), some (.int a), some (.int b), some (.int (sp_add (sp_add (sp_add 0 (s4.1 5 (Int32.toNatClampNeg 0))) (s9.1 5 (Int32.toNatClampNeg 1))) (s14.1 5 (Int32.toNatClampNeg 2)))), some (.int 3)] [] s19
            refine ⟨sp_in rfl rfl, ?_⟩
            change ev_wp pg_F pg_lay none [] (ev_lu pg_c81) (fun _ => false) _ 1911 46 [some (.ref 1), some (.int a), some (.int b), some (.int (sp_add (sp_add (sp_add 0 (s4.1 5 (Int32.toNatClampNeg 0))) (s9.1 5 (Int32.toNatClampNeg 1))) (s14.1 5 (Int32.toNatClampNeg 2)))), some (.int 3)] [.int (s19.1 5 (Int32.toNatClampNeg 3)), .int (sp_add (sp_add (sp_add 0 (s4.1 5 (Int32.toNatClampNeg 0))) (s9.1 5 (Int32.toNatClampNeg 1))) (s14.1 5 (Int32.toNatClampNeg 2)))] s19
            refine ⟨trivial, ?_⟩
            rintro _ _ ⟨rfl, rfl⟩
            change ev_wp pg_F pg_lay none [] (ev_lu pg_c81) (fun _ => false) _ 1910 49 [some (.ref 1), some (.int a), some (.int b), some (.int (sp_add (sp_add (sp_add 0 (s4.1 5 (Int32.toNatClampNeg 0))) (s9.1 5 (Int32.toNatClampNeg 1))) (s14.1 5 (Int32.toNatClampNeg 2)))), some (.int 3)] [.int (sp_add (sp_add (sp_add (sp_add 0 (s4.1 5 (Int32.toNatClampNeg 0))) (s9.1 5 (Int32.toNatClampNeg 1))) (s14.1 5 (Int32.toNatClampNeg 2))) (s19.1 5 (Int32.toNatClampNeg 3)))] s19
            refine ⟨fun h => absurd h (by decide), fun _ => ?_⟩
            change ev_wp pg_F pg_lay none [] (ev_lu pg_c81) (fun _ => false) _ 1904 19 [some (.ref 1), some (.int a), some (.int b), some (.int (sp_add (sp_add (sp_add (sp_add 0 (s4.1 5 (Int32.toNatClampNeg 0))) (s9.1 5 (Int32.toNatClampNeg 1))) (s14.1 5 (Int32.toNatClampNeg 2))) (s19.1 5 (Int32.toNatClampNeg 3)))), some (.int 4)] [] s19
            refine ⟨sp_in rfl rfl, ?_⟩
            change ev_wp pg_F pg_lay none [] (ev_lu pg_c81) (fun _ => false) _ 1897 30 [some (.ref 1), some (.int a), some (.int b), some (.int (sp_add (sp_add (sp_add (sp_add 0 (s4.1 5 (Int32.toNatClampNeg 0))) (s9.1 5 (Int32.toNatClampNeg 1))) (s14.1 5 (Int32.toNatClampNeg 2))) (s19.1 5 (Int32.toNatClampNeg 3)))), some (.int 4)] [.int (s19.1 5 (Int32.toNatClampNeg 4)), .int 4, .int a, .ref 1] s19
            refine ⟨trivial, ?_⟩
            rintro _ s24 ⟨v22, k23, rfl⟩
            have r25 := r20.tr k23.2
            change ev_wp pg_F pg_lay none [] (ev_lu pg_c81) (fun _ => false) _ 1896 33 [some (.ref 1), some (.int a), some (.int b), some (.int (sp_add (sp_add (sp_add (sp_add 0 (s4.1 5 (Int32.toNatClampNeg 0))) (s9.1 5 (Int32.toNatClampNeg 1))) (s14.1 5 (Int32.toNatClampNeg 2))) (s19.1 5 (Int32.toNatClampNeg 3)))), some (.int 4)] [.int v22] s24
            refine ⟨fun (h26 : v22 = 0) => ?_, fun (h26 : ¬ v22 = 0) => ?_⟩
            · skip
              change ev_wp pg_F pg_lay none [] (ev_lu pg_c81) (fun _ => false) _ 1895 36 [some (.ref 1), some (.int a), some (.int b), some (.int (sp_add (sp_add (sp_add (sp_add 0 (s4.1 5 (Int32.toNatClampNeg 0))) (s9.1 5 (Int32.toNatClampNeg 1))) (s14.1 5 (Int32.toNatClampNeg 2))) (s19.1 5 (Int32.toNatClampNeg 3)))), some (.int 4)] [] s24
              exact ⟨_, rfl, by first | exact Or.inl rfl | exact Or.inr rfl, Nat.le_of_eq (congrArg Prod.snd r25.2.1), _, ⟨by first | exact Or.inl rfl | exact Or.inr rfl, r25⟩, rfl⟩
            · skip
              change ev_wp pg_F pg_lay none [] (ev_lu pg_c81) (fun _ => false) _ 1895 38 [some (.ref 1), some (.int a), some (.int b), some (.int (sp_add (sp_add (sp_add (sp_add 0 (s4.1 5 (Int32.toNatClampNeg 0))) (s9.1 5 (Int32.toNatClampNeg 1))) (s14.1 5 (Int32.toNatClampNeg 2))) (s19.1 5 (Int32.toNatClampNeg 3)))), some (.int 4)] [] s24
              refine ⟨sp_in rfl rfl, ?_⟩
              change ev_wp pg_F pg_lay none [] (ev_lu pg_c81) (fun _ => false) _ 1890 46 [some (.ref 1), some (.int a), some (.int b), some (.int (sp_add (sp_add (sp_add (sp_add 0 (s4.1 5 (Int32.toNatClampNeg 0))) (s9.1 5 (Int32.toNatClampNeg 1))) (s14.1 5 (Int32.toNatClampNeg 2))) (s19.1 5 (Int32.toNatClampNeg 3)))), some (.int 4)] [.int (s24.1 5 (Int32.toNatClampNeg 4)), .int (sp_add (sp_add (sp_add (sp_add 0 (s4.1 5 (Int32.toNatClampNeg 0))) (s9.1 5 (Int32.toNatClampNeg 1))) (s14.1 5 (Int32.toNatClampNeg 2))) (s19.1 5 (Int32.toNatClampNeg 3)))] s24
              refine ⟨trivial, ?_⟩
              rintro _ _ ⟨rfl, rfl⟩
              change ev_wp pg_F pg_lay none [] (ev_lu pg_c81) (fun _ => false) _ 1889 49 [some (.ref 1), some (.int a), some (.int b), some (.int (sp_add (sp_add (sp_add (sp_add 0 (s4.1 5 (Int32.toNatClampNeg 0))) (s9.1 5 (Int32.toNatClampNeg 1))) (s14.1 5 (Int32.toNatClampNeg 2))) (s19.1 5 (Int32.toNatClampNeg 3)))), some (.int 4)] [.int (sp_add (sp_add (sp_add (sp_add (sp_add 0 (s4.1 5 (Int32.toNatClampNeg 0))) (s9.1 5 (Int32.toNatClampNeg 1))) (s14.1 5 (Int32.toNatClampNeg 2))) (s19.1 5 (Int32.toNatClampNeg 3))) (s24.1 5 (Int32.toNatClampNeg 4)))] s24
              refine ⟨fun h => absurd h (by decide), fun _ => ?_⟩
              change ev_wp pg_F pg_lay none [] (ev_lu pg_c81) (fun _ => false) _ 1883 19 [some (.ref 1), some (.int a), some (.int b), some (.int (sp_add (sp_add (sp_add (sp_add (sp_add 0 (s4.1 5 (Int32.toNatClampNeg 0))) (s9.1 5 (Int32.toNatClampNeg 1))) (s14.1 5 (Int32.toNatClampNeg 2))) (s19.1 5 (Int32.toNatClampNeg 3))) (s24.1 5 (Int32.toNatClampNeg 4)))), some (.int 5)] [] s24
              refine ⟨sp_in rfl rfl, ?_⟩
              change ev_wp pg_F pg_lay none [] (ev_lu pg_c81) (fun _ => false) _ 1876 30 [some (.ref 1), some (.int a), some (.int b), some (.int (sp_add (sp_add (sp_add (sp_add (sp_add 0 (s4.1 5 (Int32.toNatClampNeg 0))) (s9.1 5 (Int32.toNatClampNeg 1))) (s14.1 5 (Int32.toNatClampNeg 2))) (s19.1 5 (Int32.toNatClampNeg 3))) (s24.1 5 (Int32.toNatClampNeg 4)))), some (.int 5)] [.int (s24.1 5 (Int32.toNatClampNeg 5)), .int 5, .int a, .ref 1] s24
              refine ⟨trivial, ?_⟩
              rintro _ s29 ⟨v27, k28, rfl⟩
              have r30 := r25.tr k28.2
              change ev_wp pg_F pg_lay none [] (ev_lu pg_c81) (fun _ => false) _ 1875 33 [some (.ref 1), some (.int a), some (.int b), some (.int (sp_add (sp_add (sp_add (sp_add (sp_add 0 (s4.1 5 (Int32.toNatClampNeg 0))) (s9.1 5 (Int32.toNatClampNeg 1))) (s14.1 5 (Int32.toNatClampNeg 2))) (s19.1 5 (Int32.toNatClampNeg 3))) (s24.1 5 (Int32.toNatClampNeg 4)))), some (.int 5)] [.int v27] s29
              refine ⟨fun (h31 : v27 = 0) => ?_, fun (h31 : ¬ v27 = 0) => ?_⟩
              · skip
                change ev_wp pg_F pg_lay none [] (ev_lu pg_c81) (fun _ => false) _ 1874 36 [some (.ref 1), some (.int a), some (.int b), some (.int (sp_add (sp_add (sp_add (sp_add (sp_add 0 (s4.1 5 (Int32.toNatClampNeg 0))) (s9.1 5 (Int32.toNatClampNeg 1))) (s14.1 5 (Int32.toNatClampNeg 2))) (s19.1 5 (Int32.toNatClampNeg 3))) (s24.1 5 (Int32.toNatClampNeg 4)))), some (.int 5)] [] s29
                exact ⟨_, rfl, by first | exact Or.inl rfl | exact Or.inr rfl, Nat.le_of_eq (congrArg Prod.snd r30.2.1), _, ⟨by first | exact Or.inl rfl | exact Or.inr rfl, r30⟩, rfl⟩
              · skip
                change ev_wp pg_F pg_lay none [] (ev_lu pg_c81) (fun _ => false) _ 1874 38 [some (.ref 1), some (.int a), some (.int b), some (.int (sp_add (sp_add (sp_add (sp_add (sp_add 0 (s4.1 5 (Int32.toNatClampNeg 0))) (s9.1 5 (Int32.toNatClampNeg 1))) (s14.1 5 (Int32.toNatClampNeg 2))) (s19.1 5 (Int32.toNatClampNeg 3))) (s24.1 5 (Int32.toNatClampNeg 4)))), some (.int 5)] [] s29
                refine ⟨sp_in rfl rfl, ?_⟩
                change ev_wp pg_F pg_lay none [] (ev_lu pg_c81) (fun _ => false) _ 1869 46 [some (.ref 1), some (.int a), some (.int b), some (.int (sp_add (sp_add (sp_add (sp_add (sp_add 0 (s4.1 5 (Int32.toNatClampNeg 0))) (s9.1 5 (Int32.toNatClampNeg 1))) (s14.1 5 (Int32.toNatClampNeg 2))) (s19.1 5 (Int32.toNatClampNeg 3))) (s24.1 5 (Int32.toNatClampNeg 4)))), some (.int 5)] [.int (s29.1 5 (Int32.toNatClampNeg 5)), .int (sp_add (sp_add (sp_add (sp_add (sp_add 0 (s4.1 5 (Int32.toNatClampNeg 0))) (s9.1 5 (Int32.toNatClampNeg 1))) (s14.1 5 (Int32.toNatClampNeg 2))) (s19.1 5 (Int32.toNatClampNeg 3))) (s24.1 5 (Int32.toNatClampNeg 4)))] s29
                refine ⟨trivial, ?_⟩
                rintro _ _ ⟨rfl, rfl⟩
                change ev_wp pg_F pg_lay none [] (ev_lu pg_c81) (fun _ => false) _ 1868 49 [some (.ref 1), some (.int a), some (.int b), some (.int (sp_add (sp_add (sp_add (sp_add (sp_add 0 (s4.1 5 (Int32.toNatClampNeg 0))) (s9.1 5 (Int32.toNatClampNeg 1))) (s14.1 5 (Int32.toNatClampNeg 2))) (s19.1 5 (Int32.toNatClampNeg 3))) (s24.1 5 (Int32.toNatClampNeg 4)))), some (.int 5)] [.int (sp_add (sp_add (sp_add (sp_add (sp_add (sp_add 0 (s4.1 5 (Int32.toNatClampNeg 0))) (s9.1 5 (Int32.toNatClampNeg 1))) (s14.1 5 (Int32.toNatClampNeg 2))) (s19.1 5 (Int32.toNatClampNeg 3))) (s24.1 5 (Int32.toNatClampNeg 4))) (s29.1 5 (Int32.toNatClampNeg 5)))] s29
                refine ⟨fun h => absurd h (by decide), fun _ => ?_⟩
                change ev_wp pg_F pg_lay none [] (ev_lu pg_c81) (fun _ => false) _ 1862 19 [some (.ref 1), some (.int a), some (.int b), some (.int (sp_add (sp_add (sp_add (sp_add (sp_add (sp_add 0 (s4.1 5 (Int32.toNatClampNeg 0))) (s9.1 5 (Int32.toNatClampNeg 1))) (s14.1 5 (Int32.toNatClampNeg 2))) (s19.1 5 (Int32.toNatClampNeg 3))) (s24.1 5 (Int32.toNatClampNeg 4))) (s29.1 5 (Int32.toNatClampNeg 5)))), some (.int 6)] [] s29
                refine ⟨sp_in rfl rfl, ?_⟩
                change ev_wp pg_F pg_lay none [] (ev_lu pg_c81) (fun _ => false) _ 1855 30 [some (.ref 1), some (.int a), some (.int b), some (.int (sp_add (sp_add (sp_add (sp_add (sp_add (sp_add 0 (s4.1 5 (Int32.toNatClampNeg 0))) (s9.1 5 (Int32.toNatClampNeg 1))) (s14.1 5 (Int32.toNatClampNeg 2))) (s19.1 5 (Int32.toNatClampNeg 3))) (s24.1 5 (Int32.toNatClampNeg 4))) (s29.1 5 (Int32.toNatClampNeg 5)))), some (.int 6)] [.int (s29.1 5 (Int32.toNatClampNeg 6)), .int 6, .int a, .ref 1] s29
                refine ⟨trivial, ?_⟩
                rintro _ s34 ⟨v32, k33, rfl⟩
                have r35 := r30.tr k33.2
                change ev_wp pg_F pg_lay none [] (ev_lu pg_c81) (fun _ => false) _ 1854 33 [some (.ref 1), some (.int a), some (.int b), some (.int (sp_add (sp_add (sp_add (sp_add (sp_add (sp_add 0 (s4.1 5 (Int32.toNatClampNeg 0))) (s9.1 5 (Int32.toNatClampNeg 1))) (s14.1 5 (Int32.toNatClampNeg 2))) (s19.1 5 (Int32.toNatClampNeg 3))) (s24.1 5 (Int32.toNatClampNeg 4))) (s29.1 5 (Int32.toNatClampNeg 5)))), some (.int 6)] [.int v32] s34
                refine ⟨fun (h36 : v32 = 0) => ?_, fun (h36 : ¬ v32 = 0) => ?_⟩
                · skip
                  change ev_wp pg_F pg_lay none [] (ev_lu pg_c81) (fun _ => false) _ 1853 36 [some (.ref 1), some (.int a), some (.int b), some (.int (sp_add (sp_add (sp_add (sp_add (sp_add (sp_add 0 (s4.1 5 (Int32.toNatClampNeg 0))) (s9.1 5 (Int32.toNatClampNeg 1))) (s14.1 5 (Int32.toNatClampNeg 2))) (s19.1 5 (Int32.toNatClampNeg 3))) (s24.1 5 (Int32.toNatClampNeg 4))) (s29.1 5 (Int32.toNatClampNeg 5)))), some (.int 6)] [] s34
                  exact ⟨_, rfl, by first | exact Or.inl rfl | exact Or.inr rfl, Nat.le_of_eq (congrArg Prod.snd r35.2.1), _, ⟨by first | exact Or.inl rfl | exact Or.inr rfl, r35⟩, rfl⟩
                · skip
                  change ev_wp pg_F pg_lay none [] (ev_lu pg_c81) (fun _ => false) _ 1853 38 [some (.ref 1), some (.int a), some (.int b), some (.int (sp_add (sp_add (sp_add (sp_add (sp_add (sp_add 0 (s4.1 5 (Int32.toNatClampNeg 0))) (s9.1 5 (Int32.toNatClampNeg 1))) (s14.1 5 (Int32.toNatClampNeg 2))) (s19.1 5 (Int32.toNatClampNeg 3))) (s24.1 5 (Int32.toNatClampNeg 4))) (s29.1 5 (Int32.toNatClampNeg 5)))), some (.int 6)] [] s34
                  refine ⟨sp_in rfl rfl, ?_⟩
                  change ev_wp pg_F pg_lay none [] (ev_lu pg_c81) (fun _ => false) _ 1848 46 [some (.ref 1), some (.int a), some (.int b), some (.int (sp_add (sp_add (sp_add (sp_add (sp_add (sp_add 0 (s4.1 5 (Int32.toNatClampNeg 0))) (s9.1 5 (Int32.toNatClampNeg 1))) (s14.1 5 (Int32.toNatClampNeg 2))) (s19.1 5 (Int32.toNatClampNeg 3))) (s24.1 5 (Int32.toNatClampNeg 4))) (s29.1 5 (Int32.toNatClampNeg 5)))), some (.int 6)] [.int (s34.1 5 (Int32.toNatClampNeg 6)), .int (sp_add (sp_add (sp_add (sp_add (sp_add (sp_add 0 (s4.1 5 (Int32.toNatClampNeg 0))) (s9.1 5 (Int32.toNatClampNeg 1))) (s14.1 5 (Int32.toNatClampNeg 2))) (s19.1 5 (Int32.toNatClampNeg 3))) (s24.1 5 (Int32.toNatClampNeg 4))) (s29.1 5 (Int32.toNatClampNeg 5)))] s34
                  refine ⟨trivial, ?_⟩
                  rintro _ _ ⟨rfl, rfl⟩
                  change ev_wp pg_F pg_lay none [] (ev_lu pg_c81) (fun _ => false) _ 1847 49 [some (.ref 1), some (.int a), some (.int b), some (.int (sp_add (sp_add (sp_add (sp_add (sp_add (sp_add 0 (s4.1 5 (Int32.toNatClampNeg 0))) (s9.1 5 (Int32.toNatClampNeg 1))) (s14.1 5 (Int32.toNatClampNeg 2))) (s19.1 5 (Int32.toNatClampNeg 3))) (s24.1 5 (Int32.toNatClampNeg 4))) (s29.1 5 (Int32.toNatClampNeg 5)))), some (.int 6)] [.int (sp_add (sp_add (sp_add (sp_add (sp_add (sp_add (sp_add 0 (s4.1 5 (Int32.toNatClampNeg 0))) (s9.1 5 (Int32.toNatClampNeg 1))) (s14.1 5 (Int32.toNatClampNeg 2))) (s19.1 5 (Int32.toNatClampNeg 3))) (s24.1 5 (Int32.toNatClampNeg 4))) (s29.1 5 (Int32.toNatClampNeg 5))) (s34.1 5 (Int32.toNatClampNeg 6)))] s34
                  refine ⟨fun _ => ?_, fun h => absurd (by decide) h⟩
                  change ev_wp pg_F pg_lay none [] (ev_lu pg_c81) (fun _ => false) _ 1841 56 [some (.ref 1), some (.int a), some (.int b), some (.int (sp_add (sp_add (sp_add (sp_add (sp_add (sp_add (sp_add 0 (s4.1 5 (Int32.toNatClampNeg 0))) (s9.1 5 (Int32.toNatClampNeg 1))) (s14.1 5 (Int32.toNatClampNeg 2))) (s19.1 5 (Int32.toNatClampNeg 3))) (s24.1 5 (Int32.toNatClampNeg 4))) (s29.1 5 (Int32.toNatClampNeg 5))) (s34.1 5 (Int32.toNatClampNeg 6)))), some (.int 7)] [] s34
                  refine ⟨trivial, ?_⟩
                  rintro _ s39 ⟨v37, k38, rfl⟩
                  have r40 := r35.tr k38.2
                  exact ⟨_, rfl, k38.1, Nat.le_of_eq (congrArg Prod.snd r40.2.1), _, ⟨k38.1, r40⟩, rfl⟩
  · cases h
theorem pr_80 : pg_Rn pg_F 80 pg_y80 [] pg_t80 := by
  intro vs σ P h hp
  replace h : pf_80 vs σ = some P := h
  unfold pf_80 at h
  split at h
  · rename_i a
    cases h
    refine ⟨by simp [Value.category], Nat.le_of_ble_eq_true rfl, ev_go pg_hhs pg_cd pg_o80 (fun _ => false) 2000 (Q1 := ev_at (ev_tl pg_t80) σ.2.2 (sp_i True (fun v => sp_zero σ → v = -1) σ).2) ?_ (fun _ _ _ _ h => ev_fin h)⟩
    change ev_wp pg_F pg_lay none [] (ev_lu pg_c80) (fun _ => false) _ 2000 0 [some (.ref 1), some (.int a), none, none] [] σ
    refine ⟨trivial, ?_⟩
    rintro _ _ ⟨v1, k2, rfl, rfl⟩
    change ev_wp pg_F pg_lay none [] (ev_lu pg_c80) (fun _ => false) _ 1997 5 [some (.ref 1), some (.int a), none, none] [.int v1] σ
    refine ⟨trivial, ?_⟩
    rintro _ _ ⟨v3, k4, rfl, rfl⟩
    change ev_wp pg_F pg_lay none [] (ev_lu pg_c80) (fun _ => false) _ 1993 11 [some (.ref 1), some (.int a), some (.int v1), none] [.int v3] σ
    refine ⟨fun (h5 : v3 = 0) => ?_, fun (h5 : ¬ v3 = 0) => ?_⟩
    · skip
      change ev_wp pg_F pg_lay none [] (ev_lu pg_c80) (fun _ => false) _ 1992 14 [some (.ref 1), some (.int a), some (.int v1), none] [] σ
      refine ⟨trivial, ?_⟩
      rintro _ _ ⟨v6, k7, rfl, rfl⟩
      change ev_wp pg_F pg_lay none [] (ev_lu pg_c80) (fun _ => false) _ 1989 19 [some (.ref 1), some (.int a), some (.int v1), none] [.int v6] σ
      refine ⟨fun (h8 : v6 = 0) => ?_, fun (h8 : ¬ v6 = 0) => ?_⟩
      · skip
        change ev_wp pg_F pg_lay none [] (ev_lu pg_c80) (fun _ => false) _ 1988 26 [some (.ref 1), some (.int a), some (.int v1), none] [] σ
        exact ⟨_, rfl, Nat.le_refl _, _, fun hz => by first | rfl, rfl, rfl⟩
      · skip
        change ev_wp pg_F pg_lay none [] (ev_lu pg_c80) (fun _ => false) _ 1988 22 [some (.ref 1), some (.int a), some (.int v1), none] [] σ
        exact ⟨_, rfl, Nat.le_refl _, _, fun hz => by first | rfl | (exact absurd (k4.2 hz) h8) | (exact absurd (k7.2 hz) h8), rfl, rfl⟩
    · skip
      change ev_wp pg_F pg_lay none [] (ev_lu pg_c80) (fun _ => false) _ 1992 28 [some (.ref 1), some (.int a), some (.int v1), none] [] σ
      refine ⟨trivial, ?_⟩
      rintro _ _ ⟨v9, k10, rfl, rfl⟩
      change ev_wp pg_F pg_lay none [] (ev_lu pg_c80) (fun _ => false) _ 1989 33 [some (.ref 1), some (.int a), some (.int v1), none] [.int v9] σ
      refine ⟨fun (h11 : v9 = 0) => ?_, fun (h11 : ¬ v9 = 0) => ?_⟩
      · skip
        change ev_wp pg_F pg_lay none [] (ev_lu pg_c80) (fun _ => false) _ 1988 36 [some (.ref 1), some (.int a), some (.int v1), none] [] σ
        exact ⟨_, rfl, Nat.le_refl _, _, fun hz => by first | rfl | (exact absurd (k4.2 hz) h5) | (exact absurd (k10.2 hz) h5), rfl, rfl⟩
      · skip
        change ev_wp pg_F pg_lay none [] (ev_lu pg_c80) (fun _ => false) _ 1988 38 [some (.ref 1), some (.int a), some (.int v1), none] [] σ
        refine ⟨trivial, ?_⟩
        rintro _ _ ⟨rfl, rfl⟩
        change ev_wp pg_F pg_lay none [] (ev_lu pg_c80) (fun _ => false) _ 1984 44 [some (.ref 1), some (.int a), some (.int v1), none] [.int (sp_at σ v1 0)] σ
        refine ⟨trivial, ?_⟩
        rintro _ _ ⟨rfl, rfl⟩
        change ev_wp pg_F pg_lay none [] (ev_lu pg_c80) (fun _ => false) _ 1980 50 [some (.ref 1), some (.int a), some (.int v1), none] [.int (sp_at σ a 0), .int (sp_at σ v1 0)] σ
        refine ⟨fun (h12 : (((sp_at σ v1 0) - (sp_at σ a 0)) &&& 65535) < 1) => ?_, fun (h12 : ¬ (((sp_at σ v1 0) - (sp_at σ a 0)) &&& 65535) < 1) => ?_⟩
        · skip
          change ev_wp pg_F pg_lay none [] (ev_lu pg_c80) (fun _ => false) _ 1973 71 [some (.ref 1), some (.int a), some (.int v1), some (.int (((sp_at σ v1 0) - (sp_at σ a 0)) &&& 65535))] [] σ
          exact ⟨_, rfl, Nat.le_refl _, _, fun hz => by first | rfl | (exact absurd (k4.2 hz) h5) | (exact absurd (k4.2 hz) h11) | (exact absurd (k10.2 hz) h5) | (exact absurd (k10.2 hz) h11), rfl, rfl⟩
        · skip
          change ev_wp pg_F pg_lay none [] (ev_lu pg_c80) (fun _ => false) _ 1973 60 [some (.ref 1), some (.int a), some (.int v1), some (.int (((sp_at σ v1 0) - (sp_at σ a 0)) &&& 65535))] [] σ
          refine ⟨fun (h13 : 32767 < (((sp_at σ v1 0) - (sp_at σ a 0)) &&& 65535)) => ?_, fun (h13 : ¬ 32767 < (((sp_at σ v1 0) - (sp_at σ a 0)) &&& 65535)) => ?_⟩
          · skip
            change ev_wp pg_F pg_lay none [] (ev_lu pg_c80) (fun _ => false) _ 1970 71 [some (.ref 1), some (.int a), some (.int v1), some (.int (((sp_at σ v1 0) - (sp_at σ a 0)) &&& 65535))] [] σ
            exact ⟨_, rfl, Nat.le_refl _, _, fun hz => by first | rfl | (exact absurd (k4.2 hz) h5) | (exact absurd (k4.2 hz) h11) | (exact absurd (k4.2 hz) h12) | (exact absurd (k10.2 hz) h5) | (exact absurd (k10.2 hz) h11) | (exact absurd (k10.2 hz) h12), rfl, rfl⟩
          · skip
            change ev_wp pg_F pg_lay none [] (ev_lu pg_c80) (fun _ => false) _ 1970 67 [some (.ref 1), some (.int a), some (.int v1), some (.int (((sp_at σ v1 0) - (sp_at σ a 0)) &&& 65535))] [] σ
            exact ⟨_, rfl, Nat.le_refl _, _, fun hz => by first | rfl | (exact absurd (k4.2 hz) h5) | (exact absurd (k4.2 hz) h11) | (exact absurd (k4.2 hz) h12) | (exact absurd (k4.2 hz) h13) | (exact absurd (k10.2 hz) h5) | (exact absurd (k10.2 hz) h11) | (exact absurd (k10.2 hz) h12) | (exact absurd (k10.2 hz) h13), rfl, rfl⟩
  · cases h
theorem pr_96 : pg_Rn pg_F 96 pg_y96 [] pg_t96 := by
  intro vs σ P h hp
  replace h : pf_96 vs σ = some P := h
  unfold pf_96 at h
  split at h
  · rename_i a
    cases h
    refine ⟨by simp [Value.category], Nat.le_of_ble_eq_true rfl, ev_go pg_hhs pg_cd pg_o96 (fun _ => false) 2000 (Q1 := ev_at (ev_tl pg_t96) σ.2.2 (sp_m True (fun v σ' => sp_b v ∧ sp_w σ σ')).2) ?_ (fun _ _ _ _ h => ev_fin h)⟩
    change ev_wp pg_F pg_lay none [] (ev_lu pg_c96) (fun _ => false) _ 2000 0 [some (.ref 1), some (.int a), none] [] σ
    refine ⟨trivial, ?_⟩
    rintro _ _ ⟨v1, k2, rfl, rfl⟩
    change ev_wp pg_F pg_lay none [] (ev_lu pg_c96) (fun _ => false) _ 1997 5 [some (.ref 1), some (.int a), none] [.int v1] σ
    refine ⟨fun (h3 : v1 = (-1)) => ?_, fun (h3 : ¬ v1 = (-1)) => ?_⟩
    · skip
      change ev_wp pg_F pg_lay none [] (ev_lu pg_c96) (fun _ => false) _ 1993 11 [some (.ref 1), some (.int a), some (.int v1)] [] σ
      refine ⟨trivial, ?_⟩
      rintro _ s6 ⟨v4, k5, rfl⟩
      have r7 := (sp_w.rf σ).tr k5.2
      exact ⟨_, rfl, k5.1, Nat.le_of_eq (congrArg Prod.snd r7.2.1), _, ⟨k5.1, r7⟩, rfl⟩
    · skip
      change ev_wp pg_F pg_lay none [] (ev_lu pg_c96) (fun _ => false) _ 1993 18 [some (.ref 1), some (.int a), some (.int v1)] [] σ
      refine ⟨trivial, ?_⟩
      rintro _ _ ⟨v8, k9, rfl, rfl⟩
      change ev_wp pg_F pg_lay none [] (ev_lu pg_c96) (fun _ => false) _ 1989 24 [some (.ref 1), some (.int a), some (.int v1)] [.int v8, .ref 1] σ
      refine ⟨trivial, ?_⟩
      rintro _ _ ⟨rfl, rfl⟩
      change ev_wp pg_F pg_lay none [] (ev_lu pg_c96) (fun _ => false) _ 1985 30 [some (.ref 1), some (.int a), some (.int v1)] [.int (sp_at σ v1 0), .int v8, .ref 1] σ
      refine ⟨trivial, ?_⟩
      rintro _ s12 ⟨v10, k11, rfl⟩
      have r13 := (sp_w.rf σ).tr k11.2
      exact ⟨_, rfl, k11.1, Nat.le_of_eq (congrArg Prod.snd r13.2.1), _, ⟨k11.1, r13⟩, rfl⟩
  · cases h
theorem pr_45 : pg_Rn pg_F 45 pg_y45 [] pg_t45 := by
  intro vs σ P h hp
  replace h : pf_45 vs σ = some P := h
  unfold pf_45 at h
  split at h
  · rename_i a b c d
    cases h
    refine ⟨by simp [Value.category], Nat.le_of_ble_eq_true rfl, ev_go pg_hhs pg_cd pg_o45 (fun _ => false) 2000 (Q1 := ev_at (ev_tl pg_t45) σ.2.2 (sp_v (sp_inv σ) (fun σ' => sp_w σ σ')).2) ?_ (fun _ _ _ _ h => ev_fin h)⟩
    change ev_wp pg_F pg_lay none [] (ev_lu pg_c45) (fun _ => false) _ 2000 0 [some (.ref 0), some (.int a), some (.int b), some (.int c), some (.int d)] [] σ
    refine ⟨hp, ?_⟩
    rintro _ _ ⟨v1, k2, rfl, rfl⟩
    change ev_wp pg_F pg_lay none [] (ev_lu pg_c45) (fun _ => false) _ 1996 8 [some (.ref 0), some (.int a), some (.int b), some (.int c), some (.int d)] [.int v1, .ref 1] σ
    refine ⟨hp, ?_⟩
    rintro _ _ ⟨v3, k4, rfl, rfl⟩
    change ev_wp pg_F pg_lay none [] (ev_lu pg_c45) (fun _ => false) _ 1992 16 [some (.ref 0), some (.int a), some (.int b), some (.int c), some (.int d)] [.int v3, .int (v1 / 1440), .ref 1] σ
    refine ⟨trivial, ?_⟩
    rintro _ s6 ⟨k5, rfl⟩
    have r7 := (sp_w.rf σ).tr k5
    have i8 := k5.inv hp
    exact ⟨rfl, Nat.le_of_eq (congrArg Prod.snd r7.2.1), r7, rfl⟩
  · cases h
theorem pr_46 : pg_Rn pg_F 46 pg_y46 [] pg_t46 := by
  intro vs σ P h hp
  replace h : pf_46 vs σ = some P := h
  unfold pf_46 at h
  split at h
  · rename_i a b c
    cases h
    refine ⟨by simp [Value.category], Nat.le_of_ble_eq_true rfl, ev_go pg_hhs pg_cd pg_o46 (fun _ => false) 2000 (Q1 := ev_at (ev_tl pg_t46) σ.2.2 (sp_v True (fun σ' => sp_w σ σ')).2) ?_ (fun _ _ _ _ h => ev_fin h)⟩
    change ev_wp pg_F pg_lay none [] (ev_lu pg_c46) (fun _ => false) _ 2000 0 [some (.ref 0), some (.int a), some (.int b), some (.int c)] [] σ
    refine ⟨trivial, ?_⟩
    rintro _ s2 ⟨k1, rfl⟩
    have r3 := (sp_w.rf σ).tr k1
    exact ⟨rfl, Nat.le_of_eq (congrArg Prod.snd r3.2.1), r3, rfl⟩
  · cases h
theorem pr_70 : pg_Rn pg_F 70 pg_y70 [] pg_t70 := by
  intro vs σ P h hp
  replace h : pf_70 vs σ = some P := h
  unfold pf_70 at h
  split at h
  · rename_i a b c
    cases h
    refine ⟨by simp [Value.category], Nat.le_of_ble_eq_true rfl, ev_go pg_hhs pg_cd pg_o70 (fun _ => false) 2000 (Q1 := ev_at (ev_tl pg_t70) σ.2.2 (sp_i True sp_b σ).2) ?_ (fun _ _ _ _ h => ev_fin h)⟩
    change ev_wp pg_F pg_lay none [] (ev_lu pg_c70) (fun _ => false) _ 2000 0 [some (.ref 0), some (.int a), some (.int b), some (.int c)] [] σ
    refine ⟨fun (h1 : a = (-1)) => ?_, fun (h1 : ¬ a = (-1)) => ?_⟩
    · skip
      change ev_wp pg_F pg_lay none [] (ev_lu pg_c70) (fun _ => false) _ 1997 23 [some (.ref 0), some (.int a), some (.int b), some (.int c)] [] σ
      exact ⟨_, rfl, by first | exact Or.inl rfl | exact Or.inr rfl, Nat.le_refl _, _, by first | exact Or.inl rfl | exact Or.inr rfl, rfl, rfl⟩
    · skip
      change ev_wp pg_F pg_lay none [] (ev_lu pg_c70) (fun _ => false) _ 1997 5 [some (.ref 0), some (.int a), some (.int b), some (.int c)] [] σ
      refine ⟨trivial, ?_⟩
      rintro _ _ ⟨v2, k3, rfl, rfl⟩
      change ev_wp pg_F pg_lay none [] (ev_lu pg_c70) (fun _ => false) _ 1993 11 [some (.ref 0), some (.int a), some (.int b), some (.int c)] [.int v2, .int b] σ
      refine ⟨trivial, ?_⟩
      rintro _ _ ⟨rfl, rfl⟩
      change ev_wp pg_F pg_lay none [] (ev_lu pg_c70) (fun _ => false) _ 1990 16 [some (.ref 0), some (.int a), some (.int b), some (.int c)] [.int (sp_upto (b - v2) c)] σ
      refine ⟨fun (h4 : (sp_upto (b - v2) c) = 0) => ?_, fun (h4 : ¬ (sp_upto (b - v2) c) = 0) => ?_⟩
      · skip
        change ev_wp pg_F pg_lay none [] (ev_lu pg_c70) (fun _ => false) _ 1989 23 [some (.ref 0), some (.int a), some (.int b), some (.int c)] [] σ
        exact ⟨_, rfl, by first | exact Or.inl rfl | exact Or.inr rfl, Nat.le_refl _, _, by first | exact Or.inl rfl | exact Or.inr rfl, rfl, rfl⟩
      · skip
        change ev_wp pg_F pg_lay none [] (ev_lu pg_c70) (fun _ => false) _ 1989 19 [some (.ref 0), some (.int a), some (.int b), some (.int c)] [] σ
        exact ⟨_, rfl, by first | exact Or.inl rfl | exact Or.inr rfl, Nat.le_refl _, _, by first | exact Or.inl rfl | exact Or.inr rfl, rfl, rfl⟩
  · cases h
theorem pr_71 : pg_Rn pg_F 71 pg_y71 [] pg_t71 := by
  intro vs σ P h hp
  replace h : pf_71 vs σ = some P := h
  unfold pf_71 at h
  split at h
  · rename_i a b
    cases h
    refine ⟨by simp [Value.category], Nat.le_of_ble_eq_true rfl, ev_go pg_hhs pg_cd pg_o71 (fun _ => false) 2000 (Q1 := ev_at (ev_tl pg_t71) σ.2.2 (sp_i True (fun _ => True) σ).2) ?_ (fun _ _ _ _ h => ev_fin h)⟩
    change ev_wp pg_F pg_lay none [] (ev_lu pg_c71) (fun _ => false) _ 2000 0 [some (.ref 0), some (.int a), some (.int b)] [] σ
    refine ⟨trivial, ?_⟩
    rintro _ _ ⟨rfl, rfl⟩
    change ev_wp pg_F pg_lay none [] (ev_lu pg_c71) (fun _ => false) _ 1996 6 [some (.ref 0), some (.int a), some (.int b)] [.int (sp_at σ 0 1), .int 0] σ
    refine ⟨trivial, ?_⟩
    rintro _ _ ⟨v1, k2, rfl, rfl⟩
    change ev_wp pg_F pg_lay none [] (ev_lu pg_c71) (fun _ => false) _ 1992 12 [some (.ref 0), some (.int a), some (.int b)] [.int v1, .int (sp_at σ 0 1), .int 0] σ
    refine ⟨trivial, ?_⟩
    rintro _ _ ⟨rfl, rfl⟩
    exact ⟨_, rfl, Nat.le_refl _, _, trivial, rfl, rfl⟩
  · cases h
theorem pr_73 : pg_Rn pg_F 73 pg_y73 [] pg_t73 := by
  intro vs σ P h hp
  replace h : pf_73 vs σ = some P := h
  unfold pf_73 at h
  split at h
  · rename_i a
    cases h
    refine ⟨by simp [Value.category], Nat.le_of_ble_eq_true rfl, ev_go pg_hhs pg_cd pg_o73 (fun _ => false) 2000 (Q1 := ev_at (ev_tl pg_t73) σ.2.2 (sp_i True (fun _ => True) σ).2) ?_ (fun _ _ _ _ h => ev_fin h)⟩
    change ev_wp pg_F pg_lay none [] (ev_lu pg_c73) (fun _ => false) _ 2000 0 [some (.ref 0), some (.int a), none] [] σ
    refine ⟨trivial, ?_⟩
    rintro _ _ ⟨v1, k2, rfl, rfl⟩
    change ev_wp pg_F pg_lay none [] (ev_lu pg_c73) (fun _ => false) _ 1998 4 [some (.ref 0), some (.int a), none] [.int v1] σ
    refine ⟨trivial, ?_⟩
    rintro _ _ ⟨v3, k4, rfl, rfl⟩
    change ev_wp pg_F pg_lay none [] (ev_lu pg_c73) (fun _ => false) _ 1993 13 [some (.ref 0), some (.int a), some (.int v1)] [.int v3] σ
    refine ⟨fun (h5 : v3 = 0) => ?_, fun (h5 : ¬ v3 = 0) => ?_⟩
    · skip
      change ev_wp pg_F pg_lay none [] (ev_lu pg_c73) (fun _ => false) _ 1992 29 [some (.ref 0), some (.int a), some (.int v1)] [] σ
      exact ⟨_, rfl, Nat.le_refl _, _, trivial, rfl, rfl⟩
    · skip
      change ev_wp pg_F pg_lay none [] (ev_lu pg_c73) (fun _ => false) _ 1992 16 [some (.ref 0), some (.int a), some (.int v1)] [] σ
      refine ⟨trivial, ?_⟩
      rintro _ _ ⟨v6, k7, rfl, rfl⟩
      change ev_wp pg_F pg_lay none [] (ev_lu pg_c73) (fun _ => false) _ 1989 21 [some (.ref 0), some (.int a), some (.int v1)] [.int v6] σ
      refine ⟨fun (h8 : v6 = a) => ?_, fun (h8 : ¬ v6 = a) => ?_⟩
      · skip
        change ev_wp pg_F pg_lay none [] (ev_lu pg_c73) (fun _ => false) _ 1987 25 [some (.ref 0), some (.int a), some (.int v1)] [] σ
        exact ⟨_, rfl, Nat.le_refl _, _, trivial, rfl, rfl⟩
      · skip
        change ev_wp pg_F pg_lay none [] (ev_lu pg_c73) (fun _ => false) _ 1987 29 [some (.ref 0), some (.int a), some (.int v1)] [] σ
        exact ⟨_, rfl, Nat.le_refl _, _, trivial, rfl, rfl⟩
  · cases h
theorem pr_74 : pg_Rn pg_F 74 pg_y74 [] pg_t74 := by
  intro vs σ P h hp
  replace h : pf_74 vs σ = some P := h
  unfold pf_74 at h
  split at h
  · cases h
    refine ⟨by simp [Value.category], Nat.le_of_ble_eq_true rfl, ev_go pg_hhs pg_cd pg_o74 (fun _ => false) 2000 (Q1 := ev_at (ev_tl pg_t74) σ.2.2 (sp_i (sp_inv σ) (fun _ => True) σ).2) ?_ (fun _ _ _ _ h => ev_fin h)⟩
    change ev_wp pg_F pg_lay none [] (ev_lu pg_c74) (fun _ => false) _ 2000 0 [some (.ref 0)] [] σ
    refine ⟨hp.1, ?_⟩
    change ev_wp pg_F pg_lay none [] (ev_lu pg_c74) (fun _ => false) _ 1995 9 [some (.ref 0)] [.int (σ.1 3 (Int32.toNatClampNeg (σ.1 0 3)))] σ
    refine ⟨fun (h1 : (σ.1 3 (Int32.toNatClampNeg (σ.1 0 3))) = 0) => ?_, fun (h1 : ¬ (σ.1 3 (Int32.toNatClampNeg (σ.1 0 3))) = 0) => ?_⟩
    · skip
      change ev_wp pg_F pg_lay none [] (ev_lu pg_c74) (fun _ => false) _ 1994 14 [some (.ref 0)] [] σ
      refine ⟨trivial, ?_⟩
      rintro _ _ ⟨rfl, rfl⟩
      change ev_wp pg_F pg_lay none [] (ev_lu pg_c74) (fun _ => false) _ 1992 18 [some (.ref 0)] [.int (sp_at σ 0 0)] σ
      refine ⟨fun (h2 : (sp_at σ 0 0) = 0) => ?_, fun (h2 : ¬ (sp_at σ 0 0) = 0) => ?_⟩
      · skip
        change ev_wp pg_F pg_lay none [] (ev_lu pg_c74) (fun _ => false) _ 1991 21 [some (.ref 0)] [] σ
        exact ⟨_, rfl, Nat.le_refl _, _, trivial, rfl, rfl⟩
      · skip
        change ev_wp pg_F pg_lay none [] (ev_lu pg_c74) (fun _ => false) _ 1991 25 [some (.ref 0)] [] σ
        exact ⟨_, rfl, Nat.le_refl _, _, trivial, rfl, rfl⟩
    · skip
      change ev_wp pg_F pg_lay none [] (ev_lu pg_c74) (fun _ => false) _ 1994 12 [some (.ref 0)] [] σ
      exact ⟨_, rfl, Nat.le_refl _, _, trivial, rfl, rfl⟩
  · cases h
theorem pr_75 : pg_Rn pg_F 75 pg_y75 [] pg_t75 := by
  intro vs σ P h hp
  replace h : pf_75 vs σ = some P := h
  unfold pf_75 at h
  split at h
  · rename_i a b
    cases h
    refine ⟨by simp [Value.category], Nat.le_of_ble_eq_true rfl, ev_go pg_hhs pg_cd pg_o75 (fun _ => false) 2000 (Q1 := ev_at (ev_tl pg_t75) σ.2.2 (sp_i True (fun _ => True) σ).2) ?_ (fun _ _ _ _ h => ev_fin h)⟩
    change ev_wp pg_F pg_lay none [] (ev_lu pg_c75) (fun _ => false) _ 2000 0 [some (.ref 0), some (.int a), some (.int b)] [] σ
    refine ⟨trivial, ?_⟩
    rintro _ _ ⟨rfl, rfl⟩
    change ev_wp pg_F pg_lay none [] (ev_lu pg_c75) (fun _ => false) _ 1996 6 [some (.ref 0), some (.int a), some (.int b)] [.int (sp_at σ 0 2), .int a] σ
    refine ⟨fun (h1 : a < (sp_at σ 0 2)) => ?_, fun (h1 : ¬ a < (sp_at σ 0 2)) => ?_⟩
    · skip
      change ev_wp pg_F pg_lay none [] (ev_lu pg_c75) (fun _ => false) _ 1995 18 [some (.ref 0), some (.int a), some (.int b)] [] σ
      exact ⟨_, rfl, Nat.le_refl _, _, trivial, rfl, rfl⟩
    · skip
      change ev_wp pg_F pg_lay none [] (ev_lu pg_c75) (fun _ => false) _ 1995 9 [some (.ref 0), some (.int a), some (.int b)] [] σ
      refine ⟨trivial, ?_⟩
      rintro _ _ ⟨rfl, rfl⟩
      change ev_wp pg_F pg_lay none [] (ev_lu pg_c75) (fun _ => false) _ 1991 15 [some (.ref 0), some (.int a), some (.int b)] [.int (sp_at σ 0 3), .int a] σ
      refine ⟨fun (h2 : a ≤ (sp_at σ 0 3)) => ?_, fun (h2 : ¬ a ≤ (sp_at σ 0 3)) => ?_⟩
      · skip
        change ev_wp pg_F pg_lay none [] (ev_lu pg_c75) (fun _ => false) _ 1990 20 [some (.ref 0), some (.int a), some (.int b)] [] σ
        refine ⟨trivial, ?_⟩
        rintro _ _ ⟨rfl, rfl⟩
        change ev_wp pg_F pg_lay none [] (ev_lu pg_c75) (fun _ => false) _ 1987 25 [some (.ref 0), some (.int a), some (.int b)] [.int (sp_at σ 0 1)] σ
        refine ⟨fun (h3 : ((((sp_at σ 0 1) : Int32) >>> ((b : Int32) &&& 31)) &&& 1) = 0) => ?_, fun (h3 : ¬ ((((sp_at σ 0 1) : Int32) >>> ((b : Int32) &&& 31)) &&& 1) = 0) => ?_⟩
        · skip
          change ev_wp pg_F pg_lay none [] (ev_lu pg_c75) (fun _ => false) _ 1982 32 [some (.ref 0), some (.int a), some (.int b)] [] σ
          exact ⟨_, rfl, Nat.le_refl _, _, trivial, rfl, rfl⟩
        · skip
          change ev_wp pg_F pg_lay none [] (ev_lu pg_c75) (fun _ => false) _ 1982 36 [some (.ref 0), some (.int a), some (.int b)] [] σ
          exact ⟨_, rfl, Nat.le_refl _, _, trivial, rfl, rfl⟩
      · skip
        change ev_wp pg_F pg_lay none [] (ev_lu pg_c75) (fun _ => false) _ 1990 18 [some (.ref 0), some (.int a), some (.int b)] [] σ
        exact ⟨_, rfl, Nat.le_refl _, _, trivial, rfl, rfl⟩
  · cases h
theorem pr_77 : pg_Rn pg_F 77 pg_y77 [] pg_t77 := by
  intro vs σ P h hp
  replace h : pf_77 vs σ = some P := h
  unfold pf_77 at h
  split at h
  · rename_i a
    cases h
    refine ⟨by simp [Value.category], Nat.le_of_ble_eq_true rfl, ev_go pg_hhs pg_cd pg_o77 (fun _ => false) 2000 (Q1 := ev_at (ev_tl pg_t77) σ.2.2 (sp_i True (fun _ => True) σ).2) ?_ (fun _ _ _ _ h => ev_fin h)⟩
    change ev_wp pg_F pg_lay none [] (ev_lu pg_c77) (fun _ => false) _ 2000 0 [some (.ref 0), some (.int a)] [] σ
    refine ⟨trivial, ?_⟩
    rintro _ _ ⟨v1, k2, rfl, rfl⟩
    change ev_wp pg_F pg_lay none [] (ev_lu pg_c77) (fun _ => false) _ 1997 5 [some (.ref 0), some (.int a)] [.int v1] σ
    refine ⟨trivial, ?_⟩
    rintro _ _ ⟨rfl, rfl⟩
    change ev_wp pg_F pg_lay none [] (ev_lu pg_c77) (fun _ => false) _ 1992 14 [some (.ref 0), some (.int a)] [.int (sp_at σ a 5), .int v1] σ
    exact ⟨_, rfl, Nat.le_refl _, _, trivial, rfl, rfl⟩
  · cases h
theorem pr_76 : pg_Rn pg_F 76 pg_y76 [] pg_t76 := by
  intro vs σ P h hp
  replace h : pf_76 vs σ = some P := h
  unfold pf_76 at h
  split at h
  · cases h
    refine ⟨by simp [Value.category], Nat.le_of_ble_eq_true rfl, ev_go pg_hhs pg_cd pg_o76 (fun _ => false) 2000 (Q1 := ev_at (ev_tl pg_t76) σ.2.2 (sp_i True (fun v => sp_at σ 0 0 ≠ 1 → v = -1) σ).2) ?_ (fun _ _ _ _ h => ev_fin h)⟩
    change ev_wp pg_F pg_lay none [] (ev_lu pg_c76) (fun _ => false) _ 2000 0 [some (.ref 0)] [] σ
    refine ⟨trivial, ?_⟩
    rintro _ _ ⟨rfl, rfl⟩
    change ev_wp pg_F pg_lay none [] (ev_lu pg_c76) (fun _ => false) _ 1998 4 [some (.ref 0)] [.int (sp_at σ 0 0)] σ
    refine ⟨fun (h1 : (sp_at σ 0 0) = 1) => ?_, fun (h1 : ¬ (sp_at σ 0 0) = 1) => ?_⟩
    · skip
      change ev_wp pg_F pg_lay none [] (ev_lu pg_c76) (fun _ => false) _ 1996 10 [some (.ref 0)] [] σ
      refine ⟨trivial, ?_⟩
      rintro _ _ ⟨rfl, rfl⟩
      change ev_wp pg_F pg_lay none [] (ev_lu pg_c76) (fun _ => false) _ 1992 16 [some (.ref 0)] [.int (sp_at σ 0 1), .int 0] σ
      refine ⟨trivial, ?_⟩
      rintro _ _ ⟨v2, k3, rfl, rfl⟩
      change ev_wp pg_F pg_lay none [] (ev_lu pg_c76) (fun _ => false) _ 1990 20 [some (.ref 0)] [.int v2, .int (sp_at σ 0 1), .int 0] σ
      refine ⟨trivial, ?_⟩
      rintro _ _ ⟨rfl, rfl⟩
      exact ⟨_, rfl, Nat.le_refl _, _, fun hz => by first | rfl | exact absurd h1 hz, rfl, rfl⟩
    · skip
      change ev_wp pg_F pg_lay none [] (ev_lu pg_c76) (fun _ => false) _ 1996 8 [some (.ref 0)] [] σ
      exact ⟨_, rfl, Nat.le_refl _, _, fun hz => by first | rfl | exact absurd h1 hz, rfl, rfl⟩
  · cases h
theorem pr_78 : pg_Rn pg_F 78 pg_y78 [] pg_t78 := by
  intro vs σ P h hp
  replace h : pf_78 vs σ = some P := h
  unfold pf_78 at h
  split at h
  · cases h
    refine ⟨by simp [Value.category], Nat.le_of_ble_eq_true rfl, ev_go pg_hhs pg_cd pg_o78 (fun _ => false) 2000 (Q1 := ev_at (ev_tl pg_t78) σ.2.2 (sp_m True (fun v σ' => sp_b v ∧ sp_w σ σ')).2) ?_ (fun _ _ _ _ h => ev_fin h)⟩
    change ev_wp pg_F pg_lay none [] (ev_lu pg_c78) (fun _ => false) _ 2000 0 [some (.ref 0), none, none, none] [] σ
    refine ⟨fun h => absurd h (by decide), fun _ => ?_⟩
    change ev_wp pg_F pg_lay none [] (ev_lu pg_c78) (fun _ => false) _ 1995 8 [some (.ref 0), some (.int 0), none, none] [] σ
    refine ⟨trivial, ?_⟩
    rintro _ _ ⟨rfl, rfl⟩
    change ev_wp pg_F pg_lay none [] (ev_lu pg_c78) (fun _ => false) _ 1980 29 [some (.ref 0), some (.int 0), some (.int 0), some (.int 1)] [.int (sp_at σ 4 0)] σ
    refine ⟨fun (h1 : ((sp_at σ 4 0) &&& 1) = 0) => ?_, fun (h1 : ¬ ((sp_at σ 4 0) &&& 1) = 0) => ?_⟩
    · skip
      change ev_wp pg_F pg_lay none [] (ev_lu pg_c78) (fun _ => false) _ 1977 34 [some (.ref 0), some (.int 0), some (.int 0), some (.int 1)] [] σ
      refine ⟨trivial, ?_⟩
      rintro _ _ ⟨rfl, rfl⟩
      change ev_wp pg_F pg_lay none [] (ev_lu pg_c78) (fun _ => false) _ 1968 49 [some (.ref 0), some (.int 0), some (.int 0), some (.int 1)] [.int (sp_at σ 4 0), .int 0, .int 4, .ref 1] σ
      refine ⟨trivial, ?_⟩
      rintro _ s4 ⟨v2, k3, rfl⟩
      have r5 := (sp_w.rf σ).tr k3.2
      exact ⟨_, rfl, k3.1, Nat.le_of_eq (congrArg Prod.snd r5.2.1), _, ⟨k3.1, r5⟩, rfl⟩
    · skip
      change ev_wp pg_F pg_lay none [] (ev_lu pg_c78) (fun _ => false) _ 1977 55 [some (.ref 0), some (.int 0), some (.int 0), some (.int 1)] [] σ
      refine ⟨fun h => absurd h (by decide), fun _ => ?_⟩
      change ev_wp pg_F pg_lay none [] (ev_lu pg_c78) (fun _ => false) _ 1972 8 [some (.ref 0), some (.int 1), some (.int 0), some (.int 1)] [] σ
      refine ⟨trivial, ?_⟩
      rintro _ _ ⟨rfl, rfl⟩
      change ev_wp pg_F pg_lay none [] (ev_lu pg_c78) (fun _ => false) _ 1957 29 [some (.ref 0), some (.int 1), some (.int 0), some (.int 2)] [.int (sp_at σ 4 0)] σ
      refine ⟨fun (h6 : ((sp_at σ 4 0) &&& 2) = 0) => ?_, fun (h6 : ¬ ((sp_at σ 4 0) &&& 2) = 0) => ?_⟩
      · skip
        change ev_wp pg_F pg_lay none [] (ev_lu pg_c78) (fun _ => false) _ 1954 34 [some (.ref 0), some (.int 1), some (.int 0), some (.int 2)] [] σ
        refine ⟨trivial, ?_⟩
        rintro _ _ ⟨rfl, rfl⟩
        change ev_wp pg_F pg_lay none [] (ev_lu pg_c78) (fun _ => false) _ 1945 49 [some (.ref 0), some (.int 1), some (.int 0), some (.int 2)] [.int (sp_at σ 4 0), .int 0, .int 4, .ref 1] σ
        refine ⟨trivial, ?_⟩
        rintro _ s9 ⟨v7, k8, rfl⟩
        have r10 := (sp_w.rf σ).tr k8.2
        exact ⟨_, rfl, k8.1, Nat.le_of_eq (congrArg Prod.snd r10.2.1), _, ⟨k8.1, r10⟩, rfl⟩
      · skip
        change ev_wp pg_F pg_lay none [] (ev_lu pg_c78) (fun _ => false) _ 1954 55 [some (.ref 0), some (.int 1), some (.int 0), some (.int 2)] [] σ
        refine ⟨fun h => absurd h (by decide), fun _ => ?_⟩
        change ev_wp pg_F pg_lay none [] (ev_lu pg_c78) (fun _ => false) _ 1949 8 [some (.ref 0), some (.int 2), some (.int 0), some (.int 2)] [] σ
        refine ⟨trivial, ?_⟩
        rintro _ _ ⟨rfl, rfl⟩
        change ev_wp pg_F pg_lay none [] (ev_lu pg_c78) (fun _ => false) _ 1934 29 [some (.ref 0), some (.int 2), some (.int 0), some (.int 4)] [.int (sp_at σ 4 0)] σ
        refine ⟨fun (h11 : ((sp_at σ 4 0) &&& 4) = 0) => ?_, fun (h11 : ¬ ((sp_at σ 4 0) &&& 4) = 0) => ?_⟩
        · skip
          change ev_wp pg_F pg_lay none [] (ev_lu pg_c78) (fun _ => false) _ 1931 34 [some (.ref 0), some (.int 2), some (.int 0), some (.int 4)] [] σ
          refine ⟨trivial, ?_⟩
          rintro _ _ ⟨rfl, rfl⟩
          change ev_wp pg_F pg_lay none [] (ev_lu pg_c78) (fun _ => false) _ 1922 49 [some (.ref 0), some (.int 2), some (.int 0), some (.int 4)] [.int (sp_at σ 4 0), .int 0, .int 4, .ref 1] σ
          refine ⟨trivial, ?_⟩
          rintro _ s14 ⟨v12, k13, rfl⟩
          have r15 := (sp_w.rf σ).tr k13.2
          exact ⟨_, rfl, k13.1, Nat.le_of_eq (congrArg Prod.snd r15.2.1), _, ⟨k13.1, r15⟩, rfl⟩
        · skip
          change ev_wp pg_F pg_lay none [] (ev_lu pg_c78) (fun _ => false) _ 1931 55 [some (.ref 0), some (.int 2), some (.int 0), some (.int 4)] [] σ
          refine ⟨fun h => absurd h (by decide), fun _ => ?_⟩
          change ev_wp pg_F pg_lay none [] (ev_lu pg_c78) (fun _ => false) _ 1926 8 [some (.ref 0), some (.int 3), some (.int 0), some (.int 4)] [] σ
          refine ⟨trivial, ?_⟩
          rintro _ _ ⟨rfl, rfl⟩
          change ev_wp pg_F pg_lay none [] (ev_lu pg_c78) (fun _ => false) _ 1911 29 [some (.ref 0), some (.int 3), some (.int 0), some (.int 8)] [.int (sp_at σ 4 0)] σ
          refine ⟨fun (h16 : ((sp_at σ 4 0) &&& 8) = 0) => ?_, fun (h16 : ¬ ((sp_at σ 4 0) &&& 8) = 0) => ?_⟩
          · skip
            change ev_wp pg_F pg_lay none [] (ev_lu pg_c78) (fun _ => false) _ 1908 34 [some (.ref 0), some (.int 3), some (.int 0), some (.int 8)] [] σ
            refine ⟨trivial, ?_⟩
            rintro _ _ ⟨rfl, rfl⟩
            change ev_wp pg_F pg_lay none [] (ev_lu pg_c78) (fun _ => false) _ 1899 49 [some (.ref 0), some (.int 3), some (.int 0), some (.int 8)] [.int (sp_at σ 4 0), .int 0, .int 4, .ref 1] σ
            refine ⟨trivial, ?_⟩
            rintro _ s19 ⟨v17, k18, rfl⟩
            have r20 := (sp_w.rf σ).tr k18.2
            exact ⟨_, rfl, k18.1, Nat.le_of_eq (congrArg Prod.snd r20.2.1), _, ⟨k18.1, r20⟩, rfl⟩
          · skip
            change ev_wp pg_F pg_lay none [] (ev_lu pg_c78) (fun _ => false) _ 1908 55 [some (.ref 0), some (.int 3), some (.int 0), some (.int 8)] [] σ
            refine ⟨fun h => absurd h (by decide), fun _ => ?_⟩
            change ev_wp pg_F pg_lay none [] (ev_lu pg_c78) (fun _ => false) _ 1903 8 [some (.ref 0), some (.int 4), some (.int 0), some (.int 8)] [] σ
            refine ⟨trivial, ?_⟩
            rintro _ _ ⟨rfl, rfl⟩
            change ev_wp pg_F pg_lay none [] (ev_lu pg_c78) (fun _ => false) _ 1888 29 [some (.ref 0), some (.int 4), some (.int 0), some (.int 16)] [.int (sp_at σ 4 0)] σ
            refine ⟨fun (h21 : ((sp_at σ 4 0) &&& 16) = 0) => ?_, fun (h21 : ¬ ((sp_at σ 4 0) &&& 16) = 0) => ?_⟩
            · skip
              change ev_wp pg_F pg_lay none [] (ev_lu pg_c78) (fun _ => false) _ 1885 34 [some (.ref 0), some (.int 4), some (.int 0), some (.int 16)] [] σ
              refine ⟨trivial, ?_⟩
              rintro _ _ ⟨rfl, rfl⟩
              change ev_wp pg_F pg_lay none [] (ev_lu pg_c78) (fun _ => false) _ 1876 49 [some (.ref 0), some (.int 4), some (.int 0), some (.int 16)] [.int (sp_at σ 4 0), .int 0, .int 4, .ref 1] σ
              refine ⟨trivial, ?_⟩
              rintro _ s24 ⟨v22, k23, rfl⟩
              have r25 := (sp_w.rf σ).tr k23.2
              exact ⟨_, rfl, k23.1, Nat.le_of_eq (congrArg Prod.snd r25.2.1), _, ⟨k23.1, r25⟩, rfl⟩
            · skip
              change ev_wp pg_F pg_lay none [] (ev_lu pg_c78) (fun _ => false) _ 1885 55 [some (.ref 0), some (.int 4), some (.int 0), some (.int 16)] [] σ
              refine ⟨fun h => absurd h (by decide), fun _ => ?_⟩
              change ev_wp pg_F pg_lay none [] (ev_lu pg_c78) (fun _ => false) _ 1880 8 [some (.ref 0), some (.int 5), some (.int 0), some (.int 16)] [] σ
              refine ⟨trivial, ?_⟩
              rintro _ _ ⟨rfl, rfl⟩
              change ev_wp pg_F pg_lay none [] (ev_lu pg_c78) (fun _ => false) _ 1865 29 [some (.ref 0), some (.int 5), some (.int 0), some (.int 32)] [.int (sp_at σ 4 0)] σ
              refine ⟨fun (h26 : ((sp_at σ 4 0) &&& 32) = 0) => ?_, fun (h26 : ¬ ((sp_at σ 4 0) &&& 32) = 0) => ?_⟩
              · skip
                change ev_wp pg_F pg_lay none [] (ev_lu pg_c78) (fun _ => false) _ 1862 34 [some (.ref 0), some (.int 5), some (.int 0), some (.int 32)] [] σ
                refine ⟨trivial, ?_⟩
                rintro _ _ ⟨rfl, rfl⟩
                change ev_wp pg_F pg_lay none [] (ev_lu pg_c78) (fun _ => false) _ 1853 49 [some (.ref 0), some (.int 5), some (.int 0), some (.int 32)] [.int (sp_at σ 4 0), .int 0, .int 4, .ref 1] σ
                refine ⟨trivial, ?_⟩
                rintro _ s29 ⟨v27, k28, rfl⟩
                have r30 := (sp_w.rf σ).tr k28.2
                exact ⟨_, rfl, k28.1, Nat.le_of_eq (congrArg Prod.snd r30.2.1), _, ⟨k28.1, r30⟩, rfl⟩
              · skip
                change ev_wp pg_F pg_lay none [] (ev_lu pg_c78) (fun _ => false) _ 1862 55 [some (.ref 0), some (.int 5), some (.int 0), some (.int 32)] [] σ
                refine ⟨fun h => absurd h (by decide), fun _ => ?_⟩
                change ev_wp pg_F pg_lay none [] (ev_lu pg_c78) (fun _ => false) _ 1857 8 [some (.ref 0), some (.int 6), some (.int 0), some (.int 32)] [] σ
                refine ⟨trivial, ?_⟩
                rintro _ _ ⟨rfl, rfl⟩
                change ev_wp pg_F pg_lay none [] (ev_lu pg_c78) (fun _ => false) _ 1842 29 [some (.ref 0), some (.int 6), some (.int 0), some (.int 64)] [.int (sp_at σ 4 0)] σ
                refine ⟨fun (h31 : ((sp_at σ 4 0) &&& 64) = 0) => ?_, fun (h31 : ¬ ((sp_at σ 4 0) &&& 64) = 0) => ?_⟩
                · skip
                  change ev_wp pg_F pg_lay none [] (ev_lu pg_c78) (fun _ => false) _ 1839 34 [some (.ref 0), some (.int 6), some (.int 0), some (.int 64)] [] σ
                  refine ⟨trivial, ?_⟩
                  rintro _ _ ⟨rfl, rfl⟩
                  change ev_wp pg_F pg_lay none [] (ev_lu pg_c78) (fun _ => false) _ 1830 49 [some (.ref 0), some (.int 6), some (.int 0), some (.int 64)] [.int (sp_at σ 4 0), .int 0, .int 4, .ref 1] σ
                  refine ⟨trivial, ?_⟩
                  rintro _ s34 ⟨v32, k33, rfl⟩
                  have r35 := (sp_w.rf σ).tr k33.2
                  exact ⟨_, rfl, k33.1, Nat.le_of_eq (congrArg Prod.snd r35.2.1), _, ⟨k33.1, r35⟩, rfl⟩
                · skip
                  change ev_wp pg_F pg_lay none [] (ev_lu pg_c78) (fun _ => false) _ 1839 55 [some (.ref 0), some (.int 6), some (.int 0), some (.int 64)] [] σ
                  refine ⟨fun h => absurd h (by decide), fun _ => ?_⟩
                  change ev_wp pg_F pg_lay none [] (ev_lu pg_c78) (fun _ => false) _ 1834 8 [some (.ref 0), some (.int 7), some (.int 0), some (.int 64)] [] σ
                  refine ⟨trivial, ?_⟩
                  rintro _ _ ⟨rfl, rfl⟩
                  change ev_wp pg_F pg_lay none [] (ev_lu pg_c78) (fun _ => false) _ 1819 29 [some (.ref 0), some (.int 7), some (.int 0), some (.int 128)] [.int (sp_at σ 4 0)] σ
                  refine ⟨fun (h36 : ((sp_at σ 4 0) &&& 128) = 0) => ?_, fun (h36 : ¬ ((sp_at σ 4 0) &&& 128) = 0) => ?_⟩
                  · skip
                    change ev_wp pg_F pg_lay none [] (ev_lu pg_c78) (fun _ => false) _ 1816 34 [some (.ref 0), some (.int 7), some (.int 0), some (.int 128)] [] σ
                    refine ⟨trivial, ?_⟩
                    rintro _ _ ⟨rfl, rfl⟩
                    change ev_wp pg_F pg_lay none [] (ev_lu pg_c78) (fun _ => false) _ 1807 49 [some (.ref 0), some (.int 7), some (.int 0), some (.int 128)] [.int (sp_at σ 4 0), .int 0, .int 4, .ref 1] σ
                    refine ⟨trivial, ?_⟩
                    rintro _ s39 ⟨v37, k38, rfl⟩
                    have r40 := (sp_w.rf σ).tr k38.2
                    exact ⟨_, rfl, k38.1, Nat.le_of_eq (congrArg Prod.snd r40.2.1), _, ⟨k38.1, r40⟩, rfl⟩
                  · skip
                    change ev_wp pg_F pg_lay none [] (ev_lu pg_c78) (fun _ => false) _ 1816 55 [some (.ref 0), some (.int 7), some (.int 0), some (.int 128)] [] σ
                    refine ⟨fun h => absurd h (by decide), fun _ => ?_⟩
                    change ev_wp pg_F pg_lay none [] (ev_lu pg_c78) (fun _ => false) _ 1811 8 [some (.ref 0), some (.int 8), some (.int 0), some (.int 128)] [] σ
                    refine ⟨trivial, ?_⟩
                    rintro _ _ ⟨rfl, rfl⟩
                    change ev_wp pg_F pg_lay none [] (ev_lu pg_c78) (fun _ => false) _ 1796 29 [some (.ref 0), some (.int 8), some (.int 0), some (.int 256)] [.int (sp_at σ 4 0)] σ
                    refine ⟨fun (h41 : ((sp_at σ 4 0) &&& 256) = 0) => ?_, fun (h41 : ¬ ((sp_at σ 4 0) &&& 256) = 0) => ?_⟩
                    · skip
                      change ev_wp pg_F pg_lay none [] (ev_lu pg_c78) (fun _ => false) _ 1793 34 [some (.ref 0), some (.int 8), some (.int 0), some (.int 256)] [] σ
                      refine ⟨trivial, ?_⟩
                      rintro _ _ ⟨rfl, rfl⟩
                      change ev_wp pg_F pg_lay none [] (ev_lu pg_c78) (fun _ => false) _ 1784 49 [some (.ref 0), some (.int 8), some (.int 0), some (.int 256)] [.int (sp_at σ 4 0), .int 0, .int 4, .ref 1] σ
                      refine ⟨trivial, ?_⟩
                      rintro _ s44 ⟨v42, k43, rfl⟩
                      have r45 := (sp_w.rf σ).tr k43.2
                      exact ⟨_, rfl, k43.1, Nat.le_of_eq (congrArg Prod.snd r45.2.1), _, ⟨k43.1, r45⟩, rfl⟩
                    · skip
                      change ev_wp pg_F pg_lay none [] (ev_lu pg_c78) (fun _ => false) _ 1793 55 [some (.ref 0), some (.int 8), some (.int 0), some (.int 256)] [] σ
                      refine ⟨fun h => absurd h (by decide), fun _ => ?_⟩
                      change ev_wp pg_F pg_lay none [] (ev_lu pg_c78) (fun _ => false) _ 1788 8 [some (.ref 0), some (.int 9), some (.int 0), some (.int 256)] [] σ
                      refine ⟨trivial, ?_⟩
                      rintro _ _ ⟨rfl, rfl⟩
                      change ev_wp pg_F pg_lay none [] (ev_lu pg_c78) (fun _ => false) _ 1773 29 [some (.ref 0), some (.int 9), some (.int 0), some (.int 512)] [.int (sp_at σ 4 0)] σ
                      refine ⟨fun (h46 : ((sp_at σ 4 0) &&& 512) = 0) => ?_, fun (h46 : ¬ ((sp_at σ 4 0) &&& 512) = 0) => ?_⟩
                      · skip
                        change ev_wp pg_F pg_lay none [] (ev_lu pg_c78) (fun _ => false) _ 1770 34 [some (.ref 0), some (.int 9), some (.int 0), some (.int 512)] [] σ
                        refine ⟨trivial, ?_⟩
                        rintro _ _ ⟨rfl, rfl⟩
                        change ev_wp pg_F pg_lay none [] (ev_lu pg_c78) (fun _ => false) _ 1761 49 [some (.ref 0), some (.int 9), some (.int 0), some (.int 512)] [.int (sp_at σ 4 0), .int 0, .int 4, .ref 1] σ
                        refine ⟨trivial, ?_⟩
                        rintro _ s49 ⟨v47, k48, rfl⟩
                        have r50 := (sp_w.rf σ).tr k48.2
                        exact ⟨_, rfl, k48.1, Nat.le_of_eq (congrArg Prod.snd r50.2.1), _, ⟨k48.1, r50⟩, rfl⟩
                      · skip
                        change ev_wp pg_F pg_lay none [] (ev_lu pg_c78) (fun _ => false) _ 1770 55 [some (.ref 0), some (.int 9), some (.int 0), some (.int 512)] [] σ
                        refine ⟨fun h => absurd h (by decide), fun _ => ?_⟩
                        change ev_wp pg_F pg_lay none [] (ev_lu pg_c78) (fun _ => false) _ 1765 8 [some (.ref 0), some (.int 10), some (.int 0), some (.int 512)] [] σ
                        refine ⟨trivial, ?_⟩
                        rintro _ _ ⟨rfl, rfl⟩
                        change ev_wp pg_F pg_lay none [] (ev_lu pg_c78) (fun _ => false) _ 1750 29 [some (.ref 0), some (.int 10), some (.int 0), some (.int 1024)] [.int (sp_at σ 4 0)] σ
                        refine ⟨fun (h51 : ((sp_at σ 4 0) &&& 1024) = 0) => ?_, fun (h51 : ¬ ((sp_at σ 4 0) &&& 1024) = 0) => ?_⟩
                        · skip
                          change ev_wp pg_F pg_lay none [] (ev_lu pg_c78) (fun _ => false) _ 1747 34 [some (.ref 0), some (.int 10), some (.int 0), some (.int 1024)] [] σ
                          refine ⟨trivial, ?_⟩
                          rintro _ _ ⟨rfl, rfl⟩
                          change ev_wp pg_F pg_lay none [] (ev_lu pg_c78) (fun _ => false) _ 1738 49 [some (.ref 0), some (.int 10), some (.int 0), some (.int 1024)] [.int (sp_at σ 4 0), .int 0, .int 4, .ref 1] σ
                          refine ⟨trivial, ?_⟩
                          rintro _ s54 ⟨v52, k53, rfl⟩
                          have r55 := (sp_w.rf σ).tr k53.2
                          exact ⟨_, rfl, k53.1, Nat.le_of_eq (congrArg Prod.snd r55.2.1), _, ⟨k53.1, r55⟩, rfl⟩
                        · skip
                          change ev_wp pg_F pg_lay none [] (ev_lu pg_c78) (fun _ => false) _ 1747 55 [some (.ref 0), some (.int 10), some (.int 0), some (.int 1024)] [] σ
                          refine ⟨fun h => absurd h (by decide), fun _ => ?_⟩
                          change ev_wp pg_F pg_lay none [] (ev_lu pg_c78) (fun _ => false) _ 1742 8 [some (.ref 0), some (.int 11), some (.int 0), some (.int 1024)] [] σ
                          refine ⟨trivial, ?_⟩
                          rintro _ _ ⟨rfl, rfl⟩
                          change ev_wp pg_F pg_lay none [] (ev_lu pg_c78) (fun _ => false) _ 1727 29 [some (.ref 0), some (.int 11), some (.int 0), some (.int 2048)] [.int (sp_at σ 4 0)] σ
                          refine ⟨fun (h56 : ((sp_at σ 4 0) &&& 2048) = 0) => ?_, fun (h56 : ¬ ((sp_at σ 4 0) &&& 2048) = 0) => ?_⟩
                          · skip
                            change ev_wp pg_F pg_lay none [] (ev_lu pg_c78) (fun _ => false) _ 1724 34 [some (.ref 0), some (.int 11), some (.int 0), some (.int 2048)] [] σ
                            refine ⟨trivial, ?_⟩
                            rintro _ _ ⟨rfl, rfl⟩
                            change ev_wp pg_F pg_lay none [] (ev_lu pg_c78) (fun _ => false) _ 1715 49 [some (.ref 0), some (.int 11), some (.int 0), some (.int 2048)] [.int (sp_at σ 4 0), .int 0, .int 4, .ref 1] σ
                            refine ⟨trivial, ?_⟩
                            rintro _ s59 ⟨v57, k58, rfl⟩
                            have r60 := (sp_w.rf σ).tr k58.2
                            exact ⟨_, rfl, k58.1, Nat.le_of_eq (congrArg Prod.snd r60.2.1), _, ⟨k58.1, r60⟩, rfl⟩
                          · skip
                            change ev_wp pg_F pg_lay none [] (ev_lu pg_c78) (fun _ => false) _ 1724 55 [some (.ref 0), some (.int 11), some (.int 0), some (.int 2048)] [] σ
                            refine ⟨fun h => absurd h (by decide), fun _ => ?_⟩
                            change ev_wp pg_F pg_lay none [] (ev_lu pg_c78) (fun _ => false) _ 1719 8 [some (.ref 0), some (.int 12), some (.int 0), some (.int 2048)] [] σ
                            refine ⟨trivial, ?_⟩
                            rintro _ _ ⟨rfl, rfl⟩
                            change ev_wp pg_F pg_lay none [] (ev_lu pg_c78) (fun _ => false) _ 1704 29 [some (.ref 0), some (.int 12), some (.int 0), some (.int 4096)] [.int (sp_at σ 4 0)] σ
                            refine ⟨fun (h61 : ((sp_at σ 4 0) &&& 4096) = 0) => ?_, fun (h61 : ¬ ((sp_at σ 4 0) &&& 4096) = 0) => ?_⟩
                            · skip
                              change ev_wp pg_F pg_lay none [] (ev_lu pg_c78) (fun _ => false) _ 1701 34 [some (.ref 0), some (.int 12), some (.int 0), some (.int 4096)] [] σ
                              refine ⟨trivial, ?_⟩
                              rintro _ _ ⟨rfl, rfl⟩
                              change ev_wp pg_F pg_lay none [] (ev_lu pg_c78) (fun _ => false) _ 1692 49 [some (.ref 0), some (.int 12), some (.int 0), some (.int 4096)] [.int (sp_at σ 4 0), .int 0, .int 4, .ref 1] σ
                              refine ⟨trivial, ?_⟩
                              rintro _ s64 ⟨v62, k63, rfl⟩
                              have r65 := (sp_w.rf σ).tr k63.2
                              exact ⟨_, rfl, k63.1, Nat.le_of_eq (congrArg Prod.snd r65.2.1), _, ⟨k63.1, r65⟩, rfl⟩
                            · skip
                              change ev_wp pg_F pg_lay none [] (ev_lu pg_c78) (fun _ => false) _ 1701 55 [some (.ref 0), some (.int 12), some (.int 0), some (.int 4096)] [] σ
                              refine ⟨fun h => absurd h (by decide), fun _ => ?_⟩
                              change ev_wp pg_F pg_lay none [] (ev_lu pg_c78) (fun _ => false) _ 1696 8 [some (.ref 0), some (.int 13), some (.int 0), some (.int 4096)] [] σ
                              refine ⟨trivial, ?_⟩
                              rintro _ _ ⟨rfl, rfl⟩
                              change ev_wp pg_F pg_lay none [] (ev_lu pg_c78) (fun _ => false) _ 1681 29 [some (.ref 0), some (.int 13), some (.int 0), some (.int 8192)] [.int (sp_at σ 4 0)] σ
                              refine ⟨fun (h66 : ((sp_at σ 4 0) &&& 8192) = 0) => ?_, fun (h66 : ¬ ((sp_at σ 4 0) &&& 8192) = 0) => ?_⟩
                              · skip
                                change ev_wp pg_F pg_lay none [] (ev_lu pg_c78) (fun _ => false) _ 1678 34 [some (.ref 0), some (.int 13), some (.int 0), some (.int 8192)] [] σ
                                refine ⟨trivial, ?_⟩
                                rintro _ _ ⟨rfl, rfl⟩
                                change ev_wp pg_F pg_lay none [] (ev_lu pg_c78) (fun _ => false) _ 1669 49 [some (.ref 0), some (.int 13), some (.int 0), some (.int 8192)] [.int (sp_at σ 4 0), .int 0, .int 4, .ref 1] σ
                                refine ⟨trivial, ?_⟩
                                rintro _ s69 ⟨v67, k68, rfl⟩
                                have r70 := (sp_w.rf σ).tr k68.2
                                exact ⟨_, rfl, k68.1, Nat.le_of_eq (congrArg Prod.snd r70.2.1), _, ⟨k68.1, r70⟩, rfl⟩
                              · skip
                                change ev_wp pg_F pg_lay none [] (ev_lu pg_c78) (fun _ => false) _ 1678 55 [some (.ref 0), some (.int 13), some (.int 0), some (.int 8192)] [] σ
                                refine ⟨fun h => absurd h (by decide), fun _ => ?_⟩
                                change ev_wp pg_F pg_lay none [] (ev_lu pg_c78) (fun _ => false) _ 1673 8 [some (.ref 0), some (.int 14), some (.int 0), some (.int 8192)] [] σ
                                refine ⟨trivial, ?_⟩
                                rintro _ _ ⟨rfl, rfl⟩
                                change ev_wp pg_F pg_lay none [] (ev_lu pg_c78) (fun _ => false) _ 1658 29 [some (.ref 0), some (.int 14), some (.int 0), some (.int 16384)] [.int (sp_at σ 4 0)] σ
                                refine ⟨fun (h71 : ((sp_at σ 4 0) &&& 16384) = 0) => ?_, fun (h71 : ¬ ((sp_at σ 4 0) &&& 16384) = 0) => ?_⟩
                                · skip
                                  change ev_wp pg_F pg_lay none [] (ev_lu pg_c78) (fun _ => false) _ 1655 34 [some (.ref 0), some (.int 14), some (.int 0), some (.int 16384)] [] σ
                                  refine ⟨trivial, ?_⟩
                                  rintro _ _ ⟨rfl, rfl⟩
                                  change ev_wp pg_F pg_lay none [] (ev_lu pg_c78) (fun _ => false) _ 1646 49 [some (.ref 0), some (.int 14), some (.int 0), some (.int 16384)] [.int (sp_at σ 4 0), .int 0, .int 4, .ref 1] σ
                                  refine ⟨trivial, ?_⟩
                                  rintro _ s74 ⟨v72, k73, rfl⟩
                                  have r75 := (sp_w.rf σ).tr k73.2
                                  exact ⟨_, rfl, k73.1, Nat.le_of_eq (congrArg Prod.snd r75.2.1), _, ⟨k73.1, r75⟩, rfl⟩
                                · skip
                                  change ev_wp pg_F pg_lay none [] (ev_lu pg_c78) (fun _ => false) _ 1655 55 [some (.ref 0), some (.int 14), some (.int 0), some (.int 16384)] [] σ
                                  refine ⟨fun h => absurd h (by decide), fun _ => ?_⟩
                                  change ev_wp pg_F pg_lay none [] (ev_lu pg_c78) (fun _ => false) _ 1650 8 [some (.ref 0), some (.int 15), some (.int 0), some (.int 16384)] [] σ
                                  refine ⟨trivial, ?_⟩
                                  rintro _ _ ⟨rfl, rfl⟩
                                  change ev_wp pg_F pg_lay none [] (ev_lu pg_c78) (fun _ => false) _ 1635 29 [some (.ref 0), some (.int 15), some (.int 0), some (.int 32768)] [.int (sp_at σ 4 0)] σ
                                  refine ⟨fun (h76 : ((sp_at σ 4 0) &&& 32768) = 0) => ?_, fun (h76 : ¬ ((sp_at σ 4 0) &&& 32768) = 0) => ?_⟩
                                  · skip
                                    change ev_wp pg_F pg_lay none [] (ev_lu pg_c78) (fun _ => false) _ 1632 34 [some (.ref 0), some (.int 15), some (.int 0), some (.int 32768)] [] σ
                                    refine ⟨trivial, ?_⟩
                                    rintro _ _ ⟨rfl, rfl⟩
                                    change ev_wp pg_F pg_lay none [] (ev_lu pg_c78) (fun _ => false) _ 1623 49 [some (.ref 0), some (.int 15), some (.int 0), some (.int 32768)] [.int (sp_at σ 4 0), .int 0, .int 4, .ref 1] σ
                                    refine ⟨trivial, ?_⟩
                                    rintro _ s79 ⟨v77, k78, rfl⟩
                                    have r80 := (sp_w.rf σ).tr k78.2
                                    exact ⟨_, rfl, k78.1, Nat.le_of_eq (congrArg Prod.snd r80.2.1), _, ⟨k78.1, r80⟩, rfl⟩
                                  · skip
                                    change ev_wp pg_F pg_lay none [] (ev_lu pg_c78) (fun _ => false) _ 1632 55 [some (.ref 0), some (.int 15), some (.int 0), some (.int 32768)] [] σ
                                    refine ⟨fun h => absurd h (by decide), fun _ => ?_⟩
                                    change ev_wp pg_F pg_lay none [] (ev_lu pg_c78) (fun _ => false) _ 1627 8 [some (.ref 0), some (.int 16), some (.int 0), some (.int 32768)] [] σ
                                    refine ⟨trivial, ?_⟩
                                    rintro _ _ ⟨rfl, rfl⟩
                                    change ev_wp pg_F pg_lay none [] (ev_lu pg_c78) (fun _ => false) _ 1612 29 [some (.ref 0), some (.int 16), some (.int 1), some (.int 1)] [.int (sp_at σ 4 1)] σ
                                    refine ⟨fun (h81 : ((sp_at σ 4 1) &&& 1) = 0) => ?_, fun (h81 : ¬ ((sp_at σ 4 1) &&& 1) = 0) => ?_⟩
                                    · skip
                                      change ev_wp pg_F pg_lay none [] (ev_lu pg_c78) (fun _ => false) _ 1609 34 [some (.ref 0), some (.int 16), some (.int 1), some (.int 1)] [] σ
                                      refine ⟨trivial, ?_⟩
                                      rintro _ _ ⟨rfl, rfl⟩
                                      change ev_wp pg_F pg_lay none [] (ev_lu pg_c78) (fun _ => false) _ 1600 49 [some (.ref 0), some (.int 16), some (.int 1), some (.int 1)] [.int (sp_at σ 4 1), .int 1, .int 4, .ref 1] σ
                                      refine ⟨trivial, ?_⟩
                                      rintro _ s84 ⟨v82, k83, rfl⟩
                                      have r85 := (sp_w.rf σ).tr k83.2
                                      exact ⟨_, rfl, k83.1, Nat.le_of_eq (congrArg Prod.snd r85.2.1), _, ⟨k83.1, r85⟩, rfl⟩
                                    · skip
                                      change ev_wp pg_F pg_lay none [] (ev_lu pg_c78) (fun _ => false) _ 1609 55 [some (.ref 0), some (.int 16), some (.int 1), some (.int 1)] [] σ
                                      refine ⟨fun h => absurd h (by decide), fun _ => ?_⟩
                                      change ev_wp pg_F pg_lay none [] (ev_lu pg_c78) (fun _ => false) _ 1604 8 [some (.ref 0), some (.int 17), some (.int 1), some (.int 1)] [] σ
                                      refine ⟨trivial, ?_⟩
                                      rintro _ _ ⟨rfl, rfl⟩
                                      change ev_wp pg_F pg_lay none [] (ev_lu pg_c78) (fun _ => false) _ 1589 29 [some (.ref 0), some (.int 17), some (.int 1), some (.int 2)] [.int (sp_at σ 4 1)] σ
                                      refine ⟨fun (h86 : ((sp_at σ 4 1) &&& 2) = 0) => ?_, fun (h86 : ¬ ((sp_at σ 4 1) &&& 2) = 0) => ?_⟩
                                      · skip
                                        change ev_wp pg_F pg_lay none [] (ev_lu pg_c78) (fun _ => false) _ 1586 34 [some (.ref 0), some (.int 17), some (.int 1), some (.int 2)] [] σ
                                        refine ⟨trivial, ?_⟩
                                        rintro _ _ ⟨rfl, rfl⟩
                                        change ev_wp pg_F pg_lay none [] (ev_lu pg_c78) (fun _ => false) _ 1577 49 [some (.ref 0), some (.int 17), some (.int 1), some (.int 2)] [.int (sp_at σ 4 1), .int 1, .int 4, .ref 1] σ
                                        refine ⟨trivial, ?_⟩
                                        rintro _ s89 ⟨v87, k88, rfl⟩
                                        have r90 := (sp_w.rf σ).tr k88.2
                                        exact ⟨_, rfl, k88.1, Nat.le_of_eq (congrArg Prod.snd r90.2.1), _, ⟨k88.1, r90⟩, rfl⟩
                                      · skip
                                        change ev_wp pg_F pg_lay none [] (ev_lu pg_c78) (fun _ => false) _ 1586 55 [some (.ref 0), some (.int 17), some (.int 1), some (.int 2)] [] σ
                                        refine ⟨fun h => absurd h (by decide), fun _ => ?_⟩
                                        change ev_wp pg_F pg_lay none [] (ev_lu pg_c78) (fun _ => false) _ 1581 8 [some (.ref 0), some (.int 18), some (.int 1), some (.int 2)] [] σ
                                        refine ⟨trivial, ?_⟩
                                        rintro _ _ ⟨rfl, rfl⟩
                                        change ev_wp pg_F pg_lay none [] (ev_lu pg_c78) (fun _ => false) _ 1566 29 [some (.ref 0), some (.int 18), some (.int 1), some (.int 4)] [.int (sp_at σ 4 1)] σ
                                        refine ⟨fun (h91 : ((sp_at σ 4 1) &&& 4) = 0) => ?_, fun (h91 : ¬ ((sp_at σ 4 1) &&& 4) = 0) => ?_⟩
                                        · skip
                                          change ev_wp pg_F pg_lay none [] (ev_lu pg_c78) (fun _ => false) _ 1563 34 [some (.ref 0), some (.int 18), some (.int 1), some (.int 4)] [] σ
                                          refine ⟨trivial, ?_⟩
                                          rintro _ _ ⟨rfl, rfl⟩
                                          change ev_wp pg_F pg_lay none [] (ev_lu pg_c78) (fun _ => false) _ 1554 49 [some (.ref 0), some (.int 18), some (.int 1), some (.int 4)] [.int (sp_at σ 4 1), .int 1, .int 4, .ref 1] σ
                                          refine ⟨trivial, ?_⟩
                                          rintro _ s94 ⟨v92, k93, rfl⟩
                                          have r95 := (sp_w.rf σ).tr k93.2
                                          exact ⟨_, rfl, k93.1, Nat.le_of_eq (congrArg Prod.snd r95.2.1), _, ⟨k93.1, r95⟩, rfl⟩
                                        · skip
                                          change ev_wp pg_F pg_lay none [] (ev_lu pg_c78) (fun _ => false) _ 1563 55 [some (.ref 0), some (.int 18), some (.int 1), some (.int 4)] [] σ
                                          refine ⟨fun h => absurd h (by decide), fun _ => ?_⟩
                                          change ev_wp pg_F pg_lay none [] (ev_lu pg_c78) (fun _ => false) _ 1558 8 [some (.ref 0), some (.int 19), some (.int 1), some (.int 4)] [] σ
                                          refine ⟨trivial, ?_⟩
                                          rintro _ _ ⟨rfl, rfl⟩
                                          change ev_wp pg_F pg_lay none [] (ev_lu pg_c78) (fun _ => false) _ 1543 29 [some (.ref 0), some (.int 19), some (.int 1), some (.int 8)] [.int (sp_at σ 4 1)] σ
                                          refine ⟨fun (h96 : ((sp_at σ 4 1) &&& 8) = 0) => ?_, fun (h96 : ¬ ((sp_at σ 4 1) &&& 8) = 0) => ?_⟩
                                          · skip
                                            change ev_wp pg_F pg_lay none [] (ev_lu pg_c78) (fun _ => false) _ 1540 34 [some (.ref 0), some (.int 19), some (.int 1), some (.int 8)] [] σ
                                            refine ⟨trivial, ?_⟩
                                            rintro _ _ ⟨rfl, rfl⟩
                                            change ev_wp pg_F pg_lay none [] (ev_lu pg_c78) (fun _ => false) _ 1531 49 [some (.ref 0), some (.int 19), some (.int 1), some (.int 8)] [.int (sp_at σ 4 1), .int 1, .int 4, .ref 1] σ
                                            refine ⟨trivial, ?_⟩
                                            rintro _ s99 ⟨v97, k98, rfl⟩
                                            have r100 := (sp_w.rf σ).tr k98.2
                                            exact ⟨_, rfl, k98.1, Nat.le_of_eq (congrArg Prod.snd r100.2.1), _, ⟨k98.1, r100⟩, rfl⟩
                                          · skip
                                            change ev_wp pg_F pg_lay none [] (ev_lu pg_c78) (fun _ => false) _ 1540 55 [some (.ref 0), some (.int 19), some (.int 1), some (.int 8)] [] σ
                                            refine ⟨fun h => absurd h (by decide), fun _ => ?_⟩
                                            change ev_wp pg_F pg_lay none [] (ev_lu pg_c78) (fun _ => false) _ 1535 8 [some (.ref 0), some (.int 20), some (.int 1), some (.int 8)] [] σ
                                            refine ⟨trivial, ?_⟩
                                            rintro _ _ ⟨rfl, rfl⟩
                                            change ev_wp pg_F pg_lay none [] (ev_lu pg_c78) (fun _ => false) _ 1520 29 [some (.ref 0), some (.int 20), some (.int 1), some (.int 16)] [.int (sp_at σ 4 1)] σ
                                            refine ⟨fun (h101 : ((sp_at σ 4 1) &&& 16) = 0) => ?_, fun (h101 : ¬ ((sp_at σ 4 1) &&& 16) = 0) => ?_⟩
                                            · skip
                                              change ev_wp pg_F pg_lay none [] (ev_lu pg_c78) (fun _ => false) _ 1517 34 [some (.ref 0), some (.int 20), some (.int 1), some (.int 16)] [] σ
                                              refine ⟨trivial, ?_⟩
                                              rintro _ _ ⟨rfl, rfl⟩
                                              change ev_wp pg_F pg_lay none [] (ev_lu pg_c78) (fun _ => false) _ 1508 49 [some (.ref 0), some (.int 20), some (.int 1), some (.int 16)] [.int (sp_at σ 4 1), .int 1, .int 4, .ref 1] σ
                                              refine ⟨trivial, ?_⟩
                                              rintro _ s104 ⟨v102, k103, rfl⟩
                                              have r105 := (sp_w.rf σ).tr k103.2
                                              exact ⟨_, rfl, k103.1, Nat.le_of_eq (congrArg Prod.snd r105.2.1), _, ⟨k103.1, r105⟩, rfl⟩
                                            · skip
                                              change ev_wp pg_F pg_lay none [] (ev_lu pg_c78) (fun _ => false) _ 1517 55 [some (.ref 0), some (.int 20), some (.int 1), some (.int 16)] [] σ
                                              refine ⟨fun h => absurd h (by decide), fun _ => ?_⟩
                                              change ev_wp pg_F pg_lay none [] (ev_lu pg_c78) (fun _ => false) _ 1512 8 [some (.ref 0), some (.int 21), some (.int 1), some (.int 16)] [] σ
                                              refine ⟨trivial, ?_⟩
                                              rintro _ _ ⟨rfl, rfl⟩
                                              change ev_wp pg_F pg_lay none [] (ev_lu pg_c78) (fun _ => false) _ 1497 29 [some (.ref 0), some (.int 21), some (.int 1), some (.int 32)] [.int (sp_at σ 4 1)] σ
                                              refine ⟨fun (h106 : ((sp_at σ 4 1) &&& 32) = 0) => ?_, fun (h106 : ¬ ((sp_at σ 4 1) &&& 32) = 0) => ?_⟩
                                              · skip
                                                change ev_wp pg_F pg_lay none [] (ev_lu pg_c78) (fun _ => false) _ 1494 34 [some (.ref 0), some (.int 21), some (.int 1), some (.int 32)] [] σ
                                                refine ⟨trivial, ?_⟩
                                                rintro _ _ ⟨rfl, rfl⟩
                                                change ev_wp pg_F pg_lay none [] (ev_lu pg_c78) (fun _ => false) _ 1485 49 [some (.ref 0), some (.int 21), some (.int 1), some (.int 32)] [.int (sp_at σ 4 1), .int 1, .int 4, .ref 1] σ
                                                refine ⟨trivial, ?_⟩
                                                rintro _ s109 ⟨v107, k108, rfl⟩
                                                have r110 := (sp_w.rf σ).tr k108.2
                                                exact ⟨_, rfl, k108.1, Nat.le_of_eq (congrArg Prod.snd r110.2.1), _, ⟨k108.1, r110⟩, rfl⟩
                                              · skip
                                                change ev_wp pg_F pg_lay none [] (ev_lu pg_c78) (fun _ => false) _ 1494 55 [some (.ref 0), some (.int 21), some (.int 1), some (.int 32)] [] σ
                                                refine ⟨fun h => absurd h (by decide), fun _ => ?_⟩
                                                change ev_wp pg_F pg_lay none [] (ev_lu pg_c78) (fun _ => false) _ 1489 8 [some (.ref 0), some (.int 22), some (.int 1), some (.int 32)] [] σ
                                                refine ⟨trivial, ?_⟩
                                                rintro _ _ ⟨rfl, rfl⟩
                                                change ev_wp pg_F pg_lay none [] (ev_lu pg_c78) (fun _ => false) _ 1474 29 [some (.ref 0), some (.int 22), some (.int 1), some (.int 64)] [.int (sp_at σ 4 1)] σ
                                                refine ⟨fun (h111 : ((sp_at σ 4 1) &&& 64) = 0) => ?_, fun (h111 : ¬ ((sp_at σ 4 1) &&& 64) = 0) => ?_⟩
                                                · skip
                                                  change ev_wp pg_F pg_lay none [] (ev_lu pg_c78) (fun _ => false) _ 1471 34 [some (.ref 0), some (.int 22), some (.int 1), some (.int 64)] [] σ
                                                  refine ⟨trivial, ?_⟩
                                                  rintro _ _ ⟨rfl, rfl⟩
                                                  change ev_wp pg_F pg_lay none [] (ev_lu pg_c78) (fun _ => false) _ 1462 49 [some (.ref 0), some (.int 22), some (.int 1), some (.int 64)] [.int (sp_at σ 4 1), .int 1, .int 4, .ref 1] σ
                                                  refine ⟨trivial, ?_⟩
                                                  rintro _ s114 ⟨v112, k113, rfl⟩
                                                  have r115 := (sp_w.rf σ).tr k113.2
                                                  exact ⟨_, rfl, k113.1, Nat.le_of_eq (congrArg Prod.snd r115.2.1), _, ⟨k113.1, r115⟩, rfl⟩
                                                · skip
                                                  change ev_wp pg_F pg_lay none [] (ev_lu pg_c78) (fun _ => false) _ 1471 55 [some (.ref 0), some (.int 22), some (.int 1), some (.int 64)] [] σ
                                                  refine ⟨fun h => absurd h (by decide), fun _ => ?_⟩
                                                  change ev_wp pg_F pg_lay none [] (ev_lu pg_c78) (fun _ => false) _ 1466 8 [some (.ref 0), some (.int 23), some (.int 1), some (.int 64)] [] σ
                                                  refine ⟨trivial, ?_⟩
                                                  rintro _ _ ⟨rfl, rfl⟩
                                                  change ev_wp pg_F pg_lay none [] (ev_lu pg_c78) (fun _ => false) _ 1451 29 [some (.ref 0), some (.int 23), some (.int 1), some (.int 128)] [.int (sp_at σ 4 1)] σ
                                                  refine ⟨fun (h116 : ((sp_at σ 4 1) &&& 128) = 0) => ?_, fun (h116 : ¬ ((sp_at σ 4 1) &&& 128) = 0) => ?_⟩
                                                  · skip
                                                    change ev_wp pg_F pg_lay none [] (ev_lu pg_c78) (fun _ => false) _ 1448 34 [some (.ref 0), some (.int 23), some (.int 1), some (.int 128)] [] σ
                                                    refine ⟨trivial, ?_⟩
                                                    rintro _ _ ⟨rfl, rfl⟩
                                                    change ev_wp pg_F pg_lay none [] (ev_lu pg_c78) (fun _ => false) _ 1439 49 [some (.ref 0), some (.int 23), some (.int 1), some (.int 128)] [.int (sp_at σ 4 1), .int 1, .int 4, .ref 1] σ
                                                    refine ⟨trivial, ?_⟩
                                                    rintro _ s119 ⟨v117, k118, rfl⟩
                                                    have r120 := (sp_w.rf σ).tr k118.2
                                                    exact ⟨_, rfl, k118.1, Nat.le_of_eq (congrArg Prod.snd r120.2.1), _, ⟨k118.1, r120⟩, rfl⟩
                                                  · skip
                                                    change ev_wp pg_F pg_lay none [] (ev_lu pg_c78) (fun _ => false) _ 1448 55 [some (.ref 0), some (.int 23), some (.int 1), some (.int 128)] [] σ
                                                    refine ⟨fun h => absurd h (by decide), fun _ => ?_⟩
                                                    change ev_wp pg_F pg_lay none [] (ev_lu pg_c78) (fun _ => false) _ 1443 8 [some (.ref 0), some (.int 24), some (.int 1), some (.int 128)] [] σ
                                                    refine ⟨trivial, ?_⟩
                                                    rintro _ _ ⟨rfl, rfl⟩
                                                    change ev_wp pg_F pg_lay none [] (ev_lu pg_c78) (fun _ => false) _ 1428 29 [some (.ref 0), some (.int 24), some (.int 1), some (.int 256)] [.int (sp_at σ 4 1)] σ
                                                    refine ⟨fun (h121 : ((sp_at σ 4 1) &&& 256) = 0) => ?_, fun (h121 : ¬ ((sp_at σ 4 1) &&& 256) = 0) => ?_⟩
                                                    · skip
                                                      change ev_wp pg_F pg_lay none [] (ev_lu pg_c78) (fun _ => false) _ 1425 34 [some (.ref 0), some (.int 24), some (.int 1), some (.int 256)] [] σ
                                                      refine ⟨trivial, ?_⟩
                                                      rintro _ _ ⟨rfl, rfl⟩
                                                      change ev_wp pg_F pg_lay none [] (ev_lu pg_c78) (fun _ => false) _ 1416 49 [some (.ref 0), some (.int 24), some (.int 1), some (.int 256)] [.int (sp_at σ 4 1), .int 1, .int 4, .ref 1] σ
                                                      refine ⟨trivial, ?_⟩
                                                      rintro _ s124 ⟨v122, k123, rfl⟩
                                                      have r125 := (sp_w.rf σ).tr k123.2
                                                      exact ⟨_, rfl, k123.1, Nat.le_of_eq (congrArg Prod.snd r125.2.1), _, ⟨k123.1, r125⟩, rfl⟩
                                                    · skip
                                                      change ev_wp pg_F pg_lay none [] (ev_lu pg_c78) (fun _ => false) _ 1425 55 [some (.ref 0), some (.int 24), some (.int 1), some (.int 256)] [] σ
                                                      refine ⟨fun h => absurd h (by decide), fun _ => ?_⟩
                                                      change ev_wp pg_F pg_lay none [] (ev_lu pg_c78) (fun _ => false) _ 1420 8 [some (.ref 0), some (.int 25), some (.int 1), some (.int 256)] [] σ
                                                      refine ⟨trivial, ?_⟩
                                                      rintro _ _ ⟨rfl, rfl⟩
                                                      change ev_wp pg_F pg_lay none [] (ev_lu pg_c78) (fun _ => false) _ 1405 29 [some (.ref 0), some (.int 25), some (.int 1), some (.int 512)] [.int (sp_at σ 4 1)] σ
                                                      refine ⟨fun (h126 : ((sp_at σ 4 1) &&& 512) = 0) => ?_, fun (h126 : ¬ ((sp_at σ 4 1) &&& 512) = 0) => ?_⟩
                                                      · skip
                                                        change ev_wp pg_F pg_lay none [] (ev_lu pg_c78) (fun _ => false) _ 1402 34 [some (.ref 0), some (.int 25), some (.int 1), some (.int 512)] [] σ
                                                        refine ⟨trivial, ?_⟩
                                                        rintro _ _ ⟨rfl, rfl⟩
                                                        change ev_wp pg_F pg_lay none [] (ev_lu pg_c78) (fun _ => false) _ 1393 49 [some (.ref 0), some (.int 25), some (.int 1), some (.int 512)] [.int (sp_at σ 4 1), .int 1, .int 4, .ref 1] σ
                                                        refine ⟨trivial, ?_⟩
                                                        rintro _ s129 ⟨v127, k128, rfl⟩
                                                        have r130 := (sp_w.rf σ).tr k128.2
                                                        exact ⟨_, rfl, k128.1, Nat.le_of_eq (congrArg Prod.snd r130.2.1), _, ⟨k128.1, r130⟩, rfl⟩
                                                      · skip
                                                        change ev_wp pg_F pg_lay none [] (ev_lu pg_c78) (fun _ => false) _ 1402 55 [some (.ref 0), some (.int 25), some (.int 1), some (.int 512)] [] σ
                                                        refine ⟨fun h => absurd h (by decide), fun _ => ?_⟩
                                                        change ev_wp pg_F pg_lay none [] (ev_lu pg_c78) (fun _ => false) _ 1397 8 [some (.ref 0), some (.int 26), some (.int 1), some (.int 512)] [] σ
                                                        refine ⟨trivial, ?_⟩
                                                        rintro _ _ ⟨rfl, rfl⟩
                                                        change ev_wp pg_F pg_lay none [] (ev_lu pg_c78) (fun _ => false) _ 1382 29 [some (.ref 0), some (.int 26), some (.int 1), some (.int 1024)] [.int (sp_at σ 4 1)] σ
                                                        refine ⟨fun (h131 : ((sp_at σ 4 1) &&& 1024) = 0) => ?_, fun (h131 : ¬ ((sp_at σ 4 1) &&& 1024) = 0) => ?_⟩
                                                        · skip
                                                          change ev_wp pg_F pg_lay none [] (ev_lu pg_c78) (fun _ => false) _ 1379 34 [some (.ref 0), some (.int 26), some (.int 1), some (.int 1024)] [] σ
                                                          refine ⟨trivial, ?_⟩
                                                          rintro _ _ ⟨rfl, rfl⟩
                                                          change ev_wp pg_F pg_lay none [] (ev_lu pg_c78) (fun _ => false) _ 1370 49 [some (.ref 0), some (.int 26), some (.int 1), some (.int 1024)] [.int (sp_at σ 4 1), .int 1, .int 4, .ref 1] σ
                                                          refine ⟨trivial, ?_⟩
                                                          rintro _ s134 ⟨v132, k133, rfl⟩
                                                          have r135 := (sp_w.rf σ).tr k133.2
                                                          exact ⟨_, rfl, k133.1, Nat.le_of_eq (congrArg Prod.snd r135.2.1), _, ⟨k133.1, r135⟩, rfl⟩
                                                        · skip
                                                          change ev_wp pg_F pg_lay none [] (ev_lu pg_c78) (fun _ => false) _ 1379 55 [some (.ref 0), some (.int 26), some (.int 1), some (.int 1024)] [] σ
                                                          refine ⟨fun h => absurd h (by decide), fun _ => ?_⟩
                                                          change ev_wp pg_F pg_lay none [] (ev_lu pg_c78) (fun _ => false) _ 1374 8 [some (.ref 0), some (.int 27), some (.int 1), some (.int 1024)] [] σ
                                                          refine ⟨trivial, ?_⟩
                                                          rintro _ _ ⟨rfl, rfl⟩
                                                          change ev_wp pg_F pg_lay none [] (ev_lu pg_c78) (fun _ => false) _ 1359 29 [some (.ref 0), some (.int 27), some (.int 1), some (.int 2048)] [.int (sp_at σ 4 1)] σ
                                                          refine ⟨fun (h136 : ((sp_at σ 4 1) &&& 2048) = 0) => ?_, fun (h136 : ¬ ((sp_at σ 4 1) &&& 2048) = 0) => ?_⟩
                                                          · skip
                                                            change ev_wp pg_F pg_lay none [] (ev_lu pg_c78) (fun _ => false) _ 1356 34 [some (.ref 0), some (.int 27), some (.int 1), some (.int 2048)] [] σ
                                                            refine ⟨trivial, ?_⟩
                                                            rintro _ _ ⟨rfl, rfl⟩
                                                            change ev_wp pg_F pg_lay none [] (ev_lu pg_c78) (fun _ => false) _ 1347 49 [some (.ref 0), some (.int 27), some (.int 1), some (.int 2048)] [.int (sp_at σ 4 1), .int 1, .int 4, .ref 1] σ
                                                            refine ⟨trivial, ?_⟩
                                                            rintro _ s139 ⟨v137, k138, rfl⟩
                                                            have r140 := (sp_w.rf σ).tr k138.2
                                                            exact ⟨_, rfl, k138.1, Nat.le_of_eq (congrArg Prod.snd r140.2.1), _, ⟨k138.1, r140⟩, rfl⟩
                                                          · skip
                                                            change ev_wp pg_F pg_lay none [] (ev_lu pg_c78) (fun _ => false) _ 1356 55 [some (.ref 0), some (.int 27), some (.int 1), some (.int 2048)] [] σ
                                                            refine ⟨fun h => absurd h (by decide), fun _ => ?_⟩
                                                            change ev_wp pg_F pg_lay none [] (ev_lu pg_c78) (fun _ => false) _ 1351 8 [some (.ref 0), some (.int 28), some (.int 1), some (.int 2048)] [] σ
                                                            refine ⟨trivial, ?_⟩
                                                            rintro _ _ ⟨rfl, rfl⟩
                                                            change ev_wp pg_F pg_lay none [] (ev_lu pg_c78) (fun _ => false) _ 1336 29 [some (.ref 0), some (.int 28), some (.int 1), some (.int 4096)] [.int (sp_at σ 4 1)] σ
                                                            refine ⟨fun (h141 : ((sp_at σ 4 1) &&& 4096) = 0) => ?_, fun (h141 : ¬ ((sp_at σ 4 1) &&& 4096) = 0) => ?_⟩
                                                            · skip
                                                              change ev_wp pg_F pg_lay none [] (ev_lu pg_c78) (fun _ => false) _ 1333 34 [some (.ref 0), some (.int 28), some (.int 1), some (.int 4096)] [] σ
                                                              refine ⟨trivial, ?_⟩
                                                              rintro _ _ ⟨rfl, rfl⟩
                                                              change ev_wp pg_F pg_lay none [] (ev_lu pg_c78) (fun _ => false) _ 1324 49 [some (.ref 0), some (.int 28), some (.int 1), some (.int 4096)] [.int (sp_at σ 4 1), .int 1, .int 4, .ref 1] σ
                                                              refine ⟨trivial, ?_⟩
                                                              rintro _ s144 ⟨v142, k143, rfl⟩
                                                              have r145 := (sp_w.rf σ).tr k143.2
                                                              exact ⟨_, rfl, k143.1, Nat.le_of_eq (congrArg Prod.snd r145.2.1), _, ⟨k143.1, r145⟩, rfl⟩
                                                            · skip
                                                              change ev_wp pg_F pg_lay none [] (ev_lu pg_c78) (fun _ => false) _ 1333 55 [some (.ref 0), some (.int 28), some (.int 1), some (.int 4096)] [] σ
                                                              refine ⟨fun h => absurd h (by decide), fun _ => ?_⟩
                                                              change ev_wp pg_F pg_lay none [] (ev_lu pg_c78) (fun _ => false) _ 1328 8 [some (.ref 0), some (.int 29), some (.int 1), some (.int 4096)] [] σ
                                                              refine ⟨trivial, ?_⟩
                                                              rintro _ _ ⟨rfl, rfl⟩
                                                              change ev_wp pg_F pg_lay none [] (ev_lu pg_c78) (fun _ => false) _ 1313 29 [some (.ref 0), some (.int 29), some (.int 1), some (.int 8192)] [.int (sp_at σ 4 1)] σ
                                                              refine ⟨fun (h146 : ((sp_at σ 4 1) &&& 8192) = 0) => ?_, fun (h146 : ¬ ((sp_at σ 4 1) &&& 8192) = 0) => ?_⟩
                                                              · skip
                                                                change ev_wp pg_F pg_lay none [] (ev_lu pg_c78) (fun _ => false) _ 1310 34 [some (.ref 0), some (.int 29), some (.int 1), some (.int 8192)] [] σ
                                                                refine ⟨trivial, ?_⟩
                                                                rintro _ _ ⟨rfl, rfl⟩
                                                                change ev_wp pg_F pg_lay none [] (ev_lu pg_c78) (fun _ => false) _ 1301 49 [some (.ref 0), some (.int 29), some (.int 1), some (.int 8192)] [.int (sp_at σ 4 1), .int 1, .int 4, .ref 1] σ
                                                                refine ⟨trivial, ?_⟩
                                                                rintro _ s149 ⟨v147, k148, rfl⟩
                                                                have r150 := (sp_w.rf σ).tr k148.2
                                                                exact ⟨_, rfl, k148.1, Nat.le_of_eq (congrArg Prod.snd r150.2.1), _, ⟨k148.1, r150⟩, rfl⟩
                                                              · skip
                                                                change ev_wp pg_F pg_lay none [] (ev_lu pg_c78) (fun _ => false) _ 1310 55 [some (.ref 0), some (.int 29), some (.int 1), some (.int 8192)] [] σ
                                                                refine ⟨fun h => absurd h (by decide), fun _ => ?_⟩
                                                                change ev_wp pg_F pg_lay none [] (ev_lu pg_c78) (fun _ => false) _ 1305 8 [some (.ref 0), some (.int 30), some (.int 1), some (.int 8192)] [] σ
                                                                refine ⟨trivial, ?_⟩
                                                                rintro _ _ ⟨rfl, rfl⟩
                                                                change ev_wp pg_F pg_lay none [] (ev_lu pg_c78) (fun _ => false) _ 1290 29 [some (.ref 0), some (.int 30), some (.int 1), some (.int 16384)] [.int (sp_at σ 4 1)] σ
                                                                refine ⟨fun (h151 : ((sp_at σ 4 1) &&& 16384) = 0) => ?_, fun (h151 : ¬ ((sp_at σ 4 1) &&& 16384) = 0) => ?_⟩
                                                                · skip
                                                                  change ev_wp pg_F pg_lay none [] (ev_lu pg_c78) (fun _ => false) _ 1287 34 [some (.ref 0), some (.int 30), some (.int 1), some (.int 16384)] [] σ
                                                                  refine ⟨trivial, ?_⟩
                                                                  rintro _ _ ⟨rfl, rfl⟩
                                                                  change ev_wp pg_F pg_lay none [] (ev_lu pg_c78) (fun _ => false) _ 1278 49 [some (.ref 0), some (.int 30), some (.int 1), some (.int 16384)] [.int (sp_at σ 4 1), .int 1, .int 4, .ref 1] σ
                                                                  refine ⟨trivial, ?_⟩
                                                                  rintro _ s154 ⟨v152, k153, rfl⟩
                                                                  have r155 := (sp_w.rf σ).tr k153.2
                                                                  exact ⟨_, rfl, k153.1, Nat.le_of_eq (congrArg Prod.snd r155.2.1), _, ⟨k153.1, r155⟩, rfl⟩
                                                                · skip
                                                                  change ev_wp pg_F pg_lay none [] (ev_lu pg_c78) (fun _ => false) _ 1287 55 [some (.ref 0), some (.int 30), some (.int 1), some (.int 16384)] [] σ
                                                                  refine ⟨fun h => absurd h (by decide), fun _ => ?_⟩
                                                                  change ev_wp pg_F pg_lay none [] (ev_lu pg_c78) (fun _ => false) _ 1282 8 [some (.ref 0), some (.int 31), some (.int 1), some (.int 16384)] [] σ
                                                                  refine ⟨trivial, ?_⟩
                                                                  rintro _ _ ⟨rfl, rfl⟩
                                                                  change ev_wp pg_F pg_lay none [] (ev_lu pg_c78) (fun _ => false) _ 1267 29 [some (.ref 0), some (.int 31), some (.int 1), some (.int 32768)] [.int (sp_at σ 4 1)] σ
                                                                  refine ⟨fun (h156 : ((sp_at σ 4 1) &&& 32768) = 0) => ?_, fun (h156 : ¬ ((sp_at σ 4 1) &&& 32768) = 0) => ?_⟩
                                                                  · skip
                                                                    change ev_wp pg_F pg_lay none [] (ev_lu pg_c78) (fun _ => false) _ 1264 34 [some (.ref 0), some (.int 31), some (.int 1), some (.int 32768)] [] σ
                                                                    refine ⟨trivial, ?_⟩
                                                                    rintro _ _ ⟨rfl, rfl⟩
                                                                    change ev_wp pg_F pg_lay none [] (ev_lu pg_c78) (fun _ => false) _ 1255 49 [some (.ref 0), some (.int 31), some (.int 1), some (.int 32768)] [.int (sp_at σ 4 1), .int 1, .int 4, .ref 1] σ
                                                                    refine ⟨trivial, ?_⟩
                                                                    rintro _ s159 ⟨v157, k158, rfl⟩
                                                                    have r160 := (sp_w.rf σ).tr k158.2
                                                                    exact ⟨_, rfl, k158.1, Nat.le_of_eq (congrArg Prod.snd r160.2.1), _, ⟨k158.1, r160⟩, rfl⟩
                                                                  · skip
                                                                    change ev_wp pg_F pg_lay none [] (ev_lu pg_c78) (fun _ => false) _ 1264 55 [some (.ref 0), some (.int 31), some (.int 1), some (.int 32768)] [] σ
                                                                    refine ⟨fun h => absurd h (by decide), fun _ => ?_⟩
                                                                    change ev_wp pg_F pg_lay none [] (ev_lu pg_c78) (fun _ => false) _ 1259 8 [some (.ref 0), some (.int 32), some (.int 1), some (.int 32768)] [] σ
                                                                    refine ⟨trivial, ?_⟩
                                                                    rintro _ _ ⟨rfl, rfl⟩
                                                                    change ev_wp pg_F pg_lay none [] (ev_lu pg_c78) (fun _ => false) _ 1244 29 [some (.ref 0), some (.int 32), some (.int 2), some (.int 1)] [.int (sp_at σ 4 2)] σ
                                                                    refine ⟨fun (h161 : ((sp_at σ 4 2) &&& 1) = 0) => ?_, fun (h161 : ¬ ((sp_at σ 4 2) &&& 1) = 0) => ?_⟩
                                                                    · skip
                                                                      change ev_wp pg_F pg_lay none [] (ev_lu pg_c78) (fun _ => false) _ 1241 34 [some (.ref 0), some (.int 32), some (.int 2), some (.int 1)] [] σ
                                                                      refine ⟨trivial, ?_⟩
                                                                      rintro _ _ ⟨rfl, rfl⟩
                                                                      change ev_wp pg_F pg_lay none [] (ev_lu pg_c78) (fun _ => false) _ 1232 49 [some (.ref 0), some (.int 32), some (.int 2), some (.int 1)] [.int (sp_at σ 4 2), .int 2, .int 4, .ref 1] σ
                                                                      refine ⟨trivial, ?_⟩
                                                                      rintro _ s164 ⟨v162, k163, rfl⟩
                                                                      have r165 := (sp_w.rf σ).tr k163.2
                                                                      exact ⟨_, rfl, k163.1, Nat.le_of_eq (congrArg Prod.snd r165.2.1), _, ⟨k163.1, r165⟩, rfl⟩
                                                                    · skip
                                                                      change ev_wp pg_F pg_lay none [] (ev_lu pg_c78) (fun _ => false) _ 1241 55 [some (.ref 0), some (.int 32), some (.int 2), some (.int 1)] [] σ
                                                                      refine ⟨fun h => absurd h (by decide), fun _ => ?_⟩
                                                                      change ev_wp pg_F pg_lay none [] (ev_lu pg_c78) (fun _ => false) _ 1236 8 [some (.ref 0), some (.int 33), some (.int 2), some (.int 1)] [] σ
                                                                      refine ⟨trivial, ?_⟩
                                                                      rintro _ _ ⟨rfl, rfl⟩
                                                                      change ev_wp pg_F pg_lay none [] (ev_lu pg_c78) (fun _ => false) _ 1221 29 [some (.ref 0), some (.int 33), some (.int 2), some (.int 2)] [.int (sp_at σ 4 2)] σ
                                                                      refine ⟨fun (h166 : ((sp_at σ 4 2) &&& 2) = 0) => ?_, fun (h166 : ¬ ((sp_at σ 4 2) &&& 2) = 0) => ?_⟩
                                                                      · skip
                                                                        change ev_wp pg_F pg_lay none [] (ev_lu pg_c78) (fun _ => false) _ 1218 34 [some (.ref 0), some (.int 33), some (.int 2), some (.int 2)] [] σ
                                                                        refine ⟨trivial, ?_⟩
                                                                        rintro _ _ ⟨rfl, rfl⟩
                                                                        change ev_wp pg_F pg_lay none [] (ev_lu pg_c78) (fun _ => false) _ 1209 49 [some (.ref 0), some (.int 33), some (.int 2), some (.int 2)] [.int (sp_at σ 4 2), .int 2, .int 4, .ref 1] σ
                                                                        refine ⟨trivial, ?_⟩
                                                                        rintro _ s169 ⟨v167, k168, rfl⟩
                                                                        have r170 := (sp_w.rf σ).tr k168.2
                                                                        exact ⟨_, rfl, k168.1, Nat.le_of_eq (congrArg Prod.snd r170.2.1), _, ⟨k168.1, r170⟩, rfl⟩
                                                                      · skip
                                                                        change ev_wp pg_F pg_lay none [] (ev_lu pg_c78) (fun _ => false) _ 1218 55 [some (.ref 0), some (.int 33), some (.int 2), some (.int 2)] [] σ
                                                                        refine ⟨fun h => absurd h (by decide), fun _ => ?_⟩
                                                                        change ev_wp pg_F pg_lay none [] (ev_lu pg_c78) (fun _ => false) _ 1213 8 [some (.ref 0), some (.int 34), some (.int 2), some (.int 2)] [] σ
                                                                        refine ⟨trivial, ?_⟩
                                                                        rintro _ _ ⟨rfl, rfl⟩
                                                                        change ev_wp pg_F pg_lay none [] (ev_lu pg_c78) (fun _ => false) _ 1198 29 [some (.ref 0), some (.int 34), some (.int 2), some (.int 4)] [.int (sp_at σ 4 2)] σ
                                                                        refine ⟨fun (h171 : ((sp_at σ 4 2) &&& 4) = 0) => ?_, fun (h171 : ¬ ((sp_at σ 4 2) &&& 4) = 0) => ?_⟩
                                                                        · skip
                                                                          change ev_wp pg_F pg_lay none [] (ev_lu pg_c78) (fun _ => false) _ 1195 34 [some (.ref 0), some (.int 34), some (.int 2), some (.int 4)] [] σ
                                                                          refine ⟨trivial, ?_⟩
                                                                          rintro _ _ ⟨rfl, rfl⟩
                                                                          change ev_wp pg_F pg_lay none [] (ev_lu pg_c78) (fun _ => false) _ 1186 49 [some (.ref 0), some (.int 34), some (.int 2), some (.int 4)] [.int (sp_at σ 4 2), .int 2, .int 4, .ref 1] σ
                                                                          refine ⟨trivial, ?_⟩
                                                                          rintro _ s174 ⟨v172, k173, rfl⟩
                                                                          have r175 := (sp_w.rf σ).tr k173.2
                                                                          exact ⟨_, rfl, k173.1, Nat.le_of_eq (congrArg Prod.snd r175.2.1), _, ⟨k173.1, r175⟩, rfl⟩
                                                                        · skip
                                                                          change ev_wp pg_F pg_lay none [] (ev_lu pg_c78) (fun _ => false) _ 1195 55 [some (.ref 0), some (.int 34), some (.int 2), some (.int 4)] [] σ
                                                                          refine ⟨fun h => absurd h (by decide), fun _ => ?_⟩
                                                                          change ev_wp pg_F pg_lay none [] (ev_lu pg_c78) (fun _ => false) _ 1190 8 [some (.ref 0), some (.int 35), some (.int 2), some (.int 4)] [] σ
                                                                          refine ⟨trivial, ?_⟩
                                                                          rintro _ _ ⟨rfl, rfl⟩
                                                                          change ev_wp pg_F pg_lay none [] (ev_lu pg_c78) (fun _ => false) _ 1175 29 [some (.ref 0), some (.int 35), some (.int 2), some (.int 8)] [.int (sp_at σ 4 2)] σ
                                                                          refine ⟨fun (h176 : ((sp_at σ 4 2) &&& 8) = 0) => ?_, fun (h176 : ¬ ((sp_at σ 4 2) &&& 8) = 0) => ?_⟩
                                                                          · skip
                                                                            change ev_wp pg_F pg_lay none [] (ev_lu pg_c78) (fun _ => false) _ 1172 34 [some (.ref 0), some (.int 35), some (.int 2), some (.int 8)] [] σ
                                                                            refine ⟨trivial, ?_⟩
                                                                            rintro _ _ ⟨rfl, rfl⟩
                                                                            change ev_wp pg_F pg_lay none [] (ev_lu pg_c78) (fun _ => false) _ 1163 49 [some (.ref 0), some (.int 35), some (.int 2), some (.int 8)] [.int (sp_at σ 4 2), .int 2, .int 4, .ref 1] σ
                                                                            refine ⟨trivial, ?_⟩
                                                                            rintro _ s179 ⟨v177, k178, rfl⟩
                                                                            have r180 := (sp_w.rf σ).tr k178.2
                                                                            exact ⟨_, rfl, k178.1, Nat.le_of_eq (congrArg Prod.snd r180.2.1), _, ⟨k178.1, r180⟩, rfl⟩
                                                                          · skip
                                                                            change ev_wp pg_F pg_lay none [] (ev_lu pg_c78) (fun _ => false) _ 1172 55 [some (.ref 0), some (.int 35), some (.int 2), some (.int 8)] [] σ
                                                                            refine ⟨fun h => absurd h (by decide), fun _ => ?_⟩
                                                                            change ev_wp pg_F pg_lay none [] (ev_lu pg_c78) (fun _ => false) _ 1167 8 [some (.ref 0), some (.int 36), some (.int 2), some (.int 8)] [] σ
                                                                            refine ⟨trivial, ?_⟩
                                                                            rintro _ _ ⟨rfl, rfl⟩
                                                                            change ev_wp pg_F pg_lay none [] (ev_lu pg_c78) (fun _ => false) _ 1152 29 [some (.ref 0), some (.int 36), some (.int 2), some (.int 16)] [.int (sp_at σ 4 2)] σ
                                                                            refine ⟨fun (h181 : ((sp_at σ 4 2) &&& 16) = 0) => ?_, fun (h181 : ¬ ((sp_at σ 4 2) &&& 16) = 0) => ?_⟩
                                                                            · skip
                                                                              change ev_wp pg_F pg_lay none [] (ev_lu pg_c78) (fun _ => false) _ 1149 34 [some (.ref 0), some (.int 36), some (.int 2), some (.int 16)] [] σ
                                                                              refine ⟨trivial, ?_⟩
                                                                              rintro _ _ ⟨rfl, rfl⟩
                                                                              change ev_wp pg_F pg_lay none [] (ev_lu pg_c78) (fun _ => false) _ 1140 49 [some (.ref 0), some (.int 36), some (.int 2), some (.int 16)] [.int (sp_at σ 4 2), .int 2, .int 4, .ref 1] σ
                                                                              refine ⟨trivial, ?_⟩
                                                                              rintro _ s184 ⟨v182, k183, rfl⟩
                                                                              have r185 := (sp_w.rf σ).tr k183.2
                                                                              exact ⟨_, rfl, k183.1, Nat.le_of_eq (congrArg Prod.snd r185.2.1), _, ⟨k183.1, r185⟩, rfl⟩
                                                                            · skip
                                                                              change ev_wp pg_F pg_lay none [] (ev_lu pg_c78) (fun _ => false) _ 1149 55 [some (.ref 0), some (.int 36), some (.int 2), some (.int 16)] [] σ
                                                                              refine ⟨fun h => absurd h (by decide), fun _ => ?_⟩
                                                                              change ev_wp pg_F pg_lay none [] (ev_lu pg_c78) (fun _ => false) _ 1144 8 [some (.ref 0), some (.int 37), some (.int 2), some (.int 16)] [] σ
                                                                              refine ⟨trivial, ?_⟩
                                                                              rintro _ _ ⟨rfl, rfl⟩
                                                                              change ev_wp pg_F pg_lay none [] (ev_lu pg_c78) (fun _ => false) _ 1129 29 [some (.ref 0), some (.int 37), some (.int 2), some (.int 32)] [.int (sp_at σ 4 2)] σ
                                                                              refine ⟨fun (h186 : ((sp_at σ 4 2) &&& 32) = 0) => ?_, fun (h186 : ¬ ((sp_at σ 4 2) &&& 32) = 0) => ?_⟩
                                                                              · skip
                                                                                change ev_wp pg_F pg_lay none [] (ev_lu pg_c78) (fun _ => false) _ 1126 34 [some (.ref 0), some (.int 37), some (.int 2), some (.int 32)] [] σ
                                                                                refine ⟨trivial, ?_⟩
                                                                                rintro _ _ ⟨rfl, rfl⟩
                                                                                change ev_wp pg_F pg_lay none [] (ev_lu pg_c78) (fun _ => false) _ 1117 49 [some (.ref 0), some (.int 37), some (.int 2), some (.int 32)] [.int (sp_at σ 4 2), .int 2, .int 4, .ref 1] σ
                                                                                refine ⟨trivial, ?_⟩
                                                                                rintro _ s189 ⟨v187, k188, rfl⟩
                                                                                have r190 := (sp_w.rf σ).tr k188.2
                                                                                exact ⟨_, rfl, k188.1, Nat.le_of_eq (congrArg Prod.snd r190.2.1), _, ⟨k188.1, r190⟩, rfl⟩
                                                                              · skip
                                                                                change ev_wp pg_F pg_lay none [] (ev_lu pg_c78) (fun _ => false) _ 1126 55 [some (.ref 0), some (.int 37), some (.int 2), some (.int 32)] [] σ
                                                                                refine ⟨fun h => absurd h (by decide), fun _ => ?_⟩
                                                                                change ev_wp pg_F pg_lay none [] (ev_lu pg_c78) (fun _ => false) _ 1121 8 [some (.ref 0), some (.int 38), some (.int 2), some (.int 32)] [] σ
                                                                                refine ⟨trivial, ?_⟩
                                                                                rintro _ _ ⟨rfl, rfl⟩
                                                                                change ev_wp pg_F pg_lay none [] (ev_lu pg_c78) (fun _ => false) _ 1106 29 [some (.ref 0), some (.int 38), some (.int 2), some (.int 64)] [.int (sp_at σ 4 2)] σ
                                                                                refine ⟨fun (h191 : ((sp_at σ 4 2) &&& 64) = 0) => ?_, fun (h191 : ¬ ((sp_at σ 4 2) &&& 64) = 0) => ?_⟩
                                                                                · skip
                                                                                  change ev_wp pg_F pg_lay none [] (ev_lu pg_c78) (fun _ => false) _ 1103 34 [some (.ref 0), some (.int 38), some (.int 2), some (.int 64)] [] σ
                                                                                  refine ⟨trivial, ?_⟩
                                                                                  rintro _ _ ⟨rfl, rfl⟩
                                                                                  change ev_wp pg_F pg_lay none [] (ev_lu pg_c78) (fun _ => false) _ 1094 49 [some (.ref 0), some (.int 38), some (.int 2), some (.int 64)] [.int (sp_at σ 4 2), .int 2, .int 4, .ref 1] σ
                                                                                  refine ⟨trivial, ?_⟩
                                                                                  rintro _ s194 ⟨v192, k193, rfl⟩
                                                                                  have r195 := (sp_w.rf σ).tr k193.2
                                                                                  exact ⟨_, rfl, k193.1, Nat.le_of_eq (congrArg Prod.snd r195.2.1), _, ⟨k193.1, r195⟩, rfl⟩
                                                                                · skip
                                                                                  change ev_wp pg_F pg_lay none [] (ev_lu pg_c78) (fun _ => false) _ 1103 55 [some (.ref 0), some (.int 38), some (.int 2), some (.int 64)] [] σ
                                                                                  refine ⟨fun h => absurd h (by decide), fun _ => ?_⟩
                                                                                  change ev_wp pg_F pg_lay none [] (ev_lu pg_c78) (fun _ => false) _ 1098 8 [some (.ref 0), some (.int 39), some (.int 2), some (.int 64)] [] σ
                                                                                  refine ⟨trivial, ?_⟩
                                                                                  rintro _ _ ⟨rfl, rfl⟩
                                                                                  change ev_wp pg_F pg_lay none [] (ev_lu pg_c78) (fun _ => false) _ 1083 29 [some (.ref 0), some (.int 39), some (.int 2), some (.int 128)] [.int (sp_at σ 4 2)] σ
                                                                                  refine ⟨fun (h196 : ((sp_at σ 4 2) &&& 128) = 0) => ?_, fun (h196 : ¬ ((sp_at σ 4 2) &&& 128) = 0) => ?_⟩
                                                                                  · skip
                                                                                    change ev_wp pg_F pg_lay none [] (ev_lu pg_c78) (fun _ => false) _ 1080 34 [some (.ref 0), some (.int 39), some (.int 2), some (.int 128)] [] σ
                                                                                    refine ⟨trivial, ?_⟩
                                                                                    rintro _ _ ⟨rfl, rfl⟩
                                                                                    change ev_wp pg_F pg_lay none [] (ev_lu pg_c78) (fun _ => false) _ 1071 49 [some (.ref 0), some (.int 39), some (.int 2), some (.int 128)] [.int (sp_at σ 4 2), .int 2, .int 4, .ref 1] σ
                                                                                    refine ⟨trivial, ?_⟩
                                                                                    rintro _ s199 ⟨v197, k198, rfl⟩
                                                                                    have r200 := (sp_w.rf σ).tr k198.2
                                                                                    exact ⟨_, rfl, k198.1, Nat.le_of_eq (congrArg Prod.snd r200.2.1), _, ⟨k198.1, r200⟩, rfl⟩
                                                                                  · skip
                                                                                    change ev_wp pg_F pg_lay none [] (ev_lu pg_c78) (fun _ => false) _ 1080 55 [some (.ref 0), some (.int 39), some (.int 2), some (.int 128)] [] σ
                                                                                    refine ⟨fun h => absurd h (by decide), fun _ => ?_⟩
                                                                                    change ev_wp pg_F pg_lay none [] (ev_lu pg_c78) (fun _ => false) _ 1075 8 [some (.ref 0), some (.int 40), some (.int 2), some (.int 128)] [] σ
                                                                                    refine ⟨trivial, ?_⟩
                                                                                    rintro _ _ ⟨rfl, rfl⟩
                                                                                    change ev_wp pg_F pg_lay none [] (ev_lu pg_c78) (fun _ => false) _ 1060 29 [some (.ref 0), some (.int 40), some (.int 2), some (.int 256)] [.int (sp_at σ 4 2)] σ
                                                                                    refine ⟨fun (h201 : ((sp_at σ 4 2) &&& 256) = 0) => ?_, fun (h201 : ¬ ((sp_at σ 4 2) &&& 256) = 0) => ?_⟩
                                                                                    · skip
                                                                                      change ev_wp pg_F pg_lay none [] (ev_lu pg_c78) (fun _ => false) _ 1057 34 [some (.ref 0), some (.int 40), some (.int 2), some (.int 256)] [] σ
                                                                                      refine ⟨trivial, ?_⟩
                                                                                      rintro _ _ ⟨rfl, rfl⟩
                                                                                      change ev_wp pg_F pg_lay none [] (ev_lu pg_c78) (fun _ => false) _ 1048 49 [some (.ref 0), some (.int 40), some (.int 2), some (.int 256)] [.int (sp_at σ 4 2), .int 2, .int 4, .ref 1] σ
                                                                                      refine ⟨trivial, ?_⟩
                                                                                      rintro _ s204 ⟨v202, k203, rfl⟩
                                                                                      have r205 := (sp_w.rf σ).tr k203.2
                                                                                      exact ⟨_, rfl, k203.1, Nat.le_of_eq (congrArg Prod.snd r205.2.1), _, ⟨k203.1, r205⟩, rfl⟩
                                                                                    · skip
                                                                                      change ev_wp pg_F pg_lay none [] (ev_lu pg_c78) (fun _ => false) _ 1057 55 [some (.ref 0), some (.int 40), some (.int 2), some (.int 256)] [] σ
                                                                                      refine ⟨fun h => absurd h (by decide), fun _ => ?_⟩
                                                                                      change ev_wp pg_F pg_lay none [] (ev_lu pg_c78) (fun _ => false) _ 1052 8 [some (.ref 0), some (.int 41), some (.int 2), some (.int 256)] [] σ
                                                                                      refine ⟨trivial, ?_⟩
                                                                                      rintro _ _ ⟨rfl, rfl⟩
                                                                                      change ev_wp pg_F pg_lay none [] (ev_lu pg_c78) (fun _ => false) _ 1037 29 [some (.ref 0), some (.int 41), some (.int 2), some (.int 512)] [.int (sp_at σ 4 2)] σ
                                                                                      refine ⟨fun (h206 : ((sp_at σ 4 2) &&& 512) = 0) => ?_, fun (h206 : ¬ ((sp_at σ 4 2) &&& 512) = 0) => ?_⟩
                                                                                      · skip
                                                                                        change ev_wp pg_F pg_lay none [] (ev_lu pg_c78) (fun _ => false) _ 1034 34 [some (.ref 0), some (.int 41), some (.int 2), some (.int 512)] [] σ
                                                                                        refine ⟨trivial, ?_⟩
                                                                                        rintro _ _ ⟨rfl, rfl⟩
                                                                                        change ev_wp pg_F pg_lay none [] (ev_lu pg_c78) (fun _ => false) _ 1025 49 [some (.ref 0), some (.int 41), some (.int 2), some (.int 512)] [.int (sp_at σ 4 2), .int 2, .int 4, .ref 1] σ
                                                                                        refine ⟨trivial, ?_⟩
                                                                                        rintro _ s209 ⟨v207, k208, rfl⟩
                                                                                        have r210 := (sp_w.rf σ).tr k208.2
                                                                                        exact ⟨_, rfl, k208.1, Nat.le_of_eq (congrArg Prod.snd r210.2.1), _, ⟨k208.1, r210⟩, rfl⟩
                                                                                      · skip
                                                                                        change ev_wp pg_F pg_lay none [] (ev_lu pg_c78) (fun _ => false) _ 1034 55 [some (.ref 0), some (.int 41), some (.int 2), some (.int 512)] [] σ
                                                                                        refine ⟨fun h => absurd h (by decide), fun _ => ?_⟩
                                                                                        change ev_wp pg_F pg_lay none [] (ev_lu pg_c78) (fun _ => false) _ 1029 8 [some (.ref 0), some (.int 42), some (.int 2), some (.int 512)] [] σ
                                                                                        refine ⟨trivial, ?_⟩
                                                                                        rintro _ _ ⟨rfl, rfl⟩
                                                                                        change ev_wp pg_F pg_lay none [] (ev_lu pg_c78) (fun _ => false) _ 1014 29 [some (.ref 0), some (.int 42), some (.int 2), some (.int 1024)] [.int (sp_at σ 4 2)] σ
                                                                                        refine ⟨fun (h211 : ((sp_at σ 4 2) &&& 1024) = 0) => ?_, fun (h211 : ¬ ((sp_at σ 4 2) &&& 1024) = 0) => ?_⟩
                                                                                        · skip
                                                                                          change ev_wp pg_F pg_lay none [] (ev_lu pg_c78) (fun _ => false) _ 1011 34 [some (.ref 0), some (.int 42), some (.int 2), some (.int 1024)] [] σ
                                                                                          refine ⟨trivial, ?_⟩
                                                                                          rintro _ _ ⟨rfl, rfl⟩
                                                                                          change ev_wp pg_F pg_lay none [] (ev_lu pg_c78) (fun _ => false) _ 1002 49 [some (.ref 0), some (.int 42), some (.int 2), some (.int 1024)] [.int (sp_at σ 4 2), .int 2, .int 4, .ref 1] σ
                                                                                          refine ⟨trivial, ?_⟩
                                                                                          rintro _ s214 ⟨v212, k213, rfl⟩
                                                                                          have r215 := (sp_w.rf σ).tr k213.2
                                                                                          exact ⟨_, rfl, k213.1, Nat.le_of_eq (congrArg Prod.snd r215.2.1), _, ⟨k213.1, r215⟩, rfl⟩
                                                                                        · skip
                                                                                          change ev_wp pg_F pg_lay none [] (ev_lu pg_c78) (fun _ => false) _ 1011 55 [some (.ref 0), some (.int 42), some (.int 2), some (.int 1024)] [] σ
                                                                                          refine ⟨fun h => absurd h (by decide), fun _ => ?_⟩
                                                                                          change ev_wp pg_F pg_lay none [] (ev_lu pg_c78) (fun _ => false) _ 1006 8 [some (.ref 0), some (.int 43), some (.int 2), some (.int 1024)] [] σ
                                                                                          refine ⟨trivial, ?_⟩
                                                                                          rintro _ _ ⟨rfl, rfl⟩
                                                                                          change ev_wp pg_F pg_lay none [] (ev_lu pg_c78) (fun _ => false) _ 991 29 [some (.ref 0), some (.int 43), some (.int 2), some (.int 2048)] [.int (sp_at σ 4 2)] σ
                                                                                          refine ⟨fun (h216 : ((sp_at σ 4 2) &&& 2048) = 0) => ?_, fun (h216 : ¬ ((sp_at σ 4 2) &&& 2048) = 0) => ?_⟩
                                                                                          · skip
                                                                                            change ev_wp pg_F pg_lay none [] (ev_lu pg_c78) (fun _ => false) _ 988 34 [some (.ref 0), some (.int 43), some (.int 2), some (.int 2048)] [] σ
                                                                                            refine ⟨trivial, ?_⟩
                                                                                            rintro _ _ ⟨rfl, rfl⟩
                                                                                            change ev_wp pg_F pg_lay none [] (ev_lu pg_c78) (fun _ => false) _ 979 49 [some (.ref 0), some (.int 43), some (.int 2), some (.int 2048)] [.int (sp_at σ 4 2), .int 2, .int 4, .ref 1] σ
                                                                                            refine ⟨trivial, ?_⟩
                                                                                            rintro _ s219 ⟨v217, k218, rfl⟩
                                                                                            have r220 := (sp_w.rf σ).tr k218.2
                                                                                            exact ⟨_, rfl, k218.1, Nat.le_of_eq (congrArg Prod.snd r220.2.1), _, ⟨k218.1, r220⟩, rfl⟩
                                                                                          · skip
                                                                                            change ev_wp pg_F pg_lay none [] (ev_lu pg_c78) (fun _ => false) _ 988 55 [some (.ref 0), some (.int 43), some (.int 2), some (.int 2048)] [] σ
                                                                                            refine ⟨fun h => absurd h (by decide), fun _ => ?_⟩
                                                                                            change ev_wp pg_F pg_lay none [] (ev_lu pg_c78) (fun _ => false) _ 983 8 [some (.ref 0), some (.int 44), some (.int 2), some (.int 2048)] [] σ
                                                                                            refine ⟨trivial, ?_⟩
                                                                                            rintro _ _ ⟨rfl, rfl⟩
                                                                                            change ev_wp pg_F pg_lay none [] (ev_lu pg_c78) (fun _ => false) _ 968 29 [some (.ref 0), some (.int 44), some (.int 2), some (.int 4096)] [.int (sp_at σ 4 2)] σ
                                                                                            refine ⟨fun (h221 : ((sp_at σ 4 2) &&& 4096) = 0) => ?_, fun (h221 : ¬ ((sp_at σ 4 2) &&& 4096) = 0) => ?_⟩
                                                                                            · skip
                                                                                              change ev_wp pg_F pg_lay none [] (ev_lu pg_c78) (fun _ => false) _ 965 34 [some (.ref 0), some (.int 44), some (.int 2), some (.int 4096)] [] σ
                                                                                              refine ⟨trivial, ?_⟩
                                                                                              rintro _ _ ⟨rfl, rfl⟩
                                                                                              change ev_wp pg_F pg_lay none [] (ev_lu pg_c78) (fun _ => false) _ 956 49 [some (.ref 0), some (.int 44), some (.int 2), some (.int 4096)] [.int (sp_at σ 4 2), .int 2, .int 4, .ref 1] σ
                                                                                              refine ⟨trivial, ?_⟩
                                                                                              rintro _ s224 ⟨v222, k223, rfl⟩
                                                                                              have r225 := (sp_w.rf σ).tr k223.2
                                                                                              exact ⟨_, rfl, k223.1, Nat.le_of_eq (congrArg Prod.snd r225.2.1), _, ⟨k223.1, r225⟩, rfl⟩
                                                                                            · skip
                                                                                              change ev_wp pg_F pg_lay none [] (ev_lu pg_c78) (fun _ => false) _ 965 55 [some (.ref 0), some (.int 44), some (.int 2), some (.int 4096)] [] σ
                                                                                              refine ⟨fun h => absurd h (by decide), fun _ => ?_⟩
                                                                                              change ev_wp pg_F pg_lay none [] (ev_lu pg_c78) (fun _ => false) _ 960 8 [some (.ref 0), some (.int 45), some (.int 2), some (.int 4096)] [] σ
                                                                                              refine ⟨trivial, ?_⟩
                                                                                              rintro _ _ ⟨rfl, rfl⟩
                                                                                              change ev_wp pg_F pg_lay none [] (ev_lu pg_c78) (fun _ => false) _ 945 29 [some (.ref 0), some (.int 45), some (.int 2), some (.int 8192)] [.int (sp_at σ 4 2)] σ
                                                                                              refine ⟨fun (h226 : ((sp_at σ 4 2) &&& 8192) = 0) => ?_, fun (h226 : ¬ ((sp_at σ 4 2) &&& 8192) = 0) => ?_⟩
                                                                                              · skip
                                                                                                change ev_wp pg_F pg_lay none [] (ev_lu pg_c78) (fun _ => false) _ 942 34 [some (.ref 0), some (.int 45), some (.int 2), some (.int 8192)] [] σ
                                                                                                refine ⟨trivial, ?_⟩
                                                                                                rintro _ _ ⟨rfl, rfl⟩
                                                                                                change ev_wp pg_F pg_lay none [] (ev_lu pg_c78) (fun _ => false) _ 933 49 [some (.ref 0), some (.int 45), some (.int 2), some (.int 8192)] [.int (sp_at σ 4 2), .int 2, .int 4, .ref 1] σ
                                                                                                refine ⟨trivial, ?_⟩
                                                                                                rintro _ s229 ⟨v227, k228, rfl⟩
                                                                                                have r230 := (sp_w.rf σ).tr k228.2
                                                                                                exact ⟨_, rfl, k228.1, Nat.le_of_eq (congrArg Prod.snd r230.2.1), _, ⟨k228.1, r230⟩, rfl⟩
                                                                                              · skip
                                                                                                change ev_wp pg_F pg_lay none [] (ev_lu pg_c78) (fun _ => false) _ 942 55 [some (.ref 0), some (.int 45), some (.int 2), some (.int 8192)] [] σ
                                                                                                refine ⟨fun h => absurd h (by decide), fun _ => ?_⟩
                                                                                                change ev_wp pg_F pg_lay none [] (ev_lu pg_c78) (fun _ => false) _ 937 8 [some (.ref 0), some (.int 46), some (.int 2), some (.int 8192)] [] σ
                                                                                                refine ⟨trivial, ?_⟩
                                                                                                rintro _ _ ⟨rfl, rfl⟩
                                                                                                change ev_wp pg_F pg_lay none [] (ev_lu pg_c78) (fun _ => false) _ 922 29 [some (.ref 0), some (.int 46), some (.int 2), some (.int 16384)] [.int (sp_at σ 4 2)] σ
                                                                                                refine ⟨fun (h231 : ((sp_at σ 4 2) &&& 16384) = 0) => ?_, fun (h231 : ¬ ((sp_at σ 4 2) &&& 16384) = 0) => ?_⟩
                                                                                                · skip
                                                                                                  change ev_wp pg_F pg_lay none [] (ev_lu pg_c78) (fun _ => false) _ 919 34 [some (.ref 0), some (.int 46), some (.int 2), some (.int 16384)] [] σ
                                                                                                  refine ⟨trivial, ?_⟩
                                                                                                  rintro _ _ ⟨rfl, rfl⟩
                                                                                                  change ev_wp pg_F pg_lay none [] (ev_lu pg_c78) (fun _ => false) _ 910 49 [some (.ref 0), some (.int 46), some (.int 2), some (.int 16384)] [.int (sp_at σ 4 2), .int 2, .int 4, .ref 1] σ
                                                                                                  refine ⟨trivial, ?_⟩
                                                                                                  rintro _ s234 ⟨v232, k233, rfl⟩
                                                                                                  have r235 := (sp_w.rf σ).tr k233.2
                                                                                                  exact ⟨_, rfl, k233.1, Nat.le_of_eq (congrArg Prod.snd r235.2.1), _, ⟨k233.1, r235⟩, rfl⟩
                                                                                                · skip
                                                                                                  change ev_wp pg_F pg_lay none [] (ev_lu pg_c78) (fun _ => false) _ 919 55 [some (.ref 0), some (.int 46), some (.int 2), some (.int 16384)] [] σ
                                                                                                  refine ⟨fun h => absurd h (by decide), fun _ => ?_⟩
                                                                                                  change ev_wp pg_F pg_lay none [] (ev_lu pg_c78) (fun _ => false) _ 914 8 [some (.ref 0), some (.int 47), some (.int 2), some (.int 16384)] [] σ
                                                                                                  refine ⟨trivial, ?_⟩
                                                                                                  rintro _ _ ⟨rfl, rfl⟩
                                                                                                  change ev_wp pg_F pg_lay none [] (ev_lu pg_c78) (fun _ => false) _ 899 29 [some (.ref 0), some (.int 47), some (.int 2), some (.int 32768)] [.int (sp_at σ 4 2)] σ
                                                                                                  refine ⟨fun (h236 : ((sp_at σ 4 2) &&& 32768) = 0) => ?_, fun (h236 : ¬ ((sp_at σ 4 2) &&& 32768) = 0) => ?_⟩
                                                                                                  · skip
                                                                                                    change ev_wp pg_F pg_lay none [] (ev_lu pg_c78) (fun _ => false) _ 896 34 [some (.ref 0), some (.int 47), some (.int 2), some (.int 32768)] [] σ
                                                                                                    refine ⟨trivial, ?_⟩
                                                                                                    rintro _ _ ⟨rfl, rfl⟩
                                                                                                    change ev_wp pg_F pg_lay none [] (ev_lu pg_c78) (fun _ => false) _ 887 49 [some (.ref 0), some (.int 47), some (.int 2), some (.int 32768)] [.int (sp_at σ 4 2), .int 2, .int 4, .ref 1] σ
                                                                                                    refine ⟨trivial, ?_⟩
                                                                                                    rintro _ s239 ⟨v237, k238, rfl⟩
                                                                                                    have r240 := (sp_w.rf σ).tr k238.2
                                                                                                    exact ⟨_, rfl, k238.1, Nat.le_of_eq (congrArg Prod.snd r240.2.1), _, ⟨k238.1, r240⟩, rfl⟩
                                                                                                  · skip
                                                                                                    change ev_wp pg_F pg_lay none [] (ev_lu pg_c78) (fun _ => false) _ 896 55 [some (.ref 0), some (.int 47), some (.int 2), some (.int 32768)] [] σ
                                                                                                    refine ⟨fun h => absurd h (by decide), fun _ => ?_⟩
                                                                                                    change ev_wp pg_F pg_lay none [] (ev_lu pg_c78) (fun _ => false) _ 891 8 [some (.ref 0), some (.int 48), some (.int 2), some (.int 32768)] [] σ
                                                                                                    refine ⟨trivial, ?_⟩
                                                                                                    rintro _ _ ⟨rfl, rfl⟩
                                                                                                    change ev_wp pg_F pg_lay none [] (ev_lu pg_c78) (fun _ => false) _ 876 29 [some (.ref 0), some (.int 48), some (.int 3), some (.int 1)] [.int (sp_at σ 4 3)] σ
                                                                                                    refine ⟨fun (h241 : ((sp_at σ 4 3) &&& 1) = 0) => ?_, fun (h241 : ¬ ((sp_at σ 4 3) &&& 1) = 0) => ?_⟩
                                                                                                    · skip
                                                                                                      change ev_wp pg_F pg_lay none [] (ev_lu pg_c78) (fun _ => false) _ 873 34 [some (.ref 0), some (.int 48), some (.int 3), some (.int 1)] [] σ
                                                                                                      refine ⟨trivial, ?_⟩
                                                                                                      rintro _ _ ⟨rfl, rfl⟩
                                                                                                      change ev_wp pg_F pg_lay none [] (ev_lu pg_c78) (fun _ => false) _ 864 49 [some (.ref 0), some (.int 48), some (.int 3), some (.int 1)] [.int (sp_at σ 4 3), .int 3, .int 4, .ref 1] σ
                                                                                                      refine ⟨trivial, ?_⟩
                                                                                                      rintro _ s244 ⟨v242, k243, rfl⟩
                                                                                                      have r245 := (sp_w.rf σ).tr k243.2
                                                                                                      exact ⟨_, rfl, k243.1, Nat.le_of_eq (congrArg Prod.snd r245.2.1), _, ⟨k243.1, r245⟩, rfl⟩
                                                                                                    · skip
                                                                                                      change ev_wp pg_F pg_lay none [] (ev_lu pg_c78) (fun _ => false) _ 873 55 [some (.ref 0), some (.int 48), some (.int 3), some (.int 1)] [] σ
                                                                                                      refine ⟨fun h => absurd h (by decide), fun _ => ?_⟩
                                                                                                      change ev_wp pg_F pg_lay none [] (ev_lu pg_c78) (fun _ => false) _ 868 8 [some (.ref 0), some (.int 49), some (.int 3), some (.int 1)] [] σ
                                                                                                      refine ⟨trivial, ?_⟩
                                                                                                      rintro _ _ ⟨rfl, rfl⟩
                                                                                                      change ev_wp pg_F pg_lay none [] (ev_lu pg_c78) (fun _ => false) _ 853 29 [some (.ref 0), some (.int 49), some (.int 3), some (.int 2)] [.int (sp_at σ 4 3)] σ
                                                                                                      refine ⟨fun (h246 : ((sp_at σ 4 3) &&& 2) = 0) => ?_, fun (h246 : ¬ ((sp_at σ 4 3) &&& 2) = 0) => ?_⟩
                                                                                                      · skip
                                                                                                        change ev_wp pg_F pg_lay none [] (ev_lu pg_c78) (fun _ => false) _ 850 34 [some (.ref 0), some (.int 49), some (.int 3), some (.int 2)] [] σ
                                                                                                        refine ⟨trivial, ?_⟩
                                                                                                        rintro _ _ ⟨rfl, rfl⟩
                                                                                                        change ev_wp pg_F pg_lay none [] (ev_lu pg_c78) (fun _ => false) _ 841 49 [some (.ref 0), some (.int 49), some (.int 3), some (.int 2)] [.int (sp_at σ 4 3), .int 3, .int 4, .ref 1] σ
                                                                                                        refine ⟨trivial, ?_⟩
                                                                                                        rintro _ s249 ⟨v247, k248, rfl⟩
                                                                                                        have r250 := (sp_w.rf σ).tr k248.2
                                                                                                        exact ⟨_, rfl, k248.1, Nat.le_of_eq (congrArg Prod.snd r250.2.1), _, ⟨k248.1, r250⟩, rfl⟩
                                                                                                      · skip
                                                                                                        change ev_wp pg_F pg_lay none [] (ev_lu pg_c78) (fun _ => false) _ 850 55 [some (.ref 0), some (.int 49), some (.int 3), some (.int 2)] [] σ
                                                                                                        refine ⟨fun h => absurd h (by decide), fun _ => ?_⟩
                                                                                                        change ev_wp pg_F pg_lay none [] (ev_lu pg_c78) (fun _ => false) _ 845 8 [some (.ref 0), some (.int 50), some (.int 3), some (.int 2)] [] σ
                                                                                                        refine ⟨trivial, ?_⟩
                                                                                                        rintro _ _ ⟨rfl, rfl⟩
                                                                                                        change ev_wp pg_F pg_lay none [] (ev_lu pg_c78) (fun _ => false) _ 830 29 [some (.ref 0), some (.int 50), some (.int 3), some (.int 4)] [.int (sp_at σ 4 3)] σ
                                                                                                        refine ⟨fun (h251 : ((sp_at σ 4 3) &&& 4) = 0) => ?_, fun (h251 : ¬ ((sp_at σ 4 3) &&& 4) = 0) => ?_⟩
                                                                                                        · skip
                                                                                                          change ev_wp pg_F pg_lay none [] (ev_lu pg_c78) (fun _ => false) _ 827 34 [some (.ref 0), some (.int 50), some (.int 3), some (.int 4)] [] σ
                                                                                                          refine ⟨trivial, ?_⟩
                                                                                                          rintro _ _ ⟨rfl, rfl⟩
                                                                                                          change ev_wp pg_F pg_lay none [] (ev_lu pg_c78) (fun _ => false) _ 818 49 [some (.ref 0), some (.int 50), some (.int 3), some (.int 4)] [.int (sp_at σ 4 3), .int 3, .int 4, .ref 1] σ
                                                                                                          refine ⟨trivial, ?_⟩
                                                                                                          rintro _ s254 ⟨v252, k253, rfl⟩
                                                                                                          have r255 := (sp_w.rf σ).tr k253.2
                                                                                                          exact ⟨_, rfl, k253.1, Nat.le_of_eq (congrArg Prod.snd r255.2.1), _, ⟨k253.1, r255⟩, rfl⟩
                                                                                                        · skip
                                                                                                          change ev_wp pg_F pg_lay none [] (ev_lu pg_c78) (fun _ => false) _ 827 55 [some (.ref 0), some (.int 50), some (.int 3), some (.int 4)] [] σ
                                                                                                          refine ⟨fun h => absurd h (by decide), fun _ => ?_⟩
                                                                                                          change ev_wp pg_F pg_lay none [] (ev_lu pg_c78) (fun _ => false) _ 822 8 [some (.ref 0), some (.int 51), some (.int 3), some (.int 4)] [] σ
                                                                                                          refine ⟨trivial, ?_⟩
                                                                                                          rintro _ _ ⟨rfl, rfl⟩
                                                                                                          change ev_wp pg_F pg_lay none [] (ev_lu pg_c78) (fun _ => false) _ 807 29 [some (.ref 0), some (.int 51), some (.int 3), some (.int 8)] [.int (sp_at σ 4 3)] σ
                                                                                                          refine ⟨fun (h256 : ((sp_at σ 4 3) &&& 8) = 0) => ?_, fun (h256 : ¬ ((sp_at σ 4 3) &&& 8) = 0) => ?_⟩
                                                                                                          · skip
                                                                                                            change ev_wp pg_F pg_lay none [] (ev_lu pg_c78) (fun _ => false) _ 804 34 [some (.ref 0), some (.int 51), some (.int 3), some (.int 8)] [] σ
                                                                                                            refine ⟨trivial, ?_⟩
                                                                                                            rintro _ _ ⟨rfl, rfl⟩
                                                                                                            change ev_wp pg_F pg_lay none [] (ev_lu pg_c78) (fun _ => false) _ 795 49 [some (.ref 0), some (.int 51), some (.int 3), some (.int 8)] [.int (sp_at σ 4 3), .int 3, .int 4, .ref 1] σ
                                                                                                            refine ⟨trivial, ?_⟩
                                                                                                            rintro _ s259 ⟨v257, k258, rfl⟩
                                                                                                            have r260 := (sp_w.rf σ).tr k258.2
                                                                                                            exact ⟨_, rfl, k258.1, Nat.le_of_eq (congrArg Prod.snd r260.2.1), _, ⟨k258.1, r260⟩, rfl⟩
                                                                                                          · skip
                                                                                                            change ev_wp pg_F pg_lay none [] (ev_lu pg_c78) (fun _ => false) _ 804 55 [some (.ref 0), some (.int 51), some (.int 3), some (.int 8)] [] σ
                                                                                                            refine ⟨fun h => absurd h (by decide), fun _ => ?_⟩
                                                                                                            change ev_wp pg_F pg_lay none [] (ev_lu pg_c78) (fun _ => false) _ 799 8 [some (.ref 0), some (.int 52), some (.int 3), some (.int 8)] [] σ
                                                                                                            refine ⟨trivial, ?_⟩
                                                                                                            rintro _ _ ⟨rfl, rfl⟩
                                                                                                            change ev_wp pg_F pg_lay none [] (ev_lu pg_c78) (fun _ => false) _ 784 29 [some (.ref 0), some (.int 52), some (.int 3), some (.int 16)] [.int (sp_at σ 4 3)] σ
                                                                                                            refine ⟨fun (h261 : ((sp_at σ 4 3) &&& 16) = 0) => ?_, fun (h261 : ¬ ((sp_at σ 4 3) &&& 16) = 0) => ?_⟩
                                                                                                            · skip
                                                                                                              change ev_wp pg_F pg_lay none [] (ev_lu pg_c78) (fun _ => false) _ 781 34 [some (.ref 0), some (.int 52), some (.int 3), some (.int 16)] [] σ
                                                                                                              refine ⟨trivial, ?_⟩
                                                                                                              rintro _ _ ⟨rfl, rfl⟩
                                                                                                              change ev_wp pg_F pg_lay none [] (ev_lu pg_c78) (fun _ => false) _ 772 49 [some (.ref 0), some (.int 52), some (.int 3), some (.int 16)] [.int (sp_at σ 4 3), .int 3, .int 4, .ref 1] σ
                                                                                                              refine ⟨trivial, ?_⟩
                                                                                                              rintro _ s264 ⟨v262, k263, rfl⟩
                                                                                                              have r265 := (sp_w.rf σ).tr k263.2
                                                                                                              exact ⟨_, rfl, k263.1, Nat.le_of_eq (congrArg Prod.snd r265.2.1), _, ⟨k263.1, r265⟩, rfl⟩
                                                                                                            · skip
                                                                                                              change ev_wp pg_F pg_lay none [] (ev_lu pg_c78) (fun _ => false) _ 781 55 [some (.ref 0), some (.int 52), some (.int 3), some (.int 16)] [] σ
                                                                                                              refine ⟨fun h => absurd h (by decide), fun _ => ?_⟩
                                                                                                              change ev_wp pg_F pg_lay none [] (ev_lu pg_c78) (fun _ => false) _ 776 8 [some (.ref 0), some (.int 53), some (.int 3), some (.int 16)] [] σ
                                                                                                              refine ⟨trivial, ?_⟩
                                                                                                              rintro _ _ ⟨rfl, rfl⟩
                                                                                                              change ev_wp pg_F pg_lay none [] (ev_lu pg_c78) (fun _ => false) _ 761 29 [some (.ref 0), some (.int 53), some (.int 3), some (.int 32)] [.int (sp_at σ 4 3)] σ
                                                                                                              refine ⟨fun (h266 : ((sp_at σ 4 3) &&& 32) = 0) => ?_, fun (h266 : ¬ ((sp_at σ 4 3) &&& 32) = 0) => ?_⟩
                                                                                                              · skip
                                                                                                                change ev_wp pg_F pg_lay none [] (ev_lu pg_c78) (fun _ => false) _ 758 34 [some (.ref 0), some (.int 53), some (.int 3), some (.int 32)] [] σ
                                                                                                                refine ⟨trivial, ?_⟩
                                                                                                                rintro _ _ ⟨rfl, rfl⟩
                                                                                                                change ev_wp pg_F pg_lay none [] (ev_lu pg_c78) (fun _ => false) _ 749 49 [some (.ref 0), some (.int 53), some (.int 3), some (.int 32)] [.int (sp_at σ 4 3), .int 3, .int 4, .ref 1] σ
                                                                                                                refine ⟨trivial, ?_⟩
                                                                                                                rintro _ s269 ⟨v267, k268, rfl⟩
                                                                                                                have r270 := (sp_w.rf σ).tr k268.2
                                                                                                                exact ⟨_, rfl, k268.1, Nat.le_of_eq (congrArg Prod.snd r270.2.1), _, ⟨k268.1, r270⟩, rfl⟩
                                                                                                              · skip
                                                                                                                change ev_wp pg_F pg_lay none [] (ev_lu pg_c78) (fun _ => false) _ 758 55 [some (.ref 0), some (.int 53), some (.int 3), some (.int 32)] [] σ
                                                                                                                refine ⟨fun h => absurd h (by decide), fun _ => ?_⟩
                                                                                                                change ev_wp pg_F pg_lay none [] (ev_lu pg_c78) (fun _ => false) _ 753 8 [some (.ref 0), some (.int 54), some (.int 3), some (.int 32)] [] σ
                                                                                                                refine ⟨trivial, ?_⟩
                                                                                                                rintro _ _ ⟨rfl, rfl⟩
                                                                                                                change ev_wp pg_F pg_lay none [] (ev_lu pg_c78) (fun _ => false) _ 738 29 [some (.ref 0), some (.int 54), some (.int 3), some (.int 64)] [.int (sp_at σ 4 3)] σ
                                                                                                                refine ⟨fun (h271 : ((sp_at σ 4 3) &&& 64) = 0) => ?_, fun (h271 : ¬ ((sp_at σ 4 3) &&& 64) = 0) => ?_⟩
                                                                                                                · skip
                                                                                                                  change ev_wp pg_F pg_lay none [] (ev_lu pg_c78) (fun _ => false) _ 735 34 [some (.ref 0), some (.int 54), some (.int 3), some (.int 64)] [] σ
                                                                                                                  refine ⟨trivial, ?_⟩
                                                                                                                  rintro _ _ ⟨rfl, rfl⟩
                                                                                                                  change ev_wp pg_F pg_lay none [] (ev_lu pg_c78) (fun _ => false) _ 726 49 [some (.ref 0), some (.int 54), some (.int 3), some (.int 64)] [.int (sp_at σ 4 3), .int 3, .int 4, .ref 1] σ
                                                                                                                  refine ⟨trivial, ?_⟩
                                                                                                                  rintro _ s274 ⟨v272, k273, rfl⟩
                                                                                                                  have r275 := (sp_w.rf σ).tr k273.2
                                                                                                                  exact ⟨_, rfl, k273.1, Nat.le_of_eq (congrArg Prod.snd r275.2.1), _, ⟨k273.1, r275⟩, rfl⟩
                                                                                                                · skip
                                                                                                                  change ev_wp pg_F pg_lay none [] (ev_lu pg_c78) (fun _ => false) _ 735 55 [some (.ref 0), some (.int 54), some (.int 3), some (.int 64)] [] σ
                                                                                                                  refine ⟨fun h => absurd h (by decide), fun _ => ?_⟩
                                                                                                                  change ev_wp pg_F pg_lay none [] (ev_lu pg_c78) (fun _ => false) _ 730 8 [some (.ref 0), some (.int 55), some (.int 3), some (.int 64)] [] σ
                                                                                                                  refine ⟨trivial, ?_⟩
                                                                                                                  rintro _ _ ⟨rfl, rfl⟩
                                                                                                                  change ev_wp pg_F pg_lay none [] (ev_lu pg_c78) (fun _ => false) _ 715 29 [some (.ref 0), some (.int 55), some (.int 3), some (.int 128)] [.int (sp_at σ 4 3)] σ
                                                                                                                  refine ⟨fun (h276 : ((sp_at σ 4 3) &&& 128) = 0) => ?_, fun (h276 : ¬ ((sp_at σ 4 3) &&& 128) = 0) => ?_⟩
                                                                                                                  · skip
                                                                                                                    change ev_wp pg_F pg_lay none [] (ev_lu pg_c78) (fun _ => false) _ 712 34 [some (.ref 0), some (.int 55), some (.int 3), some (.int 128)] [] σ
                                                                                                                    refine ⟨trivial, ?_⟩
                                                                                                                    rintro _ _ ⟨rfl, rfl⟩
                                                                                                                    change ev_wp pg_F pg_lay none [] (ev_lu pg_c78) (fun _ => false) _ 703 49 [some (.ref 0), some (.int 55), some (.int 3), some (.int 128)] [.int (sp_at σ 4 3), .int 3, .int 4, .ref 1] σ
                                                                                                                    refine ⟨trivial, ?_⟩
                                                                                                                    rintro _ s279 ⟨v277, k278, rfl⟩
                                                                                                                    have r280 := (sp_w.rf σ).tr k278.2
                                                                                                                    exact ⟨_, rfl, k278.1, Nat.le_of_eq (congrArg Prod.snd r280.2.1), _, ⟨k278.1, r280⟩, rfl⟩
                                                                                                                  · skip
                                                                                                                    change ev_wp pg_F pg_lay none [] (ev_lu pg_c78) (fun _ => false) _ 712 55 [some (.ref 0), some (.int 55), some (.int 3), some (.int 128)] [] σ
                                                                                                                    refine ⟨fun h => absurd h (by decide), fun _ => ?_⟩
                                                                                                                    change ev_wp pg_F pg_lay none [] (ev_lu pg_c78) (fun _ => false) _ 707 8 [some (.ref 0), some (.int 56), some (.int 3), some (.int 128)] [] σ
                                                                                                                    refine ⟨trivial, ?_⟩
                                                                                                                    rintro _ _ ⟨rfl, rfl⟩
                                                                                                                    change ev_wp pg_F pg_lay none [] (ev_lu pg_c78) (fun _ => false) _ 692 29 [some (.ref 0), some (.int 56), some (.int 3), some (.int 256)] [.int (sp_at σ 4 3)] σ
                                                                                                                    refine ⟨fun (h281 : ((sp_at σ 4 3) &&& 256) = 0) => ?_, fun (h281 : ¬ ((sp_at σ 4 3) &&& 256) = 0) => ?_⟩
                                                                                                                    · skip
                                                                                                                      change ev_wp pg_F pg_lay none [] (ev_lu pg_c78) (fun _ => false) _ 689 34 [some (.ref 0), some (.int 56), some (.int 3), some (.int 256)] [] σ
                                                                                                                      refine ⟨trivial, ?_⟩
                                                                                                                      rintro _ _ ⟨rfl, rfl⟩
                                                                                                                      change ev_wp pg_F pg_lay none [] (ev_lu pg_c78) (fun _ => false) _ 680 49 [some (.ref 0), some (.int 56), some (.int 3), some (.int 256)] [.int (sp_at σ 4 3), .int 3, .int 4, .ref 1] σ
                                                                                                                      refine ⟨trivial, ?_⟩
                                                                                                                      rintro _ s284 ⟨v282, k283, rfl⟩
                                                                                                                      have r285 := (sp_w.rf σ).tr k283.2
                                                                                                                      exact ⟨_, rfl, k283.1, Nat.le_of_eq (congrArg Prod.snd r285.2.1), _, ⟨k283.1, r285⟩, rfl⟩
                                                                                                                    · skip
                                                                                                                      change ev_wp pg_F pg_lay none [] (ev_lu pg_c78) (fun _ => false) _ 689 55 [some (.ref 0), some (.int 56), some (.int 3), some (.int 256)] [] σ
                                                                                                                      refine ⟨fun h => absurd h (by decide), fun _ => ?_⟩
                                                                                                                      change ev_wp pg_F pg_lay none [] (ev_lu pg_c78) (fun _ => false) _ 684 8 [some (.ref 0), some (.int 57), some (.int 3), some (.int 256)] [] σ
                                                                                                                      refine ⟨trivial, ?_⟩
                                                                                                                      rintro _ _ ⟨rfl, rfl⟩
                                                                                                                      change ev_wp pg_F pg_lay none [] (ev_lu pg_c78) (fun _ => false) _ 669 29 [some (.ref 0), some (.int 57), some (.int 3), some (.int 512)] [.int (sp_at σ 4 3)] σ
                                                                                                                      refine ⟨fun (h286 : ((sp_at σ 4 3) &&& 512) = 0) => ?_, fun (h286 : ¬ ((sp_at σ 4 3) &&& 512) = 0) => ?_⟩
                                                                                                                      · skip
                                                                                                                        change ev_wp pg_F pg_lay none [] (ev_lu pg_c78) (fun _ => false) _ 666 34 [some (.ref 0), some (.int 57), some (.int 3), some (.int 512)] [] σ
                                                                                                                        refine ⟨trivial, ?_⟩
                                                                                                                        rintro _ _ ⟨rfl, rfl⟩
                                                                                                                        change ev_wp pg_F pg_lay none [] (ev_lu pg_c78) (fun _ => false) _ 657 49 [some (.ref 0), some (.int 57), some (.int 3), some (.int 512)] [.int (sp_at σ 4 3), .int 3, .int 4, .ref 1] σ
                                                                                                                        refine ⟨trivial, ?_⟩
                                                                                                                        rintro _ s289 ⟨v287, k288, rfl⟩
                                                                                                                        have r290 := (sp_w.rf σ).tr k288.2
                                                                                                                        exact ⟨_, rfl, k288.1, Nat.le_of_eq (congrArg Prod.snd r290.2.1), _, ⟨k288.1, r290⟩, rfl⟩
                                                                                                                      · skip
                                                                                                                        change ev_wp pg_F pg_lay none [] (ev_lu pg_c78) (fun _ => false) _ 666 55 [some (.ref 0), some (.int 57), some (.int 3), some (.int 512)] [] σ
                                                                                                                        refine ⟨fun h => absurd h (by decide), fun _ => ?_⟩
                                                                                                                        change ev_wp pg_F pg_lay none [] (ev_lu pg_c78) (fun _ => false) _ 661 8 [some (.ref 0), some (.int 58), some (.int 3), some (.int 512)] [] σ
                                                                                                                        refine ⟨trivial, ?_⟩
                                                                                                                        rintro _ _ ⟨rfl, rfl⟩
                                                                                                                        change ev_wp pg_F pg_lay none [] (ev_lu pg_c78) (fun _ => false) _ 646 29 [some (.ref 0), some (.int 58), some (.int 3), some (.int 1024)] [.int (sp_at σ 4 3)] σ
                                                                                                                        refine ⟨fun (h291 : ((sp_at σ 4 3) &&& 1024) = 0) => ?_, fun (h291 : ¬ ((sp_at σ 4 3) &&& 1024) = 0) => ?_⟩
                                                                                                                        · skip
                                                                                                                          change ev_wp pg_F pg_lay none [] (ev_lu pg_c78) (fun _ => false) _ 643 34 [some (.ref 0), some (.int 58), some (.int 3), some (.int 1024)] [] σ
                                                                                                                          refine ⟨trivial, ?_⟩
                                                                                                                          rintro _ _ ⟨rfl, rfl⟩
                                                                                                                          change ev_wp pg_F pg_lay none [] (ev_lu pg_c78) (fun _ => false) _ 634 49 [some (.ref 0), some (.int 58), some (.int 3), some (.int 1024)] [.int (sp_at σ 4 3), .int 3, .int 4, .ref 1] σ
                                                                                                                          refine ⟨trivial, ?_⟩
                                                                                                                          rintro _ s294 ⟨v292, k293, rfl⟩
                                                                                                                          have r295 := (sp_w.rf σ).tr k293.2
                                                                                                                          exact ⟨_, rfl, k293.1, Nat.le_of_eq (congrArg Prod.snd r295.2.1), _, ⟨k293.1, r295⟩, rfl⟩
                                                                                                                        · skip
                                                                                                                          change ev_wp pg_F pg_lay none [] (ev_lu pg_c78) (fun _ => false) _ 643 55 [some (.ref 0), some (.int 58), some (.int 3), some (.int 1024)] [] σ
                                                                                                                          refine ⟨fun h => absurd h (by decide), fun _ => ?_⟩
                                                                                                                          change ev_wp pg_F pg_lay none [] (ev_lu pg_c78) (fun _ => false) _ 638 8 [some (.ref 0), some (.int 59), some (.int 3), some (.int 1024)] [] σ
                                                                                                                          refine ⟨trivial, ?_⟩
                                                                                                                          rintro _ _ ⟨rfl, rfl⟩
                                                                                                                          change ev_wp pg_F pg_lay none [] (ev_lu pg_c78) (fun _ => false) _ 623 29 [some (.ref 0), some (.int 59), some (.int 3), some (.int 2048)] [.int (sp_at σ 4 3)] σ
                                                                                                                          refine ⟨fun (h296 : ((sp_at σ 4 3) &&& 2048) = 0) => ?_, fun (h296 : ¬ ((sp_at σ 4 3) &&& 2048) = 0) => ?_⟩
                                                                                                                          · skip
                                                                                                                            change ev_wp pg_F pg_lay none [] (ev_lu pg_c78) (fun _ => false) _ 620 34 [some (.ref 0), some (.int 59), some (.int 3), some (.int 2048)] [] σ
                                                                                                                            refine ⟨trivial, ?_⟩
                                                                                                                            rintro _ _ ⟨rfl, rfl⟩
                                                                                                                            change ev_wp pg_F pg_lay none [] (ev_lu pg_c78) (fun _ => false) _ 611 49 [some (.ref 0), some (.int 59), some (.int 3), some (.int 2048)] [.int (sp_at σ 4 3), .int 3, .int 4, .ref 1] σ
                                                                                                                            refine ⟨trivial, ?_⟩
                                                                                                                            rintro _ s299 ⟨v297, k298, rfl⟩
                                                                                                                            have r300 := (sp_w.rf σ).tr k298.2
                                                                                                                            exact ⟨_, rfl, k298.1, Nat.le_of_eq (congrArg Prod.snd r300.2.1), _, ⟨k298.1, r300⟩, rfl⟩
                                                                                                                          · skip
                                                                                                                            change ev_wp pg_F pg_lay none [] (ev_lu pg_c78) (fun _ => false) _ 620 55 [some (.ref 0), some (.int 59), some (.int 3), some (.int 2048)] [] σ
                                                                                                                            refine ⟨fun h => absurd h (by decide), fun _ => ?_⟩
                                                                                                                            change ev_wp pg_F pg_lay none [] (ev_lu pg_c78) (fun _ => false) _ 615 8 [some (.ref 0), some (.int 60), some (.int 3), some (.int 2048)] [] σ
                                                                                                                            refine ⟨trivial, ?_⟩
                                                                                                                            rintro _ _ ⟨rfl, rfl⟩
                                                                                                                            change ev_wp pg_F pg_lay none [] (ev_lu pg_c78) (fun _ => false) _ 600 29 [some (.ref 0), some (.int 60), some (.int 3), some (.int 4096)] [.int (sp_at σ 4 3)] σ
                                                                                                                            refine ⟨fun (h301 : ((sp_at σ 4 3) &&& 4096) = 0) => ?_, fun (h301 : ¬ ((sp_at σ 4 3) &&& 4096) = 0) => ?_⟩
                                                                                                                            · skip
                                                                                                                              change ev_wp pg_F pg_lay none [] (ev_lu pg_c78) (fun _ => false) _ 597 34 [some (.ref 0), some (.int 60), some (.int 3), some (.int 4096)] [] σ
                                                                                                                              refine ⟨trivial, ?_⟩
                                                                                                                              rintro _ _ ⟨rfl, rfl⟩
                                                                                                                              change ev_wp pg_F pg_lay none [] (ev_lu pg_c78) (fun _ => false) _ 588 49 [some (.ref 0), some (.int 60), some (.int 3), some (.int 4096)] [.int (sp_at σ 4 3), .int 3, .int 4, .ref 1] σ
                                                                                                                              refine ⟨trivial, ?_⟩
                                                                                                                              rintro _ s304 ⟨v302, k303, rfl⟩
                                                                                                                              have r305 := (sp_w.rf σ).tr k303.2
                                                                                                                              exact ⟨_, rfl, k303.1, Nat.le_of_eq (congrArg Prod.snd r305.2.1), _, ⟨k303.1, r305⟩, rfl⟩
                                                                                                                            · skip
                                                                                                                              change ev_wp pg_F pg_lay none [] (ev_lu pg_c78) (fun _ => false) _ 597 55 [some (.ref 0), some (.int 60), some (.int 3), some (.int 4096)] [] σ
                                                                                                                              refine ⟨fun h => absurd h (by decide), fun _ => ?_⟩
                                                                                                                              change ev_wp pg_F pg_lay none [] (ev_lu pg_c78) (fun _ => false) _ 592 8 [some (.ref 0), some (.int 61), some (.int 3), some (.int 4096)] [] σ
                                                                                                                              refine ⟨trivial, ?_⟩
                                                                                                                              rintro _ _ ⟨rfl, rfl⟩
                                                                                                                              change ev_wp pg_F pg_lay none [] (ev_lu pg_c78) (fun _ => false) _ 577 29 [some (.ref 0), some (.int 61), some (.int 3), some (.int 8192)] [.int (sp_at σ 4 3)] σ
                                                                                                                              refine ⟨fun (h306 : ((sp_at σ 4 3) &&& 8192) = 0) => ?_, fun (h306 : ¬ ((sp_at σ 4 3) &&& 8192) = 0) => ?_⟩
                                                                                                                              · skip
                                                                                                                                change ev_wp pg_F pg_lay none [] (ev_lu pg_c78) (fun _ => false) _ 574 34 [some (.ref 0), some (.int 61), some (.int 3), some (.int 8192)] [] σ
                                                                                                                                refine ⟨trivial, ?_⟩
                                                                                                                                rintro _ _ ⟨rfl, rfl⟩
                                                                                                                                change ev_wp pg_F pg_lay none [] (ev_lu pg_c78) (fun _ => false) _ 565 49 [some (.ref 0), some (.int 61), some (.int 3), some (.int 8192)] [.int (sp_at σ 4 3), .int 3, .int 4, .ref 1] σ
                                                                                                                                refine ⟨trivial, ?_⟩
                                                                                                                                rintro _ s309 ⟨v307, k308, rfl⟩
                                                                                                                                have r310 := (sp_w.rf σ).tr k308.2
                                                                                                                                exact ⟨_, rfl, k308.1, Nat.le_of_eq (congrArg Prod.snd r310.2.1), _, ⟨k308.1, r310⟩, rfl⟩
                                                                                                                              · skip
                                                                                                                                change ev_wp pg_F pg_lay none [] (ev_lu pg_c78) (fun _ => false) _ 574 55 [some (.ref 0), some (.int 61), some (.int 3), some (.int 8192)] [] σ
                                                                                                                                refine ⟨fun h => absurd h (by decide), fun _ => ?_⟩
                                                                                                                                change ev_wp pg_F pg_lay none [] (ev_lu pg_c78) (fun _ => false) _ 569 8 [some (.ref 0), some (.int 62), some (.int 3), some (.int 8192)] [] σ
                                                                                                                                refine ⟨trivial, ?_⟩
                                                                                                                                rintro _ _ ⟨rfl, rfl⟩
                                                                                                                                change ev_wp pg_F pg_lay none [] (ev_lu pg_c78) (fun _ => false) _ 554 29 [some (.ref 0), some (.int 62), some (.int 3), some (.int 16384)] [.int (sp_at σ 4 3)] σ
                                                                                                                                refine ⟨fun (h311 : ((sp_at σ 4 3) &&& 16384) = 0) => ?_, fun (h311 : ¬ ((sp_at σ 4 3) &&& 16384) = 0) => ?_⟩
                                                                                                                                · skip
                                                                                                                                  change ev_wp pg_F pg_lay none [] (ev_lu pg_c78) (fun _ => false) _ 551 34 [some (.ref 0), some (.int 62), some (.int 3), some (.int 16384)] [] σ
                                                                                                                                  refine ⟨trivial, ?_⟩
                                                                                                                                  rintro _ _ ⟨rfl, rfl⟩
                                                                                                                                  change ev_wp pg_F pg_lay none [] (ev_lu pg_c78) (fun _ => false) _ 542 49 [some (.ref 0), some (.int 62), some (.int 3), some (.int 16384)] [.int (sp_at σ 4 3), .int 3, .int 4, .ref 1] σ
                                                                                                                                  refine ⟨trivial, ?_⟩
                                                                                                                                  rintro _ s314 ⟨v312, k313, rfl⟩
                                                                                                                                  have r315 := (sp_w.rf σ).tr k313.2
                                                                                                                                  exact ⟨_, rfl, k313.1, Nat.le_of_eq (congrArg Prod.snd r315.2.1), _, ⟨k313.1, r315⟩, rfl⟩
                                                                                                                                · skip
                                                                                                                                  change ev_wp pg_F pg_lay none [] (ev_lu pg_c78) (fun _ => false) _ 551 55 [some (.ref 0), some (.int 62), some (.int 3), some (.int 16384)] [] σ
                                                                                                                                  refine ⟨fun h => absurd h (by decide), fun _ => ?_⟩
                                                                                                                                  change ev_wp pg_F pg_lay none [] (ev_lu pg_c78) (fun _ => false) _ 546 8 [some (.ref 0), some (.int 63), some (.int 3), some (.int 16384)] [] σ
                                                                                                                                  refine ⟨trivial, ?_⟩
                                                                                                                                  rintro _ _ ⟨rfl, rfl⟩
                                                                                                                                  change ev_wp pg_F pg_lay none [] (ev_lu pg_c78) (fun _ => false) _ 531 29 [some (.ref 0), some (.int 63), some (.int 3), some (.int 32768)] [.int (sp_at σ 4 3)] σ
                                                                                                                                  refine ⟨fun (h316 : ((sp_at σ 4 3) &&& 32768) = 0) => ?_, fun (h316 : ¬ ((sp_at σ 4 3) &&& 32768) = 0) => ?_⟩
                                                                                                                                  · skip
                                                                                                                                    change ev_wp pg_F pg_lay none [] (ev_lu pg_c78) (fun _ => false) _ 528 34 [some (.ref 0), some (.int 63), some (.int 3), some (.int 32768)] [] σ
                                                                                                                                    refine ⟨trivial, ?_⟩
                                                                                                                                    rintro _ _ ⟨rfl, rfl⟩
                                                                                                                                    change ev_wp pg_F pg_lay none [] (ev_lu pg_c78) (fun _ => false) _ 519 49 [some (.ref 0), some (.int 63), some (.int 3), some (.int 32768)] [.int (sp_at σ 4 3), .int 3, .int 4, .ref 1] σ
                                                                                                                                    refine ⟨trivial, ?_⟩
                                                                                                                                    rintro _ s319 ⟨v317, k318, rfl⟩
                                                                                                                                    have r320 := (sp_w.rf σ).tr k318.2
                                                                                                                                    exact ⟨_, rfl, k318.1, Nat.le_of_eq (congrArg Prod.snd r320.2.1), _, ⟨k318.1, r320⟩, rfl⟩
                                                                                                                                  · skip
                                                                                                                                    change ev_wp pg_F pg_lay none [] (ev_lu pg_c78) (fun _ => false) _ 528 55 [some (.ref 0), some (.int 63), some (.int 3), some (.int 32768)] [] σ
                                                                                                                                    refine ⟨fun _ => ?_, fun h => absurd (by decide) h⟩
                                                                                                                                    change ev_wp pg_F pg_lay none [] (ev_lu pg_c78) (fun _ => false) _ 523 61 [some (.ref 0), some (.int 64), some (.int 3), some (.int 32768)] [] σ
                                                                                                                                    exact ⟨_, rfl, by first | exact Or.inl rfl | exact Or.inr rfl, Nat.le_of_eq (congrArg Prod.snd (sp_w.rf σ).2.1), _, ⟨by first | exact Or.inl rfl | exact Or.inr rfl, (sp_w.rf σ)⟩, rfl⟩
  · cases h
theorem pr_87 : pg_Rn pg_F 87 pg_y87 [] pg_t87 := by
  intro vs σ P h hp
  replace h : pf_87 vs σ = some P := h
  unfold pf_87 at h
  split at h
  · rename_i a b c
    cases h
    refine ⟨by simp [Value.category], Nat.le_of_ble_eq_true rfl, ev_go pg_hhs pg_cd pg_o87 (fun _ => false) 2000 (Q1 := ev_at (ev_tl pg_t87) σ.2.2 (sp_i True (fun _ => True) σ).2) ?_ (fun _ _ _ _ h => ev_fin h)⟩
    change ev_wp pg_F pg_lay none [] (ev_lu pg_c87) (fun _ => false) _ 2000 0 [some (.ref 0), some (.int a), some (.int b), some (.int c)] [] σ
    refine ⟨trivial, ?_⟩
    rintro _ _ ⟨rfl, rfl⟩
    change ev_wp pg_F pg_lay none [] (ev_lu pg_c87) (fun _ => false) _ 1997 5 [some (.ref 0), some (.int a), some (.int b), some (.int c)] [.int (sp_at σ 0 1)] σ
    refine ⟨fun (h1 : (sp_at σ 0 1) = 0) => ?_, fun (h1 : ¬ (sp_at σ 0 1) = 0) => ?_⟩
    · skip
      change ev_wp pg_F pg_lay none [] (ev_lu pg_c87) (fun _ => false) _ 1996 8 [some (.ref 0), some (.int a), some (.int b), some (.int c)] [] σ
      exact ⟨_, rfl, Nat.le_refl _, _, trivial, rfl, rfl⟩
    · skip
      change ev_wp pg_F pg_lay none [] (ev_lu pg_c87) (fun _ => false) _ 1996 12 [some (.ref 0), some (.int a), some (.int b), some (.int c)] [] σ
      refine ⟨trivial, ?_⟩
      rintro _ _ ⟨v2, k3, rfl, rfl⟩
      change ev_wp pg_F pg_lay none [] (ev_lu pg_c87) (fun _ => false) _ 1991 19 [some (.ref 0), some (.int a), some (.int b), some (.int c)] [.int v2, .int b] σ
      refine ⟨trivial, ?_⟩
      rintro _ _ ⟨rfl, rfl⟩
      exact ⟨_, rfl, Nat.le_refl _, _, trivial, rfl, rfl⟩
  · cases h
theorem pr_88 : pg_Rn pg_F 88 pg_y88 [] pg_t88 := by
  intro vs σ P h hp
  replace h : pf_88 vs σ = some P := h
  unfold pf_88 at h
  split at h
  · rename_i a b
    cases h
    refine ⟨by simp [Value.category], Nat.le_of_ble_eq_true rfl, ev_go pg_hhs pg_cd pg_o88 (fun _ => false) 2000 (Q1 := ev_at (ev_tl pg_t88) σ.2.2 (sp_i (sp_inv σ) sp_b σ).2) ?_ (fun _ _ _ _ h => ev_fin h)⟩
    change ev_wp pg_F pg_lay none [] (ev_lu pg_c88) (fun _ => false) _ 2000 0 [some (.ref 0), some (.int a), some (.int b)] [] σ
    refine ⟨hp, ?_⟩
    rintro _ _ ⟨v1, k2, rfl, rfl⟩
    change ev_wp pg_F pg_lay none [] (ev_lu pg_c88) (fun _ => false) _ 1996 6 [some (.ref 0), some (.int a), some (.int b)] [.int v1, .int a, .ref 0] σ
    refine ⟨trivial, ?_⟩
    rintro _ _ ⟨v3, k4, rfl, rfl⟩
    change ev_wp pg_F pg_lay none [] (ev_lu pg_c88) (fun _ => false) _ 1994 11 [some (.ref 0), some (.int a), some (.int b)] [.int v3] σ
    refine ⟨fun (h5 : v3 = 0) => ?_, fun (h5 : ¬ v3 = 0) => ?_⟩
    · skip
      change ev_wp pg_F pg_lay none [] (ev_lu pg_c88) (fun _ => false) _ 1993 36 [some (.ref 0), some (.int a), some (.int b)] [] σ
      exact ⟨_, rfl, by first | exact Or.inl rfl | exact Or.inr rfl, Nat.le_refl _, _, by first | exact Or.inl rfl | exact Or.inr rfl, rfl, rfl⟩
    · skip
      change ev_wp pg_F pg_lay none [] (ev_lu pg_c88) (fun _ => false) _ 1993 14 [some (.ref 0), some (.int a), some (.int b)] [] σ
      refine ⟨trivial, ?_⟩
      rintro _ _ ⟨v6, k7, rfl, rfl⟩
      change ev_wp pg_F pg_lay none [] (ev_lu pg_c88) (fun _ => false) _ 1990 19 [some (.ref 0), some (.int a), some (.int b)] [.int v6] σ
      refine ⟨fun (h8 : v6 = b) => ?_, fun (h8 : ¬ v6 = b) => ?_⟩
      · skip
        change ev_wp pg_F pg_lay none [] (ev_lu pg_c88) (fun _ => false) _ 1988 23 [some (.ref 0), some (.int a), some (.int b)] [] σ
        refine ⟨trivial, ?_⟩
        rintro _ _ ⟨v9, k10, rfl, rfl⟩
        change ev_wp pg_F pg_lay none [] (ev_lu pg_c88) (fun _ => false) _ 1985 28 [some (.ref 0), some (.int a), some (.int b)] [.int v9] σ
        refine ⟨fun (h11 : 2 ≤ v9) => ?_, fun (h11 : ¬ 2 ≤ v9) => ?_⟩
        · skip
          change ev_wp pg_F pg_lay none [] (ev_lu pg_c88) (fun _ => false) _ 1983 36 [some (.ref 0), some (.int a), some (.int b)] [] σ
          exact ⟨_, rfl, by first | exact Or.inl rfl | exact Or.inr rfl, Nat.le_refl _, _, by first | exact Or.inl rfl | exact Or.inr rfl, rfl, rfl⟩
        · skip
          change ev_wp pg_F pg_lay none [] (ev_lu pg_c88) (fun _ => false) _ 1983 32 [some (.ref 0), some (.int a), some (.int b)] [] σ
          exact ⟨_, rfl, by first | exact Or.inl rfl | exact Or.inr rfl, Nat.le_refl _, _, by first | exact Or.inl rfl | exact Or.inr rfl, rfl, rfl⟩
      · skip
        change ev_wp pg_F pg_lay none [] (ev_lu pg_c88) (fun _ => false) _ 1988 36 [some (.ref 0), some (.int a), some (.int b)] [] σ
        exact ⟨_, rfl, by first | exact Or.inl rfl | exact Or.inr rfl, Nat.le_refl _, _, by first | exact Or.inl rfl | exact Or.inr rfl, rfl, rfl⟩
  · cases h
theorem pr_89 : pg_Rn pg_F 89 pg_y89 [] pg_t89 := by
  intro vs σ P h hp
  replace h : pf_89 vs σ = some P := h
  unfold pf_89 at h
  split at h
  · rename_i a
    cases h
    refine ⟨by simp [Value.category], Nat.le_of_ble_eq_true rfl, ev_go pg_hhs pg_cd pg_o89 (fun _ => false) 2000 (Q1 := ev_at (ev_tl pg_t89) σ.2.2 (sp_i True sp_b σ).2) ?_ (fun _ _ _ _ h => ev_fin h)⟩
    change ev_wp pg_F pg_lay none [] (ev_lu pg_c89) (fun _ => false) _ 2000 0 [some (.ref 0), some (.int a)] [] σ
    refine ⟨trivial, ?_⟩
    rintro _ _ ⟨v1, k2, rfl, rfl⟩
    change ev_wp pg_F pg_lay none [] (ev_lu pg_c89) (fun _ => false) _ 1996 6 [some (.ref 0), some (.int a)] [.int v1, .ref 0] σ
    refine ⟨trivial, ?_⟩
    rintro _ _ ⟨v3, k4, rfl, rfl⟩
    change ev_wp pg_F pg_lay none [] (ev_lu pg_c89) (fun _ => false) _ 1995 9 [some (.ref 0), some (.int a)] [.int v3] σ
    refine ⟨fun (h5 : v3 = (-1)) => ?_, fun (h5 : ¬ v3 = (-1)) => ?_⟩
    · skip
      change ev_wp pg_F pg_lay none [] (ev_lu pg_c89) (fun _ => false) _ 1993 13 [some (.ref 0), some (.int a)] [] σ
      exact ⟨_, rfl, by first | exact Or.inl rfl | exact Or.inr rfl, Nat.le_refl _, _, by first | exact Or.inl rfl | exact Or.inr rfl, rfl, rfl⟩
    · skip
      change ev_wp pg_F pg_lay none [] (ev_lu pg_c89) (fun _ => false) _ 1993 17 [some (.ref 0), some (.int a)] [] σ
      exact ⟨_, rfl, by first | exact Or.inl rfl | exact Or.inr rfl, Nat.le_refl _, _, by first | exact Or.inl rfl | exact Or.inr rfl, rfl, rfl⟩
  · cases h
theorem pr_90 : pg_Rn pg_F 90 pg_y90 [] pg_t90 := by
  intro vs σ P h hp
  replace h : pf_90 vs σ = some P := h
  unfold pf_90 at h
  split at h
  · rename_i a b
    cases h
    refine ⟨by simp [Value.category], Nat.le_of_ble_eq_true rfl, ev_go pg_hhs pg_cd pg_o90 (fun _ => false) 2000 (Q1 := ev_at (ev_tl pg_t90) σ.2.2 (sp_i (sp_inv σ) sp_b σ).2) ?_ (fun _ _ _ _ h => ev_fin h)⟩
    change ev_wp pg_F pg_lay none [] (ev_lu pg_c90) (fun _ => false) _ 2000 0 [some (.ref 0), some (.int a), some (.int b)] [] σ
    refine ⟨fun (h1 : a = (-1)) => ?_, fun (h1 : ¬ a = (-1)) => ?_⟩
    · skip
      change ev_wp pg_F pg_lay none [] (ev_lu pg_c90) (fun _ => false) _ 1997 22 [some (.ref 0), some (.int a), some (.int b)] [] σ
      exact ⟨_, rfl, by first | exact Or.inl rfl | exact Or.inr rfl, Nat.le_refl _, _, by first | exact Or.inl rfl | exact Or.inr rfl, rfl, rfl⟩
    · skip
      change ev_wp pg_F pg_lay none [] (ev_lu pg_c90) (fun _ => false) _ 1997 5 [some (.ref 0), some (.int a), some (.int b)] [] σ
      refine ⟨fun (h2 : a = (σ.1 0 4)) => ?_, fun (h2 : ¬ a = (σ.1 0 4)) => ?_⟩
      · skip
        change ev_wp pg_F pg_lay none [] (ev_lu pg_c90) (fun _ => false) _ 1993 13 [some (.ref 0), some (.int a), some (.int b)] [] σ
        refine ⟨trivial, ?_⟩
        rintro _ _ ⟨v3, k4, rfl, rfl⟩
        change ev_wp pg_F pg_lay none [] (ev_lu pg_c90) (fun _ => false) _ 1990 18 [some (.ref 0), some (.int a), some (.int b)] [.int v3] σ
        refine ⟨fun (h5 : v3 = b) => ?_, fun (h5 : ¬ v3 = b) => ?_⟩
        · skip
          change ev_wp pg_F pg_lay none [] (ev_lu pg_c90) (fun _ => false) _ 1988 24 [some (.ref 0), some (.int a), some (.int b)] [] σ
          refine ⟨hp, ?_⟩
          rintro _ _ ⟨v6, k7, rfl, rfl⟩
          change ev_wp pg_F pg_lay none [] (ev_lu pg_c90) (fun _ => false) _ 1986 28 [some (.ref 0), some (.int a), some (.int b)] [.int v6] σ
          refine ⟨trivial, ?_⟩
          rintro _ _ ⟨v8, k9, rfl, rfl⟩
          change ev_wp pg_F pg_lay none [] (ev_lu pg_c90) (fun _ => false) _ 1983 33 [some (.ref 0), some (.int a), some (.int b)] [.int v8, .int v6] σ
          refine ⟨trivial, ?_⟩
          rintro _ _ ⟨rfl, rfl⟩
          exact ⟨_, rfl, sp_upto_b _ _, Nat.le_refl _, _, sp_upto_b _ _, rfl, rfl⟩
        · skip
          change ev_wp pg_F pg_lay none [] (ev_lu pg_c90) (fun _ => false) _ 1988 22 [some (.ref 0), some (.int a), some (.int b)] [] σ
          exact ⟨_, rfl, by first | exact Or.inl rfl | exact Or.inr rfl, Nat.le_refl _, _, by first | exact Or.inl rfl | exact Or.inr rfl, rfl, rfl⟩
      · skip
        change ev_wp pg_F pg_lay none [] (ev_lu pg_c90) (fun _ => false) _ 1993 22 [some (.ref 0), some (.int a), some (.int b)] [] σ
        exact ⟨_, rfl, by first | exact Or.inl rfl | exact Or.inr rfl, Nat.le_refl _, _, by first | exact Or.inl rfl | exact Or.inr rfl, rfl, rfl⟩
  · cases h
theorem pr_91 : pg_Rn pg_F 91 pg_y91 [] pg_t91 := by
  intro vs σ P h hp
  replace h : pf_91 vs σ = some P := h
  unfold pf_91 at h
  split at h
  · rename_i a
    cases h
    refine ⟨by simp [Value.category], Nat.le_of_ble_eq_true rfl, ev_go pg_hhs pg_cd pg_o91 (fun _ => false) 2000 (Q1 := ev_at (ev_tl pg_t91) σ.2.2 (sp_i True sp_b σ).2) ?_ (fun _ _ _ _ h => ev_fin h)⟩
    change ev_wp pg_F pg_lay none [] (ev_lu pg_c91) (fun _ => false) _ 2000 0 [some (.ref 0), some (.int a), none, none, none] [] σ
    refine ⟨trivial, ?_⟩
    rintro _ _ ⟨v1, k2, rfl, rfl⟩
    change ev_wp pg_F pg_lay none [] (ev_lu pg_c91) (fun _ => false) _ 1997 5 [some (.ref 0), some (.int a), none, none, none] [.int v1] σ
    refine ⟨fun (h3 : v1 = 0) => ?_, fun (h3 : ¬ v1 = 0) => ?_⟩
    · skip
      change ev_wp pg_F pg_lay none [] (ev_lu pg_c91) (fun _ => false) _ 1996 10 [some (.ref 0), some (.int a), none, none, none] [] σ
      refine ⟨trivial, ?_⟩
      rintro _ _ ⟨rfl, rfl⟩
      change ev_wp pg_F pg_lay none [] (ev_lu pg_c91) (fun _ => false) _ 1994 14 [some (.ref 0), some (.int a), none, none, none] [.int (sp_at σ 0 0)] σ
      refine ⟨trivial, ?_⟩
      rintro _ _ ⟨rfl, rfl⟩
      change ev_wp pg_F pg_lay none [] (ev_lu pg_c91) (fun _ => false) _ 1988 24 [some (.ref 0), some (.int a), some (.int (sp_at σ 0 0)), none, none] [.int (sp_at σ a 5)] σ
      refine ⟨fun (h4 : (sp_at σ 0 0) = 1) => ?_, fun (h4 : ¬ (sp_at σ 0 0) = 1) => ?_⟩
      · skip
        change ev_wp pg_F pg_lay none [] (ev_lu pg_c91) (fun _ => false) _ 1982 34 [some (.ref 0), some (.int a), some (.int (sp_at σ 0 0)), some (.int ((sp_at σ a 5) / 256)), none] [] σ
        refine ⟨trivial, ?_⟩
        rintro _ _ ⟨v5, k6, rfl, rfl⟩
        change ev_wp pg_F pg_lay none [] (ev_lu pg_c91) (fun _ => false) _ 1979 39 [some (.ref 0), some (.int a), some (.int (sp_at σ 0 0)), some (.int ((sp_at σ a 5) / 256)), none] [.int v5, .int ((sp_at σ a 5) / 256)] σ
        refine ⟨fun (h7 : ((sp_at σ a 5) / 256) ≤ v5) => ?_, fun (h7 : ¬ ((sp_at σ a 5) / 256) ≤ v5) => ?_⟩
        · skip
          change ev_wp pg_F pg_lay none [] (ev_lu pg_c91) (fun _ => false) _ 1978 46 [some (.ref 0), some (.int a), some (.int (sp_at σ 0 0)), some (.int ((sp_at σ a 5) / 256)), none] [] σ
          exact ⟨_, rfl, by first | exact Or.inl rfl | exact Or.inr rfl, Nat.le_refl _, _, by first | exact Or.inl rfl | exact Or.inr rfl, rfl, rfl⟩
        · skip
          change ev_wp pg_F pg_lay none [] (ev_lu pg_c91) (fun _ => false) _ 1978 42 [some (.ref 0), some (.int a), some (.int (sp_at σ 0 0)), some (.int ((sp_at σ a 5) / 256)), none] [] σ
          exact ⟨_, rfl, by first | exact Or.inl rfl | exact Or.inr rfl, Nat.le_refl _, _, by first | exact Or.inl rfl | exact Or.inr rfl, rfl, rfl⟩
      · skip
        change ev_wp pg_F pg_lay none [] (ev_lu pg_c91) (fun _ => false) _ 1982 48 [some (.ref 0), some (.int a), some (.int (sp_at σ 0 0)), some (.int ((sp_at σ a 5) / 256)), none] [] σ
        refine ⟨fun (h8 : (sp_at σ 0 0) = 3) => ?_, fun (h8 : ¬ (sp_at σ 0 0) = 3) => ?_⟩
        · skip
          change ev_wp pg_F pg_lay none [] (ev_lu pg_c91) (fun _ => false) _ 1979 53 [some (.ref 0), some (.int a), some (.int (sp_at σ 0 0)), some (.int ((sp_at σ a 5) / 256)), none] [] σ
          refine ⟨trivial, ?_⟩
          rintro _ _ ⟨v9, k10, rfl, rfl⟩
          change ev_wp pg_F pg_lay none [] (ev_lu pg_c91) (fun _ => false) _ 1975 61 [some (.ref 0), some (.int a), some (.int (sp_at σ 0 0)), some (.int ((sp_at σ a 5) / 256)), none] [.int v9] σ
          refine ⟨fun (h11 : v9 = (-1)) => ?_, fun (h11 : ¬ v9 = (-1)) => ?_⟩
          · skip
            change ev_wp pg_F pg_lay none [] (ev_lu pg_c91) (fun _ => false) _ 1970 93 [some (.ref 0), some (.int a), some (.int (sp_at σ 0 0)), some (.int ((sp_at σ a 5) / 256)), some (.int v9)] [] σ
            exact ⟨_, rfl, by first | exact Or.inl rfl | exact Or.inr rfl, Nat.le_refl _, _, by first | exact Or.inl rfl | exact Or.inr rfl, rfl, rfl⟩
          · skip
            change ev_wp pg_F pg_lay none [] (ev_lu pg_c91) (fun _ => false) _ 1970 73 [some (.ref 0), some (.int a), some (.int (sp_at σ 0 0)), some (.int ((sp_at σ a 5) / 256)), some (.int v9)] [] σ
            refine ⟨trivial, ?_⟩
            rintro _ _ ⟨v12, k13, rfl, rfl⟩
            change ev_wp pg_F pg_lay none [] (ev_lu pg_c91) (fun _ => false) _ 1966 80 [some (.ref 0), some (.int a), some (.int (sp_at σ 0 0)), some (.int ((sp_at σ a 5) / 256)), some (.int v9)] [.int v12, .int ((sp_at σ a 5) / 256)] σ
            refine ⟨fun (h14 : ((sp_at σ a 5) / 256) = ((v12 + 1) - (v12 + 1) / 256 * 256)) => ?_, fun (h14 : ¬ ((sp_at σ a 5) / 256) = ((v12 + 1) - (v12 + 1) / 256 * 256)) => ?_⟩
            · skip
              change ev_wp pg_F pg_lay none [] (ev_lu pg_c91) (fun _ => false) _ 1961 89 [some (.ref 0), some (.int a), some (.int (sp_at σ 0 0)), some (.int ((sp_at σ a 5) / 256)), some (.int v9)] [] σ
              exact ⟨_, rfl, by first | exact Or.inl rfl | exact Or.inr rfl, Nat.le_refl _, _, by first | exact Or.inl rfl | exact Or.inr rfl, rfl, rfl⟩
            · skip
              change ev_wp pg_F pg_lay none [] (ev_lu pg_c91) (fun _ => false) _ 1961 93 [some (.ref 0), some (.int a), some (.int (sp_at σ 0 0)), some (.int ((sp_at σ a 5) / 256)), some (.int v9)] [] σ
              exact ⟨_, rfl, by first | exact Or.inl rfl | exact Or.inr rfl, Nat.le_refl _, _, by first | exact Or.inl rfl | exact Or.inr rfl, rfl, rfl⟩
        · skip
          change ev_wp pg_F pg_lay none [] (ev_lu pg_c91) (fun _ => false) _ 1979 64 [some (.ref 0), some (.int a), some (.int (sp_at σ 0 0)), some (.int ((sp_at σ a 5) / 256)), none] [] σ
          refine ⟨fun _ => ?_, fun h => absurd (by decide) h⟩
          change ev_wp pg_F pg_lay none [] (ev_lu pg_c91) (fun _ => false) _ 1974 93 [some (.ref 0), some (.int a), some (.int (sp_at σ 0 0)), some (.int ((sp_at σ a 5) / 256)), some (.int (-1))] [] σ
          exact ⟨_, rfl, by first | exact Or.inl rfl | exact Or.inr rfl, Nat.le_refl _, _, by first | exact Or.inl rfl | exact Or.inr rfl, rfl, rfl⟩
    · skip
      change ev_wp pg_F pg_lay none [] (ev_lu pg_c91) (fun _ => false) _ 1996 8 [some (.ref 0), some (.int a), none, none, none] [] σ
      exact ⟨_, rfl, by first | exact Or.inl rfl | exact Or.inr rfl, Nat.le_refl _, _, by first | exact Or.inl rfl | exact Or.inr rfl, rfl, rfl⟩
  · cases h
theorem pr_92 : pg_Rn pg_F 92 pg_y92 [] pg_t92 := by
  intro vs σ P h hp
  replace h : pf_92 vs σ = some P := h
  unfold pf_92 at h
  split at h
  · cases h
    refine ⟨by simp [Value.category], Nat.le_of_ble_eq_true rfl, ev_go pg_hhs pg_cd pg_o92 (fun _ => false) 2000 (Q1 := ev_at (ev_tl pg_t92) σ.2.2 (sp_i True (fun v => sp_at σ 0 0 ≠ 3 → v = -1) σ).2) ?_ (fun _ _ _ _ h => ev_fin h)⟩
    change ev_wp pg_F pg_lay none [] (ev_lu pg_c92) (fun _ => false) _ 2000 0 [some (.ref 0)] [] σ
    refine ⟨trivial, ?_⟩
    rintro _ _ ⟨rfl, rfl⟩
    change ev_wp pg_F pg_lay none [] (ev_lu pg_c92) (fun _ => false) _ 1998 4 [some (.ref 0)] [.int (sp_at σ 0 0)] σ
    refine ⟨fun (h1 : (sp_at σ 0 0) = 3) => ?_, fun (h1 : ¬ (sp_at σ 0 0) = 3) => ?_⟩
    · skip
      change ev_wp pg_F pg_lay none [] (ev_lu pg_c92) (fun _ => false) _ 1996 8 [some (.ref 0)] [] σ
      refine ⟨trivial, ?_⟩
      rintro _ _ ⟨v2, k3, rfl, rfl⟩
      change ev_wp pg_F pg_lay none [] (ev_lu pg_c92) (fun _ => false) _ 1992 16 [some (.ref 0)] [.int v2] σ
      exact ⟨_, rfl, Nat.le_refl _, _, fun hz => by first | rfl | exact absurd h1 hz, rfl, rfl⟩
    · skip
      change ev_wp pg_F pg_lay none [] (ev_lu pg_c92) (fun _ => false) _ 1996 19 [some (.ref 0)] [] σ
      exact ⟨_, rfl, Nat.le_refl _, _, fun hz => by first | rfl | exact absurd h1 hz, rfl, rfl⟩
  · cases h
theorem pr_93 : pg_Rn pg_F 93 pg_y93 [] pg_t93 := by
  intro vs σ P h hp
  replace h : pf_93 vs σ = some P := h
  unfold pf_93 at h
  split at h
  · cases h
    refine ⟨by simp [Value.category], Nat.le_of_ble_eq_true rfl, ev_go pg_hhs pg_cd pg_o93 (fun _ => false) 2000 (Q1 := ev_at (ev_tl pg_t93) σ.2.2 (sp_i True (fun _ => True) σ).2) ?_ (fun _ _ _ _ h => ev_fin h)⟩
    change ev_wp pg_F pg_lay none [] (ev_lu pg_c93) (fun _ => false) _ 2000 0 [some (.ref 0)] [] σ
    refine ⟨trivial, ?_⟩
    rintro _ _ ⟨v1, k2, rfl, rfl⟩
    exact ⟨_, rfl, Nat.le_refl _, _, trivial, rfl, rfl⟩
  · cases h
theorem pr_94 : pg_Rn pg_F 94 pg_y94 [] pg_t94 := by
  intro vs σ P h hp
  replace h : pf_94 vs σ = some P := h
  unfold pf_94 at h
  split at h
  · rename_i a b
    cases h
    refine ⟨by simp [Value.category], Nat.le_of_ble_eq_true rfl, ev_go pg_hhs pg_cd pg_o94 (fun _ => false) 2000 (Q1 := ev_at (ev_tl pg_t94) σ.2.2 (sp_i (sp_inv σ) (fun _ => True) σ).2) ?_ (fun _ _ _ _ h => ev_fin h)⟩
    change ev_wp pg_F pg_lay none [] (ev_lu pg_c94) (fun _ => false) _ 2000 0 [some (.ref 0), some (.int a), some (.int b), none] [] σ
    refine ⟨hp, ?_⟩
    rintro _ _ ⟨v1, k2, rfl, rfl⟩
    change ev_wp pg_F pg_lay none [] (ev_lu pg_c94) (fun _ => false) _ 1998 4 [some (.ref 0), some (.int a), some (.int b), none] [.int v1] σ
    refine ⟨fun (h3 : v1 = 0) => ?_, fun (h3 : ¬ v1 = 0) => ?_⟩
    · skip
      change ev_wp pg_F pg_lay none [] (ev_lu pg_c94) (fun _ => false) _ 1995 11 [some (.ref 0), some (.int a), some (.int b), some (.int v1)] [] σ
      refine ⟨fun (h4 : a = (-1)) => ?_, fun (h4 : ¬ a = (-1)) => ?_⟩
      · skip
        change ev_wp pg_F pg_lay none [] (ev_lu pg_c94) (fun _ => false) _ 1992 16 [some (.ref 0), some (.int a), some (.int b), some (.int v1)] [] σ
        exact ⟨_, rfl, Nat.le_refl _, _, trivial, rfl, rfl⟩
      · skip
        change ev_wp pg_F pg_lay none [] (ev_lu pg_c94) (fun _ => false) _ 1992 19 [some (.ref 0), some (.int a), some (.int b), some (.int v1)] [] σ
        refine ⟨trivial, ?_⟩
        rintro _ _ ⟨v5, k6, rfl, rfl⟩
        change ev_wp pg_F pg_lay none [] (ev_lu pg_c94) (fun _ => false) _ 1989 24 [some (.ref 0), some (.int a), some (.int b), some (.int v1)] [.int v5] σ
        refine ⟨fun (h7 : (v5 + b) ≤ 65535) => ?_, fun (h7 : ¬ (v5 + b) ≤ 65535) => ?_⟩
        · skip
          change ev_wp pg_F pg_lay none [] (ev_lu pg_c94) (fun _ => false) _ 1985 36 [some (.ref 0), some (.int a), some (.int b), some (.int v1)] [] σ
          exact ⟨_, rfl, Nat.le_refl _, _, trivial, rfl, rfl⟩
        · skip
          change ev_wp pg_F pg_lay none [] (ev_lu pg_c94) (fun _ => false) _ 1985 31 [some (.ref 0), some (.int a), some (.int b), some (.int v1)] [] σ
          exact ⟨_, rfl, Nat.le_refl _, _, trivial, rfl, rfl⟩
    · skip
      change ev_wp pg_F pg_lay none [] (ev_lu pg_c94) (fun _ => false) _ 1995 9 [some (.ref 0), some (.int a), some (.int b), some (.int v1)] [] σ
      exact ⟨_, rfl, Nat.le_refl _, _, trivial, rfl, rfl⟩
  · cases h
theorem pr_95 : pg_Rn pg_F 95 pg_y95 [] pg_t95 := by
  intro vs σ P h hp
  replace h : pf_95 vs σ = some P := h
  unfold pf_95 at h
  split at h
  · rename_i a
    cases h
    refine ⟨by simp [Value.category], Nat.le_of_ble_eq_true rfl, ev_go pg_hhs pg_cd pg_o95 (fun _ => false) 2000 (Q1 := ev_at (ev_tl pg_t95) σ.2.2 (sp_m True (fun v σ' => sp_b v ∧ sp_w σ σ')).2) ?_ (fun _ _ _ _ h => ev_fin h)⟩
    change ev_wp pg_F pg_lay none [] (ev_lu pg_c95) (fun _ => false) _ 2000 0 [some (.ref 0), some (.int a), none] [] σ
    refine ⟨trivial, ?_⟩
    rintro _ _ ⟨v1, k2, rfl, rfl⟩
    change ev_wp pg_F pg_lay none [] (ev_lu pg_c95) (fun _ => false) _ 1997 5 [some (.ref 0), some (.int a), none] [.int v1] σ
    refine ⟨trivial, ?_⟩
    rintro _ _ ⟨rfl, rfl⟩
    change ev_wp pg_F pg_lay none [] (ev_lu pg_c95) (fun _ => false) _ 1981 32 [some (.ref 0), some (.int a), some (.int v1)] [.int (sp_at σ a 3), .int (v1 - v1 / 1440 * 1440), .int ((v1 / 1440) &&& 65535), .ref 1] σ
    refine ⟨trivial, ?_⟩
    rintro _ _ ⟨rfl, rfl⟩
    change ev_wp pg_F pg_lay none [] (ev_lu pg_c95) (fun _ => false) _ 1976 41 [some (.ref 0), some (.int a), some (.int v1)] [.int (sp_at σ a 4), .int (sp_at σ a 3), .int (v1 - v1 / 1440 * 1440), .int ((v1 / 1440) &&& 65535), .ref 1] σ
    refine ⟨trivial, ?_⟩
    rintro _ _ ⟨rfl, rfl⟩
    change ev_wp pg_F pg_lay none [] (ev_lu pg_c95) (fun _ => false) _ 1971 51 [some (.ref 0), some (.int a), some (.int v1)] [.int (sp_at σ a 6), .int (sp_at σ a 4), .int (sp_at σ a 3), .int (v1 - v1 / 1440 * 1440), .int ((v1 / 1440) &&& 65535), .ref 1] σ
    refine ⟨trivial, ?_⟩
    rintro _ _ ⟨v3, k4, rfl, rfl⟩
    change ev_wp pg_F pg_lay none [] (ev_lu pg_c95) (fun _ => false) _ 1968 56 [some (.ref 0), some (.int a), some (.int v1)] [.int v3, .int (sp_at σ a 6), .int (sp_at σ a 4), .int (sp_at σ a 3), .int (v1 - v1 / 1440 * 1440), .int ((v1 / 1440) &&& 65535), .ref 1] σ
    refine ⟨trivial, ?_⟩
    rintro _ s6 ⟨k5, rfl⟩
    have r7 := (sp_w.rf σ).tr k5
    change ev_wp pg_F pg_lay none [] (ev_lu pg_c95) (fun _ => false) _ 1967 59 [some (.ref 0), some (.int a), some (.int v1)] [] s6
    refine ⟨trivial, ?_⟩
    rintro _ _ ⟨v8, k9, rfl, rfl⟩
    change ev_wp pg_F pg_lay none [] (ev_lu pg_c95) (fun _ => false) _ 1962 68 [some (.ref 0), some (.int a), some (.int v1)] [.int v8, .ref 1] s6
    refine ⟨trivial, ?_⟩
    rintro _ _ ⟨v10, k11, rfl, rfl⟩
    change ev_wp pg_F pg_lay none [] (ev_lu pg_c95) (fun _ => false) _ 1961 71 [some (.ref 0), some (.int a), some (.int v1)] [.int v10, .ref 1] s6
    refine ⟨trivial, ?_⟩
    rintro _ _ ⟨v12, k13, rfl, rfl⟩
    change ev_wp pg_F pg_lay none [] (ev_lu pg_c95) (fun _ => false) _ 1958 76 [some (.ref 0), some (.int a), some (.int v1)] [.int v12, .int v10, .ref 1] s6
    refine ⟨trivial, ?_⟩
    rintro _ s16 ⟨v14, k15, rfl⟩
    have r17 := r7.tr k15.2
    exact ⟨_, rfl, k15.1, Nat.le_of_eq (congrArg Prod.snd r17.2.1), _, ⟨k15.1, r17⟩, rfl⟩
  · cases h
theorem pr_102 : pg_Rn pg_F 102 pg_y102 [] pg_t102 := by
  intro vs σ P h hp
  replace h : pf_102 vs σ = some P := h
  unfold pf_102 at h
  split at h
  · rename_i a
    cases h
    refine ⟨by simp [Value.category], Nat.le_of_ble_eq_true rfl, ev_go pg_hhs pg_cd pg_o102 (fun _ => false) 2000 (Q1 := ev_at (ev_tl pg_t102) σ.2.2 (sp_i True (fun v => sp_at σ 0 0 ≠ 3 → v = -1) σ).2) ?_ (fun _ _ _ _ h => ev_fin h)⟩
    change ev_wp pg_F pg_lay none [] (ev_lu pg_c102) (fun _ => false) _ 2000 0 [some (.ref 0), some (.int a), none] [] σ
    refine ⟨trivial, ?_⟩
    rintro _ _ ⟨v1, k2, rfl, rfl⟩
    change ev_wp pg_F pg_lay none [] (ev_lu pg_c102) (fun _ => false) _ 1998 4 [some (.ref 0), some (.int a), none] [.int v1] σ
    refine ⟨fun (h3 : v1 = (-1)) => ?_, fun (h3 : ¬ v1 = (-1)) => ?_⟩
    · skip
      change ev_wp pg_F pg_lay none [] (ev_lu pg_c102) (fun _ => false) _ 1994 18 [some (.ref 0), some (.int a), some (.int v1)] [] σ
      exact ⟨_, rfl, Nat.le_refl _, _, fun hz => by first | rfl | exact absurd (k2 hz) h3, rfl, rfl⟩
    · skip
      change ev_wp pg_F pg_lay none [] (ev_lu pg_c102) (fun _ => false) _ 1994 10 [some (.ref 0), some (.int a), some (.int v1)] [] σ
      refine ⟨trivial, ?_⟩
      rintro _ _ ⟨rfl, rfl⟩
      change ev_wp pg_F pg_lay none [] (ev_lu pg_c102) (fun _ => false) _ 1991 15 [some (.ref 0), some (.int a), some (.int v1)] [.int (sp_at σ 0 1)] σ
      refine ⟨fun (h4 : (sp_at σ 0 1) = 0) => ?_, fun (h4 : ¬ (sp_at σ 0 1) = 0) => ?_⟩
      · skip
        change ev_wp pg_F pg_lay none [] (ev_lu pg_c102) (fun _ => false) _ 1990 18 [some (.ref 0), some (.int a), some (.int v1)] [] σ
        exact ⟨_, rfl, Nat.le_refl _, _, fun hz => by first | rfl | exact absurd (k2 hz) h3, rfl, rfl⟩
      · skip
        change ev_wp pg_F pg_lay none [] (ev_lu pg_c102) (fun _ => false) _ 1990 20 [some (.ref 0), some (.int a), some (.int v1)] [] σ
        refine ⟨trivial, ?_⟩
        rintro _ _ ⟨v5, k6, rfl, rfl⟩
        exact ⟨_, rfl, Nat.le_refl _, _, fun hz => by first | rfl | exact absurd (k2 hz) h3, rfl, rfl⟩
  · cases h
theorem pr_103 : pg_Rn pg_F 103 pg_y103 [] pg_t103 := by
  intro vs σ P h hp
  replace h : pf_103 vs σ = some P := h
  unfold pf_103 at h
  split at h
  · cases h
    refine ⟨by simp [Value.category], Nat.le_of_ble_eq_true rfl, ev_go pg_hhs pg_cd pg_o103 (fun _ => false) 2000 (Q1 := ev_at (ev_tl pg_t103) σ.2.2 (sp_i True (fun v => sp_at σ 0 0 ≠ 3 → v = -1) σ).2) ?_ (fun _ _ _ _ h => ev_fin h)⟩
    change ev_wp pg_F pg_lay none [] (ev_lu pg_c103) (fun _ => false) _ 2000 0 [some (.ref 0), none] [] σ
    refine ⟨trivial, ?_⟩
    rintro _ _ ⟨v1, k2, rfl, rfl⟩
    change ev_wp pg_F pg_lay none [] (ev_lu pg_c103) (fun _ => false) _ 1998 4 [some (.ref 0), none] [.int v1] σ
    refine ⟨fun (h3 : v1 = (-1)) => ?_, fun (h3 : ¬ v1 = (-1)) => ?_⟩
    · skip
      change ev_wp pg_F pg_lay none [] (ev_lu pg_c103) (fun _ => false) _ 1994 10 [some (.ref 0), some (.int v1)] [] σ
      exact ⟨_, rfl, Nat.le_refl _, _, fun hz => by first | rfl | exact absurd (k2 hz) h3, rfl, rfl⟩
    · skip
      change ev_wp pg_F pg_lay none [] (ev_lu pg_c103) (fun _ => false) _ 1994 14 [some (.ref 0), some (.int v1)] [] σ
      refine ⟨trivial, ?_⟩
      rintro _ _ ⟨v4, k5, rfl, rfl⟩
      exact ⟨_, rfl, Nat.le_refl _, _, fun hz => by first | rfl | exact absurd (k2 hz) h3, rfl, rfl⟩
  · cases h
theorem pr_104 : pg_Rn pg_F 104 pg_y104 [] pg_t104 := by
  intro vs σ P h hp
  replace h : pf_104 vs σ = some P := h
  unfold pf_104 at h
  split at h
  · cases h
    refine ⟨by simp [Value.category], Nat.le_of_ble_eq_true rfl, ev_go pg_hhs pg_cd pg_o104 (fun _ => false) 2000 (Q1 := ev_at (ev_tl pg_t104) σ.2.2 (sp_i True (fun v => sp_zero σ → v = -1) σ).2) ?_ (fun _ _ _ _ h => ev_fin h)⟩
    change ev_wp pg_F pg_lay none [] (ev_lu pg_c104) (fun _ => false) _ 2000 0 [some (.ref 0), none, none] [] σ
    refine ⟨trivial, ?_⟩
    rintro _ _ ⟨v1, k2, rfl, rfl⟩
    change ev_wp pg_F pg_lay none [] (ev_lu pg_c104) (fun _ => false) _ 1996 9 [some (.ref 0), none, none] [.int v1] σ
    refine ⟨fun (h3 : v1 = (-1)) => ?_, fun (h3 : ¬ v1 = (-1)) => ?_⟩
    · skip
      change ev_wp pg_F pg_lay none [] (ev_lu pg_c104) (fun _ => false) _ 1992 23 [some (.ref 0), some (.int v1), none] [] σ
      exact ⟨_, rfl, Nat.le_refl _, _, fun hz => by first | rfl | (exact k2 hz), rfl, rfl⟩
    · skip
      change ev_wp pg_F pg_lay none [] (ev_lu pg_c104) (fun _ => false) _ 1992 15 [some (.ref 0), some (.int v1), none] [] σ
      refine ⟨trivial, ?_⟩
      rintro _ _ ⟨v4, k5, rfl, rfl⟩
      change ev_wp pg_F pg_lay none [] (ev_lu pg_c104) (fun _ => false) _ 1989 20 [some (.ref 0), some (.int v1), none] [.int v4] σ
      refine ⟨fun (h6 : v4 = 0) => ?_, fun (h6 : ¬ v4 = 0) => ?_⟩
      · skip
        change ev_wp pg_F pg_lay none [] (ev_lu pg_c104) (fun _ => false) _ 1988 23 [some (.ref 0), some (.int v1), none] [] σ
        exact ⟨_, rfl, Nat.le_refl _, _, fun hz => by first | rfl | (exact absurd (k2 hz) h3) | (exact k2 hz), rfl, rfl⟩
      · skip
        change ev_wp pg_F pg_lay none [] (ev_lu pg_c104) (fun _ => false) _ 1988 25 [some (.ref 0), some (.int v1), none] [] σ
        refine ⟨trivial, ?_⟩
        rintro _ _ ⟨v7, k8, rfl, rfl⟩
        change ev_wp pg_F pg_lay none [] (ev_lu pg_c104) (fun _ => false) _ 1985 31 [some (.ref 0), some (.int v1), none] [.int v7] σ
        refine ⟨trivial, ?_⟩
        rintro _ _ ⟨v9, k10, rfl, rfl⟩
        change ev_wp pg_F pg_lay none [] (ev_lu pg_c104) (fun _ => false) _ 1980 40 [some (.ref 0), some (.int v1), some (.int v7)] [.int v9] σ
        refine ⟨fun (h11 : v9 = 0) => ?_, fun (h11 : ¬ v9 = 0) => ?_⟩
        · skip
          change ev_wp pg_F pg_lay none [] (ev_lu pg_c104) (fun _ => false) _ 1979 47 [some (.ref 0), some (.int v1), some (.int v7)] [] σ
          exact ⟨_, rfl, Nat.le_refl _, _, fun hz => by first | rfl | (exact absurd (k2 hz) h3) | (exact absurd (k2 hz) h6) | (exact k2 hz) | (exact absurd (k10.2 hz) h3) | (exact absurd (k10.2 hz) h6), rfl, rfl⟩
        · skip
          change ev_wp pg_F pg_lay none [] (ev_lu pg_c104) (fun _ => false) _ 1979 43 [some (.ref 0), some (.int v1), some (.int v7)] [] σ
          exact ⟨_, rfl, Nat.le_refl _, _, fun hz => by first | rfl | (exact absurd (k2 hz) h3) | (exact absurd (k2 hz) h6) | (exact absurd (k2 hz) h11) | (exact k2 hz) | (exact absurd (k10.2 hz) h3) | (exact absurd (k10.2 hz) h6) | (exact absurd (k10.2 hz) h11), rfl, rfl⟩
  · cases h
theorem pr_105 : pg_Rn pg_F 105 pg_y105 [] pg_t105 := by
  intro vs σ P h hp
  replace h : pf_105 vs σ = some P := h
  unfold pf_105 at h
  split at h
  · rename_i a b c
    cases h
    refine ⟨by simp [Value.category], Nat.le_of_ble_eq_true rfl, ev_go pg_hhs pg_cd pg_o105 (fun _ => false) 2000 (Q1 := ev_at (ev_tl pg_t105) σ.2.2 (sp_m (sp_inv σ) (fun _ σ' => sp_t σ σ')).2) ?_ (fun _ _ _ _ h => ev_fin h)⟩
    change ev_wp pg_F pg_lay none [] (ev_lu pg_c105) (fun _ => false) _ 2000 0 [some (.ref 0), some (.int a), some (.int b), some (.int c), none, none] [] σ
    refine ⟨hp, ?_⟩
    rintro _ _ ⟨v1, k2, rfl, rfl⟩
    change ev_wp pg_F pg_lay none [] (ev_lu pg_c105) (fun _ => false) _ 1998 4 [some (.ref 0), some (.int a), some (.int b), some (.int c), none, none] [.int v1] σ
    refine ⟨trivial, ?_⟩
    rintro _ _ ⟨v3, k4, rfl, rfl⟩
    change ev_wp pg_F pg_lay none [] (ev_lu pg_c105) (fun _ => false) _ 1995 9 [some (.ref 0), some (.int a), some (.int b), some (.int c), none, none] [.int v3, .int v1] σ
    refine ⟨trivial, ?_⟩
    rintro _ _ ⟨rfl, rfl⟩
    change ev_wp pg_F pg_lay none [] (ev_lu pg_c105) (fun _ => false) _ 1991 16 [some (.ref 0), some (.int a), some (.int b), some (.int c), some (.int (v1 - v3)), none] [.int (sp_at σ 0 0)] σ
    refine ⟨fun (h5 : (sp_at σ 0 0) = 1) => ?_, fun (h5 : ¬ (sp_at σ 0 0) = 1) => ?_⟩
    · skip
      change ev_wp pg_F pg_lay none [] (ev_lu pg_c105) (fun _ => false) _ 1989 20 [some (.ref 0), some (.int a), some (.int b), some (.int c), some (.int (v1 - v3)), none] [] σ
      refine ⟨trivial, ?_⟩
      rintro _ _ ⟨v6, k7, rfl, rfl⟩
      change ev_wp pg_F pg_lay none [] (ev_lu pg_c105) (fun _ => false) _ 1987 24 [some (.ref 0), some (.int a), some (.int b), some (.int c), some (.int (v1 - v3)), none] [.int v6] σ
      refine ⟨trivial, ?_⟩
      rintro _ _ ⟨rfl, rfl⟩
      change ev_wp pg_F pg_lay none [] (ev_lu pg_c105) (fun _ => false) _ 1978 54 [some (.ref 0), some (.int a), some (.int b), some (.int c), some (.int (v1 - v3)), some (.int v6)] [.int (sp_at σ a 1), .ref 1] σ
      refine ⟨trivial, ?_⟩
      rintro _ _ ⟨rfl, rfl⟩
      change ev_wp pg_F pg_lay none [] (ev_lu pg_c105) (fun _ => false) _ 1973 63 [some (.ref 0), some (.int a), some (.int b), some (.int c), some (.int (v1 - v3)), some (.int v6)] [.int (sp_at σ a 2), .int (sp_at σ a 1), .ref 1] σ
      refine ⟨trivial, ?_⟩
      rintro _ _ ⟨v8, k9, rfl, rfl⟩
      change ev_wp pg_F pg_lay none [] (ev_lu pg_c105) (fun _ => false) _ 1966 74 [some (.ref 0), some (.int a), some (.int b), some (.int c), some (.int (v1 - v3)), some (.int v6)] [.int v8, .int b, .int ((sp_at σ a 2) + 4096), .int (sp_at σ a 1), .ref 1] σ
      refine ⟨trivial, ?_⟩
      rintro _ s11 ⟨k10, rfl⟩
      have r12 := (sp_t.rf σ).tr k10.t
      have i13 := k10.inv hp
      change ev_wp pg_F pg_lay none [] (ev_lu pg_c105) (fun _ => false) _ 1959 87 [some (.ref 0), some (.int a), some (.int b), some (.int c), some (.int (v1 - v3)), some (.int v6)] [] s11
      refine ⟨trivial, ?_⟩
      rintro _ s16 ⟨v14, k15, rfl⟩
      have r17 := r12.tr k15.2.t
      have i18 := k15.2.inv i13
      change ev_wp pg_F pg_lay none [] (ev_lu pg_c105) (fun _ => false) _ 1955 96 [some (.ref 0), some (.int a), some (.int b), some (.int c), some (.int (v1 - v3)), some (.int v6)] [.int v14] s16
      refine ⟨fun (h19 : v14 = 0) => ?_, fun (h19 : ¬ v14 = 0) => ?_⟩
      · skip
        change ev_wp pg_F pg_lay none [] (ev_lu pg_c105) (fun _ => false) _ 1954 114 [some (.ref 0), some (.int a), some (.int b), some (.int c), some (.int (v1 - v3)), some (.int v6)] [] s16
        exact ⟨_, rfl, Nat.le_of_eq (congrArg Prod.snd r17.2.1), _, r17, rfl⟩
      · skip
        change ev_wp pg_F pg_lay none [] (ev_lu pg_c105) (fun _ => false) _ 1954 99 [some (.ref 0), some (.int a), some (.int b), some (.int c), some (.int (v1 - v3)), some (.int v6)] [] s16
        refine ⟨trivial, ?_⟩
        rintro _ _ ⟨v20, k21, rfl, rfl⟩
        change ev_wp pg_F pg_lay none [] (ev_lu pg_c105) (fun _ => false) _ 1951 104 [some (.ref 0), some (.int a), some (.int b), some (.int c), some (.int (v1 - v3)), some (.int v6)] [.int v20, .ref 0] s16
        refine ⟨trivial, ?_⟩
        rintro _ s24 ⟨v22, k23, rfl⟩
        have r25 := r17.tr k23.2.t
        have i26 := k23.2.inv i18
        change ev_wp pg_F pg_lay none [] (ev_lu pg_c105) (fun _ => false) _ 1950 107 [some (.ref 0), some (.int a), some (.int b), some (.int c), some (.int (v1 - v3)), some (.int v6)] [.int v22] s24
        refine ⟨fun (h27 : v22 = 0) => ?_, fun (h27 : ¬ v22 = 0) => ?_⟩
        · skip
          change ev_wp pg_F pg_lay none [] (ev_lu pg_c105) (fun _ => false) _ 1949 114 [some (.ref 0), some (.int a), some (.int b), some (.int c), some (.int (v1 - v3)), some (.int v6)] [] s24
          exact ⟨_, rfl, Nat.le_of_eq (congrArg Prod.snd r25.2.1), _, r25, rfl⟩
        · skip
          change ev_wp pg_F pg_lay none [] (ev_lu pg_c105) (fun _ => false) _ 1949 110 [some (.ref 0), some (.int a), some (.int b), some (.int c), some (.int (v1 - v3)), some (.int v6)] [] s24
          exact ⟨_, rfl, Nat.le_of_eq (congrArg Prod.snd r25.2.1), _, r25, rfl⟩
    · skip
      change ev_wp pg_F pg_lay none [] (ev_lu pg_c105) (fun _ => false) _ 1989 27 [some (.ref 0), some (.int a), some (.int b), some (.int c), some (.int (v1 - v3)), none] [] σ
      refine ⟨trivial, ?_⟩
      rintro _ _ ⟨v28, k29, rfl, rfl⟩
      change ev_wp pg_F pg_lay none [] (ev_lu pg_c105) (fun _ => false) _ 1986 32 [some (.ref 0), some (.int a), some (.int b), some (.int c), some (.int (v1 - v3)), none] [.int v28, .ref 0] σ
      refine ⟨trivial, ?_⟩
      rintro _ _ ⟨v30, k31, rfl, rfl⟩
      change ev_wp pg_F pg_lay none [] (ev_lu pg_c105) (fun _ => false) _ 1985 35 [some (.ref 0), some (.int a), some (.int b), some (.int c), some (.int (v1 - v3)), none] [.int v30] σ
      refine ⟨trivial, ?_⟩
      rintro _ _ ⟨rfl, rfl⟩
      change ev_wp pg_F pg_lay none [] (ev_lu pg_c105) (fun _ => false) _ 1975 54 [some (.ref 0), some (.int a), some (.int b), some (.int c), some (.int (v1 - v3)), some (.int (v30 - v30 / 256 * 256))] [.int (sp_at σ a 1), .ref 1] σ
      refine ⟨trivial, ?_⟩
      rintro _ _ ⟨rfl, rfl⟩
      change ev_wp pg_F pg_lay none [] (ev_lu pg_c105) (fun _ => false) _ 1970 63 [some (.ref 0), some (.int a), some (.int b), some (.int c), some (.int (v1 - v3)), some (.int (v30 - v30 / 256 * 256))] [.int (sp_at σ a 2), .int (sp_at σ a 1), .ref 1] σ
      refine ⟨trivial, ?_⟩
      rintro _ _ ⟨v32, k33, rfl, rfl⟩
      change ev_wp pg_F pg_lay none [] (ev_lu pg_c105) (fun _ => false) _ 1963 74 [some (.ref 0), some (.int a), some (.int b), some (.int c), some (.int (v1 - v3)), some (.int (v30 - v30 / 256 * 256))] [.int v32, .int b, .int ((sp_at σ a 2) + 4096), .int (sp_at σ a 1), .ref 1] σ
      refine ⟨trivial, ?_⟩
      rintro _ s35 ⟨k34, rfl⟩
      have r36 := (sp_t.rf σ).tr k34.t
      have i37 := k34.inv hp
      change ev_wp pg_F pg_lay none [] (ev_lu pg_c105) (fun _ => false) _ 1956 87 [some (.ref 0), some (.int a), some (.int b), some (.int c), some (.int (v1 - v3)), some (.int (v30 - v30 / 256 * 256))] [] s35
      refine ⟨trivial, ?_⟩
      rintro _ s40 ⟨v38, k39, rfl⟩
      have r41 := r36.tr k39.2.t
      have i42 := k39.2.inv i37
      change ev_wp pg_F pg_lay none [] (ev_lu pg_c105) (fun _ => false) _ 1952 96 [some (.ref 0), some (.int a), some (.int b), some (.int c), some (.int (v1 - v3)), some (.int (v30 - v30 / 256 * 256))] [.int v38] s40
      refine ⟨fun (h43 : v38 = 0) => ?_, fun (h43 : ¬ v38 = 0) => ?_⟩
      · skip
        change ev_wp pg_F pg_lay none [] (ev_lu pg_c105) (fun _ => false) _ 1951 114 [some (.ref 0), some (.int a), some (.int b), some (.int c), some (.int (v1 - v3)), some (.int (v30 - v30 / 256 * 256))] [] s40
        exact ⟨_, rfl, Nat.le_of_eq (congrArg Prod.snd r41.2.1), _, r41, rfl⟩
      · skip
        change ev_wp pg_F pg_lay none [] (ev_lu pg_c105) (fun _ => false) _ 1951 99 [some (.ref 0), some (.int a), some (.int b), some (.int c), some (.int (v1 - v3)), some (.int (v30 - v30 / 256 * 256))] [] s40
        refine ⟨trivial, ?_⟩
        rintro _ _ ⟨v44, k45, rfl, rfl⟩
        change ev_wp pg_F pg_lay none [] (ev_lu pg_c105) (fun _ => false) _ 1948 104 [some (.ref 0), some (.int a), some (.int b), some (.int c), some (.int (v1 - v3)), some (.int (v30 - v30 / 256 * 256))] [.int v44, .ref 0] s40
        refine ⟨trivial, ?_⟩
        rintro _ s48 ⟨v46, k47, rfl⟩
        have r49 := r41.tr k47.2.t
        have i50 := k47.2.inv i42
        change ev_wp pg_F pg_lay none [] (ev_lu pg_c105) (fun _ => false) _ 1947 107 [some (.ref 0), some (.int a), some (.int b), some (.int c), some (.int (v1 - v3)), some (.int (v30 - v30 / 256 * 256))] [.int v46] s48
        refine ⟨fun (h51 : v46 = 0) => ?_, fun (h51 : ¬ v46 = 0) => ?_⟩
        · skip
          change ev_wp pg_F pg_lay none [] (ev_lu pg_c105) (fun _ => false) _ 1946 114 [some (.ref 0), some (.int a), some (.int b), some (.int c), some (.int (v1 - v3)), some (.int (v30 - v30 / 256 * 256))] [] s48
          exact ⟨_, rfl, Nat.le_of_eq (congrArg Prod.snd r49.2.1), _, r49, rfl⟩
        · skip
          change ev_wp pg_F pg_lay none [] (ev_lu pg_c105) (fun _ => false) _ 1946 110 [some (.ref 0), some (.int a), some (.int b), some (.int c), some (.int (v1 - v3)), some (.int (v30 - v30 / 256 * 256))] [] s48
          exact ⟨_, rfl, Nat.le_of_eq (congrArg Prod.snd r49.2.1), _, r49, rfl⟩
  · cases h
theorem pr_106 : pg_Rn pg_F 106 pg_y106 [] pg_t106 := by
  intro vs σ P h hp
  replace h : pf_106 vs σ = some P := h
  unfold pf_106 at h
  split at h
  · rename_i a b
    cases h
    refine ⟨by simp [Value.category], Nat.le_of_ble_eq_true rfl, ev_go pg_hhs pg_cd pg_o106 (fun _ => false) 2000 (Q1 := ev_at (ev_tl pg_t106) σ.2.2 (sp_m (sp_inv σ) (fun _ σ' => sp_t σ σ')).2) ?_ (fun _ _ _ _ h => ev_fin h)⟩
    change ev_wp pg_F pg_lay none [] (ev_lu pg_c106) (fun _ => false) _ 2000 0 [some (.ref 0), some (.int a), some (.int b), none, none] [] σ
    refine ⟨trivial, ?_⟩
    rintro _ _ ⟨v1, k2, rfl, rfl⟩
    change ev_wp pg_F pg_lay none [] (ev_lu pg_c106) (fun _ => false) _ 1998 4 [some (.ref 0), some (.int a), some (.int b), none, none] [.int v1] σ
    refine ⟨trivial, ?_⟩
    rintro _ _ ⟨rfl, rfl⟩
    change ev_wp pg_F pg_lay none [] (ev_lu pg_c106) (fun _ => false) _ 1993 11 [some (.ref 0), some (.int a), some (.int b), some (.int v1), none] [.int (sp_at σ 0 1), .int v1] σ
    refine ⟨fun (h3 : v1 < (sp_at σ 0 1)) => ?_, fun (h3 : ¬ v1 < (sp_at σ 0 1)) => ?_⟩
    · skip
      change ev_wp pg_F pg_lay none [] (ev_lu pg_c106) (fun _ => false) _ 1992 20 [some (.ref 0), some (.int a), some (.int b), some (.int v1), none] [] σ
      refine ⟨trivial, ?_⟩
      rintro _ _ ⟨v4, k5, rfl, rfl⟩
      change ev_wp pg_F pg_lay none [] (ev_lu pg_c106) (fun _ => false) _ 1986 28 [some (.ref 0), some (.int a), some (.int b), some (.int v1), none] [.int v4, .int a, .ref 0] σ
      refine ⟨hp, ?_⟩
      rintro _ s7 ⟨k6, rfl⟩
      have r8 := (sp_t.rf σ).tr k6.t
      have i9 := k6.inv hp
      change ev_wp pg_F pg_lay none [] (ev_lu pg_c106) (fun _ => false) _ 1981 35 [some (.ref 0), some (.int a), some (.int b), some (.int v1), none] [] s7
      refine ⟨trivial, ?_⟩
      rintro _ s12 ⟨v10, k11, rfl⟩
      have r13 := r8.tr k11.2.t
      have i14 := k11.2.inv i9
      change ev_wp pg_F pg_lay none [] (ev_lu pg_c106) (fun _ => false) _ 1977 44 [some (.ref 0), some (.int a), some (.int b), some (.int v1), none] [.int v10] s12
      refine ⟨fun (h15 : v10 = 0) => ?_, fun (h15 : ¬ v10 = 0) => ?_⟩
      · skip
        change ev_wp pg_F pg_lay none [] (ev_lu pg_c106) (fun _ => false) _ 1976 69 [some (.ref 0), some (.int a), some (.int b), some (.int v1), none] [] s12
        refine ⟨fun _ => ?_, fun h => absurd (by decide) h⟩
        change ev_wp pg_F pg_lay none [] (ev_lu pg_c106) (fun _ => false) _ 1972 81 [some (.ref 0), some (.int a), some (.int b), some (.int v1), some (.int 0)] [] s12
        exact ⟨_, rfl, Nat.le_of_eq (congrArg Prod.snd r13.2.1), _, r13, rfl⟩
      · skip
        change ev_wp pg_F pg_lay none [] (ev_lu pg_c106) (fun _ => false) _ 1976 47 [some (.ref 0), some (.int a), some (.int b), some (.int v1), none] [] s12
        refine ⟨trivial, ?_⟩
        rintro _ s18 ⟨v16, k17, rfl⟩
        have r19 := r13.tr k17.2.t
        have i20 := k17.2.inv i14
        change ev_wp pg_F pg_lay none [] (ev_lu pg_c106) (fun _ => false) _ 1974 51 [some (.ref 0), some (.int a), some (.int b), some (.int v1), none] [.int v16] s18
        refine ⟨fun (h21 : v16 = 0) => ?_, fun (h21 : ¬ v16 = 0) => ?_⟩
        · skip
          change ev_wp pg_F pg_lay none [] (ev_lu pg_c106) (fun _ => false) _ 1973 69 [some (.ref 0), some (.int a), some (.int b), some (.int v1), none] [] s18
          refine ⟨fun _ => ?_, fun h => absurd (by decide) h⟩
          change ev_wp pg_F pg_lay none [] (ev_lu pg_c106) (fun _ => false) _ 1969 81 [some (.ref 0), some (.int a), some (.int b), some (.int v1), some (.int 0)] [] s18
          exact ⟨_, rfl, Nat.le_of_eq (congrArg Prod.snd r19.2.1), _, r19, rfl⟩
        · skip
          change ev_wp pg_F pg_lay none [] (ev_lu pg_c106) (fun _ => false) _ 1973 54 [some (.ref 0), some (.int a), some (.int b), some (.int v1), none] [] s18
          refine ⟨trivial, ?_⟩
          rintro _ _ ⟨v22, k23, rfl, rfl⟩
          change ev_wp pg_F pg_lay none [] (ev_lu pg_c106) (fun _ => false) _ 1970 59 [some (.ref 0), some (.int a), some (.int b), some (.int v1), none] [.int v22, .ref 0] s18
          refine ⟨trivial, ?_⟩
          rintro _ s26 ⟨v24, k25, rfl⟩
          have r27 := r19.tr k25.2.t
          have i28 := k25.2.inv i20
          change ev_wp pg_F pg_lay none [] (ev_lu pg_c106) (fun _ => false) _ 1969 62 [some (.ref 0), some (.int a), some (.int b), some (.int v1), none] [.int v24] s26
          refine ⟨fun (h29 : v24 = 0) => ?_, fun (h29 : ¬ v24 = 0) => ?_⟩
          · skip
            change ev_wp pg_F pg_lay none [] (ev_lu pg_c106) (fun _ => false) _ 1968 69 [some (.ref 0), some (.int a), some (.int b), some (.int v1), none] [] s26
            refine ⟨fun _ => ?_, fun h => absurd (by decide) h⟩
            change ev_wp pg_F pg_lay none [] (ev_lu pg_c106) (fun _ => false) _ 1964 81 [some (.ref 0), some (.int a), some (.int b), some (.int v1), some (.int 0)] [] s26
            exact ⟨_, rfl, Nat.le_of_eq (congrArg Prod.snd r27.2.1), _, r27, rfl⟩
          · skip
            change ev_wp pg_F pg_lay none [] (ev_lu pg_c106) (fun _ => false) _ 1968 65 [some (.ref 0), some (.int a), some (.int b), some (.int v1), none] [] s26
            refine ⟨fun h => absurd h (by decide), fun _ => ?_⟩
            change ev_wp pg_F pg_lay none [] (ev_lu pg_c106) (fun _ => false) _ 1963 77 [some (.ref 0), some (.int a), some (.int b), some (.int v1), some (.int 1)] [] s26
            exact ⟨_, rfl, Nat.le_of_eq (congrArg Prod.snd r27.2.1), _, r27, rfl⟩
    · skip
      change ev_wp pg_F pg_lay none [] (ev_lu pg_c106) (fun _ => false) _ 1992 14 [some (.ref 0), some (.int a), some (.int b), some (.int v1), none] [] σ
      refine ⟨trivial, ?_⟩
      rintro _ _ ⟨_, ⟨rfl, rfl⟩, rfl⟩
      have r30 := (sp_t.rf σ).tr (sp_up0 σ 5 5 (fun h => absurd h (by decide)))
      have i31 := (sp_up0 σ 5 5 (fun h => absurd h (by decide))).2.2 hp
      exact ⟨_, rfl, Nat.le_of_eq (congrArg Prod.snd r30.2.1), _, r30, rfl⟩
  · cases h
theorem pr_107 : pg_Rn pg_F 107 pg_y107 [] pg_t107 := by
  intro vs σ P h hp
  replace h : pf_107 vs σ = some P := h
  unfold pf_107 at h
  split at h
  · rename_i a b c
    cases h
    refine ⟨by simp [Value.category], Nat.le_of_ble_eq_true rfl, ev_go pg_hhs pg_cd pg_o107 (fun _ => false) 2000 (Q1 := ev_at (ev_tl pg_t107) σ.2.2 (sp_m (sp_inv σ) (fun _ σ' => sp_t σ σ')).2) ?_ (fun _ _ _ _ h => ev_fin h)⟩
    change ev_wp pg_F pg_lay none [] (ev_lu pg_c107) (fun _ => false) _ 2000 0 [some (.ref 0), some (.int a), some (.int b), some (.int c), none] [] σ
    refine ⟨hp, ?_⟩
    rintro _ _ ⟨v1, k2, rfl, rfl⟩
    change ev_wp pg_F pg_lay none [] (ev_lu pg_c107) (fun _ => false) _ 1997 5 [some (.ref 0), some (.int a), some (.int b), some (.int c), none] [.int v1, .ref 0] σ
    refine ⟨trivial, ?_⟩
    rintro _ _ ⟨v3, k4, rfl, rfl⟩
    change ev_wp pg_F pg_lay none [] (ev_lu pg_c107) (fun _ => false) _ 1993 13 [some (.ref 0), some (.int a), some (.int b), some (.int c), none] [.int v3] σ
    refine ⟨fun (h5 : v3 = 0) => ?_, fun (h5 : ¬ v3 = 0) => ?_⟩
    · skip
      change ev_wp pg_F pg_lay none [] (ev_lu pg_c107) (fun _ => false) _ 1990 27 [some (.ref 0), some (.int a), some (.int b), some (.int c), some (.int v3)] [] σ
      refine ⟨trivial, ?_⟩
      rintro _ _ ⟨v6, k7, rfl, rfl⟩
      change ev_wp pg_F pg_lay none [] (ev_lu pg_c107) (fun _ => false) _ 1984 35 [some (.ref 0), some (.int a), some (.int b), some (.int c), some (.int v3)] [.int v6, .int b, .ref 0] σ
      refine ⟨hp, ?_⟩
      rintro _ s9 ⟨k8, rfl⟩
      have r10 := (sp_t.rf σ).tr k8.t
      have i11 := k8.inv hp
      change ev_wp pg_F pg_lay none [] (ev_lu pg_c107) (fun _ => false) _ 1981 40 [some (.ref 0), some (.int a), some (.int b), some (.int c), some (.int v3)] [] s9
      refine ⟨trivial, ?_⟩
      rintro _ s14 ⟨v12, k13, rfl⟩
      have r15 := r10.tr k13.2.t
      have i16 := k13.2.inv i11
      change ev_wp pg_F pg_lay none [] (ev_lu pg_c107) (fun _ => false) _ 1977 49 [some (.ref 0), some (.int a), some (.int b), some (.int c), some (.int v3)] [.int v12] s14
      refine ⟨fun (h17 : v12 = 0) => ?_, fun (h17 : ¬ v12 = 0) => ?_⟩
      · skip
        change ev_wp pg_F pg_lay none [] (ev_lu pg_c107) (fun _ => false) _ 1976 67 [some (.ref 0), some (.int a), some (.int b), some (.int c), some (.int v3)] [] s14
        exact ⟨_, rfl, Nat.le_of_eq (congrArg Prod.snd r15.2.1), _, r15, rfl⟩
      · skip
        change ev_wp pg_F pg_lay none [] (ev_lu pg_c107) (fun _ => false) _ 1976 52 [some (.ref 0), some (.int a), some (.int b), some (.int c), some (.int v3)] [] s14
        refine ⟨trivial, ?_⟩
        rintro _ _ ⟨v18, k19, rfl, rfl⟩
        change ev_wp pg_F pg_lay none [] (ev_lu pg_c107) (fun _ => false) _ 1973 57 [some (.ref 0), some (.int a), some (.int b), some (.int c), some (.int v3)] [.int v18, .ref 0] s14
        refine ⟨trivial, ?_⟩
        rintro _ s22 ⟨v20, k21, rfl⟩
        have r23 := r15.tr k21.2.t
        have i24 := k21.2.inv i16
        change ev_wp pg_F pg_lay none [] (ev_lu pg_c107) (fun _ => false) _ 1972 60 [some (.ref 0), some (.int a), some (.int b), some (.int c), some (.int v3)] [.int v20] s22
        refine ⟨fun (h25 : v20 = 0) => ?_, fun (h25 : ¬ v20 = 0) => ?_⟩
        · skip
          change ev_wp pg_F pg_lay none [] (ev_lu pg_c107) (fun _ => false) _ 1971 67 [some (.ref 0), some (.int a), some (.int b), some (.int c), some (.int v3)] [] s22
          exact ⟨_, rfl, Nat.le_of_eq (congrArg Prod.snd r23.2.1), _, r23, rfl⟩
        · skip
          change ev_wp pg_F pg_lay none [] (ev_lu pg_c107) (fun _ => false) _ 1971 63 [some (.ref 0), some (.int a), some (.int b), some (.int c), some (.int v3)] [] s22
          exact ⟨_, rfl, Nat.le_of_eq (congrArg Prod.snd r23.2.1), _, r23, rfl⟩
    · skip
      change ev_wp pg_F pg_lay none [] (ev_lu pg_c107) (fun _ => false) _ 1990 20 [some (.ref 0), some (.int a), some (.int b), some (.int c), some (.int v3)] [] σ
      refine ⟨trivial, ?_⟩
      rintro _ _ ⟨_, ⟨rfl, rfl⟩, rfl⟩
      have r26 := (sp_t.rf σ).tr (sp_up0 σ 5 v3 (fun h => absurd h (by decide)))
      have i27 := (sp_up0 σ 5 v3 (fun h => absurd h (by decide))).2.2 hp
      exact ⟨_, rfl, Nat.le_of_eq (congrArg Prod.snd r26.2.1), _, r26, rfl⟩
  · cases h
theorem pr_108 : pg_Rn pg_F 108 pg_y108 [] pg_t108 := by
  intro vs σ P h hp
  replace h : pf_108 vs σ = some P := h
  unfold pf_108 at h
  split at h
  · rename_i a b c
    cases h
    refine ⟨by simp [Value.category], Nat.le_of_ble_eq_true rfl, ev_go pg_hhs pg_cd pg_o108 (fun _ => false) 2000 (Q1 := ev_at (ev_tl pg_t108) σ.2.2 (sp_m (sp_inv σ) (fun _ σ' => sp_t σ σ')).2) ?_ (fun _ _ _ _ h => ev_fin h)⟩
    change ev_wp pg_F pg_lay none [] (ev_lu pg_c108) (fun _ => false) _ 2000 0 [some (.ref 0), some (.int a), some (.int b), some (.int c), none, none, none, none, none, none, none] [] σ
    refine ⟨trivial, ?_⟩
    rintro _ _ ⟨v1, k2, rfl, rfl⟩
    change ev_wp pg_F pg_lay none [] (ev_lu pg_c108) (fun _ => false) _ 1998 4 [some (.ref 0), some (.int a), some (.int b), some (.int c), none, none, none, none, none, none, none] [.int v1] σ
    refine ⟨hp, ?_⟩
    rintro _ _ ⟨v3, k4, rfl, rfl⟩
    change ev_wp pg_F pg_lay none [] (ev_lu pg_c108) (fun _ => false) _ 1995 10 [some (.ref 0), some (.int a), some (.int b), some (.int c), some (.int v1), none, none, none, none, none, none] [.int v3] σ
    refine ⟨trivial, ?_⟩
    rintro _ _ ⟨v5, k6, rfl, rfl⟩
    change ev_wp pg_F pg_lay none [] (ev_lu pg_c108) (fun _ => false) _ 1987 25 [some (.ref 0), some (.int a), some (.int b), some (.int c), some (.int v1), some (.int (v3 / 1440)), none, none, none, none, none] [.int v5] σ
    refine ⟨fun (h7 : v1 = (-1)) => ?_, fun (h7 : ¬ v1 = (-1)) => ?_⟩
    · skip
      change ev_wp pg_F pg_lay none [] (ev_lu pg_c108) (fun _ => false) _ 1983 44 [some (.ref 0), some (.int a), some (.int b), some (.int c), some (.int v1), some (.int (v3 / 1440)), some (.int v5), none, none, none, none] [] σ
      refine ⟨trivial, ?_⟩
      rintro _ _ ⟨_, ⟨rfl, rfl⟩, rfl⟩
      have r8 := (sp_t.rf σ).tr (sp_up0 σ 5 5 (fun h => absurd h (by decide)))
      have i9 := (sp_up0 σ 5 5 (fun h => absurd h (by decide))).2.2 hp
      exact ⟨_, rfl, Nat.le_of_eq (congrArg Prod.snd r8.2.1), _, r8, rfl⟩
    · skip
      change ev_wp pg_F pg_lay none [] (ev_lu pg_c108) (fun _ => false) _ 1983 33 [some (.ref 0), some (.int a), some (.int b), some (.int c), some (.int v1), some (.int (v3 / 1440)), some (.int v5), none, none, none, none] [] σ
      refine ⟨trivial, ?_⟩
      rintro _ _ ⟨v10, k11, rfl, rfl⟩
      change ev_wp pg_F pg_lay none [] (ev_lu pg_c108) (fun _ => false) _ 1980 39 [some (.ref 0), some (.int a), some (.int b), some (.int c), some (.int v1), some (.int (v3 / 1440)), some (.int v5), none, none, none, none] [.int v10] σ
      refine ⟨fun (h12 : v5 ≤ v10) => ?_, fun (h12 : ¬ v5 ≤ v10) => ?_⟩
      · skip
        change ev_wp pg_F pg_lay none [] (ev_lu pg_c108) (fun _ => false) _ 1978 50 [some (.ref 0), some (.int a), some (.int b), some (.int c), some (.int v1), some (.int (v3 / 1440)), some (.int v5), none, none, none, none] [] σ
        refine ⟨trivial, ?_⟩
        rintro _ _ ⟨v13, k14, rfl, rfl⟩
        change ev_wp pg_F pg_lay none [] (ev_lu pg_c108) (fun _ => false) _ 1975 56 [some (.ref 0), some (.int a), some (.int b), some (.int c), some (.int v1), some (.int (v3 / 1440)), some (.int v5), none, none, none, none] [.int v13] σ
        refine ⟨trivial, ?_⟩
        rintro _ _ ⟨v15, k16, rfl, rfl⟩
        change ev_wp pg_F pg_lay none [] (ev_lu pg_c108) (fun _ => false) _ 1967 71 [some (.ref 0), some (.int a), some (.int b), some (.int c), some (.int v1), some (.int (v3 / 1440)), some (.int v5), some (.int (v13 - v5)), none, none, none] [.int v15, .int 65535] σ
        refine ⟨trivial, ?_⟩
        rintro _ _ ⟨rfl, rfl⟩
        change ev_wp pg_F pg_lay none [] (ev_lu pg_c108) (fun _ => false) _ 1964 77 [some (.ref 0), some (.int a), some (.int b), some (.int c), some (.int v1), some (.int (v3 / 1440)), some (.int v5), some (.int (v13 - v5)), none, none, none] [.int (if (v15 + v5) < 65535 then (v15 + v5) else 65535)] σ
        refine ⟨trivial, ?_⟩
        rintro _ _ ⟨v17, k18, rfl, rfl⟩
        change ev_wp pg_F pg_lay none [] (ev_lu pg_c108) (fun _ => false) _ 1960 85 [some (.ref 0), some (.int a), some (.int b), some (.int c), some (.int v1), some (.int (v3 / 1440)), some (.int v5), some (.int (v13 - v5)), some (.int (if (v15 + v5) < 65535 then (v15 + v5) else 65535)), none, none] [.int v17] σ
        refine ⟨trivial, ?_⟩
        rintro _ _ ⟨v19, k20, rfl, rfl⟩
        change ev_wp pg_F pg_lay none [] (ev_lu pg_c108) (fun _ => false) _ 1949 101 [some (.ref 0), some (.int a), some (.int b), some (.int c), some (.int v1), some (.int (v3 / 1440)), some (.int v5), some (.int (v13 - v5)), some (.int (if (v15 + v5) < 65535 then (v15 + v5) else 65535)), some (.int ((v17 + 1) - (v17 + 1) / 256 * 256)), none] [.int v19, .int b, .ref 0] σ
        refine ⟨hp, ?_⟩
        rintro _ s22 ⟨k21, rfl⟩
        have r23 := (sp_t.rf σ).tr k21.t
        have i24 := k21.inv hp
        change ev_wp pg_F pg_lay none [] (ev_lu pg_c108) (fun _ => false) _ 1946 108 [some (.ref 0), some (.int a), some (.int b), some (.int c), some (.int v1), some (.int (v3 / 1440)), some (.int v5), some (.int (v13 - v5)), some (.int (if (v15 + v5) < 65535 then (v15 + v5) else 65535)), some (.int ((v17 + 1) - (v17 + 1) / 256 * 256)), none] [] s22
        refine ⟨trivial, ?_⟩
        rintro _ s27 ⟨v25, k26, rfl⟩
        have r28 := r23.tr k26.2.t
        have i29 := k26.2.inv i24
        change ev_wp pg_F pg_lay none [] (ev_lu pg_c108) (fun _ => false) _ 1942 117 [some (.ref 0), some (.int a), some (.int b), some (.int c), some (.int v1), some (.int (v3 / 1440)), some (.int v5), some (.int (v13 - v5)), some (.int (if (v15 + v5) < 65535 then (v15 + v5) else 65535)), some (.int ((v17 + 1) - (v17 + 1) / 256 * 256)), none] [.int v25] s27
        refine ⟨fun (h30 : v25 = 0) => ?_, fun (h30 : ¬ v25 = 0) => ?_⟩
        · skip
          change ev_wp pg_F pg_lay none [] (ev_lu pg_c108) (fun _ => false) _ 1941 120 [some (.ref 0), some (.int a), some (.int b), some (.int c), some (.int v1), some (.int (v3 / 1440)), some (.int v5), some (.int (v13 - v5)), some (.int (if (v15 + v5) < 65535 then (v15 + v5) else 65535)), some (.int ((v17 + 1) - (v17 + 1) / 256 * 256)), none] [] s27
          exact ⟨_, rfl, Nat.le_of_eq (congrArg Prod.snd r28.2.1), _, r28, rfl⟩
        · skip
          change ev_wp pg_F pg_lay none [] (ev_lu pg_c108) (fun _ => false) _ 1941 122 [some (.ref 0), some (.int a), some (.int b), some (.int c), some (.int v1), some (.int (v3 / 1440)), some (.int v5), some (.int (v13 - v5)), some (.int (if (v15 + v5) < 65535 then (v15 + v5) else 65535)), some (.int ((v17 + 1) - (v17 + 1) / 256 * 256)), none] [] s27
          refine ⟨trivial, ?_⟩
          rintro _ s32 ⟨k31, rfl⟩
          have r33 := r28.tr k31.t
          have i34 := k31.inv i29
          change ev_wp pg_F pg_lay none [] (ev_lu pg_c108) (fun _ => false) _ 1936 132 [some (.ref 0), some (.int a), some (.int b), some (.int c), some (.int v1), some (.int (v3 / 1440)), some (.int v5), some (.int (v13 - v5)), some (.int (if (v15 + v5) < 65535 then (v15 + v5) else 65535)), some (.int ((v17 + 1) - (v17 + 1) / 256 * 256)), none] [] s32
          refine ⟨trivial, ?_⟩
          rintro _ s37 ⟨v35, k36, rfl⟩
          have r38 := r33.tr k36.2.t
          have i39 := k36.2.inv i34
          change ev_wp pg_F pg_lay none [] (ev_lu pg_c108) (fun _ => false) _ 1932 140 [some (.ref 0), some (.int a), some (.int b), some (.int c), some (.int v1), some (.int (v3 / 1440)), some (.int v5), some (.int (v13 - v5)), some (.int (if (v15 + v5) < 65535 then (v15 + v5) else 65535)), some (.int ((v17 + 1) - (v17 + 1) / 256 * 256)), none] [.int v35] s37
          refine ⟨fun (h40 : v35 = 0) => ?_, fun (h40 : ¬ v35 = 0) => ?_⟩
          · skip
            change ev_wp pg_F pg_lay none [] (ev_lu pg_c108) (fun _ => false) _ 1931 158 [some (.ref 0), some (.int a), some (.int b), some (.int c), some (.int v1), some (.int (v3 / 1440)), some (.int v5), some (.int (v13 - v5)), some (.int (if (v15 + v5) < 65535 then (v15 + v5) else 65535)), some (.int ((v17 + 1) - (v17 + 1) / 256 * 256)), none] [] s37
            refine ⟨fun _ => ?_, fun h => absurd (by decide) h⟩
            change ev_wp pg_F pg_lay none [] (ev_lu pg_c108) (fun _ => false) _ 1927 170 [some (.ref 0), some (.int a), some (.int b), some (.int c), some (.int v1), some (.int (v3 / 1440)), some (.int v5), some (.int (v13 - v5)), some (.int (if (v15 + v5) < 65535 then (v15 + v5) else 65535)), some (.int ((v17 + 1) - (v17 + 1) / 256 * 256)), some (.int 0)] [] s37
            exact ⟨_, rfl, Nat.le_of_eq (congrArg Prod.snd r38.2.1), _, r38, rfl⟩
          · skip
            change ev_wp pg_F pg_lay none [] (ev_lu pg_c108) (fun _ => false) _ 1931 143 [some (.ref 0), some (.int a), some (.int b), some (.int c), some (.int v1), some (.int (v3 / 1440)), some (.int v5), some (.int (v13 - v5)), some (.int (if (v15 + v5) < 65535 then (v15 + v5) else 65535)), some (.int ((v17 + 1) - (v17 + 1) / 256 * 256)), none] [] s37
            refine ⟨trivial, ?_⟩
            rintro _ _ ⟨v41, k42, rfl, rfl⟩
            change ev_wp pg_F pg_lay none [] (ev_lu pg_c108) (fun _ => false) _ 1928 148 [some (.ref 0), some (.int a), some (.int b), some (.int c), some (.int v1), some (.int (v3 / 1440)), some (.int v5), some (.int (v13 - v5)), some (.int (if (v15 + v5) < 65535 then (v15 + v5) else 65535)), some (.int ((v17 + 1) - (v17 + 1) / 256 * 256)), none] [.int v41, .ref 0] s37
            refine ⟨trivial, ?_⟩
            rintro _ s45 ⟨v43, k44, rfl⟩
            have r46 := r38.tr k44.2.t
            have i47 := k44.2.inv i39
            change ev_wp pg_F pg_lay none [] (ev_lu pg_c108) (fun _ => false) _ 1927 151 [some (.ref 0), some (.int a), some (.int b), some (.int c), some (.int v1), some (.int (v3 / 1440)), some (.int v5), some (.int (v13 - v5)), some (.int (if (v15 + v5) < 65535 then (v15 + v5) else 65535)), some (.int ((v17 + 1) - (v17 + 1) / 256 * 256)), none] [.int v43] s45
            refine ⟨fun (h48 : v43 = 0) => ?_, fun (h48 : ¬ v43 = 0) => ?_⟩
            · skip
              change ev_wp pg_F pg_lay none [] (ev_lu pg_c108) (fun _ => false) _ 1926 158 [some (.ref 0), some (.int a), some (.int b), some (.int c), some (.int v1), some (.int (v3 / 1440)), some (.int v5), some (.int (v13 - v5)), some (.int (if (v15 + v5) < 65535 then (v15 + v5) else 65535)), some (.int ((v17 + 1) - (v17 + 1) / 256 * 256)), none] [] s45
              refine ⟨fun _ => ?_, fun h => absurd (by decide) h⟩
              change ev_wp pg_F pg_lay none [] (ev_lu pg_c108) (fun _ => false) _ 1922 170 [some (.ref 0), some (.int a), some (.int b), some (.int c), some (.int v1), some (.int (v3 / 1440)), some (.int v5), some (.int (v13 - v5)), some (.int (if (v15 + v5) < 65535 then (v15 + v5) else 65535)), some (.int ((v17 + 1) - (v17 + 1) / 256 * 256)), some (.int 0)] [] s45
              exact ⟨_, rfl, Nat.le_of_eq (congrArg Prod.snd r46.2.1), _, r46, rfl⟩
            · skip
              change ev_wp pg_F pg_lay none [] (ev_lu pg_c108) (fun _ => false) _ 1926 154 [some (.ref 0), some (.int a), some (.int b), some (.int c), some (.int v1), some (.int (v3 / 1440)), some (.int v5), some (.int (v13 - v5)), some (.int (if (v15 + v5) < 65535 then (v15 + v5) else 65535)), some (.int ((v17 + 1) - (v17 + 1) / 256 * 256)), none] [] s45
              refine ⟨fun h => absurd h (by decide), fun _ => ?_⟩
              change ev_wp pg_F pg_lay none [] (ev_lu pg_c108) (fun _ => false) _ 1921 166 [some (.ref 0), some (.int a), some (.int b), some (.int c), some (.int v1), some (.int (v3 / 1440)), some (.int v5), some (.int (v13 - v5)), some (.int (if (v15 + v5) < 65535 then (v15 + v5) else 65535)), some (.int ((v17 + 1) - (v17 + 1) / 256 * 256)), some (.int 1)] [] s45
              exact ⟨_, rfl, Nat.le_of_eq (congrArg Prod.snd r46.2.1), _, r46, rfl⟩
      · skip
        change ev_wp pg_F pg_lay none [] (ev_lu pg_c108) (fun _ => false) _ 1978 44 [some (.ref 0), some (.int a), some (.int b), some (.int c), some (.int v1), some (.int (v3 / 1440)), some (.int v5), none, none, none, none] [] σ
        refine ⟨trivial, ?_⟩
        rintro _ _ ⟨_, ⟨rfl, rfl⟩, rfl⟩
        have r49 := (sp_t.rf σ).tr (sp_up0 σ 5 5 (fun h => absurd h (by decide)))
        have i50 := (sp_up0 σ 5 5 (fun h => absurd h (by decide))).2.2 hp
        exact ⟨_, rfl, Nat.le_of_eq (congrArg Prod.snd r49.2.1), _, r49, rfl⟩
  · cases h
theorem pr_118 : pg_Rn pg_F 118 pg_y118 [] pg_t118 := by
  intro vs σ P h hp
  replace h : pf_118 vs σ = some P := h
  unfold pf_118 at h
  split at h
  · rename_i a b c d
    cases h
    refine ⟨by simp [Value.category], Nat.le_of_ble_eq_true rfl, ev_go pg_hhs pg_cd pg_o118 (fun _ => false) 2000 (Q1 := ev_at (ev_tl pg_t118) σ.2.2 (sp_m (sp_inv σ) (fun _ σ' => sp_t σ σ')).2) ?_ (fun _ _ _ _ h => ev_fin h)⟩
    change ev_wp pg_F pg_lay none [] (ev_lu pg_c118) (fun _ => false) _ 2000 0 [some (.ref 0), some (.int a), some (.int b), some (.int c), some (.int d), none, none] [] σ
    refine ⟨trivial, ?_⟩
    rintro _ _ ⟨rfl, rfl⟩
    change ev_wp pg_F pg_lay none [] (ev_lu pg_c118) (fun _ => false) _ 1998 4 [some (.ref 0), some (.int a), some (.int b), some (.int c), some (.int d), none, none] [.int (sp_at σ 0 0)] σ
    refine ⟨fun (h1 : (sp_at σ 0 0) = 2) => ?_, fun (h1 : ¬ (sp_at σ 0 0) = 2) => ?_⟩
    · skip
      change ev_wp pg_F pg_lay none [] (ev_lu pg_c118) (fun _ => false) _ 1988 41 [some (.ref 0), some (.int a), some (.int b), some (.int c), some (.int d), some (.int (sp_at σ 0 0)), some (.int (b + (256 * c)))] [] σ
      refine ⟨fun (h2 : (sp_at σ 0 0) = 1) => ?_, fun (h2 : ¬ (sp_at σ 0 0) = 1) => ?_⟩
      · skip
        change ev_wp pg_F pg_lay none [] (ev_lu pg_c118) (fun _ => false) _ 1986 78 [some (.ref 0), some (.int a), some (.int b), some (.int c), some (.int d), some (.int (sp_at σ 0 0)), some (.int (b + (256 * c)))] [] σ
        refine ⟨hp, ?_⟩
        rintro _ s5 ⟨v3, k4, rfl⟩
        have r6 := (sp_t.rf σ).tr k4
        have i7 := k4.2.2 hp
        exact ⟨_, rfl, Nat.le_of_eq (congrArg Prod.snd r6.2.1), _, r6, rfl⟩
      refine ⟨fun (h8 : (sp_at σ 0 0) = 2) => ?_, fun (h8 : ¬ (sp_at σ 0 0) = 2) => ?_⟩
      · skip
        change ev_wp pg_F pg_lay none [] (ev_lu pg_c118) (fun _ => false) _ 1986 68 [some (.ref 0), some (.int a), some (.int b), some (.int c), some (.int d), some (.int (sp_at σ 0 0)), some (.int (b + (256 * c)))] [] σ
        refine ⟨hp, ?_⟩
        rintro _ s11 ⟨v9, k10, rfl⟩
        have r12 := (sp_t.rf σ).tr k10
        have i13 := k10.2.2 hp
        exact ⟨_, rfl, Nat.le_of_eq (congrArg Prod.snd r12.2.1), _, r12, rfl⟩
      change ev_wp pg_F pg_lay none [] (ev_lu pg_c118) (fun _ => false) _ 1986 87 [some (.ref 0), some (.int a), some (.int b), some (.int c), some (.int d), some (.int (sp_at σ 0 0)), some (.int (b + (256 * c)))] [] σ
      refine ⟨trivial, ?_⟩
      rintro _ _ ⟨v14, k15, rfl, rfl⟩
      change ev_wp pg_F pg_lay none [] (ev_lu pg_c118) (fun _ => false) _ 1982 93 [some (.ref 0), some (.int a), some (.int b), some (.int c), some (.int d), some (.int (sp_at σ 0 0)), some (.int (b + (256 * c)))] [.int v14, .ref 0] σ
      refine ⟨hp, ?_⟩
      rintro _ s18 ⟨v16, k17, rfl⟩
      have r19 := (sp_t.rf σ).tr k17
      have i20 := k17.2.2 hp
      exact ⟨_, rfl, Nat.le_of_eq (congrArg Prod.snd r19.2.1), _, r19, rfl⟩
    · skip
      change ev_wp pg_F pg_lay none [] (ev_lu pg_c118) (fun _ => false) _ 1988 21 [some (.ref 0), some (.int a), some (.int b), some (.int c), some (.int d), some (.int (sp_at σ 0 0)), some (.int (b + (256 * c)))] [] σ
      refine ⟨hp, ?_⟩
      rintro _ _ ⟨v21, k22, rfl, rfl⟩
      change ev_wp pg_F pg_lay none [] (ev_lu pg_c118) (fun _ => false) _ 1984 28 [some (.ref 0), some (.int a), some (.int b), some (.int c), some (.int d), some (.int (sp_at σ 0 0)), some (.int (b + (256 * c)))] [.int v21] σ
      refine ⟨fun (h23 : v21 = 0) => ?_, fun (h23 : ¬ v21 = 0) => ?_⟩
      · skip
        change ev_wp pg_F pg_lay none [] (ev_lu pg_c118) (fun _ => false) _ 1983 41 [some (.ref 0), some (.int a), some (.int b), some (.int c), some (.int d), some (.int (sp_at σ 0 0)), some (.int (b + (256 * c)))] [] σ
        refine ⟨fun (h24 : (sp_at σ 0 0) = 1) => ?_, fun (h24 : ¬ (sp_at σ 0 0) = 1) => ?_⟩
        · skip
          change ev_wp pg_F pg_lay none [] (ev_lu pg_c118) (fun _ => false) _ 1981 78 [some (.ref 0), some (.int a), some (.int b), some (.int c), some (.int d), some (.int (sp_at σ 0 0)), some (.int (b + (256 * c)))] [] σ
          refine ⟨hp, ?_⟩
          rintro _ s27 ⟨v25, k26, rfl⟩
          have r28 := (sp_t.rf σ).tr k26
          have i29 := k26.2.2 hp
          exact ⟨_, rfl, Nat.le_of_eq (congrArg Prod.snd r28.2.1), _, r28, rfl⟩
        refine ⟨fun (h30 : (sp_at σ 0 0) = 2) => ?_, fun (h30 : ¬ (sp_at σ 0 0) = 2) => ?_⟩
        · skip
          change ev_wp pg_F pg_lay none [] (ev_lu pg_c118) (fun _ => false) _ 1981 68 [some (.ref 0), some (.int a), some (.int b), some (.int c), some (.int d), some (.int (sp_at σ 0 0)), some (.int (b + (256 * c)))] [] σ
          refine ⟨hp, ?_⟩
          rintro _ s33 ⟨v31, k32, rfl⟩
          have r34 := (sp_t.rf σ).tr k32
          have i35 := k32.2.2 hp
          exact ⟨_, rfl, Nat.le_of_eq (congrArg Prod.snd r34.2.1), _, r34, rfl⟩
        change ev_wp pg_F pg_lay none [] (ev_lu pg_c118) (fun _ => false) _ 1981 87 [some (.ref 0), some (.int a), some (.int b), some (.int c), some (.int d), some (.int (sp_at σ 0 0)), some (.int (b + (256 * c)))] [] σ
        refine ⟨trivial, ?_⟩
        rintro _ _ ⟨v36, k37, rfl, rfl⟩
        change ev_wp pg_F pg_lay none [] (ev_lu pg_c118) (fun _ => false) _ 1977 93 [some (.ref 0), some (.int a), some (.int b), some (.int c), some (.int d), some (.int (sp_at σ 0 0)), some (.int (b + (256 * c)))] [.int v36, .ref 0] σ
        refine ⟨hp, ?_⟩
        rintro _ s40 ⟨v38, k39, rfl⟩
        have r41 := (sp_t.rf σ).tr k39
        have i42 := k39.2.2 hp
        exact ⟨_, rfl, Nat.le_of_eq (congrArg Prod.snd r41.2.1), _, r41, rfl⟩
      · skip
        change ev_wp pg_F pg_lay none [] (ev_lu pg_c118) (fun _ => false) _ 1983 31 [some (.ref 0), some (.int a), some (.int b), some (.int c), some (.int d), some (.int (sp_at σ 0 0)), some (.int (b + (256 * c)))] [] σ
        refine ⟨hp, ?_⟩
        rintro _ s45 ⟨v43, k44, rfl⟩
        have r46 := (sp_t.rf σ).tr k44
        have i47 := k44.2.2 hp
        exact ⟨_, rfl, Nat.le_of_eq (congrArg Prod.snd r46.2.1), _, r46, rfl⟩
  · cases h
theorem pr_110 : pg_Rn pg_F 110 pg_y110 [] pg_t110 := by
  intro vs σ P h hp
  replace h : pf_110 vs σ = some P := h
  unfold pf_110 at h
  split at h
  · rename_i a b c d
    cases h
    refine ⟨by simp [Value.category], Nat.le_of_ble_eq_true rfl, ev_go pg_hhs pg_cd pg_o110 (fun _ => false) 2000 (Q1 := ev_at (ev_tl pg_t110) σ.2.2 (sp_v True (fun σ' => sp_w σ σ')).2) ?_ (fun _ _ _ _ h => ev_fin h)⟩
    change ev_wp pg_F pg_lay none [] (ev_lu pg_c110) (fun _ => false) _ 2000 0 [some (.ref 0), some (.int a), some (.int b), some (.int c), some (.int d)] [] σ
    refine ⟨trivial, ?_⟩
    rintro _ s3 ⟨v1, k2, rfl⟩
    have r4 := (sp_w.rf σ).tr k2.2
    change ev_wp pg_F pg_lay none [] (ev_lu pg_c110) (fun _ => false) _ 1994 10 [some (.ref 0), some (.int a), some (.int b), some (.int c), some (.int d)] [.int v1] s3
    refine ⟨trivial, ?_⟩
    rintro _ s7 ⟨v5, k6, rfl⟩
    have r8 := r4.tr k6.2
    change ev_wp pg_F pg_lay none [] (ev_lu pg_c110) (fun _ => false) _ 1987 21 [some (.ref 0), some (.int a), some (.int b), some (.int c), some (.int d)] [.int v5] s7
    refine ⟨trivial, ?_⟩
    rintro _ s11 ⟨v9, k10, rfl⟩
    have r12 := r8.tr k10.2
    change ev_wp pg_F pg_lay none [] (ev_lu pg_c110) (fun _ => false) _ 1980 32 [some (.ref 0), some (.int a), some (.int b), some (.int c), some (.int d)] [.int v9] s11
    refine ⟨trivial, ?_⟩
    rintro _ s15 ⟨v13, k14, rfl⟩
    have r16 := r12.tr k14.2
    change ev_wp pg_F pg_lay none [] (ev_lu pg_c110) (fun _ => false) _ 1973 44 [some (.ref 0), some (.int a), some (.int b), some (.int c), some (.int d)] [.int v13] s15
    refine ⟨fun (h17 : a = 3) => ?_, fun (h17 : ¬ a = 3) => ?_⟩
    · skip
      change ev_wp pg_F pg_lay none [] (ev_lu pg_c110) (fun _ => false) _ 1969 50 [some (.ref 0), some (.int a), some (.int b), some (.int c), some (.int d)] [] s15
      refine ⟨trivial, ?_⟩
      rintro _ s19 ⟨k18, rfl⟩
      have r20 := r16.tr k18
      change ev_wp pg_F pg_lay none [] (ev_lu pg_c110) (fun _ => false) _ 1964 57 [some (.ref 0), some (.int a), some (.int b), some (.int c), some (.int d)] [] s19
      refine ⟨trivial, ?_⟩
      rintro _ s23 ⟨v21, k22, rfl⟩
      have r24 := r20.tr k22.2
      change ev_wp pg_F pg_lay none [] (ev_lu pg_c110) (fun _ => false) _ 1960 65 [some (.ref 0), some (.int a), some (.int b), some (.int c), some (.int d)] [.int v21] s23
      exact ⟨rfl, Nat.le_of_eq (congrArg Prod.snd r24.2.1), r24, rfl⟩
    · skip
      exact ⟨rfl, Nat.le_of_eq (congrArg Prod.snd r16.2.1), r16, rfl⟩
  · cases h
theorem pr_109 : pg_Rn pg_F 109 pg_y109 [] pg_t109 := by
  intro vs σ P h hp
  replace h : pf_109 vs σ = some P := h
  unfold pf_109 at h
  split at h
  · cases h
    refine ⟨by simp [Value.category], Nat.le_of_ble_eq_true rfl, ev_go pg_hhs pg_cd pg_o109 (fun _ => false) 2000 (Q1 := ev_at (ev_tl pg_t109) σ.2.2 (sp_m True (fun v σ' => sp_b v ∧ sp_w σ σ' ∧ (sp_zero σ → v = 1 ∧ σ' = σ))).2) ?_ (fun _ _ _ _ h => ev_fin h)⟩
    change ev_wp pg_F pg_lay none [] (ev_lu pg_c109) (fun _ => false) _ 2000 0 [some (.ref 0), none] [] σ
    refine ⟨trivial, ?_⟩
    rintro _ _ ⟨v1, k2, rfl, rfl⟩
    change ev_wp pg_F pg_lay none [] (ev_lu pg_c109) (fun _ => false) _ 1996 9 [some (.ref 0), none] [.int v1] σ
    refine ⟨fun (h3 : v1 = (-1)) => ?_, fun (h3 : ¬ v1 = (-1)) => ?_⟩
    · skip
      change ev_wp pg_F pg_lay none [] (ev_lu pg_c109) (fun _ => false) _ 1992 34 [some (.ref 0), some (.int v1)] [] σ
      exact ⟨_, rfl, by first | exact Or.inl rfl | exact Or.inr rfl, Nat.le_of_eq (congrArg Prod.snd (sp_w.rf σ).2.1), _, ⟨by first | exact Or.inl rfl | exact Or.inr rfl, (sp_w.rf σ), fun hz => by first | exact ⟨rfl, rfl⟩⟩, rfl⟩
    · skip
      change ev_wp pg_F pg_lay none [] (ev_lu pg_c109) (fun _ => false) _ 1992 15 [some (.ref 0), some (.int v1)] [] σ
      refine ⟨trivial, ?_⟩
      rintro _ _ ⟨v4, k5, rfl, rfl⟩
      change ev_wp pg_F pg_lay none [] (ev_lu pg_c109) (fun _ => false) _ 1989 20 [some (.ref 0), some (.int v1)] [.int v4] σ
      refine ⟨fun (h6 : v4 = 0) => ?_, fun (h6 : ¬ v4 = 0) => ?_⟩
      · skip
        change ev_wp pg_F pg_lay none [] (ev_lu pg_c109) (fun _ => false) _ 1988 34 [some (.ref 0), some (.int v1)] [] σ
        exact ⟨_, rfl, by first | exact Or.inl rfl | exact Or.inr rfl, Nat.le_of_eq (congrArg Prod.snd (sp_w.rf σ).2.1), _, ⟨by first | exact Or.inl rfl | exact Or.inr rfl, (sp_w.rf σ), fun hz => by first | exact ⟨rfl, rfl⟩ | (exact absurd (k2 hz) h3)⟩, rfl⟩
      · skip
        change ev_wp pg_F pg_lay none [] (ev_lu pg_c109) (fun _ => false) _ 1988 23 [some (.ref 0), some (.int v1)] [] σ
        refine ⟨trivial, ?_⟩
        rintro _ s9 ⟨v7, k8, rfl⟩
        have r10 := (sp_w.rf σ).tr k8.2
        change ev_wp pg_F pg_lay none [] (ev_lu pg_c109) (fun _ => false) _ 1984 31 [some (.ref 0), some (.int v1)] [.int v7] s9
        refine ⟨fun (h11 : v7 = 0) => ?_, fun (h11 : ¬ v7 = 0) => ?_⟩
        · skip
          change ev_wp pg_F pg_lay none [] (ev_lu pg_c109) (fun _ => false) _ 1983 38 [some (.ref 0), some (.int v1)] [] s9
          exact ⟨_, rfl, by first | exact Or.inl rfl | exact Or.inr rfl, Nat.le_of_eq (congrArg Prod.snd r10.2.1), _, ⟨by first | exact Or.inl rfl | exact Or.inr rfl, r10, fun hz => by first | exact ⟨rfl, rfl⟩ | (exact absurd (k2 hz) h3) | (exact absurd (k2 hz) h6)⟩, rfl⟩
        · skip
          change ev_wp pg_F pg_lay none [] (ev_lu pg_c109) (fun _ => false) _ 1983 34 [some (.ref 0), some (.int v1)] [] s9
          exact ⟨_, rfl, by first | exact Or.inl rfl | exact Or.inr rfl, Nat.le_of_eq (congrArg Prod.snd r10.2.1), _, ⟨by first | exact Or.inl rfl | exact Or.inr rfl, r10, fun hz => by first | exact ⟨rfl, rfl⟩ | (exact absurd (k2 hz) h3) | (exact absurd (k2 hz) h6) | (exact absurd (k2 hz) h11)⟩, rfl⟩
  · cases h
theorem pr_115 : pg_Rn pg_F 115 pg_y115 [] pg_t115 := by
  intro vs σ P h hp
  replace h : pf_115 vs σ = some P := h
  unfold pf_115 at h
  split at h
  · cases h
    refine ⟨by simp [Value.category], Nat.le_of_ble_eq_true rfl, ev_go pg_hhs pg_cd pg_o115 (fun _ => false) 2000 (Q1 := ev_at (ev_tl pg_t115) σ.2.2 (sp_m True (fun v σ' => sp_b v ∧ sp_t σ σ' ∧ (sp_zero σ → v = 1 ∧ σ' = σ))).2) ?_ (fun _ _ _ _ h => ev_fin h)⟩
    change ev_wp pg_F pg_lay none [] (ev_lu pg_c115) (fun _ => false) _ 2000 0 [some (.ref 0), none] [] σ
    refine ⟨trivial, ?_⟩
    rintro _ _ ⟨v1, k2, rfl, rfl⟩
    change ev_wp pg_F pg_lay none [] (ev_lu pg_c115) (fun _ => false) _ 1998 4 [some (.ref 0), none] [.int v1] σ
    refine ⟨fun (h3 : v1 = (-1)) => ?_, fun (h3 : ¬ v1 = (-1)) => ?_⟩
    · skip
      change ev_wp pg_F pg_lay none [] (ev_lu pg_c115) (fun _ => false) _ 1994 18 [some (.ref 0), some (.int v1)] [] σ
      exact ⟨_, rfl, by first | exact Or.inl rfl | exact Or.inr rfl, Nat.le_of_eq (congrArg Prod.snd (sp_t.rf σ).2.1), _, ⟨by first | exact Or.inl rfl | exact Or.inr rfl, (sp_t.rf σ), fun hz => by first | exact ⟨rfl, rfl⟩⟩, rfl⟩
    · skip
      change ev_wp pg_F pg_lay none [] (ev_lu pg_c115) (fun _ => false) _ 1994 10 [some (.ref 0), some (.int v1)] [] σ
      refine ⟨trivial, ?_⟩
      rintro _ _ ⟨v4, k5, rfl, rfl⟩
      change ev_wp pg_F pg_lay none [] (ev_lu pg_c115) (fun _ => false) _ 1991 15 [some (.ref 0), some (.int v1)] [.int v4] σ
      refine ⟨fun (h6 : v4 = 0) => ?_, fun (h6 : ¬ v4 = 0) => ?_⟩
      · skip
        change ev_wp pg_F pg_lay none [] (ev_lu pg_c115) (fun _ => false) _ 1990 18 [some (.ref 0), some (.int v1)] [] σ
        exact ⟨_, rfl, by first | exact Or.inl rfl | exact Or.inr rfl, Nat.le_of_eq (congrArg Prod.snd (sp_t.rf σ).2.1), _, ⟨by first | exact Or.inl rfl | exact Or.inr rfl, (sp_t.rf σ), fun hz => by first | exact ⟨rfl, rfl⟩ | (exact absurd (k2 hz) h3)⟩, rfl⟩
      · skip
        change ev_wp pg_F pg_lay none [] (ev_lu pg_c115) (fun _ => false) _ 1990 20 [some (.ref 0), some (.int v1)] [] σ
        have r7 := (sp_t.rf σ).tr (sp_up0 σ 4 v1 (fun h => absurd h (by decide)))
        refine ⟨trivial, ?_⟩
        rintro _ s10 ⟨v8, k9, rfl⟩
        have r11 := r7.tr k9.2.t
        exact ⟨_, rfl, k9.1, Nat.le_of_eq (congrArg Prod.snd r11.2.1), _, ⟨k9.1, r11, fun hz => by first | exact ⟨rfl, rfl⟩ | (exact absurd (k2 hz) h3) | (exact absurd (k2 hz) h6)⟩, rfl⟩
  · cases h
theorem pr_116 : pg_Rn pg_F 116 pg_y116 [] pg_t116 := by
  intro vs σ P h hp
  replace h : pf_116 vs σ = some P := h
  unfold pf_116 at h
  split at h
  · rename_i a b
    cases h
    refine ⟨by simp [Value.category], Nat.le_of_ble_eq_true rfl, ev_go pg_hhs pg_cd pg_o116 (fun _ => false) 2000 (Q1 := ev_at (ev_tl pg_t116) σ.2.2 (sp_i True (fun v => sp_zero σ → v = -1) σ).2) ?_ (fun _ _ _ _ h => ev_fin h)⟩
    change ev_wp pg_F pg_lay none [] (ev_lu pg_c116) (fun _ => false) _ 2000 0 [some (.ref 0), some (.int a), some (.int b), none, none] [] σ
    refine ⟨trivial, ?_⟩
    rintro _ _ ⟨v1, k2, rfl, rfl⟩
    change ev_wp pg_F pg_lay none [] (ev_lu pg_c116) (fun _ => false) _ 1998 4 [some (.ref 0), some (.int a), some (.int b), none, none] [.int v1] σ
    refine ⟨fun (h3 : v1 = (-1)) => ?_, fun (h3 : ¬ v1 = (-1)) => ?_⟩
    · skip
      change ev_wp pg_F pg_lay none [] (ev_lu pg_c116) (fun _ => false) _ 1994 19 [some (.ref 0), some (.int a), some (.int b), some (.int v1), none] [] σ
      exact ⟨_, rfl, Nat.le_refl _, _, fun hz => by first | rfl | (exact k2 hz), rfl, rfl⟩
    · skip
      change ev_wp pg_F pg_lay none [] (ev_lu pg_c116) (fun _ => false) _ 1994 10 [some (.ref 0), some (.int a), some (.int b), some (.int v1), none] [] σ
      refine ⟨trivial, ?_⟩
      rintro _ _ ⟨rfl, rfl⟩
      change ev_wp pg_F pg_lay none [] (ev_lu pg_c116) (fun _ => false) _ 1991 16 [some (.ref 0), some (.int a), some (.int b), some (.int v1), none] [.int (sp_upto a 15)] σ
      refine ⟨fun (h4 : (sp_upto a 15) = 0) => ?_, fun (h4 : ¬ (sp_upto a 15) = 0) => ?_⟩
      · skip
        change ev_wp pg_F pg_lay none [] (ev_lu pg_c116) (fun _ => false) _ 1990 19 [some (.ref 0), some (.int a), some (.int b), some (.int v1), none] [] σ
        exact ⟨_, rfl, Nat.le_refl _, _, fun hz => by first | rfl | (exact absurd (k2 hz) h3) | (exact k2 hz), rfl, rfl⟩
      · skip
        change ev_wp pg_F pg_lay none [] (ev_lu pg_c116) (fun _ => false) _ 1990 21 [some (.ref 0), some (.int a), some (.int b), some (.int v1), none] [] σ
        refine ⟨trivial, ?_⟩
        rintro _ _ ⟨v5, k6, rfl, rfl⟩
        change ev_wp pg_F pg_lay none [] (ev_lu pg_c116) (fun _ => false) _ 1986 27 [some (.ref 0), some (.int a), some (.int b), some (.int v1), none] [.int v5, .ref 0] σ
        refine ⟨trivial, ?_⟩
        rintro _ _ ⟨v7, k8, rfl, rfl⟩
        change ev_wp pg_F pg_lay none [] (ev_lu pg_c116) (fun _ => false) _ 1981 35 [some (.ref 0), some (.int a), some (.int b), some (.int v1), none] [.int v7] σ
        refine ⟨fun (h9 : v7 = (-1)) => ?_, fun (h9 : ¬ v7 = (-1)) => ?_⟩
        · skip
          change ev_wp pg_F pg_lay none [] (ev_lu pg_c116) (fun _ => false) _ 1977 43 [some (.ref 0), some (.int a), some (.int b), some (.int v1), some (.int v7)] [] σ
          exact ⟨_, rfl, Nat.le_refl _, _, fun hz => by first | rfl | (exact absurd (k2 hz) h3) | (exact absurd (k2 hz) h4) | (exact k2 hz), rfl, rfl⟩
        · skip
          change ev_wp pg_F pg_lay none [] (ev_lu pg_c116) (fun _ => false) _ 1977 45 [some (.ref 0), some (.int a), some (.int b), some (.int v1), some (.int v7)] [] σ
          refine ⟨fun (h10 : b = 0) => ?_, fun (h10 : ¬ b = 0) => ?_⟩
          · skip
            change ev_wp pg_F pg_lay none [] (ev_lu pg_c116) (fun _ => false) _ 1975 96 [some (.ref 0), some (.int a), some (.int b), some (.int v1), some (.int v7)] [] σ
            refine ⟨trivial, ?_⟩
            rintro _ _ ⟨rfl, rfl⟩
            exact ⟨_, rfl, Nat.le_refl _, _, fun hz => by first | rfl | (exact absurd (k2 hz) h3) | (exact absurd (k2 hz) h4) | (exact absurd (k2 hz) h9) | (exact k2 hz), rfl, rfl⟩
          refine ⟨fun (h11 : b = 1) => ?_, fun (h11 : ¬ b = 1) => ?_⟩
          · skip
            change ev_wp pg_F pg_lay none [] (ev_lu pg_c116) (fun _ => false) _ 1975 107 [some (.ref 0), some (.int a), some (.int b), some (.int v1), some (.int v7)] [] σ
            refine ⟨trivial, ?_⟩
            rintro _ _ ⟨rfl, rfl⟩
            exact ⟨_, rfl, Nat.le_refl _, _, fun hz => by first | rfl | (exact absurd (k2 hz) h3) | (exact absurd (k2 hz) h4) | (exact absurd (k2 hz) h9) | (exact absurd (k2 hz) h10) | (exact k2 hz), rfl, rfl⟩
          refine ⟨fun (h12 : b = 2) => ?_, fun (h12 : ¬ b = 2) => ?_⟩
          · skip
            change ev_wp pg_F pg_lay none [] (ev_lu pg_c116) (fun _ => false) _ 1975 118 [some (.ref 0), some (.int a), some (.int b), some (.int v1), some (.int v7)] [] σ
            refine ⟨trivial, ?_⟩
            rintro _ _ ⟨v13, k14, rfl, rfl⟩
            exact ⟨_, rfl, Nat.le_refl _, _, fun hz => by first | rfl | (exact absurd (k2 hz) h3) | (exact absurd (k2 hz) h4) | (exact absurd (k2 hz) h9) | (exact absurd (k2 hz) h10) | (exact absurd (k2 hz) h11) | (exact k2 hz), rfl, rfl⟩
          refine ⟨fun (h15 : b = 3) => ?_, fun (h15 : ¬ b = 3) => ?_⟩
          · skip
            change ev_wp pg_F pg_lay none [] (ev_lu pg_c116) (fun _ => false) _ 1975 125 [some (.ref 0), some (.int a), some (.int b), some (.int v1), some (.int v7)] [] σ
            refine ⟨trivial, ?_⟩
            rintro _ _ ⟨v16, k17, rfl, rfl⟩
            exact ⟨_, rfl, Nat.le_refl _, _, fun hz => by first | rfl | (exact absurd (k2 hz) h3) | (exact absurd (k2 hz) h4) | (exact absurd (k2 hz) h9) | (exact absurd (k2 hz) h10) | (exact absurd (k2 hz) h11) | (exact absurd (k2 hz) h12) | (exact k2 hz), rfl, rfl⟩
          refine ⟨fun (h18 : b = 4) => ?_, fun (h18 : ¬ b = 4) => ?_⟩
          · skip
            change ev_wp pg_F pg_lay none [] (ev_lu pg_c116) (fun _ => false) _ 1975 132 [some (.ref 0), some (.int a), some (.int b), some (.int v1), some (.int v7)] [] σ
            refine ⟨trivial, ?_⟩
            rintro _ _ ⟨v19, k20, rfl, rfl⟩
            exact ⟨_, rfl, Nat.le_refl _, _, fun hz => by first | rfl | (exact absurd (k2 hz) h3) | (exact absurd (k2 hz) h4) | (exact absurd (k2 hz) h9) | (exact absurd (k2 hz) h10) | (exact absurd (k2 hz) h11) | (exact absurd (k2 hz) h12) | (exact absurd (k2 hz) h15) | (exact k2 hz), rfl, rfl⟩
          refine ⟨fun (h21 : b = 5) => ?_, fun (h21 : ¬ b = 5) => ?_⟩
          · skip
            change ev_wp pg_F pg_lay none [] (ev_lu pg_c116) (fun _ => false) _ 1975 139 [some (.ref 0), some (.int a), some (.int b), some (.int v1), some (.int v7)] [] σ
            refine ⟨trivial, ?_⟩
            rintro _ _ ⟨v22, k23, rfl, rfl⟩
            exact ⟨_, rfl, Nat.le_refl _, _, fun hz => by first | rfl | (exact absurd (k2 hz) h3) | (exact absurd (k2 hz) h4) | (exact absurd (k2 hz) h9) | (exact absurd (k2 hz) h10) | (exact absurd (k2 hz) h11) | (exact absurd (k2 hz) h12) | (exact absurd (k2 hz) h15) | (exact absurd (k2 hz) h18) | (exact k2 hz), rfl, rfl⟩
          refine ⟨fun (h24 : b = 6) => ?_, fun (h24 : ¬ b = 6) => ?_⟩
          · skip
            change ev_wp pg_F pg_lay none [] (ev_lu pg_c116) (fun _ => false) _ 1975 146 [some (.ref 0), some (.int a), some (.int b), some (.int v1), some (.int v7)] [] σ
            refine ⟨trivial, ?_⟩
            rintro _ _ ⟨v25, k26, rfl, rfl⟩
            exact ⟨_, rfl, Nat.le_refl _, _, fun hz => by first | rfl | (exact absurd (k2 hz) h3) | (exact absurd (k2 hz) h4) | (exact absurd (k2 hz) h9) | (exact absurd (k2 hz) h10) | (exact absurd (k2 hz) h11) | (exact absurd (k2 hz) h12) | (exact absurd (k2 hz) h15) | (exact absurd (k2 hz) h18) | (exact absurd (k2 hz) h21) | (exact k2 hz), rfl, rfl⟩
          refine ⟨fun (h27 : b = 7) => ?_, fun (h27 : ¬ b = 7) => ?_⟩
          · skip
            change ev_wp pg_F pg_lay none [] (ev_lu pg_c116) (fun _ => false) _ 1975 153 [some (.ref 0), some (.int a), some (.int b), some (.int v1), some (.int v7)] [] σ
            refine ⟨trivial, ?_⟩
            rintro _ _ ⟨rfl, rfl⟩
            exact ⟨_, rfl, Nat.le_refl _, _, fun hz => by first | rfl | (exact absurd (k2 hz) h3) | (exact absurd (k2 hz) h4) | (exact absurd (k2 hz) h9) | (exact absurd (k2 hz) h10) | (exact absurd (k2 hz) h11) | (exact absurd (k2 hz) h12) | (exact absurd (k2 hz) h15) | (exact absurd (k2 hz) h18) | (exact absurd (k2 hz) h21) | (exact absurd (k2 hz) h24) | (exact k2 hz), rfl, rfl⟩
          refine ⟨fun (h28 : b = 8) => ?_, fun (h28 : ¬ b = 8) => ?_⟩
          · skip
            change ev_wp pg_F pg_lay none [] (ev_lu pg_c116) (fun _ => false) _ 1975 164 [some (.ref 0), some (.int a), some (.int b), some (.int v1), some (.int v7)] [] σ
            refine ⟨trivial, ?_⟩
            rintro _ _ ⟨rfl, rfl⟩
            exact ⟨_, rfl, Nat.le_refl _, _, fun hz => by first | rfl | (exact absurd (k2 hz) h3) | (exact absurd (k2 hz) h4) | (exact absurd (k2 hz) h9) | (exact absurd (k2 hz) h10) | (exact absurd (k2 hz) h11) | (exact absurd (k2 hz) h12) | (exact absurd (k2 hz) h15) | (exact absurd (k2 hz) h18) | (exact absurd (k2 hz) h21) | (exact absurd (k2 hz) h24) | (exact absurd (k2 hz) h27) | (exact k2 hz), rfl, rfl⟩
          change ev_wp pg_F pg_lay none [] (ev_lu pg_c116) (fun _ => false) _ 1975 176 [some (.ref 0), some (.int a), some (.int b), some (.int v1), some (.int v7)] [] σ
          exact ⟨_, rfl, Nat.le_refl _, _, fun hz => by first | rfl | (exact absurd (k2 hz) h3) | (exact absurd (k2 hz) h4) | (exact absurd (k2 hz) h9) | (exact absurd (k2 hz) h10) | (exact absurd (k2 hz) h11) | (exact absurd (k2 hz) h12) | (exact absurd (k2 hz) h15) | (exact absurd (k2 hz) h18) | (exact absurd (k2 hz) h21) | (exact absurd (k2 hz) h24) | (exact absurd (k2 hz) h27) | (exact absurd (k2 hz) h28) | (exact k2 hz), rfl, rfl⟩
  · cases h
theorem pr_117 : pg_Rn pg_F 117 pg_y117 [] pg_t117 := by
  intro vs σ P h hp
  replace h : pf_117 vs σ = some P := h
  unfold pf_117 at h
  split at h
  · rename_i a
    cases h
    refine ⟨by simp [Value.category], Nat.le_of_ble_eq_true rfl, ev_go pg_hhs pg_cd pg_o117 (fun _ => false) 2000 (Q1 := ev_at (ev_tl pg_t117) σ.2.2 (sp_i True (fun v => sp_zero σ → v = -1) σ).2) ?_ (fun _ _ _ _ h => ev_fin h)⟩
    change ev_wp pg_F pg_lay none [] (ev_lu pg_c117) (fun _ => false) _ 2000 0 [some (.ref 0), some (.int a), none] [] σ
    refine ⟨trivial, ?_⟩
    rintro _ _ ⟨v1, k2, rfl, rfl⟩
    change ev_wp pg_F pg_lay none [] (ev_lu pg_c117) (fun _ => false) _ 1998 4 [some (.ref 0), some (.int a), none] [.int v1] σ
    refine ⟨fun (h3 : v1 = (-1)) => ?_, fun (h3 : ¬ v1 = (-1)) => ?_⟩
    · skip
      change ev_wp pg_F pg_lay none [] (ev_lu pg_c117) (fun _ => false) _ 1994 10 [some (.ref 0), some (.int a), some (.int v1)] [] σ
      exact ⟨_, rfl, Nat.le_refl _, _, fun hz => by first | rfl | (exact k2 hz), rfl, rfl⟩
    · skip
      change ev_wp pg_F pg_lay none [] (ev_lu pg_c117) (fun _ => false) _ 1994 12 [some (.ref 0), some (.int a), some (.int v1)] [] σ
      refine ⟨fun (h4 : a = 0) => ?_, fun (h4 : ¬ a = 0) => ?_⟩
      · skip
        change ev_wp pg_F pg_lay none [] (ev_lu pg_c117) (fun _ => false) _ 1992 60 [some (.ref 0), some (.int a), some (.int v1)] [] σ
        refine ⟨trivial, ?_⟩
        rintro _ _ ⟨rfl, rfl⟩
        exact ⟨_, rfl, Nat.le_refl _, _, fun hz => by first | rfl | (exact absurd (k2 hz) h3) | (exact k2 hz), rfl, rfl⟩
      refine ⟨fun (h5 : a = 1) => ?_, fun (h5 : ¬ a = 1) => ?_⟩
      · skip
        change ev_wp pg_F pg_lay none [] (ev_lu pg_c117) (fun _ => false) _ 1992 70 [some (.ref 0), some (.int a), some (.int v1)] [] σ
        refine ⟨trivial, ?_⟩
        rintro _ _ ⟨v6, k7, rfl, rfl⟩
        exact ⟨_, rfl, Nat.le_refl _, _, fun hz => by first | rfl | (exact absurd (k2 hz) h3) | (exact absurd (k2 hz) h4) | (exact k2 hz), rfl, rfl⟩
      refine ⟨fun (h8 : a = 2) => ?_, fun (h8 : ¬ a = 2) => ?_⟩
      · skip
        change ev_wp pg_F pg_lay none [] (ev_lu pg_c117) (fun _ => false) _ 1992 76 [some (.ref 0), some (.int a), some (.int v1)] [] σ
        refine ⟨trivial, ?_⟩
        rintro _ _ ⟨v9, k10, rfl, rfl⟩
        exact ⟨_, rfl, Nat.le_refl _, _, fun hz => by first | rfl | (exact absurd (k2 hz) h3) | (exact absurd (k2 hz) h4) | (exact absurd (k2 hz) h5) | (exact k2 hz), rfl, rfl⟩
      refine ⟨fun (h11 : a = 3) => ?_, fun (h11 : ¬ a = 3) => ?_⟩
      · skip
        change ev_wp pg_F pg_lay none [] (ev_lu pg_c117) (fun _ => false) _ 1992 82 [some (.ref 0), some (.int a), some (.int v1)] [] σ
        refine ⟨trivial, ?_⟩
        rintro _ _ ⟨v12, k13, rfl, rfl⟩
        exact ⟨_, rfl, Nat.le_refl _, _, fun hz => by first | rfl | (exact absurd (k2 hz) h3) | (exact absurd (k2 hz) h4) | (exact absurd (k2 hz) h5) | (exact absurd (k2 hz) h8) | (exact k2 hz), rfl, rfl⟩
      refine ⟨fun (h14 : a = 4) => ?_, fun (h14 : ¬ a = 4) => ?_⟩
      · skip
        change ev_wp pg_F pg_lay none [] (ev_lu pg_c117) (fun _ => false) _ 1992 88 [some (.ref 0), some (.int a), some (.int v1)] [] σ
        refine ⟨trivial, ?_⟩
        rintro _ _ ⟨v15, k16, rfl, rfl⟩
        exact ⟨_, rfl, Nat.le_refl _, _, fun hz => by first | rfl | (exact absurd (k2 hz) h3) | (exact absurd (k2 hz) h4) | (exact absurd (k2 hz) h5) | (exact absurd (k2 hz) h8) | (exact absurd (k2 hz) h11) | (exact k2 hz), rfl, rfl⟩
      refine ⟨fun (h17 : a = 5) => ?_, fun (h17 : ¬ a = 5) => ?_⟩
      · skip
        change ev_wp pg_F pg_lay none [] (ev_lu pg_c117) (fun _ => false) _ 1992 94 [some (.ref 0), some (.int a), some (.int v1)] [] σ
        refine ⟨trivial, ?_⟩
        rintro _ _ ⟨v18, k19, rfl, rfl⟩
        exact ⟨_, rfl, Nat.le_refl _, _, fun hz => by first | rfl | (exact absurd (k2 hz) h3) | (exact absurd (k2 hz) h4) | (exact absurd (k2 hz) h5) | (exact absurd (k2 hz) h8) | (exact absurd (k2 hz) h11) | (exact absurd (k2 hz) h14) | (exact k2 hz), rfl, rfl⟩
      refine ⟨fun (h20 : a = 6) => ?_, fun (h20 : ¬ a = 6) => ?_⟩
      · skip
        change ev_wp pg_F pg_lay none [] (ev_lu pg_c117) (fun _ => false) _ 1992 100 [some (.ref 0), some (.int a), some (.int v1)] [] σ
        refine ⟨trivial, ?_⟩
        rintro _ _ ⟨v21, k22, rfl, rfl⟩
        exact ⟨_, rfl, Nat.le_refl _, _, fun hz => by first | rfl | (exact absurd (k2 hz) h3) | (exact absurd (k2 hz) h4) | (exact absurd (k2 hz) h5) | (exact absurd (k2 hz) h8) | (exact absurd (k2 hz) h11) | (exact absurd (k2 hz) h14) | (exact absurd (k2 hz) h17) | (exact k2 hz), rfl, rfl⟩
      refine ⟨fun (h23 : a = 7) => ?_, fun (h23 : ¬ a = 7) => ?_⟩
      · skip
        change ev_wp pg_F pg_lay none [] (ev_lu pg_c117) (fun _ => false) _ 1992 106 [some (.ref 0), some (.int a), some (.int v1)] [] σ
        refine ⟨trivial, ?_⟩
        rintro _ _ ⟨v24, k25, rfl, rfl⟩
        change ev_wp pg_F pg_lay none [] (ev_lu pg_c117) (fun _ => false) _ 1989 111 [some (.ref 0), some (.int a), some (.int v1)] [.int v24] σ
        refine ⟨fun (h26 : v24 = 0) => ?_, fun (h26 : ¬ v24 = 0) => ?_⟩
        · skip
          change ev_wp pg_F pg_lay none [] (ev_lu pg_c117) (fun _ => false) _ 1988 118 [some (.ref 0), some (.int a), some (.int v1)] [] σ
          exact ⟨_, rfl, Nat.le_refl _, _, fun hz => by first | rfl | (exact absurd (k2 hz) h3) | (exact absurd (k2 hz) h4) | (exact absurd (k2 hz) h5) | (exact absurd (k2 hz) h8) | (exact absurd (k2 hz) h11) | (exact absurd (k2 hz) h14) | (exact absurd (k2 hz) h17) | (exact absurd (k2 hz) h20) | (exact k2 hz), rfl, rfl⟩
        · skip
          change ev_wp pg_F pg_lay none [] (ev_lu pg_c117) (fun _ => false) _ 1988 114 [some (.ref 0), some (.int a), some (.int v1)] [] σ
          exact ⟨_, rfl, Nat.le_refl _, _, fun hz => by first | rfl | (exact absurd (k2 hz) h3) | (exact absurd (k2 hz) h4) | (exact absurd (k2 hz) h5) | (exact absurd (k2 hz) h8) | (exact absurd (k2 hz) h11) | (exact absurd (k2 hz) h14) | (exact absurd (k2 hz) h17) | (exact absurd (k2 hz) h20) | (exact absurd (k2 hz) h26) | (exact k2 hz), rfl, rfl⟩
      change ev_wp pg_F pg_lay none [] (ev_lu pg_c117) (fun _ => false) _ 1992 120 [some (.ref 0), some (.int a), some (.int v1)] [] σ
      exact ⟨_, rfl, Nat.le_refl _, _, fun hz => by first | rfl | (exact absurd (k2 hz) h3) | (exact absurd (k2 hz) h4) | (exact absurd (k2 hz) h5) | (exact absurd (k2 hz) h8) | (exact absurd (k2 hz) h11) | (exact absurd (k2 hz) h14) | (exact absurd (k2 hz) h17) | (exact absurd (k2 hz) h20) | (exact absurd (k2 hz) h23) | (exact k2 hz), rfl, rfl⟩
  · cases h
end
