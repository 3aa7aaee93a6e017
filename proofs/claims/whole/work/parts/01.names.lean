/-- a private method of a class that the tables say can be made, by its rows of tables_1 -/
def lw_okq (q : MethodName × Nat) : Prop := (q.1.cls ≠ "java/lang/invoke/MethodHandle" ∧ q.1.cls ≠ "java/lang/invoke/VarHandle") ∧ Cond.instantiable q.1.cls q.2 ∈ tables_1 ∧ Cond.privateMethod q.1 ∈ tables_1 ∧ Cond.instanceMethod q.1 ∈ tables_1
theorem lw_p0 : lw_okq (⟨"LemonDeals$Sheet", "faultAs", "(I)I"⟩, 3) := ⟨⟨by decide +kernel, by decide +kernel⟩, List.mem_of_getElem? (i := 67) (by decide +kernel), List.mem_of_getElem? (i := 121) (by decide +kernel), List.mem_of_getElem? (i := 122) (by decide +kernel)⟩
theorem lw_p1 : lw_okq (⟨"LemonDeals$Sheet", "isThere", "()Z"⟩, 3) := ⟨⟨by decide +kernel, by decide +kernel⟩, List.mem_of_getElem? (i := 67) (by decide +kernel), List.mem_of_getElem? (i := 125) (by decide +kernel), List.mem_of_getElem? (i := 126) (by decide +kernel)⟩
theorem lw_p2 : lw_okq (⟨"LemonDeals$Sheet", "lacks", "(II)Z"⟩, 3) := ⟨⟨by decide +kernel, by decide +kernel⟩, List.mem_of_getElem? (i := 67) (by decide +kernel), List.mem_of_getElem? (i := 129) (by decide +kernel), List.mem_of_getElem? (i := 130) (by decide +kernel)⟩
theorem lw_p3 : lw_okq (⟨"LemonDeals", "fails", "(I)I"⟩, 8) := ⟨⟨by decide +kernel, by decide +kernel⟩, List.mem_of_getElem? (i := 8) (by decide +kernel), List.mem_of_getElem? (i := 133) (by decide +kernel), List.mem_of_getElem? (i := 134) (by decide +kernel)⟩
theorem lw_p4 : lw_okq (⟨"LemonDeals$Street", "beginByText", "([III)V"⟩, 11) := ⟨⟨by decide +kernel, by decide +kernel⟩, List.mem_of_getElem? (i := 16) (by decide +kernel), List.mem_of_getElem? (i := 149) (by decide +kernel), List.mem_of_getElem? (i := 150) (by decide +kernel)⟩
theorem lw_p5 : lw_okq (⟨"LemonDeals", "isHouse", "(I)Z"⟩, 8) := ⟨⟨by decide +kernel, by decide +kernel⟩, List.mem_of_getElem? (i := 8) (by decide +kernel), List.mem_of_getElem? (i := 161) (by decide +kernel), List.mem_of_getElem? (i := 162) (by decide +kernel)⟩
theorem lw_p6 : lw_okq (⟨"LemonDeals$Street", "treesOf", "(I)I"⟩, 11) := ⟨⟨by decide +kernel, by decide +kernel⟩, List.mem_of_getElem? (i := 16) (by decide +kernel), List.mem_of_getElem? (i := 165) (by decide +kernel), List.mem_of_getElem? (i := 166) (by decide +kernel)⟩
theorem lw_p7 : lw_okq (⟨"LemonDeals$Street", "sourOf", "(I)I"⟩, 11) := ⟨⟨by decide +kernel, by decide +kernel⟩, List.mem_of_getElem? (i := 16) (by decide +kernel), List.mem_of_getElem? (i := 169) (by decide +kernel), List.mem_of_getElem? (i := 170) (by decide +kernel)⟩
theorem lw_p8 : lw_okq (⟨"LemonDeals$Street", "dealtTo", "(II)I"⟩, 11) := ⟨⟨by decide +kernel, by decide +kernel⟩, List.mem_of_getElem? (i := 16) (by decide +kernel), List.mem_of_getElem? (i := 173) (by decide +kernel), List.mem_of_getElem? (i := 174) (by decide +kernel)⟩
theorem lw_p9 : lw_okq (⟨"LemonDeals$Street", "dealOut", "(I)V"⟩, 11) := ⟨⟨by decide +kernel, by decide +kernel⟩, List.mem_of_getElem? (i := 16) (by decide +kernel), List.mem_of_getElem? (i := 177) (by decide +kernel), List.mem_of_getElem? (i := 178) (by decide +kernel)⟩
theorem lw_p10 : lw_okq (⟨"LemonDeals$Street", "aheadByRemainder", "(I)I"⟩, 11) := ⟨⟨by decide +kernel, by decide +kernel⟩, List.mem_of_getElem? (i := 16) (by decide +kernel), List.mem_of_getElem? (i := 182) (by decide +kernel), List.mem_of_getElem? (i := 183) (by decide +kernel)⟩
theorem lw_p11 : lw_okq (⟨"LemonDeals", "hasStreet", "()Z"⟩, 8) := ⟨⟨by decide +kernel, by decide +kernel⟩, List.mem_of_getElem? (i := 8) (by decide +kernel), List.mem_of_getElem? (i := 197) (by decide +kernel), List.mem_of_getElem? (i := 198) (by decide +kernel)⟩
theorem lw_p12 : lw_okq (⟨"LemonDeals$Street", "passWeeks", "(I)V"⟩, 11) := ⟨⟨by decide +kernel, by decide +kernel⟩, List.mem_of_getElem? (i := 16) (by decide +kernel), List.mem_of_getElem? (i := 212) (by decide +kernel), List.mem_of_getElem? (i := 213) (by decide +kernel)⟩
theorem lw_p13 : lw_okq (⟨"LemonDeals$Street", "passWeek", "()V"⟩, 11) := ⟨⟨by decide +kernel, by decide +kernel⟩, List.mem_of_getElem? (i := 16) (by decide +kernel), List.mem_of_getElem? (i := 216) (by decide +kernel), List.mem_of_getElem? (i := 217) (by decide +kernel)⟩
theorem lw_p14 : lw_okq (⟨"LemonDeals$Street", "suck", "(I)V"⟩, 11) := ⟨⟨by decide +kernel, by decide +kernel⟩, List.mem_of_getElem? (i := 16) (by decide +kernel), List.mem_of_getElem? (i := 221) (by decide +kernel), List.mem_of_getElem? (i := 222) (by decide +kernel)⟩
theorem lw_p15 : lw_okq (⟨"LemonDeals$Street", "withoutStock", "()I"⟩, 11) := ⟨⟨by decide +kernel, by decide +kernel⟩, List.mem_of_getElem? (i := 16) (by decide +kernel), List.mem_of_getElem? (i := 228) (by decide +kernel), List.mem_of_getElem? (i := 229) (by decide +kernel)⟩
def lw_privs_1 : List (MethodName × Nat) := [(⟨"LemonDeals$Sheet", "faultAs", "(I)I"⟩, 3), (⟨"LemonDeals$Sheet", "isThere", "()Z"⟩, 3), (⟨"LemonDeals$Sheet", "lacks", "(II)Z"⟩, 3), (⟨"LemonDeals", "fails", "(I)I"⟩, 8), (⟨"LemonDeals$Street", "beginByText", "([III)V"⟩, 11), (⟨"LemonDeals", "isHouse", "(I)Z"⟩, 8), (⟨"LemonDeals$Street", "treesOf", "(I)I"⟩, 11), (⟨"LemonDeals$Street", "sourOf", "(I)I"⟩, 11), (⟨"LemonDeals$Street", "dealtTo", "(II)I"⟩, 11), (⟨"LemonDeals$Street", "dealOut", "(I)V"⟩, 11), (⟨"LemonDeals$Street", "aheadByRemainder", "(I)I"⟩, 11), (⟨"LemonDeals", "hasStreet", "()Z"⟩, 8), (⟨"LemonDeals$Street", "passWeeks", "(I)V"⟩, 11), (⟨"LemonDeals$Street", "passWeek", "()V"⟩, 11), (⟨"LemonDeals$Street", "suck", "(I)V"⟩, 11), (⟨"LemonDeals$Street", "withoutStock", "()I"⟩, 11)]
theorem lw_r1 : ∀ q ∈ lw_privs_1, lw_okq q := List.forall_mem_cons.mpr ⟨lw_p0, List.forall_mem_cons.mpr ⟨lw_p1, List.forall_mem_cons.mpr ⟨lw_p2, List.forall_mem_cons.mpr ⟨lw_p3, List.forall_mem_cons.mpr ⟨lw_p4, List.forall_mem_cons.mpr ⟨lw_p5, List.forall_mem_cons.mpr ⟨lw_p6, List.forall_mem_cons.mpr ⟨lw_p7, List.forall_mem_cons.mpr ⟨lw_p8, List.forall_mem_cons.mpr ⟨lw_p9, List.forall_mem_cons.mpr ⟨lw_p10, List.forall_mem_cons.mpr ⟨lw_p11, List.forall_mem_cons.mpr ⟨lw_p12, List.forall_mem_cons.mpr ⟨lw_p13, List.forall_mem_cons.mpr ⟨lw_p14, List.forall_mem_cons.mpr ⟨lw_p15, fun _ h => absurd h List.not_mem_nil⟩⟩⟩⟩⟩⟩⟩⟩⟩⟩⟩⟩⟩⟩⟩⟩
theorem lw_p16 : lw_okq (⟨"LemonDeals$Street", "giveOneFrom", "(I)Z"⟩, 11) := ⟨⟨by decide +kernel, by decide +kernel⟩, List.mem_of_getElem? (i := 16) (by decide +kernel), List.mem_of_getElem? (i := 237) (by decide +kernel), List.mem_of_getElem? (i := 238) (by decide +kernel)⟩
theorem lw_p17 : lw_okq (⟨"LemonDeals", "refusalOfPairs", "([III)I"⟩, 8) := ⟨⟨by decide +kernel, by decide +kernel⟩, List.mem_of_getElem? (i := 8) (by decide +kernel), List.mem_of_getElem? (i := 248) (by decide +kernel), List.mem_of_getElem? (i := 249) (by decide +kernel)⟩
theorem lw_p18 : lw_okq (⟨"LemonDeals", "refusalOfPair", "(II)I"⟩, 8) := ⟨⟨by decide +kernel, by decide +kernel⟩, List.mem_of_getElem? (i := 8) (by decide +kernel), List.mem_of_getElem? (i := 252) (by decide +kernel), List.mem_of_getElem? (i := 253) (by decide +kernel)⟩
theorem lw_p19 : lw_okq (⟨"LemonDeals$Street", "becomeLike", "(LLemonDeals$Street;)V"⟩, 11) := ⟨⟨by decide +kernel, by decide +kernel⟩, List.mem_of_getElem? (i := 16) (by decide +kernel), List.mem_of_getElem? (i := 256) (by decide +kernel), List.mem_of_getElem? (i := 257) (by decide +kernel)⟩
theorem lw_p20 : lw_okq (⟨"LemonDeals", "actPairs", "([III)I"⟩, 8) := ⟨⟨by decide +kernel, by decide +kernel⟩, List.mem_of_getElem? (i := 8) (by decide +kernel), List.mem_of_getElem? (i := 260) (by decide +kernel), List.mem_of_getElem? (i := 261) (by decide +kernel)⟩
theorem lw_p21 : lw_okq (⟨"LemonDeals", "actPair", "(II)Z"⟩, 8) := ⟨⟨by decide +kernel, by decide +kernel⟩, List.mem_of_getElem? (i := 8) (by decide +kernel), List.mem_of_getElem? (i := 264) (by decide +kernel), List.mem_of_getElem? (i := 265) (by decide +kernel)⟩
theorem lw_p22 : lw_okq (⟨"LemonDeals", "answerOfSeason", "(I)I"⟩, 8) := ⟨⟨by decide +kernel, by decide +kernel⟩, List.mem_of_getElem? (i := 8) (by decide +kernel), List.mem_of_getElem? (i := 268) (by decide +kernel), List.mem_of_getElem? (i := 269) (by decide +kernel)⟩
theorem lw_p23 : lw_okq (⟨"LemonDeals$Street", "sumOf", "([I)I"⟩, 11) := ⟨⟨by decide +kernel, by decide +kernel⟩, List.mem_of_getElem? (i := 16) (by decide +kernel), List.mem_of_getElem? (i := 272) (by decide +kernel), List.mem_of_getElem? (i := 273) (by decide +kernel)⟩
theorem lw_p24 : lw_okq (⟨"LemonDeals$Street", "worstTemper", "()I"⟩, 11) := ⟨⟨by decide +kernel, by decide +kernel⟩, List.mem_of_getElem? (i := 16) (by decide +kernel), List.mem_of_getElem? (i := 280) (by decide +kernel), List.mem_of_getElem? (i := 281) (by decide +kernel)⟩
theorem lw_p25 : lw_okq (⟨"LemonDeals", "loserByOneMore", "(I)I"⟩, 8) := ⟨⟨by decide +kernel, by decide +kernel⟩, List.mem_of_getElem? (i := 8) (by decide +kernel), List.mem_of_getElem? (i := 288) (by decide +kernel), List.mem_of_getElem? (i := 289) (by decide +kernel)⟩
theorem lw_p26 : lw_okq (⟨"LemonDeals$Street", "dealOneByOne", "(I)V"⟩, 11) := ⟨⟨by decide +kernel, by decide +kernel⟩, List.mem_of_getElem? (i := 16) (by decide +kernel), List.mem_of_getElem? (i := 297) (by decide +kernel), List.mem_of_getElem? (i := 298) (by decide +kernel)⟩
theorem lw_p27 : lw_okq (⟨"LemonDeals$Street", "nextOneByOne", "()I"⟩, 11) := ⟨⟨by decide +kernel, by decide +kernel⟩, List.mem_of_getElem? (i := 16) (by decide +kernel), List.mem_of_getElem? (i := 301) (by decide +kernel), List.mem_of_getElem? (i := 302) (by decide +kernel)⟩
theorem lw_p28 : lw_okq (⟨"LemonDeals$Street", "isAheadOneByOne", "(II)Z"⟩, 11) := ⟨⟨by decide +kernel, by decide +kernel⟩, List.mem_of_getElem? (i := 16) (by decide +kernel), List.mem_of_getElem? (i := 305) (by decide +kernel), List.mem_of_getElem? (i := 306) (by decide +kernel)⟩
theorem lw_p29 : lw_okq (⟨"LemonDeals", "apartBy", "(I)I"⟩, 8) := ⟨⟨by decide +kernel, by decide +kernel⟩, List.mem_of_getElem? (i := 8) (by decide +kernel), List.mem_of_getElem? (i := 313) (by decide +kernel), List.mem_of_getElem? (i := 314) (by decide +kernel)⟩
theorem lw_p30 : lw_okq (⟨"LemonDeals", "readingsHoldInTrial", "()Z"⟩, 8) := ⟨⟨by decide +kernel, by decide +kernel⟩, List.mem_of_getElem? (i := 8) (by decide +kernel), List.mem_of_getElem? (i := 332) (by decide +kernel), List.mem_of_getElem? (i := 333) (by decide +kernel)⟩
theorem lw_p31 : lw_okq (⟨"LemonDeals$Sheet", "begin", "(II)V"⟩, 3) := ⟨⟨by decide +kernel, by decide +kernel⟩, List.mem_of_getElem? (i := 67) (by decide +kernel), List.mem_of_getElem? (i := 353) (by decide +kernel), List.mem_of_getElem? (i := 354) (by decide +kernel)⟩
def lw_privs_2 : List (MethodName × Nat) := [(⟨"LemonDeals$Street", "giveOneFrom", "(I)Z"⟩, 11), (⟨"LemonDeals", "refusalOfPairs", "([III)I"⟩, 8), (⟨"LemonDeals", "refusalOfPair", "(II)I"⟩, 8), (⟨"LemonDeals$Street", "becomeLike", "(LLemonDeals$Street;)V"⟩, 11), (⟨"LemonDeals", "actPairs", "([III)I"⟩, 8), (⟨"LemonDeals", "actPair", "(II)Z"⟩, 8), (⟨"LemonDeals", "answerOfSeason", "(I)I"⟩, 8), (⟨"LemonDeals$Street", "sumOf", "([I)I"⟩, 11), (⟨"LemonDeals$Street", "worstTemper", "()I"⟩, 11), (⟨"LemonDeals", "loserByOneMore", "(I)I"⟩, 8), (⟨"LemonDeals$Street", "dealOneByOne", "(I)V"⟩, 11), (⟨"LemonDeals$Street", "nextOneByOne", "()I"⟩, 11), (⟨"LemonDeals$Street", "isAheadOneByOne", "(II)Z"⟩, 11), (⟨"LemonDeals", "apartBy", "(I)I"⟩, 8), (⟨"LemonDeals", "readingsHoldInTrial", "()Z"⟩, 8), (⟨"LemonDeals$Sheet", "begin", "(II)V"⟩, 3)]
theorem lw_r2 : ∀ q ∈ lw_privs_2, lw_okq q := List.forall_mem_cons.mpr ⟨lw_p16, List.forall_mem_cons.mpr ⟨lw_p17, List.forall_mem_cons.mpr ⟨lw_p18, List.forall_mem_cons.mpr ⟨lw_p19, List.forall_mem_cons.mpr ⟨lw_p20, List.forall_mem_cons.mpr ⟨lw_p21, List.forall_mem_cons.mpr ⟨lw_p22, List.forall_mem_cons.mpr ⟨lw_p23, List.forall_mem_cons.mpr ⟨lw_p24, List.forall_mem_cons.mpr ⟨lw_p25, List.forall_mem_cons.mpr ⟨lw_p26, List.forall_mem_cons.mpr ⟨lw_p27, List.forall_mem_cons.mpr ⟨lw_p28, List.forall_mem_cons.mpr ⟨lw_p29, List.forall_mem_cons.mpr ⟨lw_p30, List.forall_mem_cons.mpr ⟨lw_p31, fun _ h => absurd h List.not_mem_nil⟩⟩⟩⟩⟩⟩⟩⟩⟩⟩⟩⟩⟩⟩⟩⟩
theorem lw_p32 : lw_okq (⟨"LemonDeals$Sheet", "hasCell", "(I)Z"⟩, 3) := ⟨⟨by decide +kernel, by decide +kernel⟩, List.mem_of_getElem? (i := 67) (by decide +kernel), List.mem_of_getElem? (i := 366) (by decide +kernel), List.mem_of_getElem? (i := 367) (by decide +kernel)⟩
theorem lw_p33 : lw_okq (⟨"LemonDeals$Sheet", "cutToLane", "(I)I"⟩, 3) := ⟨⟨by decide +kernel, by decide +kernel⟩, List.mem_of_getElem? (i := 67) (by decide +kernel), List.mem_of_getElem? (i := 370) (by decide +kernel), List.mem_of_getElem? (i := 371) (by decide +kernel)⟩
theorem lw_p34 : lw_okq (⟨"LemonDeals", "tellAsTart", "(I)I"⟩, 8) := ⟨⟨by decide +kernel, by decide +kernel⟩, List.mem_of_getElem? (i := 8) (by decide +kernel), List.mem_of_getElem? (i := 389) (by decide +kernel), List.mem_of_getElem? (i := 390) (by decide +kernel)⟩
theorem lw_p35 : lw_okq (⟨"LemonDeals", "leaveInTrace", "(I)V"⟩, 8) := ⟨⟨by decide +kernel, by decide +kernel⟩, List.mem_of_getElem? (i := 8) (by decide +kernel), List.mem_of_getElem? (i := 393) (by decide +kernel), List.mem_of_getElem? (i := 394) (by decide +kernel)⟩
theorem lw_p36 : lw_okq (⟨"LemonDeals", "tellAsPlain", "(I)I"⟩, 8) := ⟨⟨by decide +kernel, by decide +kernel⟩, List.mem_of_getElem? (i := 8) (by decide +kernel), List.mem_of_getElem? (i := 397) (by decide +kernel), List.mem_of_getElem? (i := 398) (by decide +kernel)⟩
theorem lw_p37 : lw_okq (⟨"LemonDeals", "tellAsBitter", "(I)I"⟩, 8) := ⟨⟨by decide +kernel, by decide +kernel⟩, List.mem_of_getElem? (i := 8) (by decide +kernel), List.mem_of_getElem? (i := 401) (by decide +kernel), List.mem_of_getElem? (i := 402) (by decide +kernel)⟩
theorem lw_p38 : lw_okq (⟨"LemonDealsModel", "refused", "(I)I"⟩, 30) := ⟨⟨by decide +kernel, by decide +kernel⟩, List.mem_of_getElem? (i := 425) (by decide +kernel), List.mem_of_getElem? (i := 533) (by decide +kernel), List.mem_of_getElem? (i := 534) (by decide +kernel)⟩
theorem lw_p39 : lw_okq (⟨"LemonDealsModel", "cellsBarred", "(IIIJ)I"⟩, 30) := ⟨⟨by decide +kernel, by decide +kernel⟩, List.mem_of_getElem? (i := 425) (by decide +kernel), List.mem_of_getElem? (i := 538) (by decide +kernel), List.mem_of_getElem? (i := 539) (by decide +kernel)⟩
theorem lw_p40 : lw_okq (⟨"LemonDealsModel", "failed", "(I)I"⟩, 30) := ⟨⟨by decide +kernel, by decide +kernel⟩, List.mem_of_getElem? (i := 425) (by decide +kernel), List.mem_of_getElem? (i := 542) (by decide +kernel), List.mem_of_getElem? (i := 543) (by decide +kernel)⟩
theorem lw_p41 : lw_okq (⟨"LemonDealsModel", "readsStreet", "(II)Z"⟩, 30) := ⟨⟨by decide +kernel, by decide +kernel⟩, List.mem_of_getElem? (i := 425) (by decide +kernel), List.mem_of_getElem? (i := 549) (by decide +kernel), List.mem_of_getElem? (i := 550) (by decide +kernel)⟩
theorem lw_p42 : lw_okq (⟨"LemonDealsModel", "codeAt", "(II)I"⟩, 30) := ⟨⟨by decide +kernel, by decide +kernel⟩, List.mem_of_getElem? (i := 425) (by decide +kernel), List.mem_of_getElem? (i := 553) (by decide +kernel), List.mem_of_getElem? (i := 554) (by decide +kernel)⟩
theorem lw_p43 : lw_okq (⟨"LemonDealsModel", "figure", "(III)I"⟩, 30) := ⟨⟨by decide +kernel, by decide +kernel⟩, List.mem_of_getElem? (i := 425) (by decide +kernel), List.mem_of_getElem? (i := 557) (by decide +kernel), List.mem_of_getElem? (i := 558) (by decide +kernel)⟩
theorem lw_p44 : lw_okq (⟨"LemonDealsModel", "readsHouse", "(II)Z"⟩, 30) := ⟨⟨by decide +kernel, by decide +kernel⟩, List.mem_of_getElem? (i := 425) (by decide +kernel), List.mem_of_getElem? (i := 562) (by decide +kernel), List.mem_of_getElem? (i := 563) (by decide +kernel)⟩
theorem lw_p45 : lw_okq (⟨"LemonDealsModel", "noHouse", "(I)Z"⟩, 30) := ⟨⟨by decide +kernel, by decide +kernel⟩, List.mem_of_getElem? (i := 425) (by decide +kernel), List.mem_of_getElem? (i := 570) (by decide +kernel), List.mem_of_getElem? (i := 571) (by decide +kernel)⟩
theorem lw_p46 : lw_okq (⟨"LemonDealsModel", "sourOf", "(I)I"⟩, 30) := ⟨⟨by decide +kernel, by decide +kernel⟩, List.mem_of_getElem? (i := 425) (by decide +kernel), List.mem_of_getElem? (i := 574) (by decide +kernel), List.mem_of_getElem? (i := 575) (by decide +kernel)⟩
theorem lw_p47 : lw_okq (⟨"LemonDealsModel", "dealtTo", "(II)I"⟩, 30) := ⟨⟨by decide +kernel, by decide +kernel⟩, List.mem_of_getElem? (i := 425) (by decide +kernel), List.mem_of_getElem? (i := 578) (by decide +kernel), List.mem_of_getElem? (i := 579) (by decide +kernel)⟩
def lw_privs_3 : List (MethodName × Nat) := [(⟨"LemonDeals$Sheet", "hasCell", "(I)Z"⟩, 3), (⟨"LemonDeals$Sheet", "cutToLane", "(I)I"⟩, 3), (⟨"LemonDeals", "tellAsTart", "(I)I"⟩, 8), (⟨"LemonDeals", "leaveInTrace", "(I)V"⟩, 8), (⟨"LemonDeals", "tellAsPlain", "(I)I"⟩, 8), (⟨"LemonDeals", "tellAsBitter", "(I)I"⟩, 8), (⟨"LemonDealsModel", "refused", "(I)I"⟩, 30), (⟨"LemonDealsModel", "cellsBarred", "(IIIJ)I"⟩, 30), (⟨"LemonDealsModel", "failed", "(I)I"⟩, 30), (⟨"LemonDealsModel", "readsStreet", "(II)Z"⟩, 30), (⟨"LemonDealsModel", "codeAt", "(II)I"⟩, 30), (⟨"LemonDealsModel", "figure", "(III)I"⟩, 30), (⟨"LemonDealsModel", "readsHouse", "(II)Z"⟩, 30), (⟨"LemonDealsModel", "noHouse", "(I)Z"⟩, 30), (⟨"LemonDealsModel", "sourOf", "(I)I"⟩, 30), (⟨"LemonDealsModel", "dealtTo", "(II)I"⟩, 30)]
theorem lw_r3 : ∀ q ∈ lw_privs_3, lw_okq q := List.forall_mem_cons.mpr ⟨lw_p32, List.forall_mem_cons.mpr ⟨lw_p33, List.forall_mem_cons.mpr ⟨lw_p34, List.forall_mem_cons.mpr ⟨lw_p35, List.forall_mem_cons.mpr ⟨lw_p36, List.forall_mem_cons.mpr ⟨lw_p37, List.forall_mem_cons.mpr ⟨lw_p38, List.forall_mem_cons.mpr ⟨lw_p39, List.forall_mem_cons.mpr ⟨lw_p40, List.forall_mem_cons.mpr ⟨lw_p41, List.forall_mem_cons.mpr ⟨lw_p42, List.forall_mem_cons.mpr ⟨lw_p43, List.forall_mem_cons.mpr ⟨lw_p44, List.forall_mem_cons.mpr ⟨lw_p45, List.forall_mem_cons.mpr ⟨lw_p46, List.forall_mem_cons.mpr ⟨lw_p47, fun _ h => absurd h List.not_mem_nil⟩⟩⟩⟩⟩⟩⟩⟩⟩⟩⟩⟩⟩⟩⟩⟩
theorem lw_p48 : lw_okq (⟨"LemonDealsModel", "sourOfAll", "()I"⟩, 30) := ⟨⟨by decide +kernel, by decide +kernel⟩, List.mem_of_getElem? (i := 425) (by decide +kernel), List.mem_of_getElem? (i := 582) (by decide +kernel), List.mem_of_getElem? (i := 583) (by decide +kernel)⟩
theorem lw_p49 : lw_okq (⟨"LemonDealsModel", "aheadOf", "(III)I"⟩, 30) := ⟨⟨by decide +kernel, by decide +kernel⟩, List.mem_of_getElem? (i := 425) (by decide +kernel), List.mem_of_getElem? (i := 586) (by decide +kernel), List.mem_of_getElem? (i := 587) (by decide +kernel)⟩
theorem lw_p50 : lw_okq (⟨"LemonDealsModel", "passes", "()V"⟩, 30) := ⟨⟨by decide +kernel, by decide +kernel⟩, List.mem_of_getElem? (i := 425) (by decide +kernel), List.mem_of_getElem? (i := 611) (by decide +kernel), List.mem_of_getElem? (i := 612) (by decide +kernel)⟩
theorem lw_p51 : lw_okq (⟨"LemonDealsModel", "without", "()I"⟩, 30) := ⟨⟨by decide +kernel, by decide +kernel⟩, List.mem_of_getElem? (i := 425) (by decide +kernel), List.mem_of_getElem? (i := 615) (by decide +kernel), List.mem_of_getElem? (i := 616) (by decide +kernel)⟩
theorem lw_p52 : lw_okq (⟨"LemonDealsModel", "gave", "(I)Z"⟩, 30) := ⟨⟨by decide +kernel, by decide +kernel⟩, List.mem_of_getElem? (i := 425) (by decide +kernel), List.mem_of_getElem? (i := 623) (by decide +kernel), List.mem_of_getElem? (i := 624) (by decide +kernel)⟩
theorem lw_p53 : lw_okq (⟨"LemonDealsModel", "pairsBarred", "(II)I"⟩, 30) := ⟨⟨by decide +kernel, by decide +kernel⟩, List.mem_of_getElem? (i := 425) (by decide +kernel), List.mem_of_getElem? (i := 635) (by decide +kernel), List.mem_of_getElem? (i := 636) (by decide +kernel)⟩
theorem lw_p54 : lw_okq (⟨"LemonDealsModel", "keepAll", "()V"⟩, 30) := ⟨⟨by decide +kernel, by decide +kernel⟩, List.mem_of_getElem? (i := 425) (by decide +kernel), List.mem_of_getElem? (i := 639) (by decide +kernel), List.mem_of_getElem? (i := 640) (by decide +kernel)⟩
theorem lw_p55 : lw_okq (⟨"LemonDealsModel", "seasonBy", "(III)I"⟩, 30) := ⟨⟨by decide +kernel, by decide +kernel⟩, List.mem_of_getElem? (i := 425) (by decide +kernel), List.mem_of_getElem? (i := 643) (by decide +kernel), List.mem_of_getElem? (i := 644) (by decide +kernel)⟩
theorem lw_p56 : lw_okq (⟨"LemonDealsModel", "did", "(II)Z"⟩, 30) := ⟨⟨by decide +kernel, by decide +kernel⟩, List.mem_of_getElem? (i := 425) (by decide +kernel), List.mem_of_getElem? (i := 647) (by decide +kernel), List.mem_of_getElem? (i := 648) (by decide +kernel)⟩
theorem lw_p57 : lw_okq (⟨"LemonDealsModel", "bringBack", "()V"⟩, 30) := ⟨⟨by decide +kernel, by decide +kernel⟩, List.mem_of_getElem? (i := 425) (by decide +kernel), List.mem_of_getElem? (i := 651) (by decide +kernel), List.mem_of_getElem? (i := 652) (by decide +kernel)⟩
theorem lw_p58 : lw_okq (⟨"LemonDealsModel", "worstTemper", "()I"⟩, 30) := ⟨⟨by decide +kernel, by decide +kernel⟩, List.mem_of_getElem? (i := 425) (by decide +kernel), List.mem_of_getElem? (i := 660) (by decide +kernel), List.mem_of_getElem? (i := 661) (by decide +kernel)⟩
theorem lw_p59 : lw_okq (⟨"LemonDealsModel", "nextOne", "()I"⟩, 30) := ⟨⟨by decide +kernel, by decide +kernel⟩, List.mem_of_getElem? (i := 425) (by decide +kernel), List.mem_of_getElem? (i := 672) (by decide +kernel), List.mem_of_getElem? (i := 673) (by decide +kernel)⟩
theorem lw_p60 : lw_okq (⟨"LemonDealsModel", "apart", "(I)I"⟩, 30) := ⟨⟨by decide +kernel, by decide +kernel⟩, List.mem_of_getElem? (i := 425) (by decide +kernel), List.mem_of_getElem? (i := 680) (by decide +kernel), List.mem_of_getElem? (i := 681) (by decide +kernel)⟩
theorem lw_p61 : lw_okq (⟨"LemonDealsModel", "areSo", "()Z"⟩, 30) := ⟨⟨by decide +kernel, by decide +kernel⟩, List.mem_of_getElem? (i := 425) (by decide +kernel), List.mem_of_getElem? (i := 699) (by decide +kernel), List.mem_of_getElem? (i := 700) (by decide +kernel)⟩
theorem lw_p62 : lw_okq (⟨"LemonDealsModel", "noCell", "(II)I"⟩, 30) := ⟨⟨by decide +kernel, by decide +kernel⟩, List.mem_of_getElem? (i := 425) (by decide +kernel), List.mem_of_getElem? (i := 735) (by decide +kernel), List.mem_of_getElem? (i := 736) (by decide +kernel)⟩
theorem lw_p63 : lw_okq (⟨"LemonDealsModel", "failedLong", "(I)J"⟩, 30) := ⟨⟨by decide +kernel, by decide +kernel⟩, List.mem_of_getElem? (i := 425) (by decide +kernel), List.mem_of_getElem? (i := 743) (by decide +kernel), List.mem_of_getElem? (i := 744) (by decide +kernel)⟩
def lw_privs_4 : List (MethodName × Nat) := [(⟨"LemonDealsModel", "sourOfAll", "()I"⟩, 30), (⟨"LemonDealsModel", "aheadOf", "(III)I"⟩, 30), (⟨"LemonDealsModel", "passes", "()V"⟩, 30), (⟨"LemonDealsModel", "without", "()I"⟩, 30), (⟨"LemonDealsModel", "gave", "(I)Z"⟩, 30), (⟨"LemonDealsModel", "pairsBarred", "(II)I"⟩, 30), (⟨"LemonDealsModel", "keepAll", "()V"⟩, 30), (⟨"LemonDealsModel", "seasonBy", "(III)I"⟩, 30), (⟨"LemonDealsModel", "did", "(II)Z"⟩, 30), (⟨"LemonDealsModel", "bringBack", "()V"⟩, 30), (⟨"LemonDealsModel", "worstTemper", "()I"⟩, 30), (⟨"LemonDealsModel", "nextOne", "()I"⟩, 30), (⟨"LemonDealsModel", "apart", "(I)I"⟩, 30), (⟨"LemonDealsModel", "areSo", "()Z"⟩, 30), (⟨"LemonDealsModel", "noCell", "(II)I"⟩, 30), (⟨"LemonDealsModel", "failedLong", "(I)J"⟩, 30)]
theorem lw_r4 : ∀ q ∈ lw_privs_4, lw_okq q := List.forall_mem_cons.mpr ⟨lw_p48, List.forall_mem_cons.mpr ⟨lw_p49, List.forall_mem_cons.mpr ⟨lw_p50, List.forall_mem_cons.mpr ⟨lw_p51, List.forall_mem_cons.mpr ⟨lw_p52, List.forall_mem_cons.mpr ⟨lw_p53, List.forall_mem_cons.mpr ⟨lw_p54, List.forall_mem_cons.mpr ⟨lw_p55, List.forall_mem_cons.mpr ⟨lw_p56, List.forall_mem_cons.mpr ⟨lw_p57, List.forall_mem_cons.mpr ⟨lw_p58, List.forall_mem_cons.mpr ⟨lw_p59, List.forall_mem_cons.mpr ⟨lw_p60, List.forall_mem_cons.mpr ⟨lw_p61, List.forall_mem_cons.mpr ⟨lw_p62, List.forall_mem_cons.mpr ⟨lw_p63, fun _ h => absurd h List.not_mem_nil⟩⟩⟩⟩⟩⟩⟩⟩⟩⟩⟩⟩⟩⟩⟩⟩
theorem lw_p64 : lw_okq (⟨"LemonDealsModel", "traced", "(I)V"⟩, 30) := ⟨⟨by decide +kernel, by decide +kernel⟩, List.mem_of_getElem? (i := 425) (by decide +kernel), List.mem_of_getElem? (i := 755) (by decide +kernel), List.mem_of_getElem? (i := 756) (by decide +kernel)⟩
def lw_privs_5 : List (MethodName × Nat) := [(⟨"LemonDealsModel", "traced", "(I)V"⟩, 30)]
theorem lw_r5 : ∀ q ∈ lw_privs_5, lw_okq q := List.forall_mem_cons.mpr ⟨lw_p64, fun _ h => absurd h List.not_mem_nil⟩
def lw_privs : List (MethodName × Nat) := lw_privs_1 ++ (lw_privs_2 ++ (lw_privs_3 ++ (lw_privs_4 ++ (lw_privs_5))))
def lw_tbl : List Cond := k2_sels lw_privs ++ tables_1
theorem lw_privs_ok : ∀ q ∈ lw_privs, lw_okq q := by
  show ∀ q ∈ lw_privs_1 ++ (lw_privs_2 ++ (lw_privs_3 ++ (lw_privs_4 ++ (lw_privs_5)))), lw_okq q
  exact List.forall_mem_append.mpr ⟨lw_r1, List.forall_mem_append.mpr ⟨lw_r2, List.forall_mem_append.mpr ⟨lw_r3, List.forall_mem_append.mpr ⟨lw_r4, lw_r5⟩⟩⟩⟩
/-! ===== BEGIN words of one list among another's, by their places ===== -/
theorem goodIn_r {big : List Cond} (ws : List Cond) (ps : List Nat) (hp : ws = ps.filterMap (fun i => big[i]?)) (h : ws.all goodWord = true) : GoodIn big ws := by
  intro w hw
  have h1 := List.all_eq_true.mp h w hw
  rw [hp] at hw
  obtain ⟨i, -, hi⟩ := List.mem_filterMap.mp hw
  have hm : w ∈ big := by first | exact List.mem_of_getElem? hi | exact List.getElem?_mem hi
  exact ⟨hm, good_of_word h1⟩
theorem goodIn_app {big a b : List Cond} (ha : GoodIn big a) (hb : GoodIn big b) : GoodIn big (a ++ b) := fun w h => (List.mem_append.mp h).elim (ha w) (hb w)
theorem goodIn_ca {big a b : List Cond} {c : Cond} (ha : GoodIn big (c :: a)) (hb : GoodIn big b) : GoodIn big (c :: (a ++ b)) := fun w h => (List.mem_cons.mp h).elim (fun e => ha w (List.mem_cons.mpr (Or.inl e))) (fun h => (List.mem_append.mp h).elim (fun h => ha w (List.mem_cons.mpr (Or.inr h))) (hb w))
theorem goodIn_sub {big ws : List Cond} (hm : ∀ w ∈ ws, w ∈ big) (h : ws.all goodWord = true) : GoodIn big ws := fun w hw => ⟨hm w hw, good_of_word (List.all_eq_true.mp h w hw)⟩
/-! ===== END ===== -/

/-! ===== BEGIN printed: names, fields, word lists, decode rows ===== -/
def RX0 : String := "LemonDeals$Sheet"
def TX0 : u_T := fun k => match k with
  | 0 => ("LemonDeals$Sheet", "cells", "[I", true)
  | 1 => ("LemonDeals$Sheet", "lane", "I", false)
  | _ => ("LemonDeals$Sheet", "length", "I", false)
def tyX0 : Nat → FieldType := fun k => match k with
  | 0 => .array .int
  | 1 => .int
  | _ => .int
abbrev wsX00 : List Cond := u_ws RX0 TX0 3
theorem nmX0 : ∀ a, a < 3 → ∀ b, b < 3 → a ≠ b → (TX0 a).2.1 ≠ (TX0 b).2.1 := by decide +kernel
theorem tyX0_ok : ∀ k, k < 3 → parseFieldDescriptor (TX0 k).2.2.1 = some (tyX0 k) := by decide +kernel
abbrev cX0_init : ByteArray := prog_2_method_1_code
def yX0_init : MethodName := ⟨RX0, "<init>", "()V"⟩
abbrev cX0_begin : ByteArray := prog_2_method_2_code
def yX0_begin : MethodName := ⟨RX0, "begin", "(II)V"⟩
abbrev cX0_isThere : ByteArray := prog_2_method_3_code
def yX0_isThere : MethodName := ⟨RX0, "isThere", "()Z"⟩
abbrev cX0_faultAs : ByteArray := prog_2_method_4_code
def yX0_faultAs : MethodName := ⟨RX0, "faultAs", "(I)I"⟩
abbrev cX0_hasCell : ByteArray := prog_2_method_5_code
def yX0_hasCell : MethodName := ⟨RX0, "hasCell", "(I)Z"⟩
abbrev cX0_lacks : ByteArray := prog_2_method_6_code
def yX0_lacks : MethodName := ⟨RX0, "lacks", "(II)Z"⟩
abbrev cX0_cutToLane : ByteArray := prog_2_method_7_code
def yX0_cutToLane : MethodName := ⟨RX0, "cutToLane", "(I)I"⟩
def RX1 : String := "LemonDeals$Street"
def TX1 : u_T := fun k => match k with
  | 0 => ("LemonDeals$Street", "houses", "I", false)
  | 1 => ("LemonDeals$Street", "crate", "I", false)
  | 2 => ("LemonDeals$Street", "week", "I", false)
  | 3 => ("LemonDeals$Street", "leanWeeks", "I", false)
  | 4 => ("LemonDeals$Street", "kind", "[I", true)
  | 5 => ("LemonDeals$Street", "temper", "[I", true)
  | 6 => ("LemonDeals$Street", "stock", "[I", true)
  | 7 => ("LemonDeals$Street", "pips", "[I", true)
  | 8 => ("LemonDeals$Street", "sour", "[I", true)
  | 9 => ("LemonDeals$Street", "dealt", "[I", true)
  | _ => ("LemonDeals$Street", "remainder", "[I", true)
def tyX1 : Nat → FieldType := fun k => match k with
  | 0 => .int
  | 1 => .int
  | 2 => .int
  | 3 => .int
  | 4 => .array .int
  | 5 => .array .int
  | 6 => .array .int
  | 7 => .array .int
  | 8 => .array .int
  | 9 => .array .int
  | _ => .array .int
abbrev wsX10 : List Cond := u_ws RX1 TX1 11
theorem nmX1 : ∀ a, a < 11 → ∀ b, b < 11 → a ≠ b → (TX1 a).2.1 ≠ (TX1 b).2.1 := by decide +kernel
theorem tyX1_ok : ∀ k, k < 11 → parseFieldDescriptor (TX1 k).2.2.1 = some (tyX1 k) := by decide +kernel
abbrev cX1_init : ByteArray := prog_3_method_1_code
def yX1_init : MethodName := ⟨RX1, "<init>", "()V"⟩
abbrev cX1_beginByText : ByteArray := prog_3_method_2_code
def yX1_beginByText : MethodName := ⟨RX1, "beginByText", "([III)V"⟩
abbrev cX1_becomeLike : ByteArray := prog_3_method_3_code
def yX1_becomeLike : MethodName := ⟨RX1, "becomeLike", "(LLemonDeals$Street;)V"⟩
abbrev cX1_treesOf : ByteArray := prog_3_method_4_code
def yX1_treesOf : MethodName := ⟨RX1, "treesOf", "(I)I"⟩
abbrev cX1_sourOf : ByteArray := prog_3_method_5_code
def yX1_sourOf : MethodName := ⟨RX1, "sourOf", "(I)I"⟩
abbrev cX1_dealtTo : ByteArray := prog_3_method_6_code
def yX1_dealtTo : MethodName := ⟨RX1, "dealtTo", "(II)I"⟩
abbrev cX1_dealOut : ByteArray := prog_3_method_7_code
def yX1_dealOut : MethodName := ⟨RX1, "dealOut", "(I)V"⟩
abbrev cX1_aheadByRemainder : ByteArray := prog_3_method_8_code
def yX1_aheadByRemainder : MethodName := ⟨RX1, "aheadByRemainder", "(I)I"⟩
abbrev cX1_dealOneByOne : ByteArray := prog_3_method_9_code
def yX1_dealOneByOne : MethodName := ⟨RX1, "dealOneByOne", "(I)V"⟩
abbrev cX1_nextOneByOne : ByteArray := prog_3_method_10_code
def yX1_nextOneByOne : MethodName := ⟨RX1, "nextOneByOne", "()I"⟩
abbrev cX1_isAheadOneByOne : ByteArray := prog_3_method_11_code
def yX1_isAheadOneByOne : MethodName := ⟨RX1, "isAheadOneByOne", "(II)Z"⟩
abbrev cX1_passWeeks : ByteArray := prog_3_method_12_code
def yX1_passWeeks : MethodName := ⟨RX1, "passWeeks", "(I)V"⟩
abbrev cX1_passWeek : ByteArray := prog_3_method_13_code
def yX1_passWeek : MethodName := ⟨RX1, "passWeek", "()V"⟩
abbrev cX1_suck : ByteArray := prog_3_method_14_code
def yX1_suck : MethodName := ⟨RX1, "suck", "(I)V"⟩
abbrev cX1_giveOneFrom : ByteArray := prog_3_method_15_code
def yX1_giveOneFrom : MethodName := ⟨RX1, "giveOneFrom", "(I)Z"⟩
abbrev cX1_withoutStock : ByteArray := prog_3_method_16_code
def yX1_withoutStock : MethodName := ⟨RX1, "withoutStock", "()I"⟩
abbrev cX1_worstTemper : ByteArray := prog_3_method_17_code
def yX1_worstTemper : MethodName := ⟨RX1, "worstTemper", "()I"⟩
abbrev cX1_sumOf : ByteArray := prog_3_method_18_code
def yX1_sumOf : MethodName := ⟨RX1, "sumOf", "([I)I"⟩
def RX2 : String := "LemonDeals"
def TX2 : u_T := fun k => match k with
  | 0 => ("LemonDeals", "now", "LLemonDeals$Street;", true)
  | 1 => ("LemonDeals", "trial", "LLemonDeals$Street;", true)
  | 2 => ("LemonDeals", "sheets", "[LLemonDeals$Sheet;", true)
  | 3 => ("LemonDeals", "readHouse", "[I", true)
  | 4 => ("LemonDeals", "readDealt", "[I", true)
  | 5 => ("LemonDeals", "readings", "I", false)
  | 6 => ("LemonDeals", "traced", "I", false)
  | _ => ("LemonDeals", "lastFault", "I", false)
def tyX2 : Nat → FieldType := fun k => match k with
  | 0 => .object "LemonDeals$Street"
  | 1 => .object "LemonDeals$Street"
  | 2 => .array (.object "LemonDeals$Sheet")
  | 3 => .array .int
  | 4 => .array .int
  | 5 => .int
  | 6 => .int
  | _ => .int
abbrev wsX20 : List Cond := u_ws RX2 TX2 8
theorem nmX2 : ∀ a, a < 8 → ∀ b, b < 8 → a ≠ b → (TX2 a).2.1 ≠ (TX2 b).2.1 := by decide +kernel
theorem tyX2_ok : ∀ k, k < 8 → parseFieldDescriptor (TX2 k).2.2.1 = some (tyX2 k) := by decide +kernel
abbrev cX2_init : ByteArray := prog_1_method_1_code
def yX2_init : MethodName := ⟨RX2, "<init>", "()V"⟩
abbrev cX2_street : ByteArray := prog_1_method_2_code
def yX2_street : MethodName := ⟨RX2, "street", "(IIII)I"⟩
abbrev cX2_ofHouse : ByteArray := prog_1_method_3_code
def yX2_ofHouse : MethodName := ⟨RX2, "ofHouse", "(II)I"⟩
abbrev cX2_anger : ByteArray := prog_1_method_4_code
def yX2_anger : MethodName := ⟨RX2, "anger", "(II)I"⟩
abbrev cX2_crate : ByteArray := prog_1_method_5_code
def yX2_crate : MethodName := ⟨RX2, "crate", "(I)I"⟩
abbrev cX2_deal : ByteArray := prog_1_method_6_code
def yX2_deal : MethodName := ⟨RX2, "deal", "(II)I"⟩
abbrev cX2_weeks : ByteArray := prog_1_method_7_code
def yX2_weeks : MethodName := ⟨RX2, "weeks", "(I)I"⟩
abbrev cX2_gift : ByteArray := prog_1_method_8_code
def yX2_gift : MethodName := ⟨RX2, "gift", "(I)I"⟩
abbrev cX2_season : ByteArray := prog_1_method_9_code
def yX2_season : MethodName := ⟨RX2, "season", "(IIIII)I"⟩
abbrev cX2_calm : ByteArray := prog_1_method_10_code
def yX2_calm : MethodName := ⟨RX2, "calm", "(II)I"⟩
abbrev cX2_wonder : ByteArray := prog_1_method_11_code
def yX2_wonder : MethodName := ⟨RX2, "wonder", "(I)I"⟩
abbrev cX2_otherwise : ByteArray := prog_1_method_12_code
def yX2_otherwise : MethodName := ⟨RX2, "otherwise", "(I)I"⟩
abbrev cX2_halves : ByteArray := prog_1_method_13_code
def yX2_halves : MethodName := ⟨RX2, "halves", "(I)I"⟩
abbrev cX2_reading : ByteArray := prog_1_method_14_code
def yX2_reading : MethodName := ⟨RX2, "reading", "(II)I"⟩
abbrev cX2_back : ByteArray := prog_1_method_15_code
def yX2_back : MethodName := ⟨RX2, "back", "(I)I"⟩
abbrev cX2_tempers : ByteArray := prog_1_method_16_code
def yX2_tempers : MethodName := ⟨RX2, "tempers", "(I)I"⟩
abbrev cX2_kinds : ByteArray := prog_1_method_17_code
def yX2_kinds : MethodName := ⟨RX2, "kinds", "(I)I"⟩
abbrev cX2_crates : ByteArray := prog_1_method_18_code
def yX2_crates : MethodName := ⟨RX2, "crates", "(I)I"⟩
abbrev cX2_odds : ByteArray := prog_1_method_19_code
def yX2_odds : MethodName := ⟨RX2, "odds", "(III)J"⟩
abbrev cX2_sheet : ByteArray := prog_1_method_20_code
def yX2_sheet : MethodName := ⟨RX2, "sheet", "(III)I"⟩
abbrev cX2_lose : ByteArray := prog_1_method_21_code
def yX2_lose : MethodName := ⟨RX2, "lose", "(I)I"⟩
abbrev cX2_put : ByteArray := prog_1_method_22_code
def yX2_put : MethodName := ⟨RX2, "put", "(III)I"⟩
abbrev cX2_cell : ByteArray := prog_1_method_23_code
def yX2_cell : MethodName := ⟨RX2, "cell", "(III)J"⟩
abbrev cX2_copy : ByteArray := prog_1_method_24_code
def yX2_copy : MethodName := ⟨RX2, "copy", "(IIIII)I"⟩
abbrev cX2_tell : ByteArray := prog_1_method_25_code
def yX2_tell : MethodName := ⟨RX2, "tell", "(I)I"⟩
abbrev cX2_knock : ByteArray := prog_1_method_26_code
def yX2_knock : MethodName := ⟨RX2, "knock", "(I)I"⟩
abbrev cX2_as : ByteArray := prog_1_method_27_code
def yX2_as : MethodName := ⟨RX2, "as", "(II)I"⟩
abbrev cX2_trace : ByteArray := prog_1_method_28_code
def yX2_trace : MethodName := ⟨RX2, "trace", "()I"⟩
abbrev cX2_fault : ByteArray := prog_1_method_29_code
def yX2_fault : MethodName := ⟨RX2, "fault", "()I"⟩
abbrev cX2_many : ByteArray := prog_1_method_30_code
def yX2_many : MethodName := ⟨RX2, "many", "(I)I"⟩
abbrev cX2_hasStreet : ByteArray := prog_1_method_31_code
def yX2_hasStreet : MethodName := ⟨RX2, "hasStreet", "()Z"⟩
abbrev cX2_isHouse : ByteArray := prog_1_method_32_code
def yX2_isHouse : MethodName := ⟨RX2, "isHouse", "(I)Z"⟩
abbrev cX2_isSheet : ByteArray := prog_1_method_33_code
def yX2_isSheet : MethodName := ⟨RX2, "isSheet", "(I)Z"⟩
abbrev cX2_isLane : ByteArray := prog_1_method_34_code
def yX2_isLane : MethodName := ⟨RX2, "isLane", "(I)Z"⟩
abbrev cX2_isTemper : ByteArray := prog_1_method_35_code
def yX2_isTemper : MethodName := ⟨RX2, "isTemper", "(I)Z"⟩
abbrev cX2_isCrate : ByteArray := prog_1_method_36_code
def yX2_isCrate : MethodName := ⟨RX2, "isCrate", "(I)Z"⟩
abbrev cX2_isAskedOfSeason : ByteArray := prog_1_method_37_code
def yX2_isAskedOfSeason : MethodName := ⟨RX2, "isAskedOfSeason", "(I)Z"⟩
abbrev cX2_fails : ByteArray := prog_1_method_38_code
def yX2_fails : MethodName := ⟨RX2, "fails", "(I)I"⟩
abbrev cX2_firstTextFault : ByteArray := prog_1_method_39_code
def yX2_firstTextFault : MethodName := ⟨RX2, "firstTextFault", "([III)I"⟩
abbrev cX2_goesOn : ByteArray := prog_1_method_40_code
def yX2_goesOn : MethodName := ⟨RX2, "goesOn", "(II)Z"⟩
abbrev cX2_isDigit : ByteArray := prog_1_method_41_code
def yX2_isDigit : MethodName := ⟨RX2, "isDigit", "(I)Z"⟩
abbrev cX2_kindByLetter : ByteArray := prog_1_method_42_code
def yX2_kindByLetter : MethodName := ⟨RX2, "kindByLetter", "(I)I"⟩
abbrev cX2_refusalOfPairs : ByteArray := prog_1_method_43_code
def yX2_refusalOfPairs : MethodName := ⟨RX2, "refusalOfPairs", "([III)I"⟩
abbrev cX2_refusalOfPair : ByteArray := prog_1_method_44_code
def yX2_refusalOfPair : MethodName := ⟨RX2, "refusalOfPair", "(II)I"⟩
abbrev cX2_actPairs : ByteArray := prog_1_method_45_code
def yX2_actPairs : MethodName := ⟨RX2, "actPairs", "([III)I"⟩
abbrev cX2_actPair : ByteArray := prog_1_method_46_code
def yX2_actPair : MethodName := ⟨RX2, "actPair", "(II)Z"⟩
abbrev cX2_answerOfSeason : ByteArray := prog_1_method_47_code
def yX2_answerOfSeason : MethodName := ⟨RX2, "answerOfSeason", "(I)I"⟩
abbrev cX2_loserByOneMore : ByteArray := prog_1_method_48_code
def yX2_loserByOneMore : MethodName := ⟨RX2, "loserByOneMore", "(I)I"⟩
abbrev cX2_apartBy : ByteArray := prog_1_method_49_code
def yX2_apartBy : MethodName := ⟨RX2, "apartBy", "(I)I"⟩
abbrev cX2_readingsHoldInTrial : ByteArray := prog_1_method_50_code
def yX2_readingsHoldInTrial : MethodName := ⟨RX2, "readingsHoldInTrial", "()Z"⟩
abbrev cX2_tellAsPlain : ByteArray := prog_1_method_51_code
def yX2_tellAsPlain : MethodName := ⟨RX2, "tellAsPlain", "(I)I"⟩
abbrev cX2_tellAsTart : ByteArray := prog_1_method_52_code
def yX2_tellAsTart : MethodName := ⟨RX2, "tellAsTart", "(I)I"⟩
abbrev cX2_tellAsBitter : ByteArray := prog_1_method_53_code
def yX2_tellAsBitter : MethodName := ⟨RX2, "tellAsBitter", "(I)I"⟩
abbrev cX2_leaveInTrace : ByteArray := prog_1_method_54_code
def yX2_leaveInTrace : MethodName := ⟨RX2, "leaveInTrace", "(I)V"⟩
def RX3 : String := "LemonDealsModel"
def TX3 : u_T := fun k => match k with
  | 0 => ("LemonDealsModel", "fault", "I", false)
  | 1 => ("LemonDealsModel", "houses", "I", false)
  | 2 => ("LemonDealsModel", "crateNow", "I", false)
  | 3 => ("LemonDealsModel", "weekNow", "I", false)
  | 4 => ("LemonDealsModel", "kindOf", "[I", true)
  | 5 => ("LemonDealsModel", "temperOf", "[I", true)
  | 6 => ("LemonDealsModel", "stockOf", "[I", true)
  | 7 => ("LemonDealsModel", "pipsOf", "[I", true)
  | 8 => ("LemonDealsModel", "readAt", "I", false)
  | 9 => ("LemonDealsModel", "readHouses", "I", false)
  | 10 => ("LemonDealsModel", "readCrate", "I", false)
  | 11 => ("LemonDealsModel", "readKind", "[I", true)
  | 12 => ("LemonDealsModel", "readTemper", "[I", true)
  | 13 => ("LemonDealsModel", "readStock", "[I", true)
  | 14 => ("LemonDealsModel", "dealtNow", "[I", true)
  | 15 => ("LemonDealsModel", "crateKept", "I", false)
  | 16 => ("LemonDealsModel", "weekKept", "I", false)
  | 17 => ("LemonDealsModel", "temperKept", "[I", true)
  | 18 => ("LemonDealsModel", "stockKept", "[I", true)
  | 19 => ("LemonDealsModel", "pipsKept", "[I", true)
  | 20 => ("LemonDealsModel", "weeksWithout", "I", false)
  | 21 => ("LemonDealsModel", "gotSoFar", "[I", true)
  | 22 => ("LemonDealsModel", "readings", "I", false)
  | 23 => ("LemonDealsModel", "readingOf", "[I", true)
  | 24 => ("LemonDealsModel", "readingWas", "[I", true)
  | 25 => ("LemonDealsModel", "sheetSize", "[I", true)
  | 26 => ("LemonDealsModel", "sheetLane", "[I", true)
  | 27 => ("LemonDealsModel", "sheet", "[I", true)
  | 28 => ("LemonDealsModel", "hands", "[I", true)
  | _ => ("LemonDealsModel", "traceNow", "I", false)
def tyX3 : Nat → FieldType := fun k => match k with
  | 0 => .int
  | 1 => .int
  | 2 => .int
  | 3 => .int
  | 4 => .array .int
  | 5 => .array .int
  | 6 => .array .int
  | 7 => .array .int
  | 8 => .int
  | 9 => .int
  | 10 => .int
  | 11 => .array .int
  | 12 => .array .int
  | 13 => .array .int
  | 14 => .array .int
  | 15 => .int
  | 16 => .int
  | 17 => .array .int
  | 18 => .array .int
  | 19 => .array .int
  | 20 => .int
  | 21 => .array .int
  | 22 => .int
  | 23 => .array .int
  | 24 => .array .int
  | 25 => .array .int
  | 26 => .array .int
  | 27 => .array .int
  | 28 => .array .int
  | _ => .int
abbrev wsX30 : List Cond := u_ws RX3 TX3 30
theorem nmX3 : ∀ a, a < 30 → ∀ b, b < 30 → a ≠ b → (TX3 a).2.1 ≠ (TX3 b).2.1 := by decide +kernel
theorem tyX3_ok : ∀ k, k < 30 → parseFieldDescriptor (TX3 k).2.2.1 = some (tyX3 k) := by decide +kernel
abbrev cX3_init : ByteArray := prog_5_method_1_code
def yX3_init : MethodName := ⟨RX3, "<init>", "()V"⟩
abbrev cX3_in : ByteArray := prog_5_method_2_code
def yX3_in : MethodName := ⟨RX3, "in", "(JJJ)Z"⟩
abbrev cX3_lost : ByteArray := prog_5_method_3_code
def yX3_lost : MethodName := ⟨RX3, "lost", "()J"⟩
abbrev cX3_isIn : ByteArray := prog_5_method_4_code
def yX3_isIn : MethodName := ⟨RX3, "isIn", "(II)Z"⟩
abbrev cX3_share : ByteArray := prog_5_method_5_code
def yX3_share : MethodName := ⟨RX3, "share", "(JJI)J"⟩
abbrev cX3_refused : ByteArray := prog_5_method_6_code
def yX3_refused : MethodName := ⟨RX3, "refused", "(I)I"⟩
abbrev cX3_failed : ByteArray := prog_5_method_7_code
def yX3_failed : MethodName := ⟨RX3, "failed", "(I)I"⟩
abbrev cX3_failedLong : ByteArray := prog_5_method_8_code
def yX3_failedLong : MethodName := ⟨RX3, "failedLong", "(I)J"⟩
abbrev cX3_noHouse : ByteArray := prog_5_method_9_code
def yX3_noHouse : MethodName := ⟨RX3, "noHouse", "(I)Z"⟩
abbrev cX3_isCrate : ByteArray := prog_5_method_10_code
def yX3_isCrate : MethodName := ⟨RX3, "isCrate", "(I)Z"⟩
abbrev cX3_codeAt : ByteArray := prog_5_method_11_code
def yX3_codeAt : MethodName := ⟨RX3, "codeAt", "(II)I"⟩
abbrev cX3_figure : ByteArray := prog_5_method_12_code
def yX3_figure : MethodName := ⟨RX3, "figure", "(III)I"⟩
abbrev cX3_readsHouse : ByteArray := prog_5_method_13_code
def yX3_readsHouse : MethodName := ⟨RX3, "readsHouse", "(II)Z"⟩
abbrev cX3_readsStreet : ByteArray := prog_5_method_14_code
def yX3_readsStreet : MethodName := ⟨RX3, "readsStreet", "(II)Z"⟩
abbrev cX3_cellsBarred : ByteArray := prog_5_method_15_code
def yX3_cellsBarred : MethodName := ⟨RX3, "cellsBarred", "(IIIJ)I"⟩
abbrev cX3_street : ByteArray := prog_5_method_16_code
def yX3_street : MethodName := ⟨RX3, "street", "(IIII)I"⟩
abbrev cX3_sourOf : ByteArray := prog_5_method_17_code
def yX3_sourOf : MethodName := ⟨RX3, "sourOf", "(I)I"⟩
abbrev cX3_sourOfAll : ByteArray := prog_5_method_18_code
def yX3_sourOfAll : MethodName := ⟨RX3, "sourOfAll", "()I"⟩
abbrev cX3_aheadOf : ByteArray := prog_5_method_19_code
def yX3_aheadOf : MethodName := ⟨RX3, "aheadOf", "(III)I"⟩
abbrev cX3_dealtTo : ByteArray := prog_5_method_20_code
def yX3_dealtTo : MethodName := ⟨RX3, "dealtTo", "(II)I"⟩
abbrev cX3_ofHouse : ByteArray := prog_5_method_21_code
def yX3_ofHouse : MethodName := ⟨RX3, "ofHouse", "(II)I"⟩
abbrev cX3_anger : ByteArray := prog_5_method_22_code
def yX3_anger : MethodName := ⟨RX3, "anger", "(II)I"⟩
abbrev cX3_crate : ByteArray := prog_5_method_23_code
def yX3_crate : MethodName := ⟨RX3, "crate", "(I)I"⟩
abbrev cX3_deal : ByteArray := prog_5_method_24_code
def yX3_deal : MethodName := ⟨RX3, "deal", "(II)I"⟩
abbrev cX3_passes : ByteArray := prog_5_method_25_code
def yX3_passes : MethodName := ⟨RX3, "passes", "()V"⟩
abbrev cX3_without : ByteArray := prog_5_method_26_code
def yX3_without : MethodName := ⟨RX3, "without", "()I"⟩
abbrev cX3_weeks : ByteArray := prog_5_method_27_code
def yX3_weeks : MethodName := ⟨RX3, "weeks", "(I)I"⟩
abbrev cX3_gave : ByteArray := prog_5_method_28_code
def yX3_gave : MethodName := ⟨RX3, "gave", "(I)Z"⟩
abbrev cX3_gift : ByteArray := prog_5_method_29_code
def yX3_gift : MethodName := ⟨RX3, "gift", "(I)I"⟩
abbrev cX3_keepAll : ByteArray := prog_5_method_30_code
def yX3_keepAll : MethodName := ⟨RX3, "keepAll", "()V"⟩
abbrev cX3_bringBack : ByteArray := prog_5_method_31_code
def yX3_bringBack : MethodName := ⟨RX3, "bringBack", "()V"⟩
abbrev cX3_pairsBarred : ByteArray := prog_5_method_32_code
def yX3_pairsBarred : MethodName := ⟨RX3, "pairsBarred", "(II)I"⟩
abbrev cX3_did : ByteArray := prog_5_method_33_code
def yX3_did : MethodName := ⟨RX3, "did", "(II)Z"⟩
abbrev cX3_seasonBy : ByteArray := prog_5_method_34_code
def yX3_seasonBy : MethodName := ⟨RX3, "seasonBy", "(III)I"⟩
abbrev cX3_season : ByteArray := prog_5_method_35_code
def yX3_season : MethodName := ⟨RX3, "season", "(IIIII)I"⟩
abbrev cX3_worstTemper : ByteArray := prog_5_method_36_code
def yX3_worstTemper : MethodName := ⟨RX3, "worstTemper", "()I"⟩
abbrev cX3_calm : ByteArray := prog_5_method_37_code
def yX3_calm : MethodName := ⟨RX3, "calm", "(II)I"⟩
abbrev cX3_wonder : ByteArray := prog_5_method_38_code
def yX3_wonder : MethodName := ⟨RX3, "wonder", "(I)I"⟩
abbrev cX3_nextOne : ByteArray := prog_5_method_39_code
def yX3_nextOne : MethodName := ⟨RX3, "nextOne", "()I"⟩
abbrev cX3_otherwise : ByteArray := prog_5_method_40_code
def yX3_otherwise : MethodName := ⟨RX3, "otherwise", "(I)I"⟩
abbrev cX3_apart : ByteArray := prog_5_method_41_code
def yX3_apart : MethodName := ⟨RX3, "apart", "(I)I"⟩
abbrev cX3_halves : ByteArray := prog_5_method_42_code
def yX3_halves : MethodName := ⟨RX3, "halves", "(I)I"⟩
abbrev cX3_reading : ByteArray := prog_5_method_43_code
def yX3_reading : MethodName := ⟨RX3, "reading", "(II)I"⟩
abbrev cX3_back : ByteArray := prog_5_method_44_code
def yX3_back : MethodName := ⟨RX3, "back", "(I)I"⟩
abbrev cX3_areSo : ByteArray := prog_5_method_45_code
def yX3_areSo : MethodName := ⟨RX3, "areSo", "()Z"⟩
abbrev cX3_tempers : ByteArray := prog_5_method_46_code
def yX3_tempers : MethodName := ⟨RX3, "tempers", "(I)I"⟩
abbrev cX3_kinds : ByteArray := prog_5_method_47_code
def yX3_kinds : MethodName := ⟨RX3, "kinds", "(I)I"⟩
abbrev cX3_crates : ByteArray := prog_5_method_48_code
def yX3_crates : MethodName := ⟨RX3, "crates", "(I)I"⟩
abbrev cX3_odds : ByteArray := prog_5_method_49_code
def yX3_odds : MethodName := ⟨RX3, "odds", "(III)J"⟩
abbrev cX3_noSheet : ByteArray := prog_5_method_50_code
def yX3_noSheet : MethodName := ⟨RX3, "noSheet", "(I)Z"⟩
abbrev cX3_sheet : ByteArray := prog_5_method_51_code
def yX3_sheet : MethodName := ⟨RX3, "sheet", "(III)I"⟩
abbrev cX3_lose : ByteArray := prog_5_method_52_code
def yX3_lose : MethodName := ⟨RX3, "lose", "(I)I"⟩
abbrev cX3_noCell : ByteArray := prog_5_method_53_code
def yX3_noCell : MethodName := ⟨RX3, "noCell", "(II)I"⟩
abbrev cX3_put : ByteArray := prog_5_method_54_code
def yX3_put : MethodName := ⟨RX3, "put", "(III)I"⟩
abbrev cX3_cell : ByteArray := prog_5_method_55_code
def yX3_cell : MethodName := ⟨RX3, "cell", "(III)J"⟩
abbrev cX3_isBeyond : ByteArray := prog_5_method_56_code
def yX3_isBeyond : MethodName := ⟨RX3, "isBeyond", "(IJI)Z"⟩
abbrev cX3_copy : ByteArray := prog_5_method_57_code
def yX3_copy : MethodName := ⟨RX3, "copy", "(IIIII)I"⟩
abbrev cX3_traced : ByteArray := prog_5_method_58_code
def yX3_traced : MethodName := ⟨RX3, "traced", "(I)V"⟩
abbrev cX3_tell : ByteArray := prog_5_method_59_code
def yX3_tell : MethodName := ⟨RX3, "tell", "(I)I"⟩
abbrev cX3_knock : ByteArray := prog_5_method_60_code
def yX3_knock : MethodName := ⟨RX3, "knock", "(I)I"⟩
abbrev cX3_as : ByteArray := prog_5_method_61_code
def yX3_as : MethodName := ⟨RX3, "as", "(II)I"⟩
abbrev cX3_trace : ByteArray := prog_5_method_62_code
def yX3_trace : MethodName := ⟨RX3, "trace", "()I"⟩
abbrev cX3_fault : ByteArray := prog_5_method_63_code
def yX3_fault : MethodName := ⟨RX3, "fault", "()I"⟩
abbrev cX3_many : ByteArray := prog_5_method_64_code
def yX3_many : MethodName := ⟨RX3, "many", "(I)I"⟩
def RJ9 : String := "java/lang/Math"
def TJ9 : u_T := fun k => match k with
  | _ => ("", "", "", false)
def tyJ9 : Nat → FieldType := fun k => match k with
  | _ => .int
abbrev wsJ90 : List Cond := u_ws RJ9 TJ9 0
theorem nmJ9 : ∀ a, a < 0 → ∀ b, b < 0 → a ≠ b → (TJ9 a).2.1 ≠ (TJ9 b).2.1 := by decide +kernel
theorem tyJ9_ok : ∀ k, k < 0 → parseFieldDescriptor (TJ9 k).2.2.1 = some (tyJ9 k) := by decide +kernel
abbrev cJ9_abs_0f7a4 : ByteArray := prog_6_method_59_code
def yJ9_abs_0f7a4 : MethodName := ⟨RJ9, "abs", "(I)I"⟩
abbrev cJ9_max_7cf53 : ByteArray := prog_6_method_65_code
def yJ9_max_7cf53 : MethodName := ⟨RJ9, "max", "(II)I"⟩
abbrev cJ9_min_7cf53 : ByteArray := prog_6_method_69_code
def yJ9_min_7cf53 : MethodName := ⟨RJ9, "min", "(II)I"⟩
def RJ10 : String := "java/lang/System"
def TJ10 : u_T := fun k => match k with
  | _ => ("", "", "", false)
def tyJ10 : Nat → FieldType := fun k => match k with
  | _ => .int
abbrev wsJ100 : List Cond := u_ws RJ10 TJ10 0
theorem nmJ10 : ∀ a, a < 0 → ∀ b, b < 0 → a ≠ b → (TJ10 a).2.1 ≠ (TJ10 b).2.1 := by decide +kernel
theorem tyJ10_ok : ∀ k, k < 0 → parseFieldDescriptor (TJ10 k).2.2.1 = some (tyJ10 k) := by decide +kernel
def RL : String := "LemonDealsLaw"
abbrev cL_law : ByteArray := code
def yL_law : MethodName := ⟨RL, "law", "([I)Z"⟩
def wsL_law_r1 : List Cond := [Cond.classLink RL 7 RX2, Cond.instantiable RX2 8, Cond.initialized RX2, Cond.classLink RL 10 RX3, Cond.instantiable RX3 30, Cond.initialized RX3, Cond.methodLink RL 9 yX2_init, Cond.instanceMethod yX2_init, Cond.code yX2_init cX2_init 2 none, Cond.methodLink RX2 5 objectInit, Cond.instanceMethod objectInit, Cond.code objectInit ⟨#[0xb1]⟩ 1 none, Cond.classLink RX2 11 RX1, Cond.instantiable RX1 11, Cond.initialized RX1, Cond.fieldLink RX2 14 "LemonDeals" "now" "LLemonDeals$Street;", Cond.fieldLink RX2 18 "LemonDeals" "trial" "LLemonDeals$Street;", Cond.classLink RX2 21 RX0, Cond.fieldLink RX2 23 "LemonDeals" "sheets" "[LLemonDeals$Sheet;", Cond.arrayClass .int, Cond.fieldLink RX2 27 "LemonDeals" "readHouse" "[I", Cond.fieldLink RX2 31 "LemonDeals" "readDealt" "[I", Cond.fieldLink RX2 34 "LemonDeals" "readings" "I", Cond.fieldLink RX2 38 "LemonDeals" "traced" "I"]
def wsL_law_r2 : List Cond := [Cond.fieldLink RX2 41 "LemonDeals" "lastFault" "I", Cond.instantiable RX0 3, Cond.initialized RX0, Cond.instanceMethod yX1_init, Cond.code yX1_init cX1_init 1 none, Cond.methodLink RX1 3 objectInit, Cond.fieldLink RX1 9 "LemonDeals$Street" "houses" "I", Cond.fieldLink RX1 15 "LemonDeals$Street" "crate" "I", Cond.fieldLink RX1 18 "LemonDeals$Street" "week" "I", Cond.fieldLink RX1 21 "LemonDeals$Street" "leanWeeks" "I", Cond.fieldLink RX1 24 "LemonDeals$Street" "kind" "[I", Cond.fieldLink RX1 28 "LemonDeals$Street" "temper" "[I", Cond.fieldLink RX1 31 "LemonDeals$Street" "stock" "[I", Cond.fieldLink RX1 34 "LemonDeals$Street" "pips" "[I", Cond.fieldLink RX1 37 "LemonDeals$Street" "sour" "[I", Cond.fieldLink RX1 40 "LemonDeals$Street" "dealt" "[I", Cond.fieldLink RX1 43 "LemonDeals$Street" "remainder" "[I", Cond.instanceMethod yX0_init, Cond.code yX0_init cX0_init 1 none, Cond.methodLink RX0 3 objectInit, Cond.fieldLink RX0 9 "LemonDeals$Sheet" "cells" "[I", Cond.fieldLink RX0 15 "LemonDeals$Sheet" "lane" "I", Cond.fieldLink RX0 19 "LemonDeals$Sheet" "length" "I", Cond.methodLink RL 12 yX3_init]
def wsL_law_r3 : List Cond := [Cond.instanceMethod yX3_init, Cond.code yX3_init cX3_init 2 none, Cond.methodLink RX3 1 objectInit, Cond.fieldLink RX3 7 "LemonDealsModel" "kindOf" "[I", Cond.fieldLink RX3 13 "LemonDealsModel" "temperOf" "[I", Cond.fieldLink RX3 16 "LemonDealsModel" "stockOf" "[I", Cond.fieldLink RX3 19 "LemonDealsModel" "pipsOf" "[I", Cond.fieldLink RX3 22 "LemonDealsModel" "readKind" "[I", Cond.fieldLink RX3 25 "LemonDealsModel" "readTemper" "[I", Cond.fieldLink RX3 28 "LemonDealsModel" "readStock" "[I", Cond.fieldLink RX3 31 "LemonDealsModel" "dealtNow" "[I", Cond.fieldLink RX3 34 "LemonDealsModel" "temperKept" "[I", Cond.fieldLink RX3 37 "LemonDealsModel" "stockKept" "[I", Cond.fieldLink RX3 40 "LemonDealsModel" "pipsKept" "[I", Cond.fieldLink RX3 43 "LemonDealsModel" "gotSoFar" "[I", Cond.fieldLink RX3 46 "LemonDealsModel" "readingOf" "[I", Cond.fieldLink RX3 49 "LemonDealsModel" "readingWas" "[I", Cond.fieldLink RX3 52 "LemonDealsModel" "sheetSize" "[I", Cond.fieldLink RX3 55 "LemonDealsModel" "sheetLane" "[I", Cond.fieldLink RX3 58 "LemonDealsModel" "sheet" "[I", Cond.fieldLink RX3 61 "LemonDealsModel" "hands" "[I", Cond.methodLink RL 13 yX2_street, Cond.instanceMethod yX2_street, Cond.selects RX2 yX2_street yX2_street]
def wsL_law_r4 : List Cond := [Cond.code yX2_street cX2_street 8 (some .int), Cond.methodLink RX2 45 yX2_isSheet, Cond.static yX2_isSheet, Cond.code yX2_isSheet cX2_isSheet 1 (some .boolean), Cond.methodLink RX2 49 yX2_isLane, Cond.static yX2_isLane, Cond.code yX2_isLane cX2_isLane 1 (some .boolean), Cond.instanceMethod yX0_faultAs, Cond.selects RX0 yX0_faultAs yX0_faultAs, Cond.code yX0_faultAs cX0_faultAs 2 (some .int), Cond.methodLink RX0 22 yX0_isThere, Cond.instanceMethod yX0_isThere, Cond.selects RX0 yX0_isThere yX0_isThere, Cond.code yX0_isThere cX0_isThere 1 (some .boolean), Cond.instanceMethod yX0_lacks, Cond.selects RX0 yX0_lacks yX0_lacks, Cond.code yX0_lacks cX0_lacks 3 (some .boolean), Cond.methodLink RX2 60 yX2_fails, Cond.instanceMethod yX2_fails, Cond.selects RX2 yX2_fails yX2_fails, Cond.code yX2_fails cX2_fails 2 (some .int), Cond.methodLink RX2 66 yX2_firstTextFault, Cond.static yX2_firstTextFault, Cond.code yX2_firstTextFault cX2_firstTextFault 4 (some .int)]
def wsL_law_r5 : List Cond := [Cond.methodLink RX2 202 yX2_goesOn, Cond.static yX2_goesOn, Cond.code yX2_goesOn cX2_goesOn 2 (some .boolean), Cond.methodLink RX2 205 yX2_isDigit, Cond.static yX2_isDigit, Cond.code yX2_isDigit cX2_isDigit 1 (some .boolean), Cond.methodLink RX2 208 yX2_kindByLetter, Cond.static yX2_kindByLetter, Cond.code yX2_kindByLetter cX2_kindByLetter 1 (some .int), Cond.instanceMethod yX1_beginByText, Cond.selects RX1 yX1_beginByText yX1_beginByText, Cond.code yX1_beginByText cX1_beginByText 6 none, Cond.methodLink RX1 46 Lib.Math.min.name, Cond.static Lib.Math.min.name, Cond.initialized "java/lang/Math", Cond.code Lib.Math.min.name Lib.Math.min.code 2 (some .int), Cond.methodLink RL 17 yX3_street, Cond.instanceMethod yX3_street, Cond.selects RX3 yX3_street yX3_street, Cond.code yX3_street cX3_street 7 (some .int), Cond.constantLong RX3 121 (2), Cond.fieldLink RX3 83 "LemonDealsModel" "readAt" "I", Cond.fieldLink RX3 92 "LemonDealsModel" "readHouses" "I", Cond.fieldLink RX3 74 "LemonDealsModel" "houses" "I"]
def wsL_law_r6 : List Cond := [Cond.fieldLink RX3 99 "LemonDealsModel" "readCrate" "I", Cond.fieldLink RX3 130 "LemonDealsModel" "crateNow" "I", Cond.fieldLink RX3 133 "LemonDealsModel" "weekNow" "I", Cond.fieldLink RX3 136 "LemonDealsModel" "readings" "I", Cond.methodLink RX3 114 yX3_noSheet, Cond.static yX3_noSheet, Cond.code yX3_noSheet cX3_noSheet 1 (some .boolean), Cond.constantLong RX3 225 (3), Cond.methodLink RX3 77 yX3_in, Cond.static yX3_in, Cond.code yX3_in cX3_in 6 (some .boolean), Cond.methodLink RX3 118 yX3_refused, Cond.instanceMethod yX3_refused, Cond.selects RX3 yX3_refused yX3_refused, Cond.code yX3_refused cX3_refused 2 (some .int), Cond.fieldLink RX3 66 "LemonDealsModel" "fault" "I", Cond.methodLink RX3 123 yX3_cellsBarred, Cond.instanceMethod yX3_cellsBarred, Cond.selects RX3 yX3_cellsBarred yX3_cellsBarred, Cond.code yX3_cellsBarred cX3_cellsBarred 6 (some .int), Cond.methodLink RX3 106 yX3_failed, Cond.instanceMethod yX3_failed, Cond.selects RX3 yX3_failed yX3_failed, Cond.code yX3_failed cX3_failed 2 (some .int)]
def wsL_law_r7 : List Cond := [Cond.methodLink RX3 110 yX3_isBeyond, Cond.static yX3_isBeyond, Cond.code yX3_isBeyond cX3_isBeyond 4 (some .boolean), Cond.methodLink RX3 127 yX3_readsStreet, Cond.instanceMethod yX3_readsStreet, Cond.selects RX3 yX3_readsStreet yX3_readsStreet, Cond.code yX3_readsStreet cX3_readsStreet 6 (some .boolean), Cond.methodLink RX3 86 yX3_codeAt, Cond.instanceMethod yX3_codeAt, Cond.selects RX3 yX3_codeAt yX3_codeAt, Cond.code yX3_codeAt cX3_codeAt 3 (some .int), Cond.methodLink RX3 95 yX3_figure, Cond.instanceMethod yX3_figure, Cond.selects RX3 yX3_figure yX3_figure, Cond.code yX3_figure cX3_figure 6 (some .int), Cond.constantLong RX3 90 (9), Cond.methodLink RX3 102 yX3_readsHouse, Cond.instanceMethod yX3_readsHouse, Cond.selects RX3 yX3_readsHouse yX3_readsHouse, Cond.code yX3_readsHouse cX3_readsHouse 6 (some .boolean), Cond.methodLink RL 18 yX2_ofHouse, Cond.instanceMethod yX2_ofHouse, Cond.selects RX2 yX2_ofHouse yX2_ofHouse, Cond.code yX2_ofHouse cX2_ofHouse 3 (some .int)]
def wsL_law_r8 : List Cond := [Cond.methodLink RX2 77 yX2_isHouse, Cond.instanceMethod yX2_isHouse, Cond.selects RX2 yX2_isHouse yX2_isHouse, Cond.code yX2_isHouse cX2_isHouse 2 (some .boolean), Cond.instanceMethod yX1_treesOf, Cond.selects RX1 yX1_treesOf yX1_treesOf, Cond.code yX1_treesOf cX1_treesOf 2 (some .int), Cond.instanceMethod yX1_sourOf, Cond.selects RX1 yX1_sourOf yX1_sourOf, Cond.code yX1_sourOf cX1_sourOf 2 (some .int), Cond.instanceMethod yX1_dealtTo, Cond.selects RX1 yX1_dealtTo yX1_dealtTo, Cond.code yX1_dealtTo cX1_dealtTo 3 (some .int), Cond.methodLink RX1 56 yX1_dealOut, Cond.instanceMethod yX1_dealOut, Cond.selects RX1 yX1_dealOut yX1_dealOut, Cond.code yX1_dealOut cX1_dealOut 5 none, Cond.methodLink RX1 60 yX1_sourOf, Cond.methodLink RX1 63 yX1_aheadByRemainder, Cond.instanceMethod yX1_aheadByRemainder, Cond.selects RX1 yX1_aheadByRemainder yX1_aheadByRemainder, Cond.code yX1_aheadByRemainder cX1_aheadByRemainder 4 (some .int), Cond.methodLink RL 22 yX3_ofHouse, Cond.instanceMethod yX3_ofHouse]
def wsL_law_r9 : List Cond := [Cond.selects RX3 yX3_ofHouse yX3_ofHouse, Cond.code yX3_ofHouse cX3_ofHouse 3 (some .int), Cond.methodLink RX3 149 yX3_noHouse, Cond.instanceMethod yX3_noHouse, Cond.selects RX3 yX3_noHouse yX3_noHouse, Cond.code yX3_noHouse cX3_noHouse 2 (some .boolean), Cond.methodLink RX3 139 yX3_sourOf, Cond.instanceMethod yX3_sourOf, Cond.selects RX3 yX3_sourOf yX3_sourOf, Cond.code yX3_sourOf cX3_sourOf 3 (some .int), Cond.methodLink RX3 152 yX3_dealtTo, Cond.instanceMethod yX3_dealtTo, Cond.selects RX3 yX3_dealtTo yX3_dealtTo, Cond.code yX3_dealtTo cX3_dealtTo 6 (some .int), Cond.methodLink RX3 142 yX3_sourOfAll, Cond.instanceMethod yX3_sourOfAll, Cond.selects RX3 yX3_sourOfAll yX3_sourOfAll, Cond.code yX3_sourOfAll cX3_sourOfAll 3 (some .int), Cond.methodLink RX3 146 yX3_aheadOf, Cond.instanceMethod yX3_aheadOf, Cond.selects RX3 yX3_aheadOf yX3_aheadOf, Cond.code yX3_aheadOf cX3_aheadOf 8 (some .int), Cond.methodLink RL 23 yX2_anger, Cond.instanceMethod yX2_anger]
def wsL_law_r10 : List Cond := [Cond.selects RX2 yX2_anger yX2_anger, Cond.code yX2_anger cX2_anger 4 (some .int), Cond.methodLink RX2 105 yX2_isTemper, Cond.static yX2_isTemper, Cond.code yX2_isTemper cX2_isTemper 1 (some .boolean), Cond.methodLink RL 26 yX3_anger, Cond.instanceMethod yX3_anger, Cond.selects RX3 yX3_anger yX3_anger, Cond.code yX3_anger cX3_anger 4 (some .int), Cond.methodLink RL 27 yX2_crate, Cond.instanceMethod yX2_crate, Cond.selects RX2 yX2_crate yX2_crate, Cond.code yX2_crate cX2_crate 3 (some .int), Cond.methodLink RX2 108 yX2_hasStreet, Cond.instanceMethod yX2_hasStreet, Cond.selects RX2 yX2_hasStreet yX2_hasStreet, Cond.code yX2_hasStreet cX2_hasStreet 1 (some .boolean), Cond.methodLink RX2 112 yX2_isCrate, Cond.static yX2_isCrate, Cond.code yX2_isCrate cX2_isCrate 1 (some .boolean), Cond.methodLink RL 31 yX3_crate, Cond.instanceMethod yX3_crate, Cond.selects RX3 yX3_crate yX3_crate, Cond.code yX3_crate cX3_crate 3 (some .int)]
def wsL_law_r11 : List Cond := [Cond.methodLink RX3 155 yX3_isCrate, Cond.static yX3_isCrate, Cond.code yX3_isCrate cX3_isCrate 1 (some .boolean), Cond.constantLong RX3 81 (99), Cond.methodLink RL 32 yX2_deal, Cond.instanceMethod yX2_deal, Cond.selects RX2 yX2_deal yX2_deal, Cond.code yX2_deal cX2_deal 3 (some .int), Cond.methodLink RL 35 yX3_deal, Cond.instanceMethod yX3_deal, Cond.selects RX3 yX3_deal yX3_deal, Cond.code yX3_deal cX3_deal 3 (some .int), Cond.methodLink RL 36 yX2_weeks, Cond.instanceMethod yX2_weeks, Cond.selects RX2 yX2_weeks yX2_weeks, Cond.code yX2_weeks cX2_weeks 2 (some .int), Cond.instanceMethod yX1_passWeeks, Cond.selects RX1 yX1_passWeeks yX1_passWeeks, Cond.code yX1_passWeeks cX1_passWeeks 3 none, Cond.methodLink RX1 74 yX1_passWeek, Cond.instanceMethod yX1_passWeek, Cond.selects RX1 yX1_passWeek yX1_passWeek, Cond.code yX1_passWeek cX1_passWeek 2 none, Cond.methodLink RX1 77 yX1_treesOf]
def wsL_law_r12 : List Cond := [Cond.methodLink RX1 80 yX1_suck, Cond.instanceMethod yX1_suck, Cond.selects RX1 yX1_suck yX1_suck, Cond.code yX1_suck cX1_suck 2 none, Cond.methodLink RX1 86 Lib.Math.max.name, Cond.static Lib.Math.max.name, Cond.code Lib.Math.max.name Lib.Math.max.code 2 (some .int), Cond.methodLink RX1 83 yX1_withoutStock, Cond.instanceMethod yX1_withoutStock, Cond.selects RX1 yX1_withoutStock yX1_withoutStock, Cond.code yX1_withoutStock cX1_withoutStock 3 (some .int), Cond.methodLink RL 39 yX3_weeks, Cond.instanceMethod yX3_weeks, Cond.selects RX3 yX3_weeks yX3_weeks, Cond.code yX3_weeks cX3_weeks 3 (some .int), Cond.constantLong RX3 158 (60), Cond.methodLink RX3 160 yX3_passes, Cond.instanceMethod yX3_passes, Cond.selects RX3 yX3_passes yX3_passes, Cond.code yX3_passes cX3_passes 4 none, Cond.methodLink RX3 163 yX3_without, Cond.instanceMethod yX3_without, Cond.selects RX3 yX3_without yX3_without, Cond.code yX3_without cX3_without 3 (some .int)]
def wsL_law_r13 : List Cond := [Cond.methodLink RL 40 yX2_gift, Cond.instanceMethod yX2_gift, Cond.selects RX2 yX2_gift yX2_gift, Cond.code yX2_gift cX2_gift 2 (some .int), Cond.instanceMethod yX1_giveOneFrom, Cond.selects RX1 yX1_giveOneFrom yX1_giveOneFrom, Cond.code yX1_giveOneFrom cX1_giveOneFrom 2 (some .boolean), Cond.methodLink RL 43 yX3_gift, Cond.instanceMethod yX3_gift, Cond.selects RX3 yX3_gift yX3_gift, Cond.code yX3_gift cX3_gift 2 (some .int), Cond.methodLink RX3 166 yX3_gave, Cond.instanceMethod yX3_gave, Cond.selects RX3 yX3_gave yX3_gave, Cond.code yX3_gave cX3_gave 4 (some .boolean), Cond.methodLink RL 44 yX2_season, Cond.instanceMethod yX2_season, Cond.selects RX2 yX2_season yX2_season, Cond.code yX2_season cX2_season 10 (some .int), Cond.methodLink RX2 126 yX2_isAskedOfSeason, Cond.static yX2_isAskedOfSeason, Cond.code yX2_isAskedOfSeason cX2_isAskedOfSeason 1 (some .boolean), Cond.methodLink RX2 129 yX2_refusalOfPairs, Cond.instanceMethod yX2_refusalOfPairs]
def wsL_law_r14 : List Cond := [Cond.selects RX2 yX2_refusalOfPairs yX2_refusalOfPairs, Cond.code yX2_refusalOfPairs cX2_refusalOfPairs 6 (some .int), Cond.methodLink RX2 211 yX2_refusalOfPair, Cond.instanceMethod yX2_refusalOfPair, Cond.selects RX2 yX2_refusalOfPair yX2_refusalOfPair, Cond.code yX2_refusalOfPair cX2_refusalOfPair 3 (some .int), Cond.instanceMethod yX1_becomeLike, Cond.selects RX1 yX1_becomeLike yX1_becomeLike, Cond.code yX1_becomeLike cX1_becomeLike 3 none, Cond.methodLink RX2 136 yX2_actPairs, Cond.instanceMethod yX2_actPairs, Cond.selects RX2 yX2_actPairs yX2_actPairs, Cond.code yX2_actPairs cX2_actPairs 5 (some .int), Cond.methodLink RX2 214 yX2_actPair, Cond.instanceMethod yX2_actPair, Cond.selects RX2 yX2_actPair yX2_actPair, Cond.code yX2_actPair cX2_actPair 3 (some .boolean), Cond.methodLink RX2 139 yX2_answerOfSeason, Cond.instanceMethod yX2_answerOfSeason, Cond.selects RX2 yX2_answerOfSeason yX2_answerOfSeason, Cond.code yX2_answerOfSeason cX2_answerOfSeason 3 (some .int), Cond.instanceMethod yX1_sumOf, Cond.selects RX1 yX1_sumOf yX1_sumOf, Cond.code yX1_sumOf cX1_sumOf 4 (some .int)]
def wsL_law_r15 : List Cond := [Cond.methodLink RL 48 yX3_season, Cond.instanceMethod yX3_season, Cond.selects RX3 yX3_season yX3_season, Cond.code yX3_season cX3_season 8 (some .int), Cond.constantLong RX3 181 (20), Cond.constantLong RX3 183 (4), Cond.constantLong RX3 185 (10), Cond.constantLong RX3 187 (17), Cond.methodLink RX3 189 yX3_pairsBarred, Cond.instanceMethod yX3_pairsBarred, Cond.selects RX3 yX3_pairsBarred yX3_pairsBarred, Cond.code yX3_pairsBarred cX3_pairsBarred 6 (some .int), Cond.methodLink RX3 192 yX3_keepAll, Cond.instanceMethod yX3_keepAll, Cond.selects RX3 yX3_keepAll yX3_keepAll, Cond.code yX3_keepAll cX3_keepAll 2 none, Cond.fieldLink RX3 169 "LemonDealsModel" "crateKept" "I", Cond.fieldLink RX3 172 "LemonDealsModel" "weekKept" "I", Cond.methodLink RX3 195 yX3_seasonBy, Cond.instanceMethod yX3_seasonBy, Cond.selects RX3 yX3_seasonBy yX3_seasonBy, Cond.code yX3_seasonBy cX3_seasonBy 9 (some .int), Cond.fieldLink RX3 175 "LemonDealsModel" "weeksWithout" "I", Cond.methodLink RX3 178 yX3_did]
def wsL_law_r16 : List Cond := [Cond.instanceMethod yX3_did, Cond.selects RX3 yX3_did yX3_did, Cond.code yX3_did cX3_did 4 (some .boolean), Cond.methodLink RX3 198 yX3_bringBack, Cond.instanceMethod yX3_bringBack, Cond.selects RX3 yX3_bringBack yX3_bringBack, Cond.code yX3_bringBack cX3_bringBack 2 none, Cond.methodLink RL 49 yX2_calm, Cond.instanceMethod yX2_calm, Cond.selects RX2 yX2_calm yX2_calm, Cond.code yX2_calm cX2_calm 4 (some .int), Cond.instanceMethod yX1_worstTemper, Cond.selects RX1 yX1_worstTemper yX1_worstTemper, Cond.code yX1_worstTemper cX1_worstTemper 3 (some .int), Cond.methodLink RL 52 yX3_calm, Cond.instanceMethod yX3_calm, Cond.selects RX3 yX3_calm yX3_calm, Cond.code yX3_calm cX3_calm 6 (some .int), Cond.constantLong RX3 201 (12), Cond.methodLink RX3 203 yX3_worstTemper, Cond.instanceMethod yX3_worstTemper, Cond.selects RX3 yX3_worstTemper yX3_worstTemper, Cond.code yX3_worstTemper cX3_worstTemper 3 (some .int), Cond.methodLink RL 53 yX2_wonder]
def wsL_law_r17 : List Cond := [Cond.instanceMethod yX2_wonder, Cond.selects RX2 yX2_wonder yX2_wonder, Cond.code yX2_wonder cX2_wonder 4 (some .int), Cond.methodLink RX2 145 yX2_loserByOneMore, Cond.instanceMethod yX2_loserByOneMore, Cond.selects RX2 yX2_loserByOneMore yX2_loserByOneMore, Cond.code yX2_loserByOneMore cX2_loserByOneMore 3 (some .int), Cond.methodLink RL 56 yX3_wonder, Cond.instanceMethod yX3_wonder, Cond.selects RX3 yX3_wonder yX3_wonder, Cond.code yX3_wonder cX3_wonder 6 (some .int), Cond.methodLink RL 57 yX2_otherwise, Cond.instanceMethod yX2_otherwise, Cond.selects RX2 yX2_otherwise yX2_otherwise, Cond.code yX2_otherwise cX2_otherwise 2 (some .int), Cond.instanceMethod yX1_dealOneByOne, Cond.selects RX1 yX1_dealOneByOne yX1_dealOneByOne, Cond.code yX1_dealOneByOne cX1_dealOneByOne 4 none, Cond.methodLink RX1 66 yX1_nextOneByOne, Cond.instanceMethod yX1_nextOneByOne, Cond.selects RX1 yX1_nextOneByOne yX1_nextOneByOne, Cond.code yX1_nextOneByOne cX1_nextOneByOne 3 (some .int), Cond.methodLink RX1 70 yX1_isAheadOneByOne, Cond.instanceMethod yX1_isAheadOneByOne]
def wsL_law_r18 : List Cond := [Cond.selects RX1 yX1_isAheadOneByOne yX1_isAheadOneByOne, Cond.code yX1_isAheadOneByOne cX1_isAheadOneByOne 3 (some .boolean), Cond.methodLink RL 60 yX3_otherwise, Cond.instanceMethod yX3_otherwise, Cond.selects RX3 yX3_otherwise yX3_otherwise, Cond.code yX3_otherwise cX3_otherwise 4 (some .int), Cond.methodLink RX3 206 yX3_nextOne, Cond.instanceMethod yX3_nextOne, Cond.selects RX3 yX3_nextOne yX3_nextOne, Cond.code yX3_nextOne cX3_nextOne 4 (some .int), Cond.methodLink RL 61 yX2_halves, Cond.instanceMethod yX2_halves, Cond.selects RX2 yX2_halves yX2_halves, Cond.code yX2_halves cX2_halves 6 (some .int), Cond.methodLink RX2 154 yX2_apartBy, Cond.instanceMethod yX2_apartBy, Cond.selects RX2 yX2_apartBy yX2_apartBy, Cond.code yX2_apartBy cX2_apartBy 5 (some .int), Cond.methodLink RX2 227 Lib.Math.abs.name, Cond.static Lib.Math.abs.name, Cond.code Lib.Math.abs.name Lib.Math.abs.code 1 (some .int), Cond.methodLink RL 64 yX3_halves, Cond.instanceMethod yX3_halves, Cond.selects RX3 yX3_halves yX3_halves]
def wsL_law_r19 : List Cond := [Cond.code yX3_halves cX3_halves 4 (some .int), Cond.methodLink RX3 212 yX3_apart, Cond.instanceMethod yX3_apart, Cond.selects RX3 yX3_apart yX3_apart, Cond.code yX3_apart cX3_apart 4 (some .int), Cond.methodLink RX3 209 yX3_isIn, Cond.static yX3_isIn, Cond.code yX3_isIn cX3_isIn 2 (some .boolean), Cond.methodLink RL 65 yX2_reading, Cond.instanceMethod yX2_reading, Cond.selects RX2 yX2_reading yX2_reading, Cond.code yX2_reading cX2_reading 3 (some .int), Cond.methodLink RL 68 yX3_reading, Cond.instanceMethod yX3_reading, Cond.selects RX3 yX3_reading yX3_reading, Cond.code yX3_reading cX3_reading 3 (some .int), Cond.methodLink RL 69 yX2_back, Cond.instanceMethod yX2_back, Cond.selects RX2 yX2_back yX2_back, Cond.code yX2_back cX2_back 2 (some .int), Cond.methodLink RL 72 yX3_back, Cond.instanceMethod yX3_back, Cond.selects RX3 yX3_back yX3_back, Cond.code yX3_back cX3_back 2 (some .int)]
def wsL_law_r20 : List Cond := [Cond.methodLink RL 73 yX2_tempers, Cond.instanceMethod yX2_tempers, Cond.selects RX2 yX2_tempers yX2_tempers, Cond.code yX2_tempers cX2_tempers 4 (some .int), Cond.methodLink RX2 157 yX2_readingsHoldInTrial, Cond.instanceMethod yX2_readingsHoldInTrial, Cond.selects RX2 yX2_readingsHoldInTrial yX2_readingsHoldInTrial, Cond.code yX2_readingsHoldInTrial cX2_readingsHoldInTrial 2 (some .boolean), Cond.methodLink RL 76 yX3_tempers, Cond.instanceMethod yX3_tempers, Cond.selects RX3 yX3_tempers yX3_tempers, Cond.code yX3_tempers cX3_tempers 5 (some .int), Cond.methodLink RX3 215 yX3_areSo, Cond.instanceMethod yX3_areSo, Cond.selects RX3 yX3_areSo yX3_areSo, Cond.code yX3_areSo cX3_areSo 3 (some .boolean), Cond.methodLink RL 77 yX2_kinds, Cond.instanceMethod yX2_kinds, Cond.selects RX2 yX2_kinds yX2_kinds, Cond.code yX2_kinds cX2_kinds 4 (some .int), Cond.methodLink RL 80 yX3_kinds, Cond.instanceMethod yX3_kinds, Cond.selects RX3 yX3_kinds yX3_kinds, Cond.code yX3_kinds cX3_kinds 5 (some .int)]
def wsL_law_r21 : List Cond := [Cond.methodLink RL 81 yX2_crates, Cond.instanceMethod yX2_crates, Cond.selects RX2 yX2_crates yX2_crates, Cond.code yX2_crates cX2_crates 6 (some .int), Cond.methodLink RL 84 yX3_crates, Cond.instanceMethod yX3_crates, Cond.selects RX3 yX3_crates yX3_crates, Cond.code yX3_crates cX3_crates 8 (some .int), Cond.methodLink RL 85 yX2_odds, Cond.instanceMethod yX2_odds, Cond.selects RX2 yX2_odds yX2_odds, Cond.code yX2_odds cX2_odds 6 (some .long), Cond.constantLong RX2 160 (-9223372036854775808), Cond.methodLink RL 89 yX3_odds, Cond.instanceMethod yX3_odds, Cond.selects RX3 yX3_odds yX3_odds, Cond.code yX3_odds cX3_odds 7 (some .long), Cond.constantLong RX3 219 (100), Cond.methodLink RX3 70 yX3_lost, Cond.static yX3_lost, Cond.code yX3_lost cX3_lost 0 (some .long), Cond.constantLong RX3 64 (-9223372036854775808), Cond.methodLink RX3 221 yX3_share, Cond.static yX3_share]
def wsL_law_r22 : List Cond := [Cond.code yX3_share cX3_share 11 (some .long), Cond.methodLink RL 90 yX2_sheet, Cond.instanceMethod yX2_sheet, Cond.selects RX2 yX2_sheet yX2_sheet, Cond.code yX2_sheet cX2_sheet 4 (some .int), Cond.instanceMethod yX0_begin, Cond.selects RX0 yX0_begin yX0_begin, Cond.code yX0_begin cX0_begin 4 none, Cond.methodLink RL 94 yX3_sheet, Cond.instanceMethod yX3_sheet, Cond.selects RX3 yX3_sheet yX3_sheet, Cond.code yX3_sheet cX3_sheet 5 (some .int), Cond.methodLink RL 95 yX2_lose, Cond.instanceMethod yX2_lose, Cond.selects RX2 yX2_lose yX2_lose, Cond.code yX2_lose cX2_lose 3 (some .int), Cond.methodLink RL 98 yX3_lose, Cond.instanceMethod yX3_lose, Cond.selects RX3 yX3_lose yX3_lose, Cond.code yX3_lose cX3_lose 3 (some .int), Cond.methodLink RL 99 yX2_put, Cond.instanceMethod yX2_put, Cond.selects RX2 yX2_put yX2_put, Cond.code yX2_put cX2_put 5 (some .int)]
def wsL_law_r23 : List Cond := [Cond.instanceMethod yX0_hasCell, Cond.selects RX0 yX0_hasCell yX0_hasCell, Cond.code yX0_hasCell cX0_hasCell 2 (some .boolean), Cond.instanceMethod yX0_cutToLane, Cond.selects RX0 yX0_cutToLane yX0_cutToLane, Cond.code yX0_cutToLane cX0_cutToLane 2 (some .int), Cond.methodLink RL 102 yX3_put, Cond.instanceMethod yX3_put, Cond.selects RX3 yX3_put yX3_put, Cond.code yX3_put cX3_put 4 (some .int), Cond.methodLink RX3 227 yX3_noCell, Cond.instanceMethod yX3_noCell, Cond.selects RX3 yX3_noCell yX3_noCell, Cond.code yX3_noCell cX3_noCell 3 (some .int), Cond.methodLink RL 103 yX2_cell, Cond.instanceMethod yX2_cell, Cond.selects RX2 yX2_cell yX2_cell, Cond.code yX2_cell cX2_cell 6 (some .long), Cond.methodLink RL 106 yX3_cell, Cond.instanceMethod yX3_cell, Cond.selects RX3 yX3_cell yX3_cell, Cond.code yX3_cell cX3_cell 4 (some .long), Cond.methodLink RX3 230 yX3_failedLong, Cond.instanceMethod yX3_failedLong]
def wsL_law_r24 : List Cond := [Cond.selects RX3 yX3_failedLong yX3_failedLong, Cond.code yX3_failedLong cX3_failedLong 2 (some .long), Cond.methodLink RL 107 yX2_copy, Cond.instanceMethod yX2_copy, Cond.selects RX2 yX2_copy yX2_copy, Cond.code yX2_copy cX2_copy 8 (some .int), Cond.methodLink RX2 181 arraycopyName, Cond.native arraycopyName, Cond.static arraycopyName, Cond.initialized "java/lang/System", Cond.methodLink RL 110 yX3_copy, Cond.instanceMethod yX3_copy, Cond.selects RX3 yX3_copy yX3_copy, Cond.code yX3_copy cX3_copy 7 (some .int), Cond.methodLink RL 111 yX2_tell, Cond.instanceMethod yX2_tell, Cond.selects RX2 yX2_tell yX2_tell, Cond.code yX2_tell cX2_tell 2 (some .int), Cond.methodLink RX2 187 yX2_tellAsTart, Cond.instanceMethod yX2_tellAsTart, Cond.selects RX2 yX2_tellAsTart yX2_tellAsTart, Cond.code yX2_tellAsTart cX2_tellAsTart 2 (some .int), Cond.methodLink RX2 196 yX2_leaveInTrace, Cond.instanceMethod yX2_leaveInTrace]
def wsL_law_r25 : List Cond := [Cond.selects RX2 yX2_leaveInTrace yX2_leaveInTrace, Cond.code yX2_leaveInTrace cX2_leaveInTrace 2 none, Cond.methodLink RX2 193 yX2_tellAsPlain, Cond.instanceMethod yX2_tellAsPlain, Cond.selects RX2 yX2_tellAsPlain yX2_tellAsPlain, Cond.code yX2_tellAsPlain cX2_tellAsPlain 2 (some .int), Cond.methodLink RX2 190 yX2_tellAsBitter, Cond.instanceMethod yX2_tellAsBitter, Cond.selects RX2 yX2_tellAsBitter yX2_tellAsBitter, Cond.code yX2_tellAsBitter cX2_tellAsBitter 3 (some .int), Cond.methodLink RL 114 yX3_tell, Cond.instanceMethod yX3_tell, Cond.selects RX3 yX3_tell yX3_tell, Cond.code yX3_tell cX3_tell 4 (some .int), Cond.methodLink RX3 237 yX3_traced, Cond.instanceMethod yX3_traced, Cond.selects RX3 yX3_traced yX3_traced, Cond.code yX3_traced cX3_traced 2 none, Cond.fieldLink RX3 234 "LemonDealsModel" "traceNow" "I", Cond.methodLink RL 115 yX2_knock, Cond.instanceMethod yX2_knock, Cond.selects RX2 yX2_knock yX2_knock, Cond.code yX2_knock cX2_knock 3 (some .int), Cond.methodLink RL 118 yX3_knock]
def wsL_law_r26 : List Cond := [Cond.instanceMethod yX3_knock, Cond.selects RX3 yX3_knock yX3_knock, Cond.code yX3_knock cX3_knock 2 (some .int), Cond.methodLink RL 119 yX2_as, Cond.instanceMethod yX2_as, Cond.selects RX2 yX2_as yX2_as, Cond.code yX2_as cX2_as 3 (some .int), Cond.methodLink RL 122 yX3_as, Cond.instanceMethod yX3_as, Cond.selects RX3 yX3_as yX3_as, Cond.code yX3_as cX3_as 3 (some .int), Cond.methodLink RL 123 yX2_trace, Cond.instanceMethod yX2_trace, Cond.selects RX2 yX2_trace yX2_trace, Cond.code yX2_trace cX2_trace 1 (some .int), Cond.methodLink RL 127 yX3_trace, Cond.instanceMethod yX3_trace, Cond.selects RX3 yX3_trace yX3_trace, Cond.code yX3_trace cX3_trace 1 (some .int), Cond.methodLink RL 128 yX2_fault, Cond.instanceMethod yX2_fault, Cond.selects RX2 yX2_fault yX2_fault, Cond.code yX2_fault cX2_fault 1 (some .int), Cond.methodLink RL 131 yX3_fault]
def wsL_law_r27 : List Cond := [Cond.instanceMethod yX3_fault, Cond.selects RX3 yX3_fault yX3_fault, Cond.code yX3_fault cX3_fault 1 (some .int), Cond.methodLink RL 132 yX2_many, Cond.instanceMethod yX2_many, Cond.selects RX2 yX2_many yX2_many, Cond.code yX2_many cX2_many 2 (some .int), Cond.methodLink RL 135 yX3_many, Cond.instanceMethod yX3_many, Cond.selects RX3 yX3_many yX3_many, Cond.code yX3_many cX3_many 2 (some .int)]
def wsL_law : List Cond := (wsL_law_r1 ++ (wsL_law_r2 ++ (wsL_law_r3 ++ (wsL_law_r4 ++ (wsL_law_r5 ++ (wsL_law_r6 ++ (wsL_law_r7 ++ (wsL_law_r8 ++ (wsL_law_r9 ++ (wsL_law_r10 ++ (wsL_law_r11 ++ (wsL_law_r12 ++ (wsL_law_r13 ++ (wsL_law_r14 ++ (wsL_law_r15 ++ (wsL_law_r16 ++ (wsL_law_r17 ++ (wsL_law_r18 ++ (wsL_law_r19 ++ (wsL_law_r20 ++ (wsL_law_r21 ++ (wsL_law_r22 ++ (wsL_law_r23 ++ (wsL_law_r24 ++ (wsL_law_r25 ++ (wsL_law_r26 ++ wsL_law_r27)))))))))))))))))))))))))) ++ wsX20 ++ wsX30 ++ wsX10 ++ wsX00 ++ ([] : List Cond)
set_option maxRecDepth 20000 in
theorem inlX0 : ∀ w ∈ wsX00, w ∈ wsL_law := fun _ h => List.mem_append_left _ (List.mem_append_right _ h)
theorem inlX1 : ∀ w ∈ wsX10, w ∈ wsL_law := fun _ h => List.mem_append_left _ (List.mem_append_left _ (List.mem_append_right _ h))
theorem inlX2 : ∀ w ∈ wsX20, w ∈ wsL_law := fun _ h => List.mem_append_left _ (List.mem_append_left _ (List.mem_append_left _ (List.mem_append_left _ (List.mem_append_right _ h))))
theorem inlX3 : ∀ w ∈ wsX30, w ∈ wsL_law := fun _ h => List.mem_append_left _ (List.mem_append_left _ (List.mem_append_left _ (List.mem_append_right _ h)))
