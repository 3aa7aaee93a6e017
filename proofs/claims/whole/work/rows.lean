section
/-- a private method of a class that the tables say can be made, by its rows of tables_1 -/
def lw_okq (q : MethodName × Nat) : Prop := (q.1.cls ≠ "java/lang/invoke/MethodHandle" ∧ q.1.cls ≠ "java/lang/invoke/VarHandle") ∧ Cond.instantiable q.1.cls q.2 ∈ tables_1 ∧ Cond.privateMethod q.1 ∈ tables_1 ∧ Cond.instanceMethod q.1 ∈ tables_1
theorem lw_p0 : lw_okq (⟨"LemonDeals$Sheet", "faultAs", "(I)I"⟩, 3) := ⟨⟨by decide +kernel, by decide +kernel⟩, List.mem_of_getElem? (i := 67) (by decide +kernel), List.mem_of_getElem? (i := 121) (by decide +kernel), List.mem_of_getElem? (i := 122) (by decide +kernel)⟩
theorem lw_p1 : lw_okq (⟨"LemonDeals$Sheet", "isThere", "()Z"⟩, 3) := ⟨⟨by decide +kernel, by decide +kernel⟩, List.mem_of_getElem? (i := 67) (by decide +kernel), List.mem_of_getElem? (i := 125) (by decide +kernel), List.mem_of_getElem? (i := 126) (by decide +kernel)⟩
theorem lw_p2 : lw_okq (⟨"LemonDeals$Sheet", "lacks", "(II)Z"⟩, 3) := ⟨⟨by decide +kernel, by decide +kernel⟩, List.mem_of_getElem? (i := 67) (by decide +kernel), List.mem_of_getElem? (i := 129) (by decide +kernel), List.mem_of_getElem? (i := 130) (by decide +kernel)⟩
theorem lw_p3 : lw_okq (⟨"LemonDeals", "fails", "(I)I"⟩, 8) := ⟨⟨by decide +kernel, by decide +kernel⟩, List.mem_of_getElem? (i := 8) (by decide +kernel), List.mem_of_getElem? (i := 133) (by decide +kernel), List.mem_of_getElem? (i := 134) (by decide +kernel)⟩
theorem lw_p4 : lw_okq (⟨"LemonDeals$Street", "beginByText", "([III)V"⟩, 11) := ⟨⟨by decide +kernel, by decide +kernel⟩, List.mem_of_getElem? (i := 16) (by decide +kernel), List.mem_of_getElem? (i := 149) (by decide +kernel), List.mem_of_getElem? (i := 150) (by decide +kernel)⟩
theorem lw_p5 : lw_okq (⟨"LemonDeals", "isHouse", "(I)Z"⟩, 8) := ⟨⟨by decide +kernel, by decide +kernel⟩, List.mem_of_getElem? (i := 8) (by decide +kernel), List.mem_of_getElem? (i := 161) (by decide +kernel), List.mem_of_getElem? (i := 162) (by decide +kernel)⟩
theorem lw_p6 : lw_okq (⟨"LemonDeals$Street", "treesOf", "(I)I"⟩, 11) := ⟨⟨by decide +kernel, by decide +kernel⟩, List.mem_of_getElem? (i := 16) (by decide +kernel), List.mem_of_getElem? (i := 165) (by decide +kernel), List.mem_of_getElem? (i := 166) (by decide +kernel)⟩
theorem lw_p7 : lw_okq (⟨"LemonDeals$Street", "sourOf", "(I)I"⟩, 11) := ⟨⟨by decide +kernel, by decide +kernel⟩, List.mem_of_getElem? (i := 16) (by decide +kernel), List.mem_of_getElem? (i := 169) (by decide +kernel), List.mem_of_getElem? (i := 170) (by decide +kernel)⟩
theorem lw_p8 : lw_okq (⟨"LemonDeals$Street", "dealtTo", "(II)I"⟩, 11) := ⟨⟨by decide +kernel, by decide +kernel⟩, List.mem_of_getElem? (i := 16) (by decide +kernel), List.mem_of_getElem? (i := 173) (by decide +kernel), List.mem_of_getElem? (i := 174) (by decide +kernel)⟩
theorem lw_p9 : lw_okq (⟨"LemonDeals$Street", "dealOut", "(I)V"⟩, 11) := ⟨⟨by decide +kernel, by decide +kernel⟩, List.mem_of_getElem? (i := 16) (by decide +kernel), List.mem_of_getElem? (i := 177) (by decide +kernel), List.mem_of_getElem? (i := 178) (by decide +kernel)⟩
theorem lw_p10 : lw_okq (⟨"LemonDeals$Street", "aheadByRemainder", "(I)I"⟩, 11) := ⟨⟨by decide +kernel, by decide +kernel⟩, List.mem_of_getElem? (i := 16) (by decide +kernel), List.mem_of_getElem? (i := 182) (by decide +kernel), List.mem_of_getElem? (i := 183) (by decide +kernel)⟩
theorem lw_p11 : lw_okq (⟨"LemonDeals", "hasStreet", "()Z"⟩, 8) := ⟨⟨by decide +kernel, by decide +kernel⟩, List.mem_of_getElem? (i := 8) (by decide +kernel), List.mem_of_getElem? (i := 197) (by decide +kernel), List.mem_of_getElem? (i := 198) (by decide +kernel)⟩
theorem lw_p12 : lw_okq (⟨"LemonDeals$Street", "passWeeks", "(I)V"⟩, 11) := ⟨⟨by decide +kernel, by decide +kernel⟩, List.mem_of_getElem? (i := 16) (by decide +kernel), List.mem_of_getElem? (i := 212) (by decide +kernel), List.mem_of_getElem? (i := 213) (by decide +kernel)⟩
theorem lw_p13 : lw_okq (⟨"LemonDeals$Street", "passWeek", "()V"⟩, 11) := ⟨⟨by decide +kernel, by decide +kernel⟩, List.mem_of_getElem? (i := 16) (by decide +kernel), List.mem_of_getElem? (i := 216) (by decide +kernel), List.mem_of_getElem? (i := 217) (by decide +kernel)⟩
theorem lw_p14 : lw_okq (⟨"LemonDeals$Street", "suck", "(I)V"⟩, 11) := ⟨⟨by decide +kernel, by decide +kernel⟩, List.mem_of_getElem? (i := 16) (by decide +kernel), List.mem_of_getElem? (i := 221) (by decide +kernel), List.mem_of_getElem? (i := 222) (by decide +kernel)⟩
theorem lw_p15 : lw_okq (⟨"LemonDeals$Street", "withoutStock", "()I"⟩, 11) := ⟨⟨by decide +kernel, by decide +kernel⟩, List.mem_of_getElem? (i := 16) (by decide +kernel), List.mem_of_getElem? (i := 228) (by decide +kernel), List.mem_of_getElem? (i := 229) (by decide +kernel)⟩
def lw_privs_1 : List (MethodName × Nat) := [(⟨"LemonDeals$Sheet", "faultAs", "(I)I"⟩, 3), (⟨"LemonDeals$Sheet", "isThere", "()Z"⟩, 3), (⟨"LemonDeals$Sheet", "lacks", "(II)Z"⟩, 3), (⟨"LemonDeals", "fails", "(I)I"⟩, 8), (⟨"LemonDeals$Street", "beginByText", "([III)V"⟩, 11), (⟨"LemonDeals", "isHouse", "(I)Z"⟩, 8), (⟨"LemonDeals$Street", "treesOf", "(I)I"⟩, 11), (⟨"LemonDeals$Street", "sourOf", "(I)I"⟩, 11), (⟨"LemonDeals$Street", "dealtTo", "(II)I"⟩, 11), (⟨"LemonDeals$Street", "dealOut", "(I)V"⟩, 11), (⟨"LemonDeals$Street", "aheadByRemainder", "(I)I"⟩, 11), (⟨"LemonDeals", "hasStreet", "()Z"⟩, 8), (⟨"LemonDeals$Street", "passWeeks", "(I)V"⟩, 11), (⟨"LemonDeals$Street", "passWeek", "()V"⟩, 11), (⟨"LemonDeals$Street", "suck", "(I)V"⟩, 11), (⟨"LemonDeals$Street", "withoutStock", "()I"⟩, 11)]
theorem lw_r1 : ∀ q ∈ lw_privs_1, lw_okq q := List.forall_mem_cons.mpr ⟨lw_p0, List.forall_mem_cons.mpr ⟨lw_p1, List.forall_mem_cons.mpr ⟨lw_p2, List.forall_mem_cons.mpr ⟨lw_p3, List.forall_mem_cons.mpr ⟨lw_p4, List.forall_mem_cons.mpr ⟨lw_p5, List.forall_mem_cons.mpr ⟨lw_p6, List.forall_mem_cons.mpr ⟨lw_p7, List.forall_mem_cons.mpr ⟨lw_p8, List.forall_mem_cons.mpr ⟨lw_p9, List.forall_mem_cons.mpr ⟨lw_p10, List.forall_mem_cons.mpr ⟨lw_p11, List.forall_mem_cons.mpr ⟨lw_p12, List.forall_mem_cons.mpr ⟨lw_p13, List.forall_mem_cons.mpr ⟨lw_p14, List.forall_mem_cons.mpr ⟨lw_p15, fun _ h => absurd h List.not_mem_nil⟩⟩⟩⟩⟩⟩⟩⟩⟩⟩⟩⟩⟩⟩⟩⟩
theorem lw_p16 : lw_okq (⟨"LemonDeals$Street", "giveOneFrom", "(I)Z"⟩, 11) := ⟨⟨by decide +kernel, by decide +kernel⟩, List.mem_of_getElem? (i := 16) (by decide +kernel), List.mem_of_getElem? (i := 237) (by decide +kernel), List.mem_of_getElem? (i := 238) (by decide +kernel)⟩
theorem lw_p17 : lw_okq (⟨"LemonDeals", "refusalOfPairs", "([III)I"⟩, 8) := ⟨⟨by decide +kernel, by decide +kernel⟩, List.mem_of_getElem? (i := 8) (by decide +kernel), List.mem_of_getElem? (i := 248) (by decide +kernel), List.mem_of_getElem? (i := 249) (by decide +kernel)⟩
theorem lw_p18 : lw_okq (⟨"LemonDeals", "refusalOfPair", "(II)I"⟩, 8) := ⟨⟨by decide +kernel, by decide +kernel⟩, List.mem_of_getElem? (i := 8) (by decide +kernel), List.mem_of_getElem? (i := 252) (by decide +kernel), List.mem_of_getElem? (i := 253) (by decide +kernel)⟩
theorem lw_p19 : lw_okq (⟨"LemonDeals$Street", "becomeLike", "(LLemonDeals$Street;)V"⟩, 11) := ⟨⟨by decide +kernel, by decide +kernel⟩, List.mem_of_getElem? (i := 16) (by decide +kernel), List.mem_of_getElem? (i := 256) (by decide +kernel), List.mem_of_getElem? (i := 257) (by decide +kernel)⟩
theorem lw_p20 : lw_okq (⟨"LemonDeals", "actPairs", "([III)I"⟩, 8) := ⟨⟨by decide +kernel, by decide +kernel⟩, List.mem_of_getElem? (i := 8) (by decide +kernel), List.mem_of_getElem? (i := 260) (by decide +kernel), List.mem_of_getElem? (i := 261) (by decide +kernel)⟩
theorem lw_p21 : lw_okq (⟨"LemonDeals", "actPair", "(II)Z"⟩, 8) := ⟨⟨by decide +kernel, by decide +kernel⟩, List.mem_of_getElem? (i := 8) (by decide +kernel), List.mem_of_getElem? (i := 264) (by decide +kernel), List.mem_of_getElem? (i := 265) (by decide +kernel)⟩
theorem lw_p22 : lw_okq (⟨"LemonDeals", "answerOfSeason", "(I)I"⟩, 8) := ⟨⟨by decide +kernel, by decide +kernel⟩, List.mem_of_getElem? (i := 8) (by decide +kernel), List.mem_of_getElem? (i := 268) (by decide +kernel), List.mem_of_getElem? (i := 269) (by decide +kernel)⟩
theorem lw_p23 : lw_okq (⟨"LemonDeals$Street", "sumOf", "([I)I"⟩, 11) := ⟨⟨by decide +kernel, by decide +kernel⟩, List.mem_of_getElem? (i := 16) (by decide +kernel), List.mem_of_getElem? (i := 272) (by decide +kernel), List.mem_of_getElem? (i := 273) (by decide +kernel)⟩
theorem lw_p24 : lw_okq (⟨"LemonDeals$Street", "worstTemper", "()I"⟩, 11) := ⟨⟨by decide +kernel, by decide +kernel⟩, List.mem_of_getElem? (i := 16) (by decide +kernel), List.mem_of_getElem? (i := 280) (by decide +kernel), List.mem_of_getElem? (i := 281) (by decide +kernel)⟩
theorem lw_p25 : lw_okq (⟨"LemonDeals", "loserByOneMore", "(I)I"⟩, 8) := ⟨⟨by decide +kernel, by decide +kernel⟩, List.mem_of_getElem? (i := 8) (by decide +kernel), List.mem_of_getElem? (i := 288) (by decide +kernel), List.mem_of_getElem? (i := 289) (by decide +kernel)⟩
theorem lw_p26 : lw_okq (⟨"LemonDeals$Street", "dealOneByOne", "(I)V"⟩, 11) := ⟨⟨by decide +kernel, by decide +kernel⟩, List.mem_of_getElem? (i := 16) (by decide +kernel), List.mem_of_getElem? (i := 297) (by decide +kernel), List.mem_of_getElem? (i := 298) (by decide +kernel)⟩
theorem lw_p27 : lw_okq (⟨"LemonDeals$Street", "nextOneByOne", "()I"⟩, 11) := ⟨⟨by decide +kernel, by decide +kernel⟩, List.mem_of_getElem? (i := 16) (by decide +kernel), List.mem_of_getElem? (i := 301) (by decide +kernel), List.mem_of_getElem? (i := 302) (by decide +kernel)⟩
theorem lw_p28 : lw_okq (⟨"LemonDeals$Street", "isAheadOneByOne", "(II)Z"⟩, 11) := ⟨⟨by decide +kernel, by decide +kernel⟩, List.mem_of_getElem? (i := 16) (by decide +kernel), List.mem_of_getElem? (i := 305) (by decide +kernel), List.mem_of_getElem? (i := 306) (by decide +kernel)⟩
theorem lw_p29 : lw_okq (⟨"LemonDeals", "apartBy", "(I)I"⟩, 8) := ⟨⟨by decide +kernel, by decide +kernel⟩, List.mem_of_getElem? (i := 8) (by decide +kernel), List.mem_of_getElem? (i := 313) (by decide +kernel), List.mem_of_getElem? (i := 314) (by decide +kernel)⟩
theorem lw_p30 : lw_okq (⟨"LemonDeals", "readingsHoldInTrial", "()Z"⟩, 8) := ⟨⟨by decide +kernel, by decide +kernel⟩, List.mem_of_getElem? (i := 8) (by decide +kernel), List.mem_of_getElem? (i := 332) (by decide +kernel), List.mem_of_getElem? (i := 333) (by decide +kernel)⟩
theorem lw_p31 : lw_okq (⟨"LemonDeals$Sheet", "begin", "(II)V"⟩, 3) := ⟨⟨by decide +kernel, by decide +kernel⟩, List.mem_of_getElem? (i := 67) (by decide +kernel), List.mem_of_getElem? (i := 353) (by decide +kernel), List.mem_of_getElem? (i := 354) (by decide +kernel)⟩
def lw_privs_2 : List (MethodName × Nat) := [(⟨"LemonDeals$Street", "giveOneFrom", "(I)Z"⟩, 11), (⟨"LemonDeals", "refusalOfPairs", "([III)I"⟩, 8), (⟨"LemonDeals", "refusalOfPair", "(II)I"⟩, 8), (⟨"LemonDeals$Street", "becomeLike", "(LLemonDeals$Street;)V"⟩, 11), (⟨"LemonDeals", "actPairs", "([III)I"⟩, 8), (⟨"LemonDeals", "actPair", "(II)Z"⟩, 8), (⟨"LemonDeals", "answerOfSeason", "(I)I"⟩, 8), (⟨"LemonDeals$Street", "sumOf", "([I)I"⟩, 11), (⟨"LemonDeals$Street", "worstTemper", "()I"⟩, 11), (⟨"LemonDeals", "loserByOneMore", "(I)I"⟩, 8), (⟨"LemonDeals$Street", "dealOneByOne", "(I)V"⟩, 11), (⟨"LemonDeals$Street", "nextOneByOne", "()I"⟩, 11), (⟨"LemonDeals$Street", "isAheadOneByOne", "(II)Z"⟩, 11), (⟨"LemonDeals", "apartBy", "(I)I"⟩, 8), (⟨"LemonDeals", "readingsHoldInTrial", "()Z"⟩, 8), (⟨"LemonDeals$Sheet", "begin", "(II)V"⟩, 3)]
theorem lw_r2 : ∀ q ∈ lw_privs_2, lw_okq q := List.forall_mem_cons.mpr ⟨lw_p16, List.forall_mem_cons.mpr ⟨lw_p17, List.forall_mem_cons.mpr ⟨lw_p18, List.forall_mem_cons.mpr ⟨lw_p19, List.forall_mem_cons.mpr ⟨lw_p20, List.forall_mem_cons.mpr ⟨lw_p21, List.forall_mem_cons.mpr ⟨lw_p22, List.forall_mem_cons.mpr ⟨lw_p23, List.forall_mem_cons.mpr ⟨lw_p24, List.forall_mem_cons.mpr ⟨lw_p25, List.forall_mem_cons.mpr ⟨lw_p26, List.forall_mem_cons.mpr ⟨lw_p27, List.forall_mem_cons.mpr ⟨lw_p28, List.forall_mem_cons.mpr ⟨lw_p29, List.forall_mem_cons.mpr ⟨lw_p30, List.forall_mem_cons.mpr ⟨lw_p31, fun _ h => absurd h List.not_mem_nil⟩⟩⟩⟩⟩⟩⟩⟩⟩⟩⟩⟩⟩⟩⟩⟩
theorem lw_p32 : lw_okq (⟨"LemonDeals$Sheet", "hasCell", "(I)Z"⟩, 3) := ⟨⟨by decide +kernel, by decide +kernel⟩, List.mem_of_getElem? (i := 67) (by decide +kernel), List.mem_of_getElem? (i := 366) (by decide +kernel), List.mem_of_getElem? (i := 367) (by decide +kernel)⟩
theorem lw_p33 : lw_okq (⟨"LemonDeals$Sheet", "cutToLane", "(I)I"⟩, 3) := ⟨⟨by decide +kernel, by decide +kernel⟩, List.mem_of_getElem? (i := 67) (by decide +kernel), List.mem_of_getElem? (i := 370) (by decide +kernel), List.mem_of_getElem? (i := 371) (by decide +kernel)⟩
theorem lw_p34 : lw_okq (⟨"LemonDeals", "tellAsTart", "(I)I"⟩, 8) := ⟨⟨by decide +kernel, by decide +kernel⟩, List.mem_of_getElem? (i := 8) (by decide +kernel), List.mem_of_getElem? (i := 389) (by decide +kernel), List.mem_of_getElem? (i := 390) (by decide +kernel)⟩
theorem lw_p35 : lw_okq (⟨"LemonDeals", "leaveInTrace", "(I)V"⟩, 8) := ⟨⟨by decide +kernel, by decide +kernel⟩, List.mem_of_getElem? (i := 8) (by decide +kernel), List.mem_of_getElem? (i := 393) (by decide +kernel), List.mem_of_getElem? (i := 394) (by decide +kernel)⟩
theorem lw_p36 : lw_okq (⟨"LemonDeals", "tellAsPlain", "(I)I"⟩, 8) := ⟨⟨by decide +kernel, by decide +kernel⟩, List.mem_of_getElem? (i := 8) (by decide +kernel), List.mem_of_getElem? (i := 397) (by decide +kernel), List.mem_of_getElem? (i := 398) (by decide +kernel)⟩
theorem lw_p37 : lw_okq (⟨"LemonDeals", "tellAsBitter", "(I)I"⟩, 8) := ⟨⟨by decide +kernel, by decide +kernel⟩, List.mem_of_getElem? (i := 8) (by decide +kernel), List.mem_of_getElem? (i := 401) (by decide +kernel), List.mem_of_getElem? (i := 402) (by decide +kernel)⟩
theorem lw_p38 : lw_okq (⟨"LemonDealsModel", "refused", "(I)I"⟩, 30) := ⟨⟨by decide +kernel, by decide +kernel⟩, List.mem_of_getElem? (i := 425) (by decide +kernel), List.mem_of_getElem? (i := 533) (by decide +kernel), List.mem_of_getElem? (i := 534) (by decide +kernel)⟩
theorem lw_p39 : lw_okq (⟨"LemonDealsModel", "cellsBarred", "(IIIJ)I"⟩, 30) := ⟨⟨by decide +kernel, by decide +kernel⟩, List.mem_of_getElem? (i := 425) (by decide +kernel), List.mem_of_getElem? (i := 538) (by decide +kernel), List.mem_of_getElem? (i := 539) (by decide +kernel)⟩
theorem lw_p40 : lw_okq (⟨"LemonDealsModel", "failed", "(I)I"⟩, 30) := ⟨⟨by decide +kernel, by decide +kernel⟩, List.mem_of_getElem? (i := 425) (by decide +kernel), List.mem_of_getElem? (i := 542) (by decide +kernel), List.mem_of_getElem? (i := 543) (by decide +kernel)⟩
theorem lw_p41 : lw_okq (⟨"LemonDealsModel", "readsStreet", "(II)Z"⟩, 30) := ⟨⟨by decide +kernel, by decide +kernel⟩, List.mem_of_getElem? (i := 425) (by decide +kernel), List.mem_of_getElem? (i := 549) (by decide +kernel), List.mem_of_getElem? (i := 550) (by decide +kernel)⟩
theorem lw_p42 : lw_okq (⟨"LemonDealsModel", "codeAt", "(II)I"⟩, 30) := ⟨⟨by decide +kernel, by decide +kernel⟩, List.mem_of_getElem? (i := 425) (by decide +kernel), List.mem_of_getElem? (i := 553) (by decide +kernel), List.mem_of_getElem? (i := 554) (by decide +kernel)⟩
theorem lw_p43 : lw_okq (⟨"LemonDealsModel", "figure", "(III)I"⟩, 30) := ⟨⟨by decide +kernel, by decide +kernel⟩, List.mem_of_getElem? (i := 425) (by decide +kernel), List.mem_of_getElem? (i := 557) (by decide +kernel), List.mem_of_getElem? (i := 558) (by decide +kernel)⟩
theorem lw_p44 : lw_okq (⟨"LemonDealsModel", "readsHouse", "(II)Z"⟩, 30) := ⟨⟨by decide +kernel, by decide +kernel⟩, List.mem_of_getElem? (i := 425) (by decide +kernel), List.mem_of_getElem? (i := 562) (by decide +kernel), List.mem_of_getElem? (i := 563) (by decide +kernel)⟩
theorem lw_p45 : lw_okq (⟨"LemonDealsModel", "noHouse", "(I)Z"⟩, 30) := ⟨⟨by decide +kernel, by decide +kernel⟩, List.mem_of_getElem? (i := 425) (by decide +kernel), List.mem_of_getElem? (i := 570) (by decide +kernel), List.mem_of_getElem? (i := 571) (by decide +kernel)⟩
theorem lw_p46 : lw_okq (⟨"LemonDealsModel", "sourOf", "(I)I"⟩, 30) := ⟨⟨by decide +kernel, by decide +kernel⟩, List.mem_of_getElem? (i := 425) (by decide +kernel), List.mem_of_getElem? (i := 574) (by decide +kernel), List.mem_of_getElem? (i := 575) (by decide +kernel)⟩
theorem lw_p47 : lw_okq (⟨"LemonDealsModel", "dealtTo", "(II)I"⟩, 30) := ⟨⟨by decide +kernel, by decide +kernel⟩, List.mem_of_getElem? (i := 425) (by decide +kernel), List.mem_of_getElem? (i := 578) (by decide +kernel), List.mem_of_getElem? (i := 579) (by decide +kernel)⟩
def lw_privs_3 : List (MethodName × Nat) := [(⟨"LemonDeals$Sheet", "hasCell", "(I)Z"⟩, 3), (⟨"LemonDeals$Sheet", "cutToLane", "(I)I"⟩, 3), (⟨"LemonDeals", "tellAsTart", "(I)I"⟩, 8), (⟨"LemonDeals", "leaveInTrace", "(I)V"⟩, 8), (⟨"LemonDeals", "tellAsPlain", "(I)I"⟩, 8), (⟨"LemonDeals", "tellAsBitter", "(I)I"⟩, 8), (⟨"LemonDealsModel", "refused", "(I)I"⟩, 30), (⟨"LemonDealsModel", "cellsBarred", "(IIIJ)I"⟩, 30), (⟨"LemonDealsModel", "failed", "(I)I"⟩, 30), (⟨"LemonDealsModel", "readsStreet", "(II)Z"⟩, 30), (⟨"LemonDealsModel", "codeAt", "(II)I"⟩, 30), (⟨"LemonDealsModel", "figure", "(III)I"⟩, 30), (⟨"LemonDealsModel", "readsHouse", "(II)Z"⟩, 30), (⟨"LemonDealsModel", "noHouse", "(I)Z"⟩, 30), (⟨"LemonDealsModel", "sourOf", "(I)I"⟩, 30), (⟨"LemonDealsModel", "dealtTo", "(II)I"⟩, 30)]
theorem lw_r3 : ∀ q ∈ lw_privs_3, lw_okq q := List.forall_mem_cons.mpr ⟨lw_p32, List.forall_mem_cons.mpr ⟨lw_p33, List.forall_mem_cons.mpr ⟨lw_p34, List.forall_mem_cons.mpr ⟨lw_p35, List.forall_mem_cons.mpr ⟨lw_p36, List.forall_mem_cons.mpr ⟨lw_p37, List.forall_mem_cons.mpr ⟨lw_p38, List.forall_mem_cons.mpr ⟨lw_p39, List.forall_mem_cons.mpr ⟨lw_p40, List.forall_mem_cons.mpr ⟨lw_p41, List.forall_mem_cons.mpr ⟨lw_p42, List.forall_mem_cons.mpr ⟨lw_p43, List.forall_mem_cons.mpr ⟨lw_p44, List.forall_mem_cons.mpr ⟨lw_p45, List.forall_mem_cons.mpr ⟨lw_p46, List.forall_mem_cons.mpr ⟨lw_p47, fun _ h => absurd h List.not_mem_nil⟩⟩⟩⟩⟩⟩⟩⟩⟩⟩⟩⟩⟩⟩⟩⟩
theorem lw_p48 : lw_okq (⟨"LemonDealsModel", "sourOfAll", "()I"⟩, 30) := ⟨⟨by decide +kernel, by decide +kernel⟩, List.mem_of_getElem? (i := 425) (by decide +kernel), List.mem_of_getElem? (i := 582) (by decide +kernel), List.mem_of_getElem? (i := 583) (by decide +kernel)⟩
theorem lw_p49 : lw_okq (⟨"LemonDealsModel", "aheadOf", "(III)I"⟩, 30) := ⟨⟨by decide +kernel, by decide +kernel⟩, List.mem_of_getElem? (i := 425) (by decide +kernel), List.mem_of_getElem? (i := 586) (by decide +kernel), List.mem_of_getElem? (i := 587) (by decide +kernel)⟩
theorem lw_p50 : lw_okq (⟨"LemonDealsModel", "passes", "()V"⟩, 30) := ⟨⟨by decide +kernel, by decide +kernel⟩, List.mem_of_getElem? (i := 425) (by decide +kernel), List.mem_of_getElem? (i := 611) (by decide +kernel), List.mem_of_getElem? (i := 612) (by decide +kernel)⟩
theorem lw_p51 : lw_okq (⟨"LemonDealsModel", "without", "()I"⟩, 30) := ⟨⟨by decide +kernel, by decide +kernel⟩, List.mem_of_getElem? (i := 425) (by decide +kernel), List.mem_of_getElem? (i := 615) (by decide +kernel), List.mem_of_getElem? (i := 616) (by decide +kernel)⟩
theorem lw_p52 : lw_okq (⟨"LemonDealsModel", "gave", "(I)Z"⟩, 30) := ⟨⟨by decide +kernel, by decide +kernel⟩, List.mem_of_getElem? (i := 425) (by decide +kernel), List.mem_of_getElem? (i := 623) (by decide +kernel), List.mem_of_getElem? (i := 624) (by decide +kernel)⟩
theorem lw_p53 : lw_okq (⟨"LemonDealsModel", "pairsBarred", "(II)I"⟩, 30) := ⟨⟨by decide +kernel, by decide +kernel⟩, List.mem_of_getElem? (i := 425) (by decide +kernel), List.mem_of_getElem? (i := 635) (by decide +kernel), List.mem_of_getElem? (i := 636) (by decide +kernel)⟩
theorem lw_p54 : lw_okq (⟨"LemonDealsModel", "keepAll", "()V"⟩, 30) := ⟨⟨by decide +kernel, by decide +kernel⟩, List.mem_of_getElem? (i := 425) (by decide +kernel), List.mem_of_getElem? (i := 639) (by decide +kernel), List.mem_of_getElem? (i := 640) (by decide +kernel)⟩
theorem lw_p55 : lw_okq (⟨"LemonDealsModel", "seasonBy", "(III)I"⟩, 30) := ⟨⟨by decide +kernel, by decide +kernel⟩, List.mem_of_getElem? (i := 425) (by decide +kernel), List.mem_of_getElem? (i := 643) (by decide +kernel), List.mem_of_getElem? (i := 644) (by decide +kernel)⟩
theorem lw_p56 : lw_okq (⟨"LemonDealsModel", "did", "(II)Z"⟩, 30) := ⟨⟨by decide +kernel, by decide +kernel⟩, List.mem_of_getElem? (i := 425) (by decide +kernel), List.mem_of_getElem? (i := 647) (by decide +kernel), List.mem_of_getElem? (i := 648) (by decide +kernel)⟩
theorem lw_p57 : lw_okq (⟨"LemonDealsModel", "bringBack", "()V"⟩, 30) := ⟨⟨by decide +kernel, by decide +kernel⟩, List.mem_of_getElem? (i := 425) (by decide +kernel), List.mem_of_getElem? (i := 651) (by decide +kernel), List.mem_of_getElem? (i := 652) (by decide +kernel)⟩
theorem lw_p58 : lw_okq (⟨"LemonDealsModel", "worstTemper", "()I"⟩, 30) := ⟨⟨by decide +kernel, by decide +kernel⟩, List.mem_of_getElem? (i := 425) (by decide +kernel), List.mem_of_getElem? (i := 660) (by decide +kernel), List.mem_of_getElem? (i := 661) (by decide +kernel)⟩
theorem lw_p59 : lw_okq (⟨"LemonDealsModel", "nextOne", "()I"⟩, 30) := ⟨⟨by decide +kernel, by decide +kernel⟩, List.mem_of_getElem? (i := 425) (by decide +kernel), List.mem_of_getElem? (i := 672) (by decide +kernel), List.mem_of_getElem? (i := 673) (by decide +kernel)⟩
theorem lw_p60 : lw_okq (⟨"LemonDealsModel", "apart", "(I)I"⟩, 30) := ⟨⟨by decide +kernel, by decide +kernel⟩, List.mem_of_getElem? (i := 425) (by decide +kernel), List.mem_of_getElem? (i := 680) (by decide +kernel), List.mem_of_getElem? (i := 681) (by decide +kernel)⟩
theorem lw_p61 : lw_okq (⟨"LemonDealsModel", "areSo", "()Z"⟩, 30) := ⟨⟨by decide +kernel, by decide +kernel⟩, List.mem_of_getElem? (i := 425) (by decide +kernel), List.mem_of_getElem? (i := 699) (by decide +kernel), List.mem_of_getElem? (i := 700) (by decide +kernel)⟩
theorem lw_p62 : lw_okq (⟨"LemonDealsModel", "noCell", "(II)I"⟩, 30) := ⟨⟨by decide +kernel, by decide +kernel⟩, List.mem_of_getElem? (i := 425) (by decide +kernel), List.mem_of_getElem? (i := 735) (by decide +kernel), List.mem_of_getElem? (i := 736) (by decide +kernel)⟩
theorem lw_p63 : lw_okq (⟨"LemonDealsModel", "failedLong", "(I)J"⟩, 30) := ⟨⟨by decide +kernel, by decide +kernel⟩, List.mem_of_getElem? (i := 425) (by decide +kernel), List.mem_of_getElem? (i := 743) (by decide +kernel), List.mem_of_getElem? (i := 744) (by decide +kernel)⟩
def lw_privs_4 : List (MethodName × Nat) := [(⟨"LemonDealsModel", "sourOfAll", "()I"⟩, 30), (⟨"LemonDealsModel", "aheadOf", "(III)I"⟩, 30), (⟨"LemonDealsModel", "passes", "()V"⟩, 30), (⟨"LemonDealsModel", "without", "()I"⟩, 30), (⟨"LemonDealsModel", "gave", "(I)Z"⟩, 30), (⟨"LemonDealsModel", "pairsBarred", "(II)I"⟩, 30), (⟨"LemonDealsModel", "keepAll", "()V"⟩, 30), (⟨"LemonDealsModel", "seasonBy", "(III)I"⟩, 30), (⟨"LemonDealsModel", "did", "(II)Z"⟩, 30), (⟨"LemonDealsModel", "bringBack", "()V"⟩, 30), (⟨"LemonDealsModel", "worstTemper", "()I"⟩, 30), (⟨"LemonDealsModel", "nextOne", "()I"⟩, 30), (⟨"LemonDealsModel", "apart", "(I)I"⟩, 30), (⟨"LemonDealsModel", "areSo", "()Z"⟩, 30), (⟨"LemonDealsModel", "noCell", "(II)I"⟩, 30), (⟨"LemonDealsModel", "failedLong", "(I)J"⟩, 30)]
theorem lw_r4 : ∀ q ∈ lw_privs_4, lw_okq q := List.forall_mem_cons.mpr ⟨lw_p48, List.forall_mem_cons.mpr ⟨lw_p49, List.forall_mem_cons.mpr ⟨lw_p50, List.forall_mem_cons.mpr ⟨lw_p51, List.forall_mem_cons.mpr ⟨lw_p52, List.forall_mem_cons.mpr ⟨lw_p53, List.forall_mem_cons.mpr ⟨lw_p54, List.forall_mem_cons.mpr ⟨lw_p55, List.forall_mem_cons.mpr ⟨lw_p56, List.forall_mem_cons.mpr ⟨lw_p57, List.forall_mem_cons.mpr ⟨lw_p58, List.forall_mem_cons.mpr ⟨lw_p59, List.forall_mem_cons.mpr ⟨lw_p60, List.forall_mem_cons.mpr ⟨lw_p61, List.forall_mem_cons.mpr ⟨lw_p62, List.forall_mem_cons.mpr ⟨lw_p63, fun _ h => absurd h List.not_mem_nil⟩⟩⟩⟩⟩⟩⟩⟩⟩⟩⟩⟩⟩⟩⟩⟩
theorem lw_p64 : lw_okq (⟨"LemonDealsModel", "traced", "(I)V"⟩, 30) := ⟨⟨by decide +kernel, by decide +kernel⟩, List.mem_of_getElem? (i := 425) (by decide +kernel), List.mem_of_getElem? (i := 755) (by decide +kernel), List.mem_of_getElem? (i := 756) (by decide +kernel)⟩
def lw_privs_5 : List (MethodName × Nat) := [(⟨"LemonDealsModel", "traced", "(I)V"⟩, 30)]
theorem lw_r5 : ∀ q ∈ lw_privs_5, lw_okq q := List.forall_mem_cons.mpr ⟨lw_p64, fun _ h => absurd h List.not_mem_nil⟩
def lw_privs : List (MethodName × Nat) := lw_privs_1 ++ (lw_privs_2 ++ (lw_privs_3 ++ (lw_privs_4 ++ (lw_privs_5))))
def lw_tbl : List Cond := k2_sels lw_privs ++ tables_1
theorem lw_privs_ok : ∀ q ∈ lw_privs, lw_okq q := by
  show ∀ q ∈ lw_privs_1 ++ (lw_privs_2 ++ (lw_privs_3 ++ (lw_privs_4 ++ (lw_privs_5)))), lw_okq q
  exact List.forall_mem_append.mpr ⟨lw_r1, List.forall_mem_append.mpr ⟨lw_r2, List.forall_mem_append.mpr ⟨lw_r3, List.forall_mem_append.mpr ⟨lw_r4, lw_r5⟩⟩⟩⟩
/-! ===== BEGIN words of one list among another's, by their places ===== -/
theorem goodIn_r {big : List Cond} (ws : List Cond) (ps : List Nat) (hp : ws = ps.filterMap (fun i => big[i]?)) (h : ws.all goodWord = true) : GoodIn big ws := by
  intro w hw
  have h1 := List.all_eq_true.mp h w hw
  rw [hp] at hw
  obtain ⟨i, -, hi⟩ := List.mem_filterMap.mp hw
  have hm : w ∈ big := by first | exact List.mem_of_getElem? hi | exact List.getElem?_mem hi
  exact ⟨hm, good_of_word h1⟩
theorem goodIn_app {big a b : List Cond} (ha : GoodIn big a) (hb : GoodIn big b) : GoodIn big (a ++ b) := fun w h => (List.mem_append.mp h).elim (ha w) (hb w)
theorem goodIn_ca {big a b : List Cond} {c : Cond} (ha : GoodIn big (c :: a)) (hb : GoodIn big b) : GoodIn big (c :: (a ++ b)) := fun w h => (List.mem_cons.mp h).elim (fun e => ha w (List.mem_cons.mpr (Or.inl e))) (fun h => (List.mem_append.mp h).elim (fun h => ha w (List.mem_cons.mpr (Or.inr h))) (hb w))
theorem goodIn_sub {big ws : List Cond} (hm : ∀ w ∈ ws, w ∈ big) (h : ws.all goodWord = true) : GoodIn big ws := fun w hw => ⟨hm w hw, good_of_word (List.all_eq_true.mp h w hw)⟩
/-! ===== END ===== -/

/-! ===== BEGIN printed: names, fields, word lists, decode rows ===== -/
def RX0 : String := "LemonDeals$Sheet"
def TX0 : u_T := fun k => match k with
  | 0 => ("LemonDeals$Sheet", "cells", "[I", true)
  | 1 => ("LemonDeals$Sheet", "lane", "I", false)
  | _ => ("LemonDeals$Sheet", "length", "I", false)
def tyX0 : Nat → FieldType := fun k => match k with
  | 0 => .array .int
  | 1 => .int
  | _ => .int
abbrev wsX00 : List Cond := u_ws RX0 TX0 3
theorem nmX0 : ∀ a, a < 3 → ∀ b, b < 3 → a ≠ b → (TX0 a).2.1 ≠ (TX0 b).2.1 := by decide +kernel
theorem tyX0_ok : ∀ k, k < 3 → parseFieldDescriptor (TX0 k).2.2.1 = some (tyX0 k) := by decide +kernel
abbrev cX0_init : ByteArray := prog_2_method_1_code
def yX0_init : MethodName := ⟨RX0, "<init>", "()V"⟩
abbrev cX0_begin : ByteArray := prog_2_method_2_code
def yX0_begin : MethodName := ⟨RX0, "begin", "(II)V"⟩
abbrev cX0_isThere : ByteArray := prog_2_method_3_code
def yX0_isThere : MethodName := ⟨RX0, "isThere", "()Z"⟩
abbrev cX0_faultAs : ByteArray := prog_2_method_4_code
def yX0_faultAs : MethodName := ⟨RX0, "faultAs", "(I)I"⟩
abbrev cX0_hasCell : ByteArray := prog_2_method_5_code
def yX0_hasCell : MethodName := ⟨RX0, "hasCell", "(I)Z"⟩
abbrev cX0_lacks : ByteArray := prog_2_method_6_code
def yX0_lacks : MethodName := ⟨RX0, "lacks", "(II)Z"⟩
abbrev cX0_cutToLane : ByteArray := prog_2_method_7_code
def yX0_cutToLane : MethodName := ⟨RX0, "cutToLane", "(I)I"⟩
def RX1 : String := "LemonDeals$Street"
def TX1 : u_T := fun k => match k with
  | 0 => ("LemonDeals$Street", "houses", "I", false)
  | 1 => ("LemonDeals$Street", "crate", "I", false)
  | 2 => ("LemonDeals$Street", "week", "I", false)
  | 3 => ("LemonDeals$Street", "leanWeeks", "I", false)
  | 4 => ("LemonDeals$Street", "kind", "[I", true)
  | 5 => ("LemonDeals$Street", "temper", "[I", true)
  | 6 => ("LemonDeals$Street", "stock", "[I", true)
  | 7 => ("LemonDeals$Street", "pips", "[I", true)
  | 8 => ("LemonDeals$Street", "sour", "[I", true)
  | 9 => ("LemonDeals$Street", "dealt", "[I", true)
  | _ => ("LemonDeals$Street", "remainder", "[I", true)
def tyX1 : Nat → FieldType := fun k => match k with
  | 0 => .int
  | 1 => .int
  | 2 => .int
  | 3 => .int
  | 4 => .array .int
  | 5 => .array .int
  | 6 => .array .int
  | 7 => .array .int
  | 8 => .array .int
  | 9 => .array .int
  | _ => .array .int
abbrev wsX10 : List Cond := u_ws RX1 TX1 11
theorem nmX1 : ∀ a, a < 11 → ∀ b, b < 11 → a ≠ b → (TX1 a).2.1 ≠ (TX1 b).2.1 := by decide +kernel
theorem tyX1_ok : ∀ k, k < 11 → parseFieldDescriptor (TX1 k).2.2.1 = some (tyX1 k) := by decide +kernel
abbrev cX1_init : ByteArray := prog_3_method_1_code
def yX1_init : MethodName := ⟨RX1, "<init>", "()V"⟩
abbrev cX1_beginByText : ByteArray := prog_3_method_2_code
def yX1_beginByText : MethodName := ⟨RX1, "beginByText", "([III)V"⟩
abbrev cX1_becomeLike : ByteArray := prog_3_method_3_code
def yX1_becomeLike : MethodName := ⟨RX1, "becomeLike", "(LLemonDeals$Street;)V"⟩
abbrev cX1_treesOf : ByteArray := prog_3_method_4_code
def yX1_treesOf : MethodName := ⟨RX1, "treesOf", "(I)I"⟩
abbrev cX1_sourOf : ByteArray := prog_3_method_5_code
def yX1_sourOf : MethodName := ⟨RX1, "sourOf", "(I)I"⟩
abbrev cX1_dealtTo : ByteArray := prog_3_method_6_code
def yX1_dealtTo : MethodName := ⟨RX1, "dealtTo", "(II)I"⟩
abbrev cX1_dealOut : ByteArray := prog_3_method_7_code
def yX1_dealOut : MethodName := ⟨RX1, "dealOut", "(I)V"⟩
abbrev cX1_aheadByRemainder : ByteArray := prog_3_method_8_code
def yX1_aheadByRemainder : MethodName := ⟨RX1, "aheadByRemainder", "(I)I"⟩
abbrev cX1_dealOneByOne : ByteArray := prog_3_method_9_code
def yX1_dealOneByOne : MethodName := ⟨RX1, "dealOneByOne", "(I)V"⟩
abbrev cX1_nextOneByOne : ByteArray := prog_3_method_10_code
def yX1_nextOneByOne : MethodName := ⟨RX1, "nextOneByOne", "()I"⟩
abbrev cX1_isAheadOneByOne : ByteArray := prog_3_method_11_code
def yX1_isAheadOneByOne : MethodName := ⟨RX1, "isAheadOneByOne", "(II)Z"⟩
abbrev cX1_passWeeks : ByteArray := prog_3_method_12_code
def yX1_passWeeks : MethodName := ⟨RX1, "passWeeks", "(I)V"⟩
abbrev cX1_passWeek : ByteArray := prog_3_method_13_code
def yX1_passWeek : MethodName := ⟨RX1, "passWeek", "()V"⟩
abbrev cX1_suck : ByteArray := prog_3_method_14_code
def yX1_suck : MethodName := ⟨RX1, "suck", "(I)V"⟩
abbrev cX1_giveOneFrom : ByteArray := prog_3_method_15_code
def yX1_giveOneFrom : MethodName := ⟨RX1, "giveOneFrom", "(I)Z"⟩
abbrev cX1_withoutStock : ByteArray := prog_3_method_16_code
def yX1_withoutStock : MethodName := ⟨RX1, "withoutStock", "()I"⟩
abbrev cX1_worstTemper : ByteArray := prog_3_method_17_code
def yX1_worstTemper : MethodName := ⟨RX1, "worstTemper", "()I"⟩
abbrev cX1_sumOf : ByteArray := prog_3_method_18_code
def yX1_sumOf : MethodName := ⟨RX1, "sumOf", "([I)I"⟩
def RX2 : String := "LemonDeals"
def TX2 : u_T := fun k => match k with
  | 0 => ("LemonDeals", "now", "LLemonDeals$Street;", true)
  | 1 => ("LemonDeals", "trial", "LLemonDeals$Street;", true)
  | 2 => ("LemonDeals", "sheets", "[LLemonDeals$Sheet;", true)
  | 3 => ("LemonDeals", "readHouse", "[I", true)
  | 4 => ("LemonDeals", "readDealt", "[I", true)
  | 5 => ("LemonDeals", "readings", "I", false)
  | 6 => ("LemonDeals", "traced", "I", false)
  | _ => ("LemonDeals", "lastFault", "I", false)
def tyX2 : Nat → FieldType := fun k => match k with
  | 0 => .object "LemonDeals$Street"
  | 1 => .object "LemonDeals$Street"
  | 2 => .array (.object "LemonDeals$Sheet")
  | 3 => .array .int
  | 4 => .array .int
  | 5 => .int
  | 6 => .int
  | _ => .int
abbrev wsX20 : List Cond := u_ws RX2 TX2 8
theorem nmX2 : ∀ a, a < 8 → ∀ b, b < 8 → a ≠ b → (TX2 a).2.1 ≠ (TX2 b).2.1 := by decide +kernel
theorem tyX2_ok : ∀ k, k < 8 → parseFieldDescriptor (TX2 k).2.2.1 = some (tyX2 k) := by decide +kernel
abbrev cX2_init : ByteArray := prog_1_method_1_code
def yX2_init : MethodName := ⟨RX2, "<init>", "()V"⟩
abbrev cX2_street : ByteArray := prog_1_method_2_code
def yX2_street : MethodName := ⟨RX2, "street", "(IIII)I"⟩
abbrev cX2_ofHouse : ByteArray := prog_1_method_3_code
def yX2_ofHouse : MethodName := ⟨RX2, "ofHouse", "(II)I"⟩
abbrev cX2_anger : ByteArray := prog_1_method_4_code
def yX2_anger : MethodName := ⟨RX2, "anger", "(II)I"⟩
abbrev cX2_crate : ByteArray := prog_1_method_5_code
def yX2_crate : MethodName := ⟨RX2, "crate", "(I)I"⟩
abbrev cX2_deal : ByteArray := prog_1_method_6_code
def yX2_deal : MethodName := ⟨RX2, "deal", "(II)I"⟩
abbrev cX2_weeks : ByteArray := prog_1_method_7_code
def yX2_weeks : MethodName := ⟨RX2, "weeks", "(I)I"⟩
abbrev cX2_gift : ByteArray := prog_1_method_8_code
def yX2_gift : MethodName := ⟨RX2, "gift", "(I)I"⟩
abbrev cX2_season : ByteArray := prog_1_method_9_code
def yX2_season : MethodName := ⟨RX2, "season", "(IIIII)I"⟩
abbrev cX2_calm : ByteArray := prog_1_method_10_code
def yX2_calm : MethodName := ⟨RX2, "calm", "(II)I"⟩
abbrev cX2_wonder : ByteArray := prog_1_method_11_code
def yX2_wonder : MethodName := ⟨RX2, "wonder", "(I)I"⟩
abbrev cX2_otherwise : ByteArray := prog_1_method_12_code
def yX2_otherwise : MethodName := ⟨RX2, "otherwise", "(I)I"⟩
abbrev cX2_halves : ByteArray := prog_1_method_13_code
def yX2_halves : MethodName := ⟨RX2, "halves", "(I)I"⟩
abbrev cX2_reading : ByteArray := prog_1_method_14_code
def yX2_reading : MethodName := ⟨RX2, "reading", "(II)I"⟩
abbrev cX2_back : ByteArray := prog_1_method_15_code
def yX2_back : MethodName := ⟨RX2, "back", "(I)I"⟩
abbrev cX2_tempers : ByteArray := prog_1_method_16_code
def yX2_tempers : MethodName := ⟨RX2, "tempers", "(I)I"⟩
abbrev cX2_kinds : ByteArray := prog_1_method_17_code
def yX2_kinds : MethodName := ⟨RX2, "kinds", "(I)I"⟩
abbrev cX2_crates : ByteArray := prog_1_method_18_code
def yX2_crates : MethodName := ⟨RX2, "crates", "(I)I"⟩
abbrev cX2_odds : ByteArray := prog_1_method_19_code
def yX2_odds : MethodName := ⟨RX2, "odds", "(III)J"⟩
abbrev cX2_sheet : ByteArray := prog_1_method_20_code
def yX2_sheet : MethodName := ⟨RX2, "sheet", "(III)I"⟩
abbrev cX2_lose : ByteArray := prog_1_method_21_code
def yX2_lose : MethodName := ⟨RX2, "lose", "(I)I"⟩
abbrev cX2_put : ByteArray := prog_1_method_22_code
def yX2_put : MethodName := ⟨RX2, "put", "(III)I"⟩
abbrev cX2_cell : ByteArray := prog_1_method_23_code
def yX2_cell : MethodName := ⟨RX2, "cell", "(III)J"⟩
abbrev cX2_copy : ByteArray := prog_1_method_24_code
def yX2_copy : MethodName := ⟨RX2, "copy", "(IIIII)I"⟩
abbrev cX2_tell : ByteArray := prog_1_method_25_code
def yX2_tell : MethodName := ⟨RX2, "tell", "(I)I"⟩
abbrev cX2_knock : ByteArray := prog_1_method_26_code
def yX2_knock : MethodName := ⟨RX2, "knock", "(I)I"⟩
abbrev cX2_as : ByteArray := prog_1_method_27_code
def yX2_as : MethodName := ⟨RX2, "as", "(II)I"⟩
abbrev cX2_trace : ByteArray := prog_1_method_28_code
def yX2_trace : MethodName := ⟨RX2, "trace", "()I"⟩
abbrev cX2_fault : ByteArray := prog_1_method_29_code
def yX2_fault : MethodName := ⟨RX2, "fault", "()I"⟩
abbrev cX2_many : ByteArray := prog_1_method_30_code
def yX2_many : MethodName := ⟨RX2, "many", "(I)I"⟩
abbrev cX2_hasStreet : ByteArray := prog_1_method_31_code
def yX2_hasStreet : MethodName := ⟨RX2, "hasStreet", "()Z"⟩
abbrev cX2_isHouse : ByteArray := prog_1_method_32_code
def yX2_isHouse : MethodName := ⟨RX2, "isHouse", "(I)Z"⟩
abbrev cX2_isSheet : ByteArray := prog_1_method_33_code
def yX2_isSheet : MethodName := ⟨RX2, "isSheet", "(I)Z"⟩
abbrev cX2_isLane : ByteArray := prog_1_method_34_code
def yX2_isLane : MethodName := ⟨RX2, "isLane", "(I)Z"⟩
abbrev cX2_isTemper : ByteArray := prog_1_method_35_code
def yX2_isTemper : MethodName := ⟨RX2, "isTemper", "(I)Z"⟩
abbrev cX2_isCrate : ByteArray := prog_1_method_36_code
def yX2_isCrate : MethodName := ⟨RX2, "isCrate", "(I)Z"⟩
abbrev cX2_isAskedOfSeason : ByteArray := prog_1_method_37_code
def yX2_isAskedOfSeason : MethodName := ⟨RX2, "isAskedOfSeason", "(I)Z"⟩
abbrev cX2_fails : ByteArray := prog_1_method_38_code
def yX2_fails : MethodName := ⟨RX2, "fails", "(I)I"⟩
abbrev cX2_firstTextFault : ByteArray := prog_1_method_39_code
def yX2_firstTextFault : MethodName := ⟨RX2, "firstTextFault", "([III)I"⟩
abbrev cX2_goesOn : ByteArray := prog_1_method_40_code
def yX2_goesOn : MethodName := ⟨RX2, "goesOn", "(II)Z"⟩
abbrev cX2_isDigit : ByteArray := prog_1_method_41_code
def yX2_isDigit : MethodName := ⟨RX2, "isDigit", "(I)Z"⟩
abbrev cX2_kindByLetter : ByteArray := prog_1_method_42_code
def yX2_kindByLetter : MethodName := ⟨RX2, "kindByLetter", "(I)I"⟩
abbrev cX2_refusalOfPairs : ByteArray := prog_1_method_43_code
def yX2_refusalOfPairs : MethodName := ⟨RX2, "refusalOfPairs", "([III)I"⟩
abbrev cX2_refusalOfPair : ByteArray := prog_1_method_44_code
def yX2_refusalOfPair : MethodName := ⟨RX2, "refusalOfPair", "(II)I"⟩
abbrev cX2_actPairs : ByteArray := prog_1_method_45_code
def yX2_actPairs : MethodName := ⟨RX2, "actPairs", "([III)I"⟩
abbrev cX2_actPair : ByteArray := prog_1_method_46_code
def yX2_actPair : MethodName := ⟨RX2, "actPair", "(II)Z"⟩
abbrev cX2_answerOfSeason : ByteArray := prog_1_method_47_code
def yX2_answerOfSeason : MethodName := ⟨RX2, "answerOfSeason", "(I)I"⟩
abbrev cX2_loserByOneMore : ByteArray := prog_1_method_48_code
def yX2_loserByOneMore : MethodName := ⟨RX2, "loserByOneMore", "(I)I"⟩
abbrev cX2_apartBy : ByteArray := prog_1_method_49_code
def yX2_apartBy : MethodName := ⟨RX2, "apartBy", "(I)I"⟩
abbrev cX2_readingsHoldInTrial : ByteArray := prog_1_method_50_code
def yX2_readingsHoldInTrial : MethodName := ⟨RX2, "readingsHoldInTrial", "()Z"⟩
abbrev cX2_tellAsPlain : ByteArray := prog_1_method_51_code
def yX2_tellAsPlain : MethodName := ⟨RX2, "tellAsPlain", "(I)I"⟩
abbrev cX2_tellAsTart : ByteArray := prog_1_method_52_code
def yX2_tellAsTart : MethodName := ⟨RX2, "tellAsTart", "(I)I"⟩
abbrev cX2_tellAsBitter : ByteArray := prog_1_method_53_code
def yX2_tellAsBitter : MethodName := ⟨RX2, "tellAsBitter", "(I)I"⟩
abbrev cX2_leaveInTrace : ByteArray := prog_1_method_54_code
def yX2_leaveInTrace : MethodName := ⟨RX2, "leaveInTrace", "(I)V"⟩
def RX3 : String := "LemonDealsModel"
def TX3 : u_T := fun k => match k with
  | 0 => ("LemonDealsModel", "fault", "I", false)
  | 1 => ("LemonDealsModel", "houses", "I", false)
  | 2 => ("LemonDealsModel", "crateNow", "I", false)
  | 3 => ("LemonDealsModel", "weekNow", "I", false)
  | 4 => ("LemonDealsModel", "kindOf", "[I", true)
  | 5 => ("LemonDealsModel", "temperOf", "[I", true)
  | 6 => ("LemonDealsModel", "stockOf", "[I", true)
  | 7 => ("LemonDealsModel", "pipsOf", "[I", true)
  | 8 => ("LemonDealsModel", "readAt", "I", false)
  | 9 => ("LemonDealsModel", "readHouses", "I", false)
  | 10 => ("LemonDealsModel", "readCrate", "I", false)
  | 11 => ("LemonDealsModel", "readKind", "[I", true)
  | 12 => ("LemonDealsModel", "readTemper", "[I", true)
  | 13 => ("LemonDealsModel", "readStock", "[I", true)
  | 14 => ("LemonDealsModel", "dealtNow", "[I", true)
  | 15 => ("LemonDealsModel", "crateKept", "I", false)
  | 16 => ("LemonDealsModel", "weekKept", "I", false)
  | 17 => ("LemonDealsModel", "temperKept", "[I", true)
  | 18 => ("LemonDealsModel", "stockKept", "[I", true)
  | 19 => ("LemonDealsModel", "pipsKept", "[I", true)
  | 20 => ("LemonDealsModel", "weeksWithout", "I", false)
  | 21 => ("LemonDealsModel", "gotSoFar", "[I", true)
  | 22 => ("LemonDealsModel", "readings", "I", false)
  | 23 => ("LemonDealsModel", "readingOf", "[I", true)
  | 24 => ("LemonDealsModel", "readingWas", "[I", true)
  | 25 => ("LemonDealsModel", "sheetSize", "[I", true)
  | 26 => ("LemonDealsModel", "sheetLane", "[I", true)
  | 27 => ("LemonDealsModel", "sheet", "[I", true)
  | 28 => ("LemonDealsModel", "hands", "[I", true)
  | _ => ("LemonDealsModel", "traceNow", "I", false)
def tyX3 : Nat → FieldType := fun k => match k with
  | 0 => .int
  | 1 => .int
  | 2 => .int
  | 3 => .int
  | 4 => .array .int
  | 5 => .array .int
  | 6 => .array .int
  | 7 => .array .int
  | 8 => .int
  | 9 => .int
  | 10 => .int
  | 11 => .array .int
  | 12 => .array .int
  | 13 => .array .int
  | 14 => .array .int
  | 15 => .int
  | 16 => .int
  | 17 => .array .int
  | 18 => .array .int
  | 19 => .array .int
  | 20 => .int
  | 21 => .array .int
  | 22 => .int
  | 23 => .array .int
  | 24 => .array .int
  | 25 => .array .int
  | 26 => .array .int
  | 27 => .array .int
  | 28 => .array .int
  | _ => .int
abbrev wsX30 : List Cond := u_ws RX3 TX3 30
theorem nmX3 : ∀ a, a < 30 → ∀ b, b < 30 → a ≠ b → (TX3 a).2.1 ≠ (TX3 b).2.1 := by decide +kernel
theorem tyX3_ok : ∀ k, k < 30 → parseFieldDescriptor (TX3 k).2.2.1 = some (tyX3 k) := by decide +kernel
abbrev cX3_init : ByteArray := prog_5_method_1_code
def yX3_init : MethodName := ⟨RX3, "<init>", "()V"⟩
abbrev cX3_in : ByteArray := prog_5_method_2_code
def yX3_in : MethodName := ⟨RX3, "in", "(JJJ)Z"⟩
abbrev cX3_lost : ByteArray := prog_5_method_3_code
def yX3_lost : MethodName := ⟨RX3, "lost", "()J"⟩
abbrev cX3_isIn : ByteArray := prog_5_method_4_code
def yX3_isIn : MethodName := ⟨RX3, "isIn", "(II)Z"⟩
abbrev cX3_share : ByteArray := prog_5_method_5_code
def yX3_share : MethodName := ⟨RX3, "share", "(JJI)J"⟩
abbrev cX3_refused : ByteArray := prog_5_method_6_code
def yX3_refused : MethodName := ⟨RX3, "refused", "(I)I"⟩
abbrev cX3_failed : ByteArray := prog_5_method_7_code
def yX3_failed : MethodName := ⟨RX3, "failed", "(I)I"⟩
abbrev cX3_failedLong : ByteArray := prog_5_method_8_code
def yX3_failedLong : MethodName := ⟨RX3, "failedLong", "(I)J"⟩
abbrev cX3_noHouse : ByteArray := prog_5_method_9_code
def yX3_noHouse : MethodName := ⟨RX3, "noHouse", "(I)Z"⟩
abbrev cX3_isCrate : ByteArray := prog_5_method_10_code
def yX3_isCrate : MethodName := ⟨RX3, "isCrate", "(I)Z"⟩
abbrev cX3_codeAt : ByteArray := prog_5_method_11_code
def yX3_codeAt : MethodName := ⟨RX3, "codeAt", "(II)I"⟩
abbrev cX3_figure : ByteArray := prog_5_method_12_code
def yX3_figure : MethodName := ⟨RX3, "figure", "(III)I"⟩
abbrev cX3_readsHouse : ByteArray := prog_5_method_13_code
def yX3_readsHouse : MethodName := ⟨RX3, "readsHouse", "(II)Z"⟩
abbrev cX3_readsStreet : ByteArray := prog_5_method_14_code
def yX3_readsStreet : MethodName := ⟨RX3, "readsStreet", "(II)Z"⟩
abbrev cX3_cellsBarred : ByteArray := prog_5_method_15_code
def yX3_cellsBarred : MethodName := ⟨RX3, "cellsBarred", "(IIIJ)I"⟩
abbrev cX3_street : ByteArray := prog_5_method_16_code
def yX3_street : MethodName := ⟨RX3, "street", "(IIII)I"⟩
abbrev cX3_sourOf : ByteArray := prog_5_method_17_code
def yX3_sourOf : MethodName := ⟨RX3, "sourOf", "(I)I"⟩
abbrev cX3_sourOfAll : ByteArray := prog_5_method_18_code
def yX3_sourOfAll : MethodName := ⟨RX3, "sourOfAll", "()I"⟩
abbrev cX3_aheadOf : ByteArray := prog_5_method_19_code
def yX3_aheadOf : MethodName := ⟨RX3, "aheadOf", "(III)I"⟩
abbrev cX3_dealtTo : ByteArray := prog_5_method_20_code
def yX3_dealtTo : MethodName := ⟨RX3, "dealtTo", "(II)I"⟩
abbrev cX3_ofHouse : ByteArray := prog_5_method_21_code
def yX3_ofHouse : MethodName := ⟨RX3, "ofHouse", "(II)I"⟩
abbrev cX3_anger : ByteArray := prog_5_method_22_code
def yX3_anger : MethodName := ⟨RX3, "anger", "(II)I"⟩
abbrev cX3_crate : ByteArray := prog_5_method_23_code
def yX3_crate : MethodName := ⟨RX3, "crate", "(I)I"⟩
abbrev cX3_deal : ByteArray := prog_5_method_24_code
def yX3_deal : MethodName := ⟨RX3, "deal", "(II)I"⟩
abbrev cX3_passes : ByteArray := prog_5_method_25_code
def yX3_passes : MethodName := ⟨RX3, "passes", "()V"⟩
abbrev cX3_without : ByteArray := prog_5_method_26_code
def yX3_without : MethodName := ⟨RX3, "without", "()I"⟩
abbrev cX3_weeks : ByteArray := prog_5_method_27_code
def yX3_weeks : MethodName := ⟨RX3, "weeks", "(I)I"⟩
abbrev cX3_gave : ByteArray := prog_5_method_28_code
def yX3_gave : MethodName := ⟨RX3, "gave", "(I)Z"⟩
abbrev cX3_gift : ByteArray := prog_5_method_29_code
def yX3_gift : MethodName := ⟨RX3, "gift", "(I)I"⟩
abbrev cX3_keepAll : ByteArray := prog_5_method_30_code
def yX3_keepAll : MethodName := ⟨RX3, "keepAll", "()V"⟩
abbrev cX3_bringBack : ByteArray := prog_5_method_31_code
def yX3_bringBack : MethodName := ⟨RX3, "bringBack", "()V"⟩
abbrev cX3_pairsBarred : ByteArray := prog_5_method_32_code
def yX3_pairsBarred : MethodName := ⟨RX3, "pairsBarred", "(II)I"⟩
abbrev cX3_did : ByteArray := prog_5_method_33_code
def yX3_did : MethodName := ⟨RX3, "did", "(II)Z"⟩
abbrev cX3_seasonBy : ByteArray := prog_5_method_34_code
def yX3_seasonBy : MethodName := ⟨RX3, "seasonBy", "(III)I"⟩
abbrev cX3_season : ByteArray := prog_5_method_35_code
def yX3_season : MethodName := ⟨RX3, "season", "(IIIII)I"⟩
abbrev cX3_worstTemper : ByteArray := prog_5_method_36_code
def yX3_worstTemper : MethodName := ⟨RX3, "worstTemper", "()I"⟩
abbrev cX3_calm : ByteArray := prog_5_method_37_code
def yX3_calm : MethodName := ⟨RX3, "calm", "(II)I"⟩
abbrev cX3_wonder : ByteArray := prog_5_method_38_code
def yX3_wonder : MethodName := ⟨RX3, "wonder", "(I)I"⟩
abbrev cX3_nextOne : ByteArray := prog_5_method_39_code
def yX3_nextOne : MethodName := ⟨RX3, "nextOne", "()I"⟩
abbrev cX3_otherwise : ByteArray := prog_5_method_40_code
def yX3_otherwise : MethodName := ⟨RX3, "otherwise", "(I)I"⟩
abbrev cX3_apart : ByteArray := prog_5_method_41_code
def yX3_apart : MethodName := ⟨RX3, "apart", "(I)I"⟩
abbrev cX3_halves : ByteArray := prog_5_method_42_code
def yX3_halves : MethodName := ⟨RX3, "halves", "(I)I"⟩
abbrev cX3_reading : ByteArray := prog_5_method_43_code
def yX3_reading : MethodName := ⟨RX3, "reading", "(II)I"⟩
abbrev cX3_back : ByteArray := prog_5_method_44_code
def yX3_back : MethodName := ⟨RX3, "back", "(I)I"⟩
abbrev cX3_areSo : ByteArray := prog_5_method_45_code
def yX3_areSo : MethodName := ⟨RX3, "areSo", "()Z"⟩
abbrev cX3_tempers : ByteArray := prog_5_method_46_code
def yX3_tempers : MethodName := ⟨RX3, "tempers", "(I)I"⟩
abbrev cX3_kinds : ByteArray := prog_5_method_47_code
def yX3_kinds : MethodName := ⟨RX3, "kinds", "(I)I"⟩
abbrev cX3_crates : ByteArray := prog_5_method_48_code
def yX3_crates : MethodName := ⟨RX3, "crates", "(I)I"⟩
abbrev cX3_odds : ByteArray := prog_5_method_49_code
def yX3_odds : MethodName := ⟨RX3, "odds", "(III)J"⟩
abbrev cX3_noSheet : ByteArray := prog_5_method_50_code
def yX3_noSheet : MethodName := ⟨RX3, "noSheet", "(I)Z"⟩
abbrev cX3_sheet : ByteArray := prog_5_method_51_code
def yX3_sheet : MethodName := ⟨RX3, "sheet", "(III)I"⟩
abbrev cX3_lose : ByteArray := prog_5_method_52_code
def yX3_lose : MethodName := ⟨RX3, "lose", "(I)I"⟩
abbrev cX3_noCell : ByteArray := prog_5_method_53_code
def yX3_noCell : MethodName := ⟨RX3, "noCell", "(II)I"⟩
abbrev cX3_put : ByteArray := prog_5_method_54_code
def yX3_put : MethodName := ⟨RX3, "put", "(III)I"⟩
abbrev cX3_cell : ByteArray := prog_5_method_55_code
def yX3_cell : MethodName := ⟨RX3, "cell", "(III)J"⟩
abbrev cX3_isBeyond : ByteArray := prog_5_method_56_code
def yX3_isBeyond : MethodName := ⟨RX3, "isBeyond", "(IJI)Z"⟩
abbrev cX3_copy : ByteArray := prog_5_method_57_code
def yX3_copy : MethodName := ⟨RX3, "copy", "(IIIII)I"⟩
abbrev cX3_traced : ByteArray := prog_5_method_58_code
def yX3_traced : MethodName := ⟨RX3, "traced", "(I)V"⟩
abbrev cX3_tell : ByteArray := prog_5_method_59_code
def yX3_tell : MethodName := ⟨RX3, "tell", "(I)I"⟩
abbrev cX3_knock : ByteArray := prog_5_method_60_code
def yX3_knock : MethodName := ⟨RX3, "knock", "(I)I"⟩
abbrev cX3_as : ByteArray := prog_5_method_61_code
def yX3_as : MethodName := ⟨RX3, "as", "(II)I"⟩
abbrev cX3_trace : ByteArray := prog_5_method_62_code
def yX3_trace : MethodName := ⟨RX3, "trace", "()I"⟩
abbrev cX3_fault : ByteArray := prog_5_method_63_code
def yX3_fault : MethodName := ⟨RX3, "fault", "()I"⟩
abbrev cX3_many : ByteArray := prog_5_method_64_code
def yX3_many : MethodName := ⟨RX3, "many", "(I)I"⟩
def RJ9 : String := "java/lang/Math"
def TJ9 : u_T := fun k => match k with
  | _ => ("", "", "", false)
def tyJ9 : Nat → FieldType := fun k => match k with
  | _ => .int
abbrev wsJ90 : List Cond := u_ws RJ9 TJ9 0
theorem nmJ9 : ∀ a, a < 0 → ∀ b, b < 0 → a ≠ b → (TJ9 a).2.1 ≠ (TJ9 b).2.1 := by decide +kernel
theorem tyJ9_ok : ∀ k, k < 0 → parseFieldDescriptor (TJ9 k).2.2.1 = some (tyJ9 k) := by decide +kernel
abbrev cJ9_abs_0f7a4 : ByteArray := prog_6_method_59_code
def yJ9_abs_0f7a4 : MethodName := ⟨RJ9, "abs", "(I)I"⟩
abbrev cJ9_max_7cf53 : ByteArray := prog_6_method_65_code
def yJ9_max_7cf53 : MethodName := ⟨RJ9, "max", "(II)I"⟩
abbrev cJ9_min_7cf53 : ByteArray := prog_6_method_69_code
def yJ9_min_7cf53 : MethodName := ⟨RJ9, "min", "(II)I"⟩
def RJ10 : String := "java/lang/System"
def TJ10 : u_T := fun k => match k with
  | _ => ("", "", "", false)
def tyJ10 : Nat → FieldType := fun k => match k with
  | _ => .int
abbrev wsJ100 : List Cond := u_ws RJ10 TJ10 0
theorem nmJ10 : ∀ a, a < 0 → ∀ b, b < 0 → a ≠ b → (TJ10 a).2.1 ≠ (TJ10 b).2.1 := by decide +kernel
theorem tyJ10_ok : ∀ k, k < 0 → parseFieldDescriptor (TJ10 k).2.2.1 = some (tyJ10 k) := by decide +kernel
def RL : String := "LemonDealsLaw"
abbrev cL_law : ByteArray := code
def yL_law : MethodName := ⟨RL, "law", "([I)Z"⟩
def wsL_law_r1 : List Cond := [Cond.classLink RL 7 RX2, Cond.instantiable RX2 8, Cond.initialized RX2, Cond.classLink RL 10 RX3, Cond.instantiable RX3 30, Cond.initialized RX3, Cond.methodLink RL 9 yX2_init, Cond.instanceMethod yX2_init, Cond.code yX2_init cX2_init 2 none, Cond.methodLink RX2 5 objectInit, Cond.instanceMethod objectInit, Cond.code objectInit ⟨#[0xb1]⟩ 1 none, Cond.classLink RX2 11 RX1, Cond.instantiable RX1 11, Cond.initialized RX1, Cond.fieldLink RX2 14 "LemonDeals" "now" "LLemonDeals$Street;", Cond.fieldLink RX2 18 "LemonDeals" "trial" "LLemonDeals$Street;", Cond.classLink RX2 21 RX0, Cond.fieldLink RX2 23 "LemonDeals" "sheets" "[LLemonDeals$Sheet;", Cond.arrayClass .int, Cond.fieldLink RX2 27 "LemonDeals" "readHouse" "[I", Cond.fieldLink RX2 31 "LemonDeals" "readDealt" "[I", Cond.fieldLink RX2 34 "LemonDeals" "readings" "I", Cond.fieldLink RX2 38 "LemonDeals" "traced" "I"]
def wsL_law_r2 : List Cond := [Cond.fieldLink RX2 41 "LemonDeals" "lastFault" "I", Cond.instantiable RX0 3, Cond.initialized RX0, Cond.instanceMethod yX1_init, Cond.code yX1_init cX1_init 1 none, Cond.methodLink RX1 3 objectInit, Cond.fieldLink RX1 9 "LemonDeals$Street" "houses" "I", Cond.fieldLink RX1 15 "LemonDeals$Street" "crate" "I", Cond.fieldLink RX1 18 "LemonDeals$Street" "week" "I", Cond.fieldLink RX1 21 "LemonDeals$Street" "leanWeeks" "I", Cond.fieldLink RX1 24 "LemonDeals$Street" "kind" "[I", Cond.fieldLink RX1 28 "LemonDeals$Street" "temper" "[I", Cond.fieldLink RX1 31 "LemonDeals$Street" "stock" "[I", Cond.fieldLink RX1 34 "LemonDeals$Street" "pips" "[I", Cond.fieldLink RX1 37 "LemonDeals$Street" "sour" "[I", Cond.fieldLink RX1 40 "LemonDeals$Street" "dealt" "[I", Cond.fieldLink RX1 43 "LemonDeals$Street" "remainder" "[I", Cond.instanceMethod yX0_init, Cond.code yX0_init cX0_init 1 none, Cond.methodLink RX0 3 objectInit, Cond.fieldLink RX0 9 "LemonDeals$Sheet" "cells" "[I", Cond.fieldLink RX0 15 "LemonDeals$Sheet" "lane" "I", Cond.fieldLink RX0 19 "LemonDeals$Sheet" "length" "I", Cond.methodLink RL 12 yX3_init]
def wsL_law_r3 : List Cond := [Cond.instanceMethod yX3_init, Cond.code yX3_init cX3_init 2 none, Cond.methodLink RX3 1 objectInit, Cond.fieldLink RX3 7 "LemonDealsModel" "kindOf" "[I", Cond.fieldLink RX3 13 "LemonDealsModel" "temperOf" "[I", Cond.fieldLink RX3 16 "LemonDealsModel" "stockOf" "[I", Cond.fieldLink RX3 19 "LemonDealsModel" "pipsOf" "[I", Cond.fieldLink RX3 22 "LemonDealsModel" "readKind" "[I", Cond.fieldLink RX3 25 "LemonDealsModel" "readTemper" "[I", Cond.fieldLink RX3 28 "LemonDealsModel" "readStock" "[I", Cond.fieldLink RX3 31 "LemonDealsModel" "dealtNow" "[I", Cond.fieldLink RX3 34 "LemonDealsModel" "temperKept" "[I", Cond.fieldLink RX3 37 "LemonDealsModel" "stockKept" "[I", Cond.fieldLink RX3 40 "LemonDealsModel" "pipsKept" "[I", Cond.fieldLink RX3 43 "LemonDealsModel" "gotSoFar" "[I", Cond.fieldLink RX3 46 "LemonDealsModel" "readingOf" "[I", Cond.fieldLink RX3 49 "LemonDealsModel" "readingWas" "[I", Cond.fieldLink RX3 52 "LemonDealsModel" "sheetSize" "[I", Cond.fieldLink RX3 55 "LemonDealsModel" "sheetLane" "[I", Cond.fieldLink RX3 58 "LemonDealsModel" "sheet" "[I", Cond.fieldLink RX3 61 "LemonDealsModel" "hands" "[I", Cond.methodLink RL 13 yX2_street, Cond.instanceMethod yX2_street, Cond.selects RX2 yX2_street yX2_street]
def wsL_law_r4 : List Cond := [Cond.code yX2_street cX2_street 8 (some .int), Cond.methodLink RX2 45 yX2_isSheet, Cond.static yX2_isSheet, Cond.code yX2_isSheet cX2_isSheet 1 (some .boolean), Cond.methodLink RX2 49 yX2_isLane, Cond.static yX2_isLane, Cond.code yX2_isLane cX2_isLane 1 (some .boolean), Cond.instanceMethod yX0_faultAs, Cond.selects RX0 yX0_faultAs yX0_faultAs, Cond.code yX0_faultAs cX0_faultAs 2 (some .int), Cond.methodLink RX0 22 yX0_isThere, Cond.instanceMethod yX0_isThere, Cond.selects RX0 yX0_isThere yX0_isThere, Cond.code yX0_isThere cX0_isThere 1 (some .boolean), Cond.instanceMethod yX0_lacks, Cond.selects RX0 yX0_lacks yX0_lacks, Cond.code yX0_lacks cX0_lacks 3 (some .boolean), Cond.methodLink RX2 60 yX2_fails, Cond.instanceMethod yX2_fails, Cond.selects RX2 yX2_fails yX2_fails, Cond.code yX2_fails cX2_fails 2 (some .int), Cond.methodLink RX2 66 yX2_firstTextFault, Cond.static yX2_firstTextFault, Cond.code yX2_firstTextFault cX2_firstTextFault 4 (some .int)]
def wsL_law_r5 : List Cond := [Cond.methodLink RX2 202 yX2_goesOn, Cond.static yX2_goesOn, Cond.code yX2_goesOn cX2_goesOn 2 (some .boolean), Cond.methodLink RX2 205 yX2_isDigit, Cond.static yX2_isDigit, Cond.code yX2_isDigit cX2_isDigit 1 (some .boolean), Cond.methodLink RX2 208 yX2_kindByLetter, Cond.static yX2_kindByLetter, Cond.code yX2_kindByLetter cX2_kindByLetter 1 (some .int), Cond.instanceMethod yX1_beginByText, Cond.selects RX1 yX1_beginByText yX1_beginByText, Cond.code yX1_beginByText cX1_beginByText 6 none, Cond.methodLink RX1 46 Lib.Math.min.name, Cond.static Lib.Math.min.name, Cond.initialized "java/lang/Math", Cond.code Lib.Math.min.name Lib.Math.min.code 2 (some .int), Cond.methodLink RL 17 yX3_street, Cond.instanceMethod yX3_street, Cond.selects RX3 yX3_street yX3_street, Cond.code yX3_street cX3_street 7 (some .int), Cond.constantLong RX3 121 (2), Cond.fieldLink RX3 83 "LemonDealsModel" "readAt" "I", Cond.fieldLink RX3 92 "LemonDealsModel" "readHouses" "I", Cond.fieldLink RX3 74 "LemonDealsModel" "houses" "I"]
def wsL_law_r6 : List Cond := [Cond.fieldLink RX3 99 "LemonDealsModel" "readCrate" "I", Cond.fieldLink RX3 130 "LemonDealsModel" "crateNow" "I", Cond.fieldLink RX3 133 "LemonDealsModel" "weekNow" "I", Cond.fieldLink RX3 136 "LemonDealsModel" "readings" "I", Cond.methodLink RX3 114 yX3_noSheet, Cond.static yX3_noSheet, Cond.code yX3_noSheet cX3_noSheet 1 (some .boolean), Cond.constantLong RX3 225 (3), Cond.methodLink RX3 77 yX3_in, Cond.static yX3_in, Cond.code yX3_in cX3_in 6 (some .boolean), Cond.methodLink RX3 118 yX3_refused, Cond.instanceMethod yX3_refused, Cond.selects RX3 yX3_refused yX3_refused, Cond.code yX3_refused cX3_refused 2 (some .int), Cond.fieldLink RX3 66 "LemonDealsModel" "fault" "I", Cond.methodLink RX3 123 yX3_cellsBarred, Cond.instanceMethod yX3_cellsBarred, Cond.selects RX3 yX3_cellsBarred yX3_cellsBarred, Cond.code yX3_cellsBarred cX3_cellsBarred 6 (some .int), Cond.methodLink RX3 106 yX3_failed, Cond.instanceMethod yX3_failed, Cond.selects RX3 yX3_failed yX3_failed, Cond.code yX3_failed cX3_failed 2 (some .int)]
def wsL_law_r7 : List Cond := [Cond.methodLink RX3 110 yX3_isBeyond, Cond.static yX3_isBeyond, Cond.code yX3_isBeyond cX3_isBeyond 4 (some .boolean), Cond.methodLink RX3 127 yX3_readsStreet, Cond.instanceMethod yX3_readsStreet, Cond.selects RX3 yX3_readsStreet yX3_readsStreet, Cond.code yX3_readsStreet cX3_readsStreet 6 (some .boolean), Cond.methodLink RX3 86 yX3_codeAt, Cond.instanceMethod yX3_codeAt, Cond.selects RX3 yX3_codeAt yX3_codeAt, Cond.code yX3_codeAt cX3_codeAt 3 (some .int), Cond.methodLink RX3 95 yX3_figure, Cond.instanceMethod yX3_figure, Cond.selects RX3 yX3_figure yX3_figure, Cond.code yX3_figure cX3_figure 6 (some .int), Cond.constantLong RX3 90 (9), Cond.methodLink RX3 102 yX3_readsHouse, Cond.instanceMethod yX3_readsHouse, Cond.selects RX3 yX3_readsHouse yX3_readsHouse, Cond.code yX3_readsHouse cX3_readsHouse 6 (some .boolean), Cond.methodLink RL 18 yX2_ofHouse, Cond.instanceMethod yX2_ofHouse, Cond.selects RX2 yX2_ofHouse yX2_ofHouse, Cond.code yX2_ofHouse cX2_ofHouse 3 (some .int)]
def wsL_law_r8 : List Cond := [Cond.methodLink RX2 77 yX2_isHouse, Cond.instanceMethod yX2_isHouse, Cond.selects RX2 yX2_isHouse yX2_isHouse, Cond.code yX2_isHouse cX2_isHouse 2 (some .boolean), Cond.instanceMethod yX1_treesOf, Cond.selects RX1 yX1_treesOf yX1_treesOf, Cond.code yX1_treesOf cX1_treesOf 2 (some .int), Cond.instanceMethod yX1_sourOf, Cond.selects RX1 yX1_sourOf yX1_sourOf, Cond.code yX1_sourOf cX1_sourOf 2 (some .int), Cond.instanceMethod yX1_dealtTo, Cond.selects RX1 yX1_dealtTo yX1_dealtTo, Cond.code yX1_dealtTo cX1_dealtTo 3 (some .int), Cond.methodLink RX1 56 yX1_dealOut, Cond.instanceMethod yX1_dealOut, Cond.selects RX1 yX1_dealOut yX1_dealOut, Cond.code yX1_dealOut cX1_dealOut 5 none, Cond.methodLink RX1 60 yX1_sourOf, Cond.methodLink RX1 63 yX1_aheadByRemainder, Cond.instanceMethod yX1_aheadByRemainder, Cond.selects RX1 yX1_aheadByRemainder yX1_aheadByRemainder, Cond.code yX1_aheadByRemainder cX1_aheadByRemainder 4 (some .int), Cond.methodLink RL 22 yX3_ofHouse, Cond.instanceMethod yX3_ofHouse]
def wsL_law_r9 : List Cond := [Cond.selects RX3 yX3_ofHouse yX3_ofHouse, Cond.code yX3_ofHouse cX3_ofHouse 3 (some .int), Cond.methodLink RX3 149 yX3_noHouse, Cond.instanceMethod yX3_noHouse, Cond.selects RX3 yX3_noHouse yX3_noHouse, Cond.code yX3_noHouse cX3_noHouse 2 (some .boolean), Cond.methodLink RX3 139 yX3_sourOf, Cond.instanceMethod yX3_sourOf, Cond.selects RX3 yX3_sourOf yX3_sourOf, Cond.code yX3_sourOf cX3_sourOf 3 (some .int), Cond.methodLink RX3 152 yX3_dealtTo, Cond.instanceMethod yX3_dealtTo, Cond.selects RX3 yX3_dealtTo yX3_dealtTo, Cond.code yX3_dealtTo cX3_dealtTo 6 (some .int), Cond.methodLink RX3 142 yX3_sourOfAll, Cond.instanceMethod yX3_sourOfAll, Cond.selects RX3 yX3_sourOfAll yX3_sourOfAll, Cond.code yX3_sourOfAll cX3_sourOfAll 3 (some .int), Cond.methodLink RX3 146 yX3_aheadOf, Cond.instanceMethod yX3_aheadOf, Cond.selects RX3 yX3_aheadOf yX3_aheadOf, Cond.code yX3_aheadOf cX3_aheadOf 8 (some .int), Cond.methodLink RL 23 yX2_anger, Cond.instanceMethod yX2_anger]
def wsL_law_r10 : List Cond := [Cond.selects RX2 yX2_anger yX2_anger, Cond.code yX2_anger cX2_anger 4 (some .int), Cond.methodLink RX2 105 yX2_isTemper, Cond.static yX2_isTemper, Cond.code yX2_isTemper cX2_isTemper 1 (some .boolean), Cond.methodLink RL 26 yX3_anger, Cond.instanceMethod yX3_anger, Cond.selects RX3 yX3_anger yX3_anger, Cond.code yX3_anger cX3_anger 4 (some .int), Cond.methodLink RL 27 yX2_crate, Cond.instanceMethod yX2_crate, Cond.selects RX2 yX2_crate yX2_crate, Cond.code yX2_crate cX2_crate 3 (some .int), Cond.methodLink RX2 108 yX2_hasStreet, Cond.instanceMethod yX2_hasStreet, Cond.selects RX2 yX2_hasStreet yX2_hasStreet, Cond.code yX2_hasStreet cX2_hasStreet 1 (some .boolean), Cond.methodLink RX2 112 yX2_isCrate, Cond.static yX2_isCrate, Cond.code yX2_isCrate cX2_isCrate 1 (some .boolean), Cond.methodLink RL 31 yX3_crate, Cond.instanceMethod yX3_crate, Cond.selects RX3 yX3_crate yX3_crate, Cond.code yX3_crate cX3_crate 3 (some .int)]
def wsL_law_r11 : List Cond := [Cond.methodLink RX3 155 yX3_isCrate, Cond.static yX3_isCrate, Cond.code yX3_isCrate cX3_isCrate 1 (some .boolean), Cond.constantLong RX3 81 (99), Cond.methodLink RL 32 yX2_deal, Cond.instanceMethod yX2_deal, Cond.selects RX2 yX2_deal yX2_deal, Cond.code yX2_deal cX2_deal 3 (some .int), Cond.methodLink RL 35 yX3_deal, Cond.instanceMethod yX3_deal, Cond.selects RX3 yX3_deal yX3_deal, Cond.code yX3_deal cX3_deal 3 (some .int), Cond.methodLink RL 36 yX2_weeks, Cond.instanceMethod yX2_weeks, Cond.selects RX2 yX2_weeks yX2_weeks, Cond.code yX2_weeks cX2_weeks 2 (some .int), Cond.instanceMethod yX1_passWeeks, Cond.selects RX1 yX1_passWeeks yX1_passWeeks, Cond.code yX1_passWeeks cX1_passWeeks 3 none, Cond.methodLink RX1 74 yX1_passWeek, Cond.instanceMethod yX1_passWeek, Cond.selects RX1 yX1_passWeek yX1_passWeek, Cond.code yX1_passWeek cX1_passWeek 2 none, Cond.methodLink RX1 77 yX1_treesOf]
def wsL_law_r12 : List Cond := [Cond.methodLink RX1 80 yX1_suck, Cond.instanceMethod yX1_suck, Cond.selects RX1 yX1_suck yX1_suck, Cond.code yX1_suck cX1_suck 2 none, Cond.methodLink RX1 86 Lib.Math.max.name, Cond.static Lib.Math.max.name, Cond.code Lib.Math.max.name Lib.Math.max.code 2 (some .int), Cond.methodLink RX1 83 yX1_withoutStock, Cond.instanceMethod yX1_withoutStock, Cond.selects RX1 yX1_withoutStock yX1_withoutStock, Cond.code yX1_withoutStock cX1_withoutStock 3 (some .int), Cond.methodLink RL 39 yX3_weeks, Cond.instanceMethod yX3_weeks, Cond.selects RX3 yX3_weeks yX3_weeks, Cond.code yX3_weeks cX3_weeks 3 (some .int), Cond.constantLong RX3 158 (60), Cond.methodLink RX3 160 yX3_passes, Cond.instanceMethod yX3_passes, Cond.selects RX3 yX3_passes yX3_passes, Cond.code yX3_passes cX3_passes 4 none, Cond.methodLink RX3 163 yX3_without, Cond.instanceMethod yX3_without, Cond.selects RX3 yX3_without yX3_without, Cond.code yX3_without cX3_without 3 (some .int)]
def wsL_law_r13 : List Cond := [Cond.methodLink RL 40 yX2_gift, Cond.instanceMethod yX2_gift, Cond.selects RX2 yX2_gift yX2_gift, Cond.code yX2_gift cX2_gift 2 (some .int), Cond.instanceMethod yX1_giveOneFrom, Cond.selects RX1 yX1_giveOneFrom yX1_giveOneFrom, Cond.code yX1_giveOneFrom cX1_giveOneFrom 2 (some .boolean), Cond.methodLink RL 43 yX3_gift, Cond.instanceMethod yX3_gift, Cond.selects RX3 yX3_gift yX3_gift, Cond.code yX3_gift cX3_gift 2 (some .int), Cond.methodLink RX3 166 yX3_gave, Cond.instanceMethod yX3_gave, Cond.selects RX3 yX3_gave yX3_gave, Cond.code yX3_gave cX3_gave 4 (some .boolean), Cond.methodLink RL 44 yX2_season, Cond.instanceMethod yX2_season, Cond.selects RX2 yX2_season yX2_season, Cond.code yX2_season cX2_season 10 (some .int), Cond.methodLink RX2 126 yX2_isAskedOfSeason, Cond.static yX2_isAskedOfSeason, Cond.code yX2_isAskedOfSeason cX2_isAskedOfSeason 1 (some .boolean), Cond.methodLink RX2 129 yX2_refusalOfPairs, Cond.instanceMethod yX2_refusalOfPairs]
def wsL_law_r14 : List Cond := [Cond.selects RX2 yX2_refusalOfPairs yX2_refusalOfPairs, Cond.code yX2_refusalOfPairs cX2_refusalOfPairs 6 (some .int), Cond.methodLink RX2 211 yX2_refusalOfPair, Cond.instanceMethod yX2_refusalOfPair, Cond.selects RX2 yX2_refusalOfPair yX2_refusalOfPair, Cond.code yX2_refusalOfPair cX2_refusalOfPair 3 (some .int), Cond.instanceMethod yX1_becomeLike, Cond.selects RX1 yX1_becomeLike yX1_becomeLike, Cond.code yX1_becomeLike cX1_becomeLike 3 none, Cond.methodLink RX2 136 yX2_actPairs, Cond.instanceMethod yX2_actPairs, Cond.selects RX2 yX2_actPairs yX2_actPairs, Cond.code yX2_actPairs cX2_actPairs 5 (some .int), Cond.methodLink RX2 214 yX2_actPair, Cond.instanceMethod yX2_actPair, Cond.selects RX2 yX2_actPair yX2_actPair, Cond.code yX2_actPair cX2_actPair 3 (some .boolean), Cond.methodLink RX2 139 yX2_answerOfSeason, Cond.instanceMethod yX2_answerOfSeason, Cond.selects RX2 yX2_answerOfSeason yX2_answerOfSeason, Cond.code yX2_answerOfSeason cX2_answerOfSeason 3 (some .int), Cond.instanceMethod yX1_sumOf, Cond.selects RX1 yX1_sumOf yX1_sumOf, Cond.code yX1_sumOf cX1_sumOf 4 (some .int)]
def wsL_law_r15 : List Cond := [Cond.methodLink RL 48 yX3_season, Cond.instanceMethod yX3_season, Cond.selects RX3 yX3_season yX3_season, Cond.code yX3_season cX3_season 8 (some .int), Cond.constantLong RX3 181 (20), Cond.constantLong RX3 183 (4), Cond.constantLong RX3 185 (10), Cond.constantLong RX3 187 (17), Cond.methodLink RX3 189 yX3_pairsBarred, Cond.instanceMethod yX3_pairsBarred, Cond.selects RX3 yX3_pairsBarred yX3_pairsBarred, Cond.code yX3_pairsBarred cX3_pairsBarred 6 (some .int), Cond.methodLink RX3 192 yX3_keepAll, Cond.instanceMethod yX3_keepAll, Cond.selects RX3 yX3_keepAll yX3_keepAll, Cond.code yX3_keepAll cX3_keepAll 2 none, Cond.fieldLink RX3 169 "LemonDealsModel" "crateKept" "I", Cond.fieldLink RX3 172 "LemonDealsModel" "weekKept" "I", Cond.methodLink RX3 195 yX3_seasonBy, Cond.instanceMethod yX3_seasonBy, Cond.selects RX3 yX3_seasonBy yX3_seasonBy, Cond.code yX3_seasonBy cX3_seasonBy 9 (some .int), Cond.fieldLink RX3 175 "LemonDealsModel" "weeksWithout" "I", Cond.methodLink RX3 178 yX3_did]
def wsL_law_r16 : List Cond := [Cond.instanceMethod yX3_did, Cond.selects RX3 yX3_did yX3_did, Cond.code yX3_did cX3_did 4 (some .boolean), Cond.methodLink RX3 198 yX3_bringBack, Cond.instanceMethod yX3_bringBack, Cond.selects RX3 yX3_bringBack yX3_bringBack, Cond.code yX3_bringBack cX3_bringBack 2 none, Cond.methodLink RL 49 yX2_calm, Cond.instanceMethod yX2_calm, Cond.selects RX2 yX2_calm yX2_calm, Cond.code yX2_calm cX2_calm 4 (some .int), Cond.instanceMethod yX1_worstTemper, Cond.selects RX1 yX1_worstTemper yX1_worstTemper, Cond.code yX1_worstTemper cX1_worstTemper 3 (some .int), Cond.methodLink RL 52 yX3_calm, Cond.instanceMethod yX3_calm, Cond.selects RX3 yX3_calm yX3_calm, Cond.code yX3_calm cX3_calm 6 (some .int), Cond.constantLong RX3 201 (12), Cond.methodLink RX3 203 yX3_worstTemper, Cond.instanceMethod yX3_worstTemper, Cond.selects RX3 yX3_worstTemper yX3_worstTemper, Cond.code yX3_worstTemper cX3_worstTemper 3 (some .int), Cond.methodLink RL 53 yX2_wonder]
def wsL_law_r17 : List Cond := [Cond.instanceMethod yX2_wonder, Cond.selects RX2 yX2_wonder yX2_wonder, Cond.code yX2_wonder cX2_wonder 4 (some .int), Cond.methodLink RX2 145 yX2_loserByOneMore, Cond.instanceMethod yX2_loserByOneMore, Cond.selects RX2 yX2_loserByOneMore yX2_loserByOneMore, Cond.code yX2_loserByOneMore cX2_loserByOneMore 3 (some .int), Cond.methodLink RL 56 yX3_wonder, Cond.instanceMethod yX3_wonder, Cond.selects RX3 yX3_wonder yX3_wonder, Cond.code yX3_wonder cX3_wonder 6 (some .int), Cond.methodLink RL 57 yX2_otherwise, Cond.instanceMethod yX2_otherwise, Cond.selects RX2 yX2_otherwise yX2_otherwise, Cond.code yX2_otherwise cX2_otherwise 2 (some .int), Cond.instanceMethod yX1_dealOneByOne, Cond.selects RX1 yX1_dealOneByOne yX1_dealOneByOne, Cond.code yX1_dealOneByOne cX1_dealOneByOne 4 none, Cond.methodLink RX1 66 yX1_nextOneByOne, Cond.instanceMethod yX1_nextOneByOne, Cond.selects RX1 yX1_nextOneByOne yX1_nextOneByOne, Cond.code yX1_nextOneByOne cX1_nextOneByOne 3 (some .int), Cond.methodLink RX1 70 yX1_isAheadOneByOne, Cond.instanceMethod yX1_isAheadOneByOne]
def wsL_law_r18 : List Cond := [Cond.selects RX1 yX1_isAheadOneByOne yX1_isAheadOneByOne, Cond.code yX1_isAheadOneByOne cX1_isAheadOneByOne 3 (some .boolean), Cond.methodLink RL 60 yX3_otherwise, Cond.instanceMethod yX3_otherwise, Cond.selects RX3 yX3_otherwise yX3_otherwise, Cond.code yX3_otherwise cX3_otherwise 4 (some .int), Cond.methodLink RX3 206 yX3_nextOne, Cond.instanceMethod yX3_nextOne, Cond.selects RX3 yX3_nextOne yX3_nextOne, Cond.code yX3_nextOne cX3_nextOne 4 (some .int), Cond.methodLink RL 61 yX2_halves, Cond.instanceMethod yX2_halves, Cond.selects RX2 yX2_halves yX2_halves, Cond.code yX2_halves cX2_halves 6 (some .int), Cond.methodLink RX2 154 yX2_apartBy, Cond.instanceMethod yX2_apartBy, Cond.selects RX2 yX2_apartBy yX2_apartBy, Cond.code yX2_apartBy cX2_apartBy 5 (some .int), Cond.methodLink RX2 227 Lib.Math.abs.name, Cond.static Lib.Math.abs.name, Cond.code Lib.Math.abs.name Lib.Math.abs.code 1 (some .int), Cond.methodLink RL 64 yX3_halves, Cond.instanceMethod yX3_halves, Cond.selects RX3 yX3_halves yX3_halves]
def wsL_law_r19 : List Cond := [Cond.code yX3_halves cX3_halves 4 (some .int), Cond.methodLink RX3 212 yX3_apart, Cond.instanceMethod yX3_apart, Cond.selects RX3 yX3_apart yX3_apart, Cond.code yX3_apart cX3_apart 4 (some .int), Cond.methodLink RX3 209 yX3_isIn, Cond.static yX3_isIn, Cond.code yX3_isIn cX3_isIn 2 (some .boolean), Cond.methodLink RL 65 yX2_reading, Cond.instanceMethod yX2_reading, Cond.selects RX2 yX2_reading yX2_reading, Cond.code yX2_reading cX2_reading 3 (some .int), Cond.methodLink RL 68 yX3_reading, Cond.instanceMethod yX3_reading, Cond.selects RX3 yX3_reading yX3_reading, Cond.code yX3_reading cX3_reading 3 (some .int), Cond.methodLink RL 69 yX2_back, Cond.instanceMethod yX2_back, Cond.selects RX2 yX2_back yX2_back, Cond.code yX2_back cX2_back 2 (some .int), Cond.methodLink RL 72 yX3_back, Cond.instanceMethod yX3_back, Cond.selects RX3 yX3_back yX3_back, Cond.code yX3_back cX3_back 2 (some .int)]
def wsL_law_r20 : List Cond := [Cond.methodLink RL 73 yX2_tempers, Cond.instanceMethod yX2_tempers, Cond.selects RX2 yX2_tempers yX2_tempers, Cond.code yX2_tempers cX2_tempers 4 (some .int), Cond.methodLink RX2 157 yX2_readingsHoldInTrial, Cond.instanceMethod yX2_readingsHoldInTrial, Cond.selects RX2 yX2_readingsHoldInTrial yX2_readingsHoldInTrial, Cond.code yX2_readingsHoldInTrial cX2_readingsHoldInTrial 2 (some .boolean), Cond.methodLink RL 76 yX3_tempers, Cond.instanceMethod yX3_tempers, Cond.selects RX3 yX3_tempers yX3_tempers, Cond.code yX3_tempers cX3_tempers 5 (some .int), Cond.methodLink RX3 215 yX3_areSo, Cond.instanceMethod yX3_areSo, Cond.selects RX3 yX3_areSo yX3_areSo, Cond.code yX3_areSo cX3_areSo 3 (some .boolean), Cond.methodLink RL 77 yX2_kinds, Cond.instanceMethod yX2_kinds, Cond.selects RX2 yX2_kinds yX2_kinds, Cond.code yX2_kinds cX2_kinds 4 (some .int), Cond.methodLink RL 80 yX3_kinds, Cond.instanceMethod yX3_kinds, Cond.selects RX3 yX3_kinds yX3_kinds, Cond.code yX3_kinds cX3_kinds 5 (some .int)]
def wsL_law_r21 : List Cond := [Cond.methodLink RL 81 yX2_crates, Cond.instanceMethod yX2_crates, Cond.selects RX2 yX2_crates yX2_crates, Cond.code yX2_crates cX2_crates 6 (some .int), Cond.methodLink RL 84 yX3_crates, Cond.instanceMethod yX3_crates, Cond.selects RX3 yX3_crates yX3_crates, Cond.code yX3_crates cX3_crates 8 (some .int), Cond.methodLink RL 85 yX2_odds, Cond.instanceMethod yX2_odds, Cond.selects RX2 yX2_odds yX2_odds, Cond.code yX2_odds cX2_odds 6 (some .long), Cond.constantLong RX2 160 (-9223372036854775808), Cond.methodLink RL 89 yX3_odds, Cond.instanceMethod yX3_odds, Cond.selects RX3 yX3_odds yX3_odds, Cond.code yX3_odds cX3_odds 7 (some .long), Cond.constantLong RX3 219 (100), Cond.methodLink RX3 70 yX3_lost, Cond.static yX3_lost, Cond.code yX3_lost cX3_lost 0 (some .long), Cond.constantLong RX3 64 (-9223372036854775808), Cond.methodLink RX3 221 yX3_share, Cond.static yX3_share]
def wsL_law_r22 : List Cond := [Cond.code yX3_share cX3_share 11 (some .long), Cond.methodLink RL 90 yX2_sheet, Cond.instanceMethod yX2_sheet, Cond.selects RX2 yX2_sheet yX2_sheet, Cond.code yX2_sheet cX2_sheet 4 (some .int), Cond.instanceMethod yX0_begin, Cond.selects RX0 yX0_begin yX0_begin, Cond.code yX0_begin cX0_begin 4 none, Cond.methodLink RL 94 yX3_sheet, Cond.instanceMethod yX3_sheet, Cond.selects RX3 yX3_sheet yX3_sheet, Cond.code yX3_sheet cX3_sheet 5 (some .int), Cond.methodLink RL 95 yX2_lose, Cond.instanceMethod yX2_lose, Cond.selects RX2 yX2_lose yX2_lose, Cond.code yX2_lose cX2_lose 3 (some .int), Cond.methodLink RL 98 yX3_lose, Cond.instanceMethod yX3_lose, Cond.selects RX3 yX3_lose yX3_lose, Cond.code yX3_lose cX3_lose 3 (some .int), Cond.methodLink RL 99 yX2_put, Cond.instanceMethod yX2_put, Cond.selects RX2 yX2_put yX2_put, Cond.code yX2_put cX2_put 5 (some .int)]
def wsL_law_r23 : List Cond := [Cond.instanceMethod yX0_hasCell, Cond.selects RX0 yX0_hasCell yX0_hasCell, Cond.code yX0_hasCell cX0_hasCell 2 (some .boolean), Cond.instanceMethod yX0_cutToLane, Cond.selects RX0 yX0_cutToLane yX0_cutToLane, Cond.code yX0_cutToLane cX0_cutToLane 2 (some .int), Cond.methodLink RL 102 yX3_put, Cond.instanceMethod yX3_put, Cond.selects RX3 yX3_put yX3_put, Cond.code yX3_put cX3_put 4 (some .int), Cond.methodLink RX3 227 yX3_noCell, Cond.instanceMethod yX3_noCell, Cond.selects RX3 yX3_noCell yX3_noCell, Cond.code yX3_noCell cX3_noCell 3 (some .int), Cond.methodLink RL 103 yX2_cell, Cond.instanceMethod yX2_cell, Cond.selects RX2 yX2_cell yX2_cell, Cond.code yX2_cell cX2_cell 6 (some .long), Cond.methodLink RL 106 yX3_cell, Cond.instanceMethod yX3_cell, Cond.selects RX3 yX3_cell yX3_cell, Cond.code yX3_cell cX3_cell 4 (some .long), Cond.methodLink RX3 230 yX3_failedLong, Cond.instanceMethod yX3_failedLong]
def wsL_law_r24 : List Cond := [Cond.selects RX3 yX3_failedLong yX3_failedLong, Cond.code yX3_failedLong cX3_failedLong 2 (some .long), Cond.methodLink RL 107 yX2_copy, Cond.instanceMethod yX2_copy, Cond.selects RX2 yX2_copy yX2_copy, Cond.code yX2_copy cX2_copy 8 (some .int), Cond.methodLink RX2 181 arraycopyName, Cond.native arraycopyName, Cond.static arraycopyName, Cond.initialized "java/lang/System", Cond.methodLink RL 110 yX3_copy, Cond.instanceMethod yX3_copy, Cond.selects RX3 yX3_copy yX3_copy, Cond.code yX3_copy cX3_copy 7 (some .int), Cond.methodLink RL 111 yX2_tell, Cond.instanceMethod yX2_tell, Cond.selects RX2 yX2_tell yX2_tell, Cond.code yX2_tell cX2_tell 2 (some .int), Cond.methodLink RX2 187 yX2_tellAsTart, Cond.instanceMethod yX2_tellAsTart, Cond.selects RX2 yX2_tellAsTart yX2_tellAsTart, Cond.code yX2_tellAsTart cX2_tellAsTart 2 (some .int), Cond.methodLink RX2 196 yX2_leaveInTrace, Cond.instanceMethod yX2_leaveInTrace]
def wsL_law_r25 : List Cond := [Cond.selects RX2 yX2_leaveInTrace yX2_leaveInTrace, Cond.code yX2_leaveInTrace cX2_leaveInTrace 2 none, Cond.methodLink RX2 193 yX2_tellAsPlain, Cond.instanceMethod yX2_tellAsPlain, Cond.selects RX2 yX2_tellAsPlain yX2_tellAsPlain, Cond.code yX2_tellAsPlain cX2_tellAsPlain 2 (some .int), Cond.methodLink RX2 190 yX2_tellAsBitter, Cond.instanceMethod yX2_tellAsBitter, Cond.selects RX2 yX2_tellAsBitter yX2_tellAsBitter, Cond.code yX2_tellAsBitter cX2_tellAsBitter 3 (some .int), Cond.methodLink RL 114 yX3_tell, Cond.instanceMethod yX3_tell, Cond.selects RX3 yX3_tell yX3_tell, Cond.code yX3_tell cX3_tell 4 (some .int), Cond.methodLink RX3 237 yX3_traced, Cond.instanceMethod yX3_traced, Cond.selects RX3 yX3_traced yX3_traced, Cond.code yX3_traced cX3_traced 2 none, Cond.fieldLink RX3 234 "LemonDealsModel" "traceNow" "I", Cond.methodLink RL 115 yX2_knock, Cond.instanceMethod yX2_knock, Cond.selects RX2 yX2_knock yX2_knock, Cond.code yX2_knock cX2_knock 3 (some .int), Cond.methodLink RL 118 yX3_knock]
def wsL_law_r26 : List Cond := [Cond.instanceMethod yX3_knock, Cond.selects RX3 yX3_knock yX3_knock, Cond.code yX3_knock cX3_knock 2 (some .int), Cond.methodLink RL 119 yX2_as, Cond.instanceMethod yX2_as, Cond.selects RX2 yX2_as yX2_as, Cond.code yX2_as cX2_as 3 (some .int), Cond.methodLink RL 122 yX3_as, Cond.instanceMethod yX3_as, Cond.selects RX3 yX3_as yX3_as, Cond.code yX3_as cX3_as 3 (some .int), Cond.methodLink RL 123 yX2_trace, Cond.instanceMethod yX2_trace, Cond.selects RX2 yX2_trace yX2_trace, Cond.code yX2_trace cX2_trace 1 (some .int), Cond.methodLink RL 127 yX3_trace, Cond.instanceMethod yX3_trace, Cond.selects RX3 yX3_trace yX3_trace, Cond.code yX3_trace cX3_trace 1 (some .int), Cond.methodLink RL 128 yX2_fault, Cond.instanceMethod yX2_fault, Cond.selects RX2 yX2_fault yX2_fault, Cond.code yX2_fault cX2_fault 1 (some .int), Cond.methodLink RL 131 yX3_fault]
def wsL_law_r27 : List Cond := [Cond.instanceMethod yX3_fault, Cond.selects RX3 yX3_fault yX3_fault, Cond.code yX3_fault cX3_fault 1 (some .int), Cond.methodLink RL 132 yX2_many, Cond.instanceMethod yX2_many, Cond.selects RX2 yX2_many yX2_many, Cond.code yX2_many cX2_many 2 (some .int), Cond.methodLink RL 135 yX3_many, Cond.instanceMethod yX3_many, Cond.selects RX3 yX3_many yX3_many, Cond.code yX3_many cX3_many 2 (some .int)]
def wsL_law : List Cond := (wsL_law_r1 ++ (wsL_law_r2 ++ (wsL_law_r3 ++ (wsL_law_r4 ++ (wsL_law_r5 ++ (wsL_law_r6 ++ (wsL_law_r7 ++ (wsL_law_r8 ++ (wsL_law_r9 ++ (wsL_law_r10 ++ (wsL_law_r11 ++ (wsL_law_r12 ++ (wsL_law_r13 ++ (wsL_law_r14 ++ (wsL_law_r15 ++ (wsL_law_r16 ++ (wsL_law_r17 ++ (wsL_law_r18 ++ (wsL_law_r19 ++ (wsL_law_r20 ++ (wsL_law_r21 ++ (wsL_law_r22 ++ (wsL_law_r23 ++ (wsL_law_r24 ++ (wsL_law_r25 ++ (wsL_law_r26 ++ wsL_law_r27)))))))))))))))))))))))))) ++ wsX20 ++ wsX30 ++ wsX10 ++ wsX00 ++ ([] : List Cond)
set_option maxRecDepth 20000 in
theorem inlX0 : ∀ w ∈ wsX00, w ∈ wsL_law := fun _ h => List.mem_append_left _ (List.mem_append_right _ h)
theorem inlX1 : ∀ w ∈ wsX10, w ∈ wsL_law := fun _ h => List.mem_append_left _ (List.mem_append_left _ (List.mem_append_right _ h))
theorem inlX2 : ∀ w ∈ wsX20, w ∈ wsL_law := fun _ h => List.mem_append_left _ (List.mem_append_left _ (List.mem_append_left _ (List.mem_append_left _ (List.mem_append_right _ h))))
theorem inlX3 : ∀ w ∈ wsX30, w ∈ wsL_law := fun _ h => List.mem_append_left _ (List.mem_append_left _ (List.mem_append_left _ (List.mem_append_right _ h)))
end
section
theorem dX0_init_0 : decode cX0_init 0 = .ok (.aload_n 0, 1) := by decide +kernel
theorem dX0_init_1 : decode cX0_init 1 = .ok (.invokespecial 3, 3) := by decide +kernel
theorem dX0_init_4 : decode cX0_init 4 = .ok (.aload_n 0, 1) := by decide +kernel
theorem dX0_init_5 : decode cX0_init 5 = .ok (.bipush 60, 2) := by decide +kernel
theorem dX0_init_7 : decode cX0_init 7 = .ok (.newarray .int, 2) := by decide +kernel
theorem dX0_init_9 : decode cX0_init 9 = .ok (.putfield 9, 3) := by decide +kernel
theorem dX0_init_12 : decode cX0_init 12 = .ok (.aload_n 0, 1) := by decide +kernel
theorem dX0_init_13 : decode cX0_init 13 = .ok (.iconst 0, 1) := by decide +kernel
theorem dX0_init_14 : decode cX0_init 14 = .ok (.putfield 15, 3) := by decide +kernel
theorem dX0_init_17 : decode cX0_init 17 = .ok (.aload_n 0, 1) := by decide +kernel
theorem dX0_init_18 : decode cX0_init 18 = .ok (.iconst (-1), 1) := by decide +kernel
theorem dX0_init_19 : decode cX0_init 19 = .ok (.putfield 19, 3) := by decide +kernel
theorem dX0_init_22 : decode cX0_init 22 = .ok (.return_, 1) := by decide +kernel
theorem dX0_begin_0 : decode cX0_begin 0 = .ok (.aload_n 0, 1) := by decide +kernel
theorem dX0_begin_1 : decode cX0_begin 1 = .ok (.iload_n 1, 1) := by decide +kernel
theorem dX0_begin_2 : decode cX0_begin 2 = .ok (.putfield 15, 3) := by decide +kernel
theorem dX0_begin_5 : decode cX0_begin 5 = .ok (.aload_n 0, 1) := by decide +kernel
theorem dX0_begin_6 : decode cX0_begin 6 = .ok (.iload_n 2, 1) := by decide +kernel
theorem dX0_begin_7 : decode cX0_begin 7 = .ok (.putfield 19, 3) := by decide +kernel
theorem dX0_begin_10 : decode cX0_begin 10 = .ok (.iconst 0, 1) := by decide +kernel
theorem dX0_begin_11 : decode cX0_begin 11 = .ok (.istore_n 3, 1) := by decide +kernel
theorem dX0_begin_12 : decode cX0_begin 12 = .ok (.iload_n 3, 1) := by decide +kernel
theorem dX0_begin_13 : decode cX0_begin 13 = .ok (.iload_n 2, 1) := by decide +kernel
theorem dX0_begin_14 : decode cX0_begin 14 = .ok (.if_icmp .ge 16, 3) := by decide +kernel
theorem dX0_begin_17 : decode cX0_begin 17 = .ok (.aload_n 0, 1) := by decide +kernel
theorem dX0_begin_18 : decode cX0_begin 18 = .ok (.getfield 9, 3) := by decide +kernel
theorem dX0_begin_21 : decode cX0_begin 21 = .ok (.iload_n 3, 1) := by decide +kernel
theorem dX0_begin_22 : decode cX0_begin 22 = .ok (.iconst 0, 1) := by decide +kernel
theorem dX0_begin_23 : decode cX0_begin 23 = .ok (.iastore, 1) := by decide +kernel
theorem dX0_begin_24 : decode cX0_begin 24 = .ok (.iinc 3 1, 3) := by decide +kernel
theorem dX0_begin_27 : decode cX0_begin 27 = .ok (.goto (-15), 3) := by decide +kernel
theorem dX0_begin_30 : decode cX0_begin 30 = .ok (.return_, 1) := by decide +kernel
theorem dX0_isThere_0 : decode cX0_isThere 0 = .ok (.aload_n 0, 1) := by decide +kernel
theorem dX0_isThere_1 : decode cX0_isThere 1 = .ok (.getfield 19, 3) := by decide +kernel
theorem dX0_isThere_4 : decode cX0_isThere 4 = .ok (.iconst (-1), 1) := by decide +kernel
theorem dX0_isThere_5 : decode cX0_isThere 5 = .ok (.if_icmp .eq 7, 3) := by decide +kernel
theorem dX0_isThere_8 : decode cX0_isThere 8 = .ok (.iconst 1, 1) := by decide +kernel
theorem dX0_isThere_9 : decode cX0_isThere 9 = .ok (.goto 4, 3) := by decide +kernel
theorem dX0_isThere_12 : decode cX0_isThere 12 = .ok (.iconst 0, 1) := by decide +kernel
theorem dX0_isThere_13 : decode cX0_isThere 13 = .ok (.ireturn, 1) := by decide +kernel
theorem dX0_faultAs_0 : decode cX0_faultAs 0 = .ok (.aload_n 0, 1) := by decide +kernel
theorem dX0_faultAs_1 : decode cX0_faultAs 1 = .ok (.invokevirtual 22, 3) := by decide +kernel
theorem dX0_faultAs_4 : decode cX0_faultAs 4 = .ok (.ifCond .ne 5, 3) := by decide +kernel
theorem dX0_faultAs_7 : decode cX0_faultAs 7 = .ok (.iconst 1, 1) := by decide +kernel
theorem dX0_faultAs_8 : decode cX0_faultAs 8 = .ok (.ireturn, 1) := by decide +kernel
theorem dX0_faultAs_9 : decode cX0_faultAs 9 = .ok (.aload_n 0, 1) := by decide +kernel
theorem dX0_faultAs_10 : decode cX0_faultAs 10 = .ok (.getfield 15, 3) := by decide +kernel
theorem dX0_faultAs_13 : decode cX0_faultAs 13 = .ok (.iload_n 1, 1) := by decide +kernel
theorem dX0_faultAs_14 : decode cX0_faultAs 14 = .ok (.if_icmp .ne 7, 3) := by decide +kernel
theorem dX0_faultAs_17 : decode cX0_faultAs 17 = .ok (.iconst 0, 1) := by decide +kernel
theorem dX0_faultAs_18 : decode cX0_faultAs 18 = .ok (.goto 4, 3) := by decide +kernel
theorem dX0_faultAs_21 : decode cX0_faultAs 21 = .ok (.iconst 2, 1) := by decide +kernel
theorem dX0_faultAs_22 : decode cX0_faultAs 22 = .ok (.ireturn, 1) := by decide +kernel
theorem dX0_hasCell_0 : decode cX0_hasCell 0 = .ok (.iload_n 1, 1) := by decide +kernel
theorem dX0_hasCell_1 : decode cX0_hasCell 1 = .ok (.ifCond .lt 15, 3) := by decide +kernel
theorem dX0_hasCell_4 : decode cX0_hasCell 4 = .ok (.iload_n 1, 1) := by decide +kernel
theorem dX0_hasCell_5 : decode cX0_hasCell 5 = .ok (.aload_n 0, 1) := by decide +kernel
theorem dX0_hasCell_6 : decode cX0_hasCell 6 = .ok (.getfield 19, 3) := by decide +kernel
theorem dX0_hasCell_9 : decode cX0_hasCell 9 = .ok (.if_icmp .ge 7, 3) := by decide +kernel
theorem dX0_hasCell_12 : decode cX0_hasCell 12 = .ok (.iconst 1, 1) := by decide +kernel
theorem dX0_hasCell_13 : decode cX0_hasCell 13 = .ok (.goto 4, 3) := by decide +kernel
theorem dX0_hasCell_16 : decode cX0_hasCell 16 = .ok (.iconst 0, 1) := by decide +kernel
theorem dX0_hasCell_17 : decode cX0_hasCell 17 = .ok (.ireturn, 1) := by decide +kernel
theorem dX0_lacks_0 : decode cX0_lacks 0 = .ok (.iload_n 1, 1) := by decide +kernel
theorem dX0_lacks_1 : decode cX0_lacks 1 = .ok (.ifCond .lt 25, 3) := by decide +kernel
theorem dX0_lacks_4 : decode cX0_lacks 4 = .ok (.iload_n 2, 1) := by decide +kernel
theorem dX0_lacks_5 : decode cX0_lacks 5 = .ok (.ifCond .lt 21, 3) := by decide +kernel
theorem dX0_lacks_8 : decode cX0_lacks 8 = .ok (.iload_n 1, 1) := by decide +kernel
theorem dX0_lacks_9 : decode cX0_lacks 9 = .ok (.aload_n 0, 1) := by decide +kernel
theorem dX0_lacks_10 : decode cX0_lacks 10 = .ok (.getfield 19, 3) := by decide +kernel
theorem dX0_lacks_13 : decode cX0_lacks 13 = .ok (.if_icmp .gt 13, 3) := by decide +kernel
theorem dX0_lacks_16 : decode cX0_lacks 16 = .ok (.iload_n 2, 1) := by decide +kernel
theorem dX0_lacks_17 : decode cX0_lacks 17 = .ok (.aload_n 0, 1) := by decide +kernel
theorem dX0_lacks_18 : decode cX0_lacks 18 = .ok (.getfield 19, 3) := by decide +kernel
theorem dX0_lacks_21 : decode cX0_lacks 21 = .ok (.iload_n 1, 1) := by decide +kernel
theorem dX0_lacks_22 : decode cX0_lacks 22 = .ok (.isub, 1) := by decide +kernel
theorem dX0_lacks_23 : decode cX0_lacks 23 = .ok (.if_icmp .le 7, 3) := by decide +kernel
theorem dX0_lacks_26 : decode cX0_lacks 26 = .ok (.iconst 1, 1) := by decide +kernel
theorem dX0_lacks_27 : decode cX0_lacks 27 = .ok (.goto 4, 3) := by decide +kernel
theorem dX0_lacks_30 : decode cX0_lacks 30 = .ok (.iconst 0, 1) := by decide +kernel
theorem dX0_lacks_31 : decode cX0_lacks 31 = .ok (.ireturn, 1) := by decide +kernel
theorem dX0_cutToLane_0 : decode cX0_cutToLane 0 = .ok (.aload_n 0, 1) := by decide +kernel
theorem dX0_cutToLane_1 : decode cX0_cutToLane 1 = .ok (.getfield 15, 3) := by decide +kernel
theorem dX0_cutToLane_4 : decode cX0_cutToLane 4 = .ok (.lookupswitch 34 #[(0, 28), (1, 31)], 28) := by decide +kernel
theorem dX0_cutToLane_32 : decode cX0_cutToLane 32 = .ok (.iload_n 1, 1) := by decide +kernel
theorem dX0_cutToLane_33 : decode cX0_cutToLane 33 = .ok (.i2b, 1) := by decide +kernel
theorem dX0_cutToLane_34 : decode cX0_cutToLane 34 = .ok (.ireturn, 1) := by decide +kernel
theorem dX0_cutToLane_35 : decode cX0_cutToLane 35 = .ok (.iload_n 1, 1) := by decide +kernel
theorem dX0_cutToLane_36 : decode cX0_cutToLane 36 = .ok (.i2s, 1) := by decide +kernel
theorem dX0_cutToLane_37 : decode cX0_cutToLane 37 = .ok (.ireturn, 1) := by decide +kernel
theorem dX0_cutToLane_38 : decode cX0_cutToLane 38 = .ok (.iload_n 1, 1) := by decide +kernel
theorem dX0_cutToLane_39 : decode cX0_cutToLane 39 = .ok (.ireturn, 1) := by decide +kernel
theorem dX1_init_0 : decode cX1_init 0 = .ok (.aload_n 0, 1) := by decide +kernel
theorem dX1_init_1 : decode cX1_init 1 = .ok (.invokespecial 3, 3) := by decide +kernel
theorem dX1_init_4 : decode cX1_init 4 = .ok (.aload_n 0, 1) := by decide +kernel
theorem dX1_init_5 : decode cX1_init 5 = .ok (.iconst 0, 1) := by decide +kernel
theorem dX1_init_6 : decode cX1_init 6 = .ok (.putfield 9, 3) := by decide +kernel
theorem dX1_init_9 : decode cX1_init 9 = .ok (.aload_n 0, 1) := by decide +kernel
theorem dX1_init_10 : decode cX1_init 10 = .ok (.iconst 0, 1) := by decide +kernel
theorem dX1_init_11 : decode cX1_init 11 = .ok (.putfield 15, 3) := by decide +kernel
theorem dX1_init_14 : decode cX1_init 14 = .ok (.aload_n 0, 1) := by decide +kernel
theorem dX1_init_15 : decode cX1_init 15 = .ok (.iconst 0, 1) := by decide +kernel
theorem dX1_init_16 : decode cX1_init 16 = .ok (.putfield 18, 3) := by decide +kernel
theorem dX1_init_19 : decode cX1_init 19 = .ok (.aload_n 0, 1) := by decide +kernel
theorem dX1_init_20 : decode cX1_init 20 = .ok (.iconst 0, 1) := by decide +kernel
theorem dX1_init_21 : decode cX1_init 21 = .ok (.putfield 21, 3) := by decide +kernel
theorem dX1_init_24 : decode cX1_init 24 = .ok (.aload_n 0, 1) := by decide +kernel
theorem dX1_init_25 : decode cX1_init 25 = .ok (.bipush 8, 2) := by decide +kernel
theorem dX1_init_27 : decode cX1_init 27 = .ok (.newarray .int, 2) := by decide +kernel
theorem dX1_init_29 : decode cX1_init 29 = .ok (.putfield 24, 3) := by decide +kernel
theorem dX1_init_32 : decode cX1_init 32 = .ok (.aload_n 0, 1) := by decide +kernel
theorem dX1_init_33 : decode cX1_init 33 = .ok (.bipush 8, 2) := by decide +kernel
theorem dX1_init_35 : decode cX1_init 35 = .ok (.newarray .int, 2) := by decide +kernel
theorem dX1_init_37 : decode cX1_init 37 = .ok (.putfield 28, 3) := by decide +kernel
theorem dX1_init_40 : decode cX1_init 40 = .ok (.aload_n 0, 1) := by decide +kernel
theorem dX1_init_41 : decode cX1_init 41 = .ok (.bipush 8, 2) := by decide +kernel
theorem dX1_init_43 : decode cX1_init 43 = .ok (.newarray .int, 2) := by decide +kernel
theorem dX1_init_45 : decode cX1_init 45 = .ok (.putfield 31, 3) := by decide +kernel
theorem dX1_init_48 : decode cX1_init 48 = .ok (.aload_n 0, 1) := by decide +kernel
theorem dX1_init_49 : decode cX1_init 49 = .ok (.bipush 8, 2) := by decide +kernel
theorem dX1_init_51 : decode cX1_init 51 = .ok (.newarray .int, 2) := by decide +kernel
theorem dX1_init_53 : decode cX1_init 53 = .ok (.putfield 34, 3) := by decide +kernel
theorem dX1_init_56 : decode cX1_init 56 = .ok (.aload_n 0, 1) := by decide +kernel
theorem dX1_init_57 : decode cX1_init 57 = .ok (.bipush 8, 2) := by decide +kernel
theorem dX1_init_59 : decode cX1_init 59 = .ok (.newarray .int, 2) := by decide +kernel
theorem dX1_init_61 : decode cX1_init 61 = .ok (.putfield 37, 3) := by decide +kernel
theorem dX1_init_64 : decode cX1_init 64 = .ok (.aload_n 0, 1) := by decide +kernel
theorem dX1_init_65 : decode cX1_init 65 = .ok (.bipush 8, 2) := by decide +kernel
theorem dX1_init_67 : decode cX1_init 67 = .ok (.newarray .int, 2) := by decide +kernel
theorem dX1_init_69 : decode cX1_init 69 = .ok (.putfield 40, 3) := by decide +kernel
theorem dX1_init_72 : decode cX1_init 72 = .ok (.aload_n 0, 1) := by decide +kernel
theorem dX1_init_73 : decode cX1_init 73 = .ok (.bipush 8, 2) := by decide +kernel
theorem dX1_init_75 : decode cX1_init 75 = .ok (.newarray .int, 2) := by decide +kernel
theorem dX1_init_77 : decode cX1_init 77 = .ok (.putfield 43, 3) := by decide +kernel
theorem dX1_init_80 : decode cX1_init 80 = .ok (.return_, 1) := by decide +kernel
theorem dX1_beginByText_0 : decode cX1_beginByText 0 = .ok (.aload_n 0, 1) := by decide +kernel
theorem dX1_beginByText_1 : decode cX1_beginByText 1 = .ok (.aload_n 1, 1) := by decide +kernel
theorem dX1_beginByText_2 : decode cX1_beginByText 2 = .ok (.iload_n 2, 1) := by decide +kernel
theorem dX1_beginByText_3 : decode cX1_beginByText 3 = .ok (.iconst 1, 1) := by decide +kernel
theorem dX1_beginByText_4 : decode cX1_beginByText 4 = .ok (.iadd, 1) := by decide +kernel
theorem dX1_beginByText_5 : decode cX1_beginByText 5 = .ok (.iaload, 1) := by decide +kernel
theorem dX1_beginByText_6 : decode cX1_beginByText 6 = .ok (.bipush 48, 2) := by decide +kernel
theorem dX1_beginByText_8 : decode cX1_beginByText 8 = .ok (.isub, 1) := by decide +kernel
theorem dX1_beginByText_9 : decode cX1_beginByText 9 = .ok (.bipush 10, 2) := by decide +kernel
theorem dX1_beginByText_11 : decode cX1_beginByText 11 = .ok (.imul, 1) := by decide +kernel
theorem dX1_beginByText_12 : decode cX1_beginByText 12 = .ok (.aload_n 1, 1) := by decide +kernel
theorem dX1_beginByText_13 : decode cX1_beginByText 13 = .ok (.iload_n 2, 1) := by decide +kernel
theorem dX1_beginByText_14 : decode cX1_beginByText 14 = .ok (.iconst 2, 1) := by decide +kernel
theorem dX1_beginByText_15 : decode cX1_beginByText 15 = .ok (.iadd, 1) := by decide +kernel
theorem dX1_beginByText_16 : decode cX1_beginByText 16 = .ok (.iaload, 1) := by decide +kernel
theorem dX1_beginByText_17 : decode cX1_beginByText 17 = .ok (.iadd, 1) := by decide +kernel
theorem dX1_beginByText_18 : decode cX1_beginByText 18 = .ok (.bipush 48, 2) := by decide +kernel
theorem dX1_beginByText_20 : decode cX1_beginByText 20 = .ok (.isub, 1) := by decide +kernel
theorem dX1_beginByText_21 : decode cX1_beginByText 21 = .ok (.putfield 15, 3) := by decide +kernel
theorem dX1_beginByText_24 : decode cX1_beginByText 24 = .ok (.aload_n 0, 1) := by decide +kernel
theorem dX1_beginByText_25 : decode cX1_beginByText 25 = .ok (.iconst 0, 1) := by decide +kernel
theorem dX1_beginByText_26 : decode cX1_beginByText 26 = .ok (.putfield 18, 3) := by decide +kernel
theorem dX1_beginByText_29 : decode cX1_beginByText 29 = .ok (.aload_n 0, 1) := by decide +kernel
theorem dX1_beginByText_30 : decode cX1_beginByText 30 = .ok (.iload_n 3, 1) := by decide +kernel
theorem dX1_beginByText_31 : decode cX1_beginByText 31 = .ok (.iconst 3, 1) := by decide +kernel
theorem dX1_beginByText_32 : decode cX1_beginByText 32 = .ok (.isub, 1) := by decide +kernel
theorem dX1_beginByText_33 : decode cX1_beginByText 33 = .ok (.iconst 4, 1) := by decide +kernel
theorem dX1_beginByText_34 : decode cX1_beginByText 34 = .ok (.idiv, 1) := by decide +kernel
theorem dX1_beginByText_35 : decode cX1_beginByText 35 = .ok (.bipush 8, 2) := by decide +kernel
theorem dX1_beginByText_37 : decode cX1_beginByText 37 = .ok (.invokestatic 46, 3) := by decide +kernel
theorem dX1_beginByText_40 : decode cX1_beginByText 40 = .ok (.putfield 9, 3) := by decide +kernel
theorem dX1_beginByText_43 : decode cX1_beginByText 43 = .ok (.iconst 0, 1) := by decide +kernel
theorem dX1_beginByText_44 : decode cX1_beginByText 44 = .ok (.istore 4, 2) := by decide +kernel
theorem dX1_beginByText_46 : decode cX1_beginByText 46 = .ok (.iload 4, 2) := by decide +kernel
theorem dX1_beginByText_48 : decode cX1_beginByText 48 = .ok (.aload_n 0, 1) := by decide +kernel
theorem dX1_beginByText_49 : decode cX1_beginByText 49 = .ok (.getfield 9, 3) := by decide +kernel
theorem dX1_beginByText_52 : decode cX1_beginByText 52 = .ok (.if_icmp .ge 75, 3) := by decide +kernel
theorem dX1_beginByText_55 : decode cX1_beginByText 55 = .ok (.iload_n 2, 1) := by decide +kernel
theorem dX1_beginByText_56 : decode cX1_beginByText 56 = .ok (.iconst 3, 1) := by decide +kernel
theorem dX1_beginByText_57 : decode cX1_beginByText 57 = .ok (.iadd, 1) := by decide +kernel
theorem dX1_beginByText_58 : decode cX1_beginByText 58 = .ok (.iconst 4, 1) := by decide +kernel
theorem dX1_beginByText_59 : decode cX1_beginByText 59 = .ok (.iload 4, 2) := by decide +kernel
theorem dX1_beginByText_61 : decode cX1_beginByText 61 = .ok (.imul, 1) := by decide +kernel
theorem dX1_beginByText_62 : decode cX1_beginByText 62 = .ok (.iadd, 1) := by decide +kernel
theorem dX1_beginByText_63 : decode cX1_beginByText 63 = .ok (.istore 5, 2) := by decide +kernel
theorem dX1_beginByText_65 : decode cX1_beginByText 65 = .ok (.aload_n 0, 1) := by decide +kernel
theorem dX1_beginByText_66 : decode cX1_beginByText 66 = .ok (.getfield 24, 3) := by decide +kernel
theorem dX1_beginByText_69 : decode cX1_beginByText 69 = .ok (.iload 4, 2) := by decide +kernel
theorem dX1_beginByText_71 : decode cX1_beginByText 71 = .ok (.aload_n 1, 1) := by decide +kernel
theorem dX1_beginByText_72 : decode cX1_beginByText 72 = .ok (.iload 5, 2) := by decide +kernel
theorem dX1_beginByText_74 : decode cX1_beginByText 74 = .ok (.iconst 1, 1) := by decide +kernel
theorem dX1_beginByText_75 : decode cX1_beginByText 75 = .ok (.iadd, 1) := by decide +kernel
theorem dX1_beginByText_76 : decode cX1_beginByText 76 = .ok (.iaload, 1) := by decide +kernel
theorem dX1_beginByText_77 : decode cX1_beginByText 77 = .ok (.invokestatic 52, 3) := by decide +kernel
theorem dX1_beginByText_80 : decode cX1_beginByText 80 = .ok (.iastore, 1) := by decide +kernel
theorem dX1_beginByText_81 : decode cX1_beginByText 81 = .ok (.aload_n 0, 1) := by decide +kernel
theorem dX1_beginByText_82 : decode cX1_beginByText 82 = .ok (.getfield 28, 3) := by decide +kernel
theorem dX1_beginByText_85 : decode cX1_beginByText 85 = .ok (.iload 4, 2) := by decide +kernel
theorem dX1_beginByText_87 : decode cX1_beginByText 87 = .ok (.aload_n 1, 1) := by decide +kernel
theorem dX1_beginByText_88 : decode cX1_beginByText 88 = .ok (.iload 5, 2) := by decide +kernel
theorem dX1_beginByText_90 : decode cX1_beginByText 90 = .ok (.iconst 2, 1) := by decide +kernel
theorem dX1_beginByText_91 : decode cX1_beginByText 91 = .ok (.iadd, 1) := by decide +kernel
theorem dX1_beginByText_92 : decode cX1_beginByText 92 = .ok (.iaload, 1) := by decide +kernel
theorem dX1_beginByText_93 : decode cX1_beginByText 93 = .ok (.bipush 48, 2) := by decide +kernel
theorem dX1_beginByText_95 : decode cX1_beginByText 95 = .ok (.isub, 1) := by decide +kernel
theorem dX1_beginByText_96 : decode cX1_beginByText 96 = .ok (.iastore, 1) := by decide +kernel
theorem dX1_beginByText_97 : decode cX1_beginByText 97 = .ok (.aload_n 0, 1) := by decide +kernel
theorem dX1_beginByText_98 : decode cX1_beginByText 98 = .ok (.getfield 31, 3) := by decide +kernel
theorem dX1_beginByText_101 : decode cX1_beginByText 101 = .ok (.iload 4, 2) := by decide +kernel
theorem dX1_beginByText_103 : decode cX1_beginByText 103 = .ok (.aload_n 1, 1) := by decide +kernel
theorem dX1_beginByText_104 : decode cX1_beginByText 104 = .ok (.iload 5, 2) := by decide +kernel
theorem dX1_beginByText_106 : decode cX1_beginByText 106 = .ok (.iconst 3, 1) := by decide +kernel
theorem dX1_beginByText_107 : decode cX1_beginByText 107 = .ok (.iadd, 1) := by decide +kernel
theorem dX1_beginByText_108 : decode cX1_beginByText 108 = .ok (.iaload, 1) := by decide +kernel
theorem dX1_beginByText_109 : decode cX1_beginByText 109 = .ok (.bipush 48, 2) := by decide +kernel
theorem dX1_beginByText_111 : decode cX1_beginByText 111 = .ok (.isub, 1) := by decide +kernel
theorem dX1_beginByText_112 : decode cX1_beginByText 112 = .ok (.iastore, 1) := by decide +kernel
theorem dX1_beginByText_113 : decode cX1_beginByText 113 = .ok (.aload_n 0, 1) := by decide +kernel
theorem dX1_beginByText_114 : decode cX1_beginByText 114 = .ok (.getfield 34, 3) := by decide +kernel
theorem dX1_beginByText_117 : decode cX1_beginByText 117 = .ok (.iload 4, 2) := by decide +kernel
theorem dX1_beginByText_119 : decode cX1_beginByText 119 = .ok (.iconst 0, 1) := by decide +kernel
theorem dX1_beginByText_120 : decode cX1_beginByText 120 = .ok (.iastore, 1) := by decide +kernel
theorem dX1_beginByText_121 : decode cX1_beginByText 121 = .ok (.iinc 4 1, 3) := by decide +kernel
theorem dX1_beginByText_124 : decode cX1_beginByText 124 = .ok (.goto (-78), 3) := by decide +kernel
theorem dX1_beginByText_127 : decode cX1_beginByText 127 = .ok (.return_, 1) := by decide +kernel
theorem dX1_becomeLike_0 : decode cX1_becomeLike 0 = .ok (.aload_n 0, 1) := by decide +kernel
theorem dX1_becomeLike_1 : decode cX1_becomeLike 1 = .ok (.aload_n 1, 1) := by decide +kernel
theorem dX1_becomeLike_2 : decode cX1_becomeLike 2 = .ok (.getfield 9, 3) := by decide +kernel
theorem dX1_becomeLike_5 : decode cX1_becomeLike 5 = .ok (.putfield 9, 3) := by decide +kernel
theorem dX1_becomeLike_8 : decode cX1_becomeLike 8 = .ok (.aload_n 0, 1) := by decide +kernel
theorem dX1_becomeLike_9 : decode cX1_becomeLike 9 = .ok (.aload_n 1, 1) := by decide +kernel
theorem dX1_becomeLike_10 : decode cX1_becomeLike 10 = .ok (.getfield 15, 3) := by decide +kernel
theorem dX1_becomeLike_13 : decode cX1_becomeLike 13 = .ok (.putfield 15, 3) := by decide +kernel
theorem dX1_becomeLike_16 : decode cX1_becomeLike 16 = .ok (.aload_n 0, 1) := by decide +kernel
theorem dX1_becomeLike_17 : decode cX1_becomeLike 17 = .ok (.aload_n 1, 1) := by decide +kernel
theorem dX1_becomeLike_18 : decode cX1_becomeLike 18 = .ok (.getfield 18, 3) := by decide +kernel
theorem dX1_becomeLike_21 : decode cX1_becomeLike 21 = .ok (.putfield 18, 3) := by decide +kernel
theorem dX1_becomeLike_24 : decode cX1_becomeLike 24 = .ok (.aload_n 0, 1) := by decide +kernel
theorem dX1_becomeLike_25 : decode cX1_becomeLike 25 = .ok (.iconst 0, 1) := by decide +kernel
theorem dX1_becomeLike_26 : decode cX1_becomeLike 26 = .ok (.putfield 21, 3) := by decide +kernel
theorem dX1_becomeLike_29 : decode cX1_becomeLike 29 = .ok (.iconst 0, 1) := by decide +kernel
theorem dX1_becomeLike_30 : decode cX1_becomeLike 30 = .ok (.istore_n 2, 1) := by decide +kernel
theorem dX1_becomeLike_31 : decode cX1_becomeLike 31 = .ok (.iload_n 2, 1) := by decide +kernel
theorem dX1_becomeLike_32 : decode cX1_becomeLike 32 = .ok (.aload_n 0, 1) := by decide +kernel
theorem dX1_becomeLike_33 : decode cX1_becomeLike 33 = .ok (.getfield 9, 3) := by decide +kernel
theorem dX1_becomeLike_36 : decode cX1_becomeLike 36 = .ok (.if_icmp .ge 57, 3) := by decide +kernel
theorem dX1_becomeLike_39 : decode cX1_becomeLike 39 = .ok (.aload_n 0, 1) := by decide +kernel
theorem dX1_becomeLike_40 : decode cX1_becomeLike 40 = .ok (.getfield 24, 3) := by decide +kernel
theorem dX1_becomeLike_43 : decode cX1_becomeLike 43 = .ok (.iload_n 2, 1) := by decide +kernel
theorem dX1_becomeLike_44 : decode cX1_becomeLike 44 = .ok (.aload_n 1, 1) := by decide +kernel
theorem dX1_becomeLike_45 : decode cX1_becomeLike 45 = .ok (.getfield 24, 3) := by decide +kernel
theorem dX1_becomeLike_48 : decode cX1_becomeLike 48 = .ok (.iload_n 2, 1) := by decide +kernel
theorem dX1_becomeLike_49 : decode cX1_becomeLike 49 = .ok (.iaload, 1) := by decide +kernel
theorem dX1_becomeLike_50 : decode cX1_becomeLike 50 = .ok (.iastore, 1) := by decide +kernel
theorem dX1_becomeLike_51 : decode cX1_becomeLike 51 = .ok (.aload_n 0, 1) := by decide +kernel
theorem dX1_becomeLike_52 : decode cX1_becomeLike 52 = .ok (.getfield 28, 3) := by decide +kernel
theorem dX1_becomeLike_55 : decode cX1_becomeLike 55 = .ok (.iload_n 2, 1) := by decide +kernel
theorem dX1_becomeLike_56 : decode cX1_becomeLike 56 = .ok (.aload_n 1, 1) := by decide +kernel
theorem dX1_becomeLike_57 : decode cX1_becomeLike 57 = .ok (.getfield 28, 3) := by decide +kernel
theorem dX1_becomeLike_60 : decode cX1_becomeLike 60 = .ok (.iload_n 2, 1) := by decide +kernel
theorem dX1_becomeLike_61 : decode cX1_becomeLike 61 = .ok (.iaload, 1) := by decide +kernel
theorem dX1_becomeLike_62 : decode cX1_becomeLike 62 = .ok (.iastore, 1) := by decide +kernel
theorem dX1_becomeLike_63 : decode cX1_becomeLike 63 = .ok (.aload_n 0, 1) := by decide +kernel
theorem dX1_becomeLike_64 : decode cX1_becomeLike 64 = .ok (.getfield 31, 3) := by decide +kernel
theorem dX1_becomeLike_67 : decode cX1_becomeLike 67 = .ok (.iload_n 2, 1) := by decide +kernel
theorem dX1_becomeLike_68 : decode cX1_becomeLike 68 = .ok (.aload_n 1, 1) := by decide +kernel
theorem dX1_becomeLike_69 : decode cX1_becomeLike 69 = .ok (.getfield 31, 3) := by decide +kernel
theorem dX1_becomeLike_72 : decode cX1_becomeLike 72 = .ok (.iload_n 2, 1) := by decide +kernel
theorem dX1_becomeLike_73 : decode cX1_becomeLike 73 = .ok (.iaload, 1) := by decide +kernel
theorem dX1_becomeLike_74 : decode cX1_becomeLike 74 = .ok (.iastore, 1) := by decide +kernel
theorem dX1_becomeLike_75 : decode cX1_becomeLike 75 = .ok (.aload_n 0, 1) := by decide +kernel
theorem dX1_becomeLike_76 : decode cX1_becomeLike 76 = .ok (.getfield 34, 3) := by decide +kernel
theorem dX1_becomeLike_79 : decode cX1_becomeLike 79 = .ok (.iload_n 2, 1) := by decide +kernel
theorem dX1_becomeLike_80 : decode cX1_becomeLike 80 = .ok (.aload_n 1, 1) := by decide +kernel
theorem dX1_becomeLike_81 : decode cX1_becomeLike 81 = .ok (.getfield 34, 3) := by decide +kernel
theorem dX1_becomeLike_84 : decode cX1_becomeLike 84 = .ok (.iload_n 2, 1) := by decide +kernel
theorem dX1_becomeLike_85 : decode cX1_becomeLike 85 = .ok (.iaload, 1) := by decide +kernel
theorem dX1_becomeLike_86 : decode cX1_becomeLike 86 = .ok (.iastore, 1) := by decide +kernel
theorem dX1_becomeLike_87 : decode cX1_becomeLike 87 = .ok (.iinc 2 1, 3) := by decide +kernel
theorem dX1_becomeLike_90 : decode cX1_becomeLike 90 = .ok (.goto (-59), 3) := by decide +kernel
theorem dX1_becomeLike_93 : decode cX1_becomeLike 93 = .ok (.return_, 1) := by decide +kernel
theorem dX1_treesOf_0 : decode cX1_treesOf 0 = .ok (.aload_n 0, 1) := by decide +kernel
theorem dX1_treesOf_1 : decode cX1_treesOf 1 = .ok (.getfield 34, 3) := by decide +kernel
theorem dX1_treesOf_4 : decode cX1_treesOf 4 = .ok (.iload_n 1, 1) := by decide +kernel
theorem dX1_treesOf_5 : decode cX1_treesOf 5 = .ok (.iaload, 1) := by decide +kernel
theorem dX1_treesOf_6 : decode cX1_treesOf 6 = .ok (.iconst 4, 1) := by decide +kernel
theorem dX1_treesOf_7 : decode cX1_treesOf 7 = .ok (.idiv, 1) := by decide +kernel
theorem dX1_treesOf_8 : decode cX1_treesOf 8 = .ok (.ireturn, 1) := by decide +kernel
theorem dX1_sourOf_0 : decode cX1_sourOf 0 = .ok (.aload_n 0, 1) := by decide +kernel
theorem dX1_sourOf_1 : decode cX1_sourOf 1 = .ok (.getfield 24, 3) := by decide +kernel
theorem dX1_sourOf_4 : decode cX1_sourOf 4 = .ok (.iload_n 1, 1) := by decide +kernel
theorem dX1_sourOf_5 : decode cX1_sourOf 5 = .ok (.iaload, 1) := by decide +kernel
theorem dX1_sourOf_6 : decode cX1_sourOf 6 = .ok (.lookupswitch 46 #[(1, 26), (2, 35)], 26) := by decide +kernel
theorem dX1_sourOf_32 : decode cX1_sourOf 32 = .ok (.aload_n 0, 1) := by decide +kernel
theorem dX1_sourOf_33 : decode cX1_sourOf 33 = .ok (.getfield 28, 3) := by decide +kernel
theorem dX1_sourOf_36 : decode cX1_sourOf 36 = .ok (.iload_n 1, 1) := by decide +kernel
theorem dX1_sourOf_37 : decode cX1_sourOf 37 = .ok (.iaload, 1) := by decide +kernel
theorem dX1_sourOf_38 : decode cX1_sourOf 38 = .ok (.iconst 1, 1) := by decide +kernel
theorem dX1_sourOf_39 : decode cX1_sourOf 39 = .ok (.iadd, 1) := by decide +kernel
theorem dX1_sourOf_40 : decode cX1_sourOf 40 = .ok (.ireturn, 1) := by decide +kernel
theorem dX1_sourOf_41 : decode cX1_sourOf 41 = .ok (.iconst 2, 1) := by decide +kernel
theorem dX1_sourOf_42 : decode cX1_sourOf 42 = .ok (.aload_n 0, 1) := by decide +kernel
theorem dX1_sourOf_43 : decode cX1_sourOf 43 = .ok (.getfield 28, 3) := by decide +kernel
theorem dX1_sourOf_46 : decode cX1_sourOf 46 = .ok (.iload_n 1, 1) := by decide +kernel
theorem dX1_sourOf_47 : decode cX1_sourOf 47 = .ok (.iaload, 1) := by decide +kernel
theorem dX1_sourOf_48 : decode cX1_sourOf 48 = .ok (.iconst 1, 1) := by decide +kernel
theorem dX1_sourOf_49 : decode cX1_sourOf 49 = .ok (.iadd, 1) := by decide +kernel
theorem dX1_sourOf_50 : decode cX1_sourOf 50 = .ok (.imul, 1) := by decide +kernel
theorem dX1_sourOf_51 : decode cX1_sourOf 51 = .ok (.ireturn, 1) := by decide +kernel
theorem dX1_sourOf_52 : decode cX1_sourOf 52 = .ok (.aload_n 0, 1) := by decide +kernel
theorem dX1_sourOf_53 : decode cX1_sourOf 53 = .ok (.getfield 28, 3) := by decide +kernel
theorem dX1_sourOf_56 : decode cX1_sourOf 56 = .ok (.iload_n 1, 1) := by decide +kernel
theorem dX1_sourOf_57 : decode cX1_sourOf 57 = .ok (.iaload, 1) := by decide +kernel
theorem dX1_sourOf_58 : decode cX1_sourOf 58 = .ok (.ireturn, 1) := by decide +kernel
theorem dX1_dealtTo_0 : decode cX1_dealtTo 0 = .ok (.aload_n 0, 1) := by decide +kernel
theorem dX1_dealtTo_1 : decode cX1_dealtTo 1 = .ok (.iload_n 2, 1) := by decide +kernel
theorem dX1_dealtTo_2 : decode cX1_dealtTo 2 = .ok (.invokevirtual 56, 3) := by decide +kernel
theorem dX1_dealtTo_5 : decode cX1_dealtTo 5 = .ok (.aload_n 0, 1) := by decide +kernel
theorem dX1_dealtTo_6 : decode cX1_dealtTo 6 = .ok (.getfield 40, 3) := by decide +kernel
theorem dX1_dealtTo_9 : decode cX1_dealtTo 9 = .ok (.iload_n 1, 1) := by decide +kernel
theorem dX1_dealtTo_10 : decode cX1_dealtTo 10 = .ok (.iaload, 1) := by decide +kernel
theorem dX1_dealtTo_11 : decode cX1_dealtTo 11 = .ok (.ireturn, 1) := by decide +kernel
theorem dX1_dealOut_0 : decode cX1_dealOut 0 = .ok (.iconst 0, 1) := by decide +kernel
theorem dX1_dealOut_1 : decode cX1_dealOut 1 = .ok (.istore_n 2, 1) := by decide +kernel
theorem dX1_dealOut_2 : decode cX1_dealOut 2 = .ok (.iconst 0, 1) := by decide +kernel
theorem dX1_dealOut_3 : decode cX1_dealOut 3 = .ok (.istore_n 3, 1) := by decide +kernel
theorem dX1_dealOut_4 : decode cX1_dealOut 4 = .ok (.iload_n 3, 1) := by decide +kernel
theorem dX1_dealOut_5 : decode cX1_dealOut 5 = .ok (.aload_n 0, 1) := by decide +kernel
theorem dX1_dealOut_6 : decode cX1_dealOut 6 = .ok (.getfield 9, 3) := by decide +kernel
theorem dX1_dealOut_9 : decode cX1_dealOut 9 = .ok (.if_icmp .ge 29, 3) := by decide +kernel
theorem dX1_dealOut_12 : decode cX1_dealOut 12 = .ok (.aload_n 0, 1) := by decide +kernel
theorem dX1_dealOut_13 : decode cX1_dealOut 13 = .ok (.getfield 37, 3) := by decide +kernel
theorem dX1_dealOut_16 : decode cX1_dealOut 16 = .ok (.iload_n 3, 1) := by decide +kernel
theorem dX1_dealOut_17 : decode cX1_dealOut 17 = .ok (.aload_n 0, 1) := by decide +kernel
theorem dX1_dealOut_18 : decode cX1_dealOut 18 = .ok (.iload_n 3, 1) := by decide +kernel
theorem dX1_dealOut_19 : decode cX1_dealOut 19 = .ok (.invokevirtual 60, 3) := by decide +kernel
theorem dX1_dealOut_22 : decode cX1_dealOut 22 = .ok (.iastore, 1) := by decide +kernel
theorem dX1_dealOut_23 : decode cX1_dealOut 23 = .ok (.iload_n 2, 1) := by decide +kernel
theorem dX1_dealOut_24 : decode cX1_dealOut 24 = .ok (.aload_n 0, 1) := by decide +kernel
theorem dX1_dealOut_25 : decode cX1_dealOut 25 = .ok (.getfield 37, 3) := by decide +kernel
theorem dX1_dealOut_28 : decode cX1_dealOut 28 = .ok (.iload_n 3, 1) := by decide +kernel
theorem dX1_dealOut_29 : decode cX1_dealOut 29 = .ok (.iaload, 1) := by decide +kernel
theorem dX1_dealOut_30 : decode cX1_dealOut 30 = .ok (.iadd, 1) := by decide +kernel
theorem dX1_dealOut_31 : decode cX1_dealOut 31 = .ok (.istore_n 2, 1) := by decide +kernel
theorem dX1_dealOut_32 : decode cX1_dealOut 32 = .ok (.iinc 3 1, 3) := by decide +kernel
theorem dX1_dealOut_35 : decode cX1_dealOut 35 = .ok (.goto (-31), 3) := by decide +kernel
theorem dX1_dealOut_38 : decode cX1_dealOut 38 = .ok (.iload_n 2, 1) := by decide +kernel
theorem dX1_dealOut_39 : decode cX1_dealOut 39 = .ok (.ifCond .le 7, 3) := by decide +kernel
theorem dX1_dealOut_42 : decode cX1_dealOut 42 = .ok (.iload_n 1, 1) := by decide +kernel
theorem dX1_dealOut_43 : decode cX1_dealOut 43 = .ok (.goto 4, 3) := by decide +kernel
theorem dX1_dealOut_46 : decode cX1_dealOut 46 = .ok (.iconst 0, 1) := by decide +kernel
theorem dX1_dealOut_47 : decode cX1_dealOut 47 = .ok (.istore_n 3, 1) := by decide +kernel
theorem dX1_dealOut_48 : decode cX1_dealOut 48 = .ok (.iconst 0, 1) := by decide +kernel
theorem dX1_dealOut_49 : decode cX1_dealOut 49 = .ok (.istore 4, 2) := by decide +kernel
theorem dX1_dealOut_51 : decode cX1_dealOut 51 = .ok (.iload 4, 2) := by decide +kernel
theorem dX1_dealOut_53 : decode cX1_dealOut 53 = .ok (.aload_n 0, 1) := by decide +kernel
theorem dX1_dealOut_54 : decode cX1_dealOut 54 = .ok (.getfield 9, 3) := by decide +kernel
theorem dX1_dealOut_57 : decode cX1_dealOut 57 = .ok (.if_icmp .ge 71, 3) := by decide +kernel
theorem dX1_dealOut_60 : decode cX1_dealOut 60 = .ok (.aload_n 0, 1) := by decide +kernel
theorem dX1_dealOut_61 : decode cX1_dealOut 61 = .ok (.getfield 40, 3) := by decide +kernel
theorem dX1_dealOut_64 : decode cX1_dealOut 64 = .ok (.iload 4, 2) := by decide +kernel
theorem dX1_dealOut_66 : decode cX1_dealOut 66 = .ok (.iload_n 2, 1) := by decide +kernel
theorem dX1_dealOut_67 : decode cX1_dealOut 67 = .ok (.ifCond .le 17, 3) := by decide +kernel
theorem dX1_dealOut_70 : decode cX1_dealOut 70 = .ok (.iload_n 1, 1) := by decide +kernel
theorem dX1_dealOut_71 : decode cX1_dealOut 71 = .ok (.aload_n 0, 1) := by decide +kernel
theorem dX1_dealOut_72 : decode cX1_dealOut 72 = .ok (.getfield 37, 3) := by decide +kernel
theorem dX1_dealOut_75 : decode cX1_dealOut 75 = .ok (.iload 4, 2) := by decide +kernel
theorem dX1_dealOut_77 : decode cX1_dealOut 77 = .ok (.iaload, 1) := by decide +kernel
theorem dX1_dealOut_78 : decode cX1_dealOut 78 = .ok (.imul, 1) := by decide +kernel
theorem dX1_dealOut_79 : decode cX1_dealOut 79 = .ok (.iload_n 2, 1) := by decide +kernel
theorem dX1_dealOut_80 : decode cX1_dealOut 80 = .ok (.idiv, 1) := by decide +kernel
theorem dX1_dealOut_81 : decode cX1_dealOut 81 = .ok (.goto 4, 3) := by decide +kernel
theorem dX1_dealOut_84 : decode cX1_dealOut 84 = .ok (.iconst 0, 1) := by decide +kernel
theorem dX1_dealOut_85 : decode cX1_dealOut 85 = .ok (.iastore, 1) := by decide +kernel
theorem dX1_dealOut_86 : decode cX1_dealOut 86 = .ok (.aload_n 0, 1) := by decide +kernel
theorem dX1_dealOut_87 : decode cX1_dealOut 87 = .ok (.getfield 43, 3) := by decide +kernel
theorem dX1_dealOut_90 : decode cX1_dealOut 90 = .ok (.iload 4, 2) := by decide +kernel
theorem dX1_dealOut_92 : decode cX1_dealOut 92 = .ok (.iload_n 2, 1) := by decide +kernel
theorem dX1_dealOut_93 : decode cX1_dealOut 93 = .ok (.ifCond .le 17, 3) := by decide +kernel
theorem dX1_dealOut_96 : decode cX1_dealOut 96 = .ok (.iload_n 1, 1) := by decide +kernel
theorem dX1_dealOut_97 : decode cX1_dealOut 97 = .ok (.aload_n 0, 1) := by decide +kernel
theorem dX1_dealOut_98 : decode cX1_dealOut 98 = .ok (.getfield 37, 3) := by decide +kernel
theorem dX1_dealOut_101 : decode cX1_dealOut 101 = .ok (.iload 4, 2) := by decide +kernel
theorem dX1_dealOut_103 : decode cX1_dealOut 103 = .ok (.iaload, 1) := by decide +kernel
theorem dX1_dealOut_104 : decode cX1_dealOut 104 = .ok (.imul, 1) := by decide +kernel
theorem dX1_dealOut_105 : decode cX1_dealOut 105 = .ok (.iload_n 2, 1) := by decide +kernel
theorem dX1_dealOut_106 : decode cX1_dealOut 106 = .ok (.irem, 1) := by decide +kernel
theorem dX1_dealOut_107 : decode cX1_dealOut 107 = .ok (.goto 4, 3) := by decide +kernel
theorem dX1_dealOut_110 : decode cX1_dealOut 110 = .ok (.iconst 0, 1) := by decide +kernel
theorem dX1_dealOut_111 : decode cX1_dealOut 111 = .ok (.iastore, 1) := by decide +kernel
theorem dX1_dealOut_112 : decode cX1_dealOut 112 = .ok (.iload_n 3, 1) := by decide +kernel
theorem dX1_dealOut_113 : decode cX1_dealOut 113 = .ok (.aload_n 0, 1) := by decide +kernel
theorem dX1_dealOut_114 : decode cX1_dealOut 114 = .ok (.getfield 40, 3) := by decide +kernel
theorem dX1_dealOut_117 : decode cX1_dealOut 117 = .ok (.iload 4, 2) := by decide +kernel
theorem dX1_dealOut_119 : decode cX1_dealOut 119 = .ok (.iaload, 1) := by decide +kernel
theorem dX1_dealOut_120 : decode cX1_dealOut 120 = .ok (.isub, 1) := by decide +kernel
theorem dX1_dealOut_121 : decode cX1_dealOut 121 = .ok (.istore_n 3, 1) := by decide +kernel
theorem dX1_dealOut_122 : decode cX1_dealOut 122 = .ok (.iinc 4 1, 3) := by decide +kernel
theorem dX1_dealOut_125 : decode cX1_dealOut 125 = .ok (.goto (-74), 3) := by decide +kernel
theorem dX1_dealOut_128 : decode cX1_dealOut 128 = .ok (.iconst 0, 1) := by decide +kernel
theorem dX1_dealOut_129 : decode cX1_dealOut 129 = .ok (.istore 4, 2) := by decide +kernel
theorem dX1_dealOut_131 : decode cX1_dealOut 131 = .ok (.iload 4, 2) := by decide +kernel
theorem dX1_dealOut_133 : decode cX1_dealOut 133 = .ok (.aload_n 0, 1) := by decide +kernel
theorem dX1_dealOut_134 : decode cX1_dealOut 134 = .ok (.getfield 9, 3) := by decide +kernel
theorem dX1_dealOut_137 : decode cX1_dealOut 137 = .ok (.if_icmp .ge 30, 3) := by decide +kernel
theorem dX1_dealOut_140 : decode cX1_dealOut 140 = .ok (.aload_n 0, 1) := by decide +kernel
theorem dX1_dealOut_141 : decode cX1_dealOut 141 = .ok (.iload 4, 2) := by decide +kernel
theorem dX1_dealOut_143 : decode cX1_dealOut 143 = .ok (.invokevirtual 63, 3) := by decide +kernel
theorem dX1_dealOut_146 : decode cX1_dealOut 146 = .ok (.iload_n 3, 1) := by decide +kernel
theorem dX1_dealOut_147 : decode cX1_dealOut 147 = .ok (.if_icmp .ge 14, 3) := by decide +kernel
theorem dX1_dealOut_150 : decode cX1_dealOut 150 = .ok (.aload_n 0, 1) := by decide +kernel
theorem dX1_dealOut_151 : decode cX1_dealOut 151 = .ok (.getfield 40, 3) := by decide +kernel
theorem dX1_dealOut_154 : decode cX1_dealOut 154 = .ok (.iload 4, 2) := by decide +kernel
theorem dX1_dealOut_156 : decode cX1_dealOut 156 = .ok (.dup2, 1) := by decide +kernel
theorem dX1_dealOut_157 : decode cX1_dealOut 157 = .ok (.iaload, 1) := by decide +kernel
theorem dX1_dealOut_158 : decode cX1_dealOut 158 = .ok (.iconst 1, 1) := by decide +kernel
theorem dX1_dealOut_159 : decode cX1_dealOut 159 = .ok (.iadd, 1) := by decide +kernel
theorem dX1_dealOut_160 : decode cX1_dealOut 160 = .ok (.iastore, 1) := by decide +kernel
theorem dX1_dealOut_161 : decode cX1_dealOut 161 = .ok (.iinc 4 1, 3) := by decide +kernel
theorem dX1_dealOut_164 : decode cX1_dealOut 164 = .ok (.goto (-33), 3) := by decide +kernel
theorem dX1_dealOut_167 : decode cX1_dealOut 167 = .ok (.return_, 1) := by decide +kernel
theorem dX1_aheadByRemainder_0 : decode cX1_aheadByRemainder 0 = .ok (.iconst 0, 1) := by decide +kernel
theorem dX1_aheadByRemainder_1 : decode cX1_aheadByRemainder 1 = .ok (.istore_n 2, 1) := by decide +kernel
theorem dX1_aheadByRemainder_2 : decode cX1_aheadByRemainder 2 = .ok (.iconst 0, 1) := by decide +kernel
theorem dX1_aheadByRemainder_3 : decode cX1_aheadByRemainder 3 = .ok (.istore_n 3, 1) := by decide +kernel
theorem dX1_aheadByRemainder_4 : decode cX1_aheadByRemainder 4 = .ok (.iload_n 3, 1) := by decide +kernel
theorem dX1_aheadByRemainder_5 : decode cX1_aheadByRemainder 5 = .ok (.aload_n 0, 1) := by decide +kernel
theorem dX1_aheadByRemainder_6 : decode cX1_aheadByRemainder 6 = .ok (.getfield 9, 3) := by decide +kernel
theorem dX1_aheadByRemainder_9 : decode cX1_aheadByRemainder 9 = .ok (.if_icmp .ge 47, 3) := by decide +kernel
theorem dX1_aheadByRemainder_12 : decode cX1_aheadByRemainder 12 = .ok (.aload_n 0, 1) := by decide +kernel
theorem dX1_aheadByRemainder_13 : decode cX1_aheadByRemainder 13 = .ok (.getfield 43, 3) := by decide +kernel
theorem dX1_aheadByRemainder_16 : decode cX1_aheadByRemainder 16 = .ok (.iload_n 3, 1) := by decide +kernel
theorem dX1_aheadByRemainder_17 : decode cX1_aheadByRemainder 17 = .ok (.iaload, 1) := by decide +kernel
theorem dX1_aheadByRemainder_18 : decode cX1_aheadByRemainder 18 = .ok (.aload_n 0, 1) := by decide +kernel
theorem dX1_aheadByRemainder_19 : decode cX1_aheadByRemainder 19 = .ok (.getfield 43, 3) := by decide +kernel
theorem dX1_aheadByRemainder_22 : decode cX1_aheadByRemainder 22 = .ok (.iload_n 1, 1) := by decide +kernel
theorem dX1_aheadByRemainder_23 : decode cX1_aheadByRemainder 23 = .ok (.iaload, 1) := by decide +kernel
theorem dX1_aheadByRemainder_24 : decode cX1_aheadByRemainder 24 = .ok (.if_icmp .gt 23, 3) := by decide +kernel
theorem dX1_aheadByRemainder_27 : decode cX1_aheadByRemainder 27 = .ok (.aload_n 0, 1) := by decide +kernel
theorem dX1_aheadByRemainder_28 : decode cX1_aheadByRemainder 28 = .ok (.getfield 43, 3) := by decide +kernel
theorem dX1_aheadByRemainder_31 : decode cX1_aheadByRemainder 31 = .ok (.iload_n 3, 1) := by decide +kernel
theorem dX1_aheadByRemainder_32 : decode cX1_aheadByRemainder 32 = .ok (.iaload, 1) := by decide +kernel
theorem dX1_aheadByRemainder_33 : decode cX1_aheadByRemainder 33 = .ok (.aload_n 0, 1) := by decide +kernel
theorem dX1_aheadByRemainder_34 : decode cX1_aheadByRemainder 34 = .ok (.getfield 43, 3) := by decide +kernel
theorem dX1_aheadByRemainder_37 : decode cX1_aheadByRemainder 37 = .ok (.iload_n 1, 1) := by decide +kernel
theorem dX1_aheadByRemainder_38 : decode cX1_aheadByRemainder 38 = .ok (.iaload, 1) := by decide +kernel
theorem dX1_aheadByRemainder_39 : decode cX1_aheadByRemainder 39 = .ok (.if_icmp .ne 11, 3) := by decide +kernel
theorem dX1_aheadByRemainder_42 : decode cX1_aheadByRemainder 42 = .ok (.iload_n 3, 1) := by decide +kernel
theorem dX1_aheadByRemainder_43 : decode cX1_aheadByRemainder 43 = .ok (.iload_n 1, 1) := by decide +kernel
theorem dX1_aheadByRemainder_44 : decode cX1_aheadByRemainder 44 = .ok (.if_icmp .ge 6, 3) := by decide +kernel
theorem dX1_aheadByRemainder_47 : decode cX1_aheadByRemainder 47 = .ok (.iinc 2 1, 3) := by decide +kernel
theorem dX1_aheadByRemainder_50 : decode cX1_aheadByRemainder 50 = .ok (.iinc 3 1, 3) := by decide +kernel
theorem dX1_aheadByRemainder_53 : decode cX1_aheadByRemainder 53 = .ok (.goto (-49), 3) := by decide +kernel
theorem dX1_aheadByRemainder_56 : decode cX1_aheadByRemainder 56 = .ok (.iload_n 2, 1) := by decide +kernel
theorem dX1_aheadByRemainder_57 : decode cX1_aheadByRemainder 57 = .ok (.ireturn, 1) := by decide +kernel
theorem dX1_dealOneByOne_0 : decode cX1_dealOneByOne 0 = .ok (.iconst 0, 1) := by decide +kernel
theorem dX1_dealOneByOne_1 : decode cX1_dealOneByOne 1 = .ok (.istore_n 2, 1) := by decide +kernel
theorem dX1_dealOneByOne_2 : decode cX1_dealOneByOne 2 = .ok (.iload_n 2, 1) := by decide +kernel
theorem dX1_dealOneByOne_3 : decode cX1_dealOneByOne 3 = .ok (.aload_n 0, 1) := by decide +kernel
theorem dX1_dealOneByOne_4 : decode cX1_dealOneByOne 4 = .ok (.getfield 9, 3) := by decide +kernel
theorem dX1_dealOneByOne_7 : decode cX1_dealOneByOne 7 = .ok (.if_icmp .ge 27, 3) := by decide +kernel
theorem dX1_dealOneByOne_10 : decode cX1_dealOneByOne 10 = .ok (.aload_n 0, 1) := by decide +kernel
theorem dX1_dealOneByOne_11 : decode cX1_dealOneByOne 11 = .ok (.getfield 37, 3) := by decide +kernel
theorem dX1_dealOneByOne_14 : decode cX1_dealOneByOne 14 = .ok (.iload_n 2, 1) := by decide +kernel
theorem dX1_dealOneByOne_15 : decode cX1_dealOneByOne 15 = .ok (.aload_n 0, 1) := by decide +kernel
theorem dX1_dealOneByOne_16 : decode cX1_dealOneByOne 16 = .ok (.iload_n 2, 1) := by decide +kernel
theorem dX1_dealOneByOne_17 : decode cX1_dealOneByOne 17 = .ok (.invokevirtual 60, 3) := by decide +kernel
theorem dX1_dealOneByOne_20 : decode cX1_dealOneByOne 20 = .ok (.iastore, 1) := by decide +kernel
theorem dX1_dealOneByOne_21 : decode cX1_dealOneByOne 21 = .ok (.aload_n 0, 1) := by decide +kernel
theorem dX1_dealOneByOne_22 : decode cX1_dealOneByOne 22 = .ok (.getfield 40, 3) := by decide +kernel
theorem dX1_dealOneByOne_25 : decode cX1_dealOneByOne 25 = .ok (.iload_n 2, 1) := by decide +kernel
theorem dX1_dealOneByOne_26 : decode cX1_dealOneByOne 26 = .ok (.iconst 0, 1) := by decide +kernel
theorem dX1_dealOneByOne_27 : decode cX1_dealOneByOne 27 = .ok (.iastore, 1) := by decide +kernel
theorem dX1_dealOneByOne_28 : decode cX1_dealOneByOne 28 = .ok (.iinc 2 1, 3) := by decide +kernel
theorem dX1_dealOneByOne_31 : decode cX1_dealOneByOne 31 = .ok (.goto (-29), 3) := by decide +kernel
theorem dX1_dealOneByOne_34 : decode cX1_dealOneByOne 34 = .ok (.iconst 0, 1) := by decide +kernel
theorem dX1_dealOneByOne_35 : decode cX1_dealOneByOne 35 = .ok (.istore_n 2, 1) := by decide +kernel
theorem dX1_dealOneByOne_36 : decode cX1_dealOneByOne 36 = .ok (.iload_n 2, 1) := by decide +kernel
theorem dX1_dealOneByOne_37 : decode cX1_dealOneByOne 37 = .ok (.iload_n 1, 1) := by decide +kernel
theorem dX1_dealOneByOne_38 : decode cX1_dealOneByOne 38 = .ok (.if_icmp .ge 30, 3) := by decide +kernel
theorem dX1_dealOneByOne_41 : decode cX1_dealOneByOne 41 = .ok (.aload_n 0, 1) := by decide +kernel
theorem dX1_dealOneByOne_42 : decode cX1_dealOneByOne 42 = .ok (.invokevirtual 66, 3) := by decide +kernel
theorem dX1_dealOneByOne_45 : decode cX1_dealOneByOne 45 = .ok (.istore_n 3, 1) := by decide +kernel
theorem dX1_dealOneByOne_46 : decode cX1_dealOneByOne 46 = .ok (.iload_n 3, 1) := by decide +kernel
theorem dX1_dealOneByOne_47 : decode cX1_dealOneByOne 47 = .ok (.bipush (-9), 2) := by decide +kernel
theorem dX1_dealOneByOne_49 : decode cX1_dealOneByOne 49 = .ok (.if_icmp .eq 13, 3) := by decide +kernel
theorem dX1_dealOneByOne_52 : decode cX1_dealOneByOne 52 = .ok (.aload_n 0, 1) := by decide +kernel
theorem dX1_dealOneByOne_53 : decode cX1_dealOneByOne 53 = .ok (.getfield 40, 3) := by decide +kernel
theorem dX1_dealOneByOne_56 : decode cX1_dealOneByOne 56 = .ok (.iload_n 3, 1) := by decide +kernel
theorem dX1_dealOneByOne_57 : decode cX1_dealOneByOne 57 = .ok (.dup2, 1) := by decide +kernel
theorem dX1_dealOneByOne_58 : decode cX1_dealOneByOne 58 = .ok (.iaload, 1) := by decide +kernel
theorem dX1_dealOneByOne_59 : decode cX1_dealOneByOne 59 = .ok (.iconst 1, 1) := by decide +kernel
theorem dX1_dealOneByOne_60 : decode cX1_dealOneByOne 60 = .ok (.iadd, 1) := by decide +kernel
theorem dX1_dealOneByOne_61 : decode cX1_dealOneByOne 61 = .ok (.iastore, 1) := by decide +kernel
theorem dX1_dealOneByOne_62 : decode cX1_dealOneByOne 62 = .ok (.iinc 2 1, 3) := by decide +kernel
theorem dX1_dealOneByOne_65 : decode cX1_dealOneByOne 65 = .ok (.goto (-29), 3) := by decide +kernel
theorem dX1_dealOneByOne_68 : decode cX1_dealOneByOne 68 = .ok (.return_, 1) := by decide +kernel
theorem dX1_nextOneByOne_0 : decode cX1_nextOneByOne 0 = .ok (.bipush (-9), 2) := by decide +kernel
theorem dX1_nextOneByOne_2 : decode cX1_nextOneByOne 2 = .ok (.istore_n 1, 1) := by decide +kernel
theorem dX1_nextOneByOne_3 : decode cX1_nextOneByOne 3 = .ok (.iconst 0, 1) := by decide +kernel
theorem dX1_nextOneByOne_4 : decode cX1_nextOneByOne 4 = .ok (.istore_n 2, 1) := by decide +kernel
theorem dX1_nextOneByOne_5 : decode cX1_nextOneByOne 5 = .ok (.iload_n 2, 1) := by decide +kernel
theorem dX1_nextOneByOne_6 : decode cX1_nextOneByOne 6 = .ok (.aload_n 0, 1) := by decide +kernel
theorem dX1_nextOneByOne_7 : decode cX1_nextOneByOne 7 = .ok (.getfield 9, 3) := by decide +kernel
theorem dX1_nextOneByOne_10 : decode cX1_nextOneByOne 10 = .ok (.if_icmp .ge 35, 3) := by decide +kernel
theorem dX1_nextOneByOne_13 : decode cX1_nextOneByOne 13 = .ok (.aload_n 0, 1) := by decide +kernel
theorem dX1_nextOneByOne_14 : decode cX1_nextOneByOne 14 = .ok (.getfield 37, 3) := by decide +kernel
theorem dX1_nextOneByOne_17 : decode cX1_nextOneByOne 17 = .ok (.iload_n 2, 1) := by decide +kernel
theorem dX1_nextOneByOne_18 : decode cX1_nextOneByOne 18 = .ok (.iaload, 1) := by decide +kernel
theorem dX1_nextOneByOne_19 : decode cX1_nextOneByOne 19 = .ok (.ifCond .le 20, 3) := by decide +kernel
theorem dX1_nextOneByOne_22 : decode cX1_nextOneByOne 22 = .ok (.iload_n 1, 1) := by decide +kernel
theorem dX1_nextOneByOne_23 : decode cX1_nextOneByOne 23 = .ok (.bipush (-9), 2) := by decide +kernel
theorem dX1_nextOneByOne_25 : decode cX1_nextOneByOne 25 = .ok (.if_icmp .eq 12, 3) := by decide +kernel
theorem dX1_nextOneByOne_28 : decode cX1_nextOneByOne 28 = .ok (.aload_n 0, 1) := by decide +kernel
theorem dX1_nextOneByOne_29 : decode cX1_nextOneByOne 29 = .ok (.iload_n 2, 1) := by decide +kernel
theorem dX1_nextOneByOne_30 : decode cX1_nextOneByOne 30 = .ok (.iload_n 1, 1) := by decide +kernel
theorem dX1_nextOneByOne_31 : decode cX1_nextOneByOne 31 = .ok (.invokevirtual 70, 3) := by decide +kernel
theorem dX1_nextOneByOne_34 : decode cX1_nextOneByOne 34 = .ok (.ifCond .eq 5, 3) := by decide +kernel
theorem dX1_nextOneByOne_37 : decode cX1_nextOneByOne 37 = .ok (.iload_n 2, 1) := by decide +kernel
theorem dX1_nextOneByOne_38 : decode cX1_nextOneByOne 38 = .ok (.istore_n 1, 1) := by decide +kernel
theorem dX1_nextOneByOne_39 : decode cX1_nextOneByOne 39 = .ok (.iinc 2 1, 3) := by decide +kernel
theorem dX1_nextOneByOne_42 : decode cX1_nextOneByOne 42 = .ok (.goto (-37), 3) := by decide +kernel
theorem dX1_nextOneByOne_45 : decode cX1_nextOneByOne 45 = .ok (.iload_n 1, 1) := by decide +kernel
theorem dX1_nextOneByOne_46 : decode cX1_nextOneByOne 46 = .ok (.ireturn, 1) := by decide +kernel
theorem dX1_isAheadOneByOne_0 : decode cX1_isAheadOneByOne 0 = .ok (.aload_n 0, 1) := by decide +kernel
theorem dX1_isAheadOneByOne_1 : decode cX1_isAheadOneByOne 1 = .ok (.getfield 37, 3) := by decide +kernel
theorem dX1_isAheadOneByOne_4 : decode cX1_isAheadOneByOne 4 = .ok (.iload_n 1, 1) := by decide +kernel
theorem dX1_isAheadOneByOne_5 : decode cX1_isAheadOneByOne 5 = .ok (.iaload, 1) := by decide +kernel
theorem dX1_isAheadOneByOne_6 : decode cX1_isAheadOneByOne 6 = .ok (.aload_n 0, 1) := by decide +kernel
theorem dX1_isAheadOneByOne_7 : decode cX1_isAheadOneByOne 7 = .ok (.getfield 40, 3) := by decide +kernel
theorem dX1_isAheadOneByOne_10 : decode cX1_isAheadOneByOne 10 = .ok (.iload_n 2, 1) := by decide +kernel
theorem dX1_isAheadOneByOne_11 : decode cX1_isAheadOneByOne 11 = .ok (.iaload, 1) := by decide +kernel
theorem dX1_isAheadOneByOne_12 : decode cX1_isAheadOneByOne 12 = .ok (.iconst 1, 1) := by decide +kernel
theorem dX1_isAheadOneByOne_13 : decode cX1_isAheadOneByOne 13 = .ok (.iadd, 1) := by decide +kernel
theorem dX1_isAheadOneByOne_14 : decode cX1_isAheadOneByOne 14 = .ok (.imul, 1) := by decide +kernel
theorem dX1_isAheadOneByOne_15 : decode cX1_isAheadOneByOne 15 = .ok (.aload_n 0, 1) := by decide +kernel
theorem dX1_isAheadOneByOne_16 : decode cX1_isAheadOneByOne 16 = .ok (.getfield 37, 3) := by decide +kernel
theorem dX1_isAheadOneByOne_19 : decode cX1_isAheadOneByOne 19 = .ok (.iload_n 2, 1) := by decide +kernel
theorem dX1_isAheadOneByOne_20 : decode cX1_isAheadOneByOne 20 = .ok (.iaload, 1) := by decide +kernel
theorem dX1_isAheadOneByOne_21 : decode cX1_isAheadOneByOne 21 = .ok (.aload_n 0, 1) := by decide +kernel
theorem dX1_isAheadOneByOne_22 : decode cX1_isAheadOneByOne 22 = .ok (.getfield 40, 3) := by decide +kernel
theorem dX1_isAheadOneByOne_25 : decode cX1_isAheadOneByOne 25 = .ok (.iload_n 1, 1) := by decide +kernel
theorem dX1_isAheadOneByOne_26 : decode cX1_isAheadOneByOne 26 = .ok (.iaload, 1) := by decide +kernel
theorem dX1_isAheadOneByOne_27 : decode cX1_isAheadOneByOne 27 = .ok (.iconst 1, 1) := by decide +kernel
theorem dX1_isAheadOneByOne_28 : decode cX1_isAheadOneByOne 28 = .ok (.iadd, 1) := by decide +kernel
theorem dX1_isAheadOneByOne_29 : decode cX1_isAheadOneByOne 29 = .ok (.imul, 1) := by decide +kernel
theorem dX1_isAheadOneByOne_30 : decode cX1_isAheadOneByOne 30 = .ok (.if_icmp .le 7, 3) := by decide +kernel
theorem dX1_isAheadOneByOne_33 : decode cX1_isAheadOneByOne 33 = .ok (.iconst 1, 1) := by decide +kernel
theorem dX1_isAheadOneByOne_34 : decode cX1_isAheadOneByOne 34 = .ok (.goto 4, 3) := by decide +kernel
theorem dX1_isAheadOneByOne_37 : decode cX1_isAheadOneByOne 37 = .ok (.iconst 0, 1) := by decide +kernel
theorem dX1_isAheadOneByOne_38 : decode cX1_isAheadOneByOne 38 = .ok (.ireturn, 1) := by decide +kernel
theorem dX1_passWeeks_0 : decode cX1_passWeeks 0 = .ok (.iconst 0, 1) := by decide +kernel
theorem dX1_passWeeks_1 : decode cX1_passWeeks 1 = .ok (.istore_n 2, 1) := by decide +kernel
theorem dX1_passWeeks_2 : decode cX1_passWeeks 2 = .ok (.iload_n 2, 1) := by decide +kernel
theorem dX1_passWeeks_3 : decode cX1_passWeeks 3 = .ok (.iload_n 1, 1) := by decide +kernel
theorem dX1_passWeeks_4 : decode cX1_passWeeks 4 = .ok (.if_icmp .ge 13, 3) := by decide +kernel
theorem dX1_passWeeks_7 : decode cX1_passWeeks 7 = .ok (.aload_n 0, 1) := by decide +kernel
theorem dX1_passWeeks_8 : decode cX1_passWeeks 8 = .ok (.invokevirtual 74, 3) := by decide +kernel
theorem dX1_passWeeks_11 : decode cX1_passWeeks 11 = .ok (.iinc 2 1, 3) := by decide +kernel
theorem dX1_passWeeks_14 : decode cX1_passWeeks 14 = .ok (.goto (-12), 3) := by decide +kernel
theorem dX1_passWeeks_17 : decode cX1_passWeeks 17 = .ok (.return_, 1) := by decide +kernel
theorem dX1_passWeek_0 : decode cX1_passWeek 0 = .ok (.aload_n 0, 1) := by decide +kernel
theorem dX1_passWeek_1 : decode cX1_passWeek 1 = .ok (.aload_n 0, 1) := by decide +kernel
theorem dX1_passWeek_2 : decode cX1_passWeek 2 = .ok (.getfield 15, 3) := by decide +kernel
theorem dX1_passWeek_5 : decode cX1_passWeek 5 = .ok (.invokevirtual 56, 3) := by decide +kernel
theorem dX1_passWeek_8 : decode cX1_passWeek 8 = .ok (.iconst 0, 1) := by decide +kernel
theorem dX1_passWeek_9 : decode cX1_passWeek 9 = .ok (.istore_n 1, 1) := by decide +kernel
theorem dX1_passWeek_10 : decode cX1_passWeek 10 = .ok (.iload_n 1, 1) := by decide +kernel
theorem dX1_passWeek_11 : decode cX1_passWeek 11 = .ok (.aload_n 0, 1) := by decide +kernel
theorem dX1_passWeek_12 : decode cX1_passWeek 12 = .ok (.getfield 9, 3) := by decide +kernel
theorem dX1_passWeek_15 : decode cX1_passWeek 15 = .ok (.if_icmp .ge 35, 3) := by decide +kernel
theorem dX1_passWeek_18 : decode cX1_passWeek 18 = .ok (.aload_n 0, 1) := by decide +kernel
theorem dX1_passWeek_19 : decode cX1_passWeek 19 = .ok (.getfield 31, 3) := by decide +kernel
theorem dX1_passWeek_22 : decode cX1_passWeek 22 = .ok (.iload_n 1, 1) := by decide +kernel
theorem dX1_passWeek_23 : decode cX1_passWeek 23 = .ok (.dup2, 1) := by decide +kernel
theorem dX1_passWeek_24 : decode cX1_passWeek 24 = .ok (.iaload, 1) := by decide +kernel
theorem dX1_passWeek_25 : decode cX1_passWeek 25 = .ok (.aload_n 0, 1) := by decide +kernel
theorem dX1_passWeek_26 : decode cX1_passWeek 26 = .ok (.getfield 40, 3) := by decide +kernel
theorem dX1_passWeek_29 : decode cX1_passWeek 29 = .ok (.iload_n 1, 1) := by decide +kernel
theorem dX1_passWeek_30 : decode cX1_passWeek 30 = .ok (.iaload, 1) := by decide +kernel
theorem dX1_passWeek_31 : decode cX1_passWeek 31 = .ok (.aload_n 0, 1) := by decide +kernel
theorem dX1_passWeek_32 : decode cX1_passWeek 32 = .ok (.iload_n 1, 1) := by decide +kernel
theorem dX1_passWeek_33 : decode cX1_passWeek 33 = .ok (.invokevirtual 77, 3) := by decide +kernel
theorem dX1_passWeek_36 : decode cX1_passWeek 36 = .ok (.iadd, 1) := by decide +kernel
theorem dX1_passWeek_37 : decode cX1_passWeek 37 = .ok (.iadd, 1) := by decide +kernel
theorem dX1_passWeek_38 : decode cX1_passWeek 38 = .ok (.iastore, 1) := by decide +kernel
theorem dX1_passWeek_39 : decode cX1_passWeek 39 = .ok (.aload_n 0, 1) := by decide +kernel
theorem dX1_passWeek_40 : decode cX1_passWeek 40 = .ok (.iload_n 1, 1) := by decide +kernel
theorem dX1_passWeek_41 : decode cX1_passWeek 41 = .ok (.invokevirtual 80, 3) := by decide +kernel
theorem dX1_passWeek_44 : decode cX1_passWeek 44 = .ok (.iinc 1 1, 3) := by decide +kernel
theorem dX1_passWeek_47 : decode cX1_passWeek 47 = .ok (.goto (-37), 3) := by decide +kernel
theorem dX1_passWeek_50 : decode cX1_passWeek 50 = .ok (.aload_n 0, 1) := by decide +kernel
theorem dX1_passWeek_51 : decode cX1_passWeek 51 = .ok (.dup, 1) := by decide +kernel
theorem dX1_passWeek_52 : decode cX1_passWeek 52 = .ok (.getfield 18, 3) := by decide +kernel
theorem dX1_passWeek_55 : decode cX1_passWeek 55 = .ok (.iconst 1, 1) := by decide +kernel
theorem dX1_passWeek_56 : decode cX1_passWeek 56 = .ok (.iadd, 1) := by decide +kernel
theorem dX1_passWeek_57 : decode cX1_passWeek 57 = .ok (.putfield 18, 3) := by decide +kernel
theorem dX1_passWeek_60 : decode cX1_passWeek 60 = .ok (.aload_n 0, 1) := by decide +kernel
theorem dX1_passWeek_61 : decode cX1_passWeek 61 = .ok (.invokevirtual 83, 3) := by decide +kernel
theorem dX1_passWeek_64 : decode cX1_passWeek 64 = .ok (.ifCond .le 13, 3) := by decide +kernel
theorem dX1_passWeek_67 : decode cX1_passWeek 67 = .ok (.aload_n 0, 1) := by decide +kernel
theorem dX1_passWeek_68 : decode cX1_passWeek 68 = .ok (.dup, 1) := by decide +kernel
theorem dX1_passWeek_69 : decode cX1_passWeek 69 = .ok (.getfield 21, 3) := by decide +kernel
theorem dX1_passWeek_72 : decode cX1_passWeek 72 = .ok (.iconst 1, 1) := by decide +kernel
theorem dX1_passWeek_73 : decode cX1_passWeek 73 = .ok (.iadd, 1) := by decide +kernel
theorem dX1_passWeek_74 : decode cX1_passWeek 74 = .ok (.putfield 21, 3) := by decide +kernel
theorem dX1_passWeek_77 : decode cX1_passWeek 77 = .ok (.return_, 1) := by decide +kernel
theorem dX1_suck_0 : decode cX1_suck 0 = .ok (.aload_n 0, 1) := by decide +kernel
theorem dX1_suck_1 : decode cX1_suck 1 = .ok (.getfield 31, 3) := by decide +kernel
theorem dX1_suck_4 : decode cX1_suck 4 = .ok (.iload_n 1, 1) := by decide +kernel
theorem dX1_suck_5 : decode cX1_suck 5 = .ok (.iaload, 1) := by decide +kernel
theorem dX1_suck_6 : decode cX1_suck 6 = .ok (.ifCond .le 44, 3) := by decide +kernel
theorem dX1_suck_9 : decode cX1_suck 9 = .ok (.aload_n 0, 1) := by decide +kernel
theorem dX1_suck_10 : decode cX1_suck 10 = .ok (.getfield 31, 3) := by decide +kernel
theorem dX1_suck_13 : decode cX1_suck 13 = .ok (.iload_n 1, 1) := by decide +kernel
theorem dX1_suck_14 : decode cX1_suck 14 = .ok (.dup2, 1) := by decide +kernel
theorem dX1_suck_15 : decode cX1_suck 15 = .ok (.iaload, 1) := by decide +kernel
theorem dX1_suck_16 : decode cX1_suck 16 = .ok (.iconst 1, 1) := by decide +kernel
theorem dX1_suck_17 : decode cX1_suck 17 = .ok (.isub, 1) := by decide +kernel
theorem dX1_suck_18 : decode cX1_suck 18 = .ok (.iastore, 1) := by decide +kernel
theorem dX1_suck_19 : decode cX1_suck 19 = .ok (.aload_n 0, 1) := by decide +kernel
theorem dX1_suck_20 : decode cX1_suck 20 = .ok (.getfield 28, 3) := by decide +kernel
theorem dX1_suck_23 : decode cX1_suck 23 = .ok (.iload_n 1, 1) := by decide +kernel
theorem dX1_suck_24 : decode cX1_suck 24 = .ok (.aload_n 0, 1) := by decide +kernel
theorem dX1_suck_25 : decode cX1_suck 25 = .ok (.getfield 28, 3) := by decide +kernel
theorem dX1_suck_28 : decode cX1_suck 28 = .ok (.iload_n 1, 1) := by decide +kernel
theorem dX1_suck_29 : decode cX1_suck 29 = .ok (.iaload, 1) := by decide +kernel
theorem dX1_suck_30 : decode cX1_suck 30 = .ok (.iconst 1, 1) := by decide +kernel
theorem dX1_suck_31 : decode cX1_suck 31 = .ok (.isub, 1) := by decide +kernel
theorem dX1_suck_32 : decode cX1_suck 32 = .ok (.iconst 0, 1) := by decide +kernel
theorem dX1_suck_33 : decode cX1_suck 33 = .ok (.invokestatic 86, 3) := by decide +kernel
theorem dX1_suck_36 : decode cX1_suck 36 = .ok (.iastore, 1) := by decide +kernel
theorem dX1_suck_37 : decode cX1_suck 37 = .ok (.aload_n 0, 1) := by decide +kernel
theorem dX1_suck_38 : decode cX1_suck 38 = .ok (.getfield 34, 3) := by decide +kernel
theorem dX1_suck_41 : decode cX1_suck 41 = .ok (.iload_n 1, 1) := by decide +kernel
theorem dX1_suck_42 : decode cX1_suck 42 = .ok (.dup2, 1) := by decide +kernel
theorem dX1_suck_43 : decode cX1_suck 43 = .ok (.iaload, 1) := by decide +kernel
theorem dX1_suck_44 : decode cX1_suck 44 = .ok (.iconst 1, 1) := by decide +kernel
theorem dX1_suck_45 : decode cX1_suck 45 = .ok (.iadd, 1) := by decide +kernel
theorem dX1_suck_46 : decode cX1_suck 46 = .ok (.iastore, 1) := by decide +kernel
theorem dX1_suck_47 : decode cX1_suck 47 = .ok (.goto 22, 3) := by decide +kernel
theorem dX1_suck_50 : decode cX1_suck 50 = .ok (.aload_n 0, 1) := by decide +kernel
theorem dX1_suck_51 : decode cX1_suck 51 = .ok (.getfield 28, 3) := by decide +kernel
theorem dX1_suck_54 : decode cX1_suck 54 = .ok (.iload_n 1, 1) := by decide +kernel
theorem dX1_suck_55 : decode cX1_suck 55 = .ok (.aload_n 0, 1) := by decide +kernel
theorem dX1_suck_56 : decode cX1_suck 56 = .ok (.getfield 28, 3) := by decide +kernel
theorem dX1_suck_59 : decode cX1_suck 59 = .ok (.iload_n 1, 1) := by decide +kernel
theorem dX1_suck_60 : decode cX1_suck 60 = .ok (.iaload, 1) := by decide +kernel
theorem dX1_suck_61 : decode cX1_suck 61 = .ok (.iconst 1, 1) := by decide +kernel
theorem dX1_suck_62 : decode cX1_suck 62 = .ok (.iadd, 1) := by decide +kernel
theorem dX1_suck_63 : decode cX1_suck 63 = .ok (.bipush 9, 2) := by decide +kernel
theorem dX1_suck_65 : decode cX1_suck 65 = .ok (.invokestatic 46, 3) := by decide +kernel
theorem dX1_suck_68 : decode cX1_suck 68 = .ok (.iastore, 1) := by decide +kernel
theorem dX1_suck_69 : decode cX1_suck 69 = .ok (.return_, 1) := by decide +kernel
theorem dX1_giveOneFrom_0 : decode cX1_giveOneFrom 0 = .ok (.aload_n 0, 1) := by decide +kernel
theorem dX1_giveOneFrom_1 : decode cX1_giveOneFrom 1 = .ok (.getfield 31, 3) := by decide +kernel
theorem dX1_giveOneFrom_4 : decode cX1_giveOneFrom 4 = .ok (.iload_n 1, 1) := by decide +kernel
theorem dX1_giveOneFrom_5 : decode cX1_giveOneFrom 5 = .ok (.iaload, 1) := by decide +kernel
theorem dX1_giveOneFrom_6 : decode cX1_giveOneFrom 6 = .ok (.ifCond .gt 5, 3) := by decide +kernel
theorem dX1_giveOneFrom_9 : decode cX1_giveOneFrom 9 = .ok (.iconst 0, 1) := by decide +kernel
theorem dX1_giveOneFrom_10 : decode cX1_giveOneFrom 10 = .ok (.ireturn, 1) := by decide +kernel
theorem dX1_giveOneFrom_11 : decode cX1_giveOneFrom 11 = .ok (.aload_n 0, 1) := by decide +kernel
theorem dX1_giveOneFrom_12 : decode cX1_giveOneFrom 12 = .ok (.getfield 31, 3) := by decide +kernel
theorem dX1_giveOneFrom_15 : decode cX1_giveOneFrom 15 = .ok (.iload_n 1, 1) := by decide +kernel
theorem dX1_giveOneFrom_16 : decode cX1_giveOneFrom 16 = .ok (.dup2, 1) := by decide +kernel
theorem dX1_giveOneFrom_17 : decode cX1_giveOneFrom 17 = .ok (.iaload, 1) := by decide +kernel
theorem dX1_giveOneFrom_18 : decode cX1_giveOneFrom 18 = .ok (.iconst 1, 1) := by decide +kernel
theorem dX1_giveOneFrom_19 : decode cX1_giveOneFrom 19 = .ok (.isub, 1) := by decide +kernel
theorem dX1_giveOneFrom_20 : decode cX1_giveOneFrom 20 = .ok (.iastore, 1) := by decide +kernel
theorem dX1_giveOneFrom_21 : decode cX1_giveOneFrom 21 = .ok (.aload_n 0, 1) := by decide +kernel
theorem dX1_giveOneFrom_22 : decode cX1_giveOneFrom 22 = .ok (.getfield 31, 3) := by decide +kernel
theorem dX1_giveOneFrom_25 : decode cX1_giveOneFrom 25 = .ok (.iload_n 1, 1) := by decide +kernel
theorem dX1_giveOneFrom_26 : decode cX1_giveOneFrom 26 = .ok (.iconst 1, 1) := by decide +kernel
theorem dX1_giveOneFrom_27 : decode cX1_giveOneFrom 27 = .ok (.iadd, 1) := by decide +kernel
theorem dX1_giveOneFrom_28 : decode cX1_giveOneFrom 28 = .ok (.aload_n 0, 1) := by decide +kernel
theorem dX1_giveOneFrom_29 : decode cX1_giveOneFrom 29 = .ok (.getfield 9, 3) := by decide +kernel
theorem dX1_giveOneFrom_32 : decode cX1_giveOneFrom 32 = .ok (.if_icmp .ge 9, 3) := by decide +kernel
theorem dX1_giveOneFrom_35 : decode cX1_giveOneFrom 35 = .ok (.iload_n 1, 1) := by decide +kernel
theorem dX1_giveOneFrom_36 : decode cX1_giveOneFrom 36 = .ok (.iconst 1, 1) := by decide +kernel
theorem dX1_giveOneFrom_37 : decode cX1_giveOneFrom 37 = .ok (.iadd, 1) := by decide +kernel
theorem dX1_giveOneFrom_38 : decode cX1_giveOneFrom 38 = .ok (.goto 4, 3) := by decide +kernel
theorem dX1_giveOneFrom_41 : decode cX1_giveOneFrom 41 = .ok (.iconst 0, 1) := by decide +kernel
theorem dX1_giveOneFrom_42 : decode cX1_giveOneFrom 42 = .ok (.dup2, 1) := by decide +kernel
theorem dX1_giveOneFrom_43 : decode cX1_giveOneFrom 43 = .ok (.iaload, 1) := by decide +kernel
theorem dX1_giveOneFrom_44 : decode cX1_giveOneFrom 44 = .ok (.iconst 1, 1) := by decide +kernel
theorem dX1_giveOneFrom_45 : decode cX1_giveOneFrom 45 = .ok (.iadd, 1) := by decide +kernel
theorem dX1_giveOneFrom_46 : decode cX1_giveOneFrom 46 = .ok (.iastore, 1) := by decide +kernel
theorem dX1_giveOneFrom_47 : decode cX1_giveOneFrom 47 = .ok (.iconst 1, 1) := by decide +kernel
theorem dX1_giveOneFrom_48 : decode cX1_giveOneFrom 48 = .ok (.ireturn, 1) := by decide +kernel
theorem dX1_withoutStock_0 : decode cX1_withoutStock 0 = .ok (.iconst 0, 1) := by decide +kernel
theorem dX1_withoutStock_1 : decode cX1_withoutStock 1 = .ok (.istore_n 1, 1) := by decide +kernel
theorem dX1_withoutStock_2 : decode cX1_withoutStock 2 = .ok (.iconst 0, 1) := by decide +kernel
theorem dX1_withoutStock_3 : decode cX1_withoutStock 3 = .ok (.istore_n 2, 1) := by decide +kernel
theorem dX1_withoutStock_4 : decode cX1_withoutStock 4 = .ok (.iload_n 2, 1) := by decide +kernel
theorem dX1_withoutStock_5 : decode cX1_withoutStock 5 = .ok (.aload_n 0, 1) := by decide +kernel
theorem dX1_withoutStock_6 : decode cX1_withoutStock 6 = .ok (.getfield 9, 3) := by decide +kernel
theorem dX1_withoutStock_9 : decode cX1_withoutStock 9 = .ok (.if_icmp .ge 21, 3) := by decide +kernel
theorem dX1_withoutStock_12 : decode cX1_withoutStock 12 = .ok (.aload_n 0, 1) := by decide +kernel
theorem dX1_withoutStock_13 : decode cX1_withoutStock 13 = .ok (.getfield 31, 3) := by decide +kernel
theorem dX1_withoutStock_16 : decode cX1_withoutStock 16 = .ok (.iload_n 2, 1) := by decide +kernel
theorem dX1_withoutStock_17 : decode cX1_withoutStock 17 = .ok (.iaload, 1) := by decide +kernel
theorem dX1_withoutStock_18 : decode cX1_withoutStock 18 = .ok (.ifCond .gt 6, 3) := by decide +kernel
theorem dX1_withoutStock_21 : decode cX1_withoutStock 21 = .ok (.iinc 1 1, 3) := by decide +kernel
theorem dX1_withoutStock_24 : decode cX1_withoutStock 24 = .ok (.iinc 2 1, 3) := by decide +kernel
theorem dX1_withoutStock_27 : decode cX1_withoutStock 27 = .ok (.goto (-23), 3) := by decide +kernel
theorem dX1_withoutStock_30 : decode cX1_withoutStock 30 = .ok (.iload_n 1, 1) := by decide +kernel
theorem dX1_withoutStock_31 : decode cX1_withoutStock 31 = .ok (.ireturn, 1) := by decide +kernel
theorem dX1_worstTemper_0 : decode cX1_worstTemper 0 = .ok (.iconst 0, 1) := by decide +kernel
theorem dX1_worstTemper_1 : decode cX1_worstTemper 1 = .ok (.istore_n 1, 1) := by decide +kernel
theorem dX1_worstTemper_2 : decode cX1_worstTemper 2 = .ok (.iconst 0, 1) := by decide +kernel
theorem dX1_worstTemper_3 : decode cX1_worstTemper 3 = .ok (.istore_n 2, 1) := by decide +kernel
theorem dX1_worstTemper_4 : decode cX1_worstTemper 4 = .ok (.iload_n 2, 1) := by decide +kernel
theorem dX1_worstTemper_5 : decode cX1_worstTemper 5 = .ok (.aload_n 0, 1) := by decide +kernel
theorem dX1_worstTemper_6 : decode cX1_worstTemper 6 = .ok (.getfield 9, 3) := by decide +kernel
theorem dX1_worstTemper_9 : decode cX1_worstTemper 9 = .ok (.if_icmp .ge 20, 3) := by decide +kernel
theorem dX1_worstTemper_12 : decode cX1_worstTemper 12 = .ok (.iload_n 1, 1) := by decide +kernel
theorem dX1_worstTemper_13 : decode cX1_worstTemper 13 = .ok (.aload_n 0, 1) := by decide +kernel
theorem dX1_worstTemper_14 : decode cX1_worstTemper 14 = .ok (.getfield 28, 3) := by decide +kernel
theorem dX1_worstTemper_17 : decode cX1_worstTemper 17 = .ok (.iload_n 2, 1) := by decide +kernel
theorem dX1_worstTemper_18 : decode cX1_worstTemper 18 = .ok (.iaload, 1) := by decide +kernel
theorem dX1_worstTemper_19 : decode cX1_worstTemper 19 = .ok (.invokestatic 86, 3) := by decide +kernel
theorem dX1_worstTemper_22 : decode cX1_worstTemper 22 = .ok (.istore_n 1, 1) := by decide +kernel
theorem dX1_worstTemper_23 : decode cX1_worstTemper 23 = .ok (.iinc 2 1, 3) := by decide +kernel
theorem dX1_worstTemper_26 : decode cX1_worstTemper 26 = .ok (.goto (-22), 3) := by decide +kernel
theorem dX1_worstTemper_29 : decode cX1_worstTemper 29 = .ok (.iload_n 1, 1) := by decide +kernel
theorem dX1_worstTemper_30 : decode cX1_worstTemper 30 = .ok (.ireturn, 1) := by decide +kernel
theorem dX1_sumOf_0 : decode cX1_sumOf 0 = .ok (.iconst 0, 1) := by decide +kernel
theorem dX1_sumOf_1 : decode cX1_sumOf 1 = .ok (.istore_n 2, 1) := by decide +kernel
theorem dX1_sumOf_2 : decode cX1_sumOf 2 = .ok (.iconst 0, 1) := by decide +kernel
theorem dX1_sumOf_3 : decode cX1_sumOf 3 = .ok (.istore_n 3, 1) := by decide +kernel
theorem dX1_sumOf_4 : decode cX1_sumOf 4 = .ok (.iload_n 3, 1) := by decide +kernel
theorem dX1_sumOf_5 : decode cX1_sumOf 5 = .ok (.aload_n 0, 1) := by decide +kernel
theorem dX1_sumOf_6 : decode cX1_sumOf 6 = .ok (.getfield 9, 3) := by decide +kernel
theorem dX1_sumOf_9 : decode cX1_sumOf 9 = .ok (.if_icmp .ge 15, 3) := by decide +kernel
theorem dX1_sumOf_12 : decode cX1_sumOf 12 = .ok (.iload_n 2, 1) := by decide +kernel
theorem dX1_sumOf_13 : decode cX1_sumOf 13 = .ok (.aload_n 1, 1) := by decide +kernel
theorem dX1_sumOf_14 : decode cX1_sumOf 14 = .ok (.iload_n 3, 1) := by decide +kernel
theorem dX1_sumOf_15 : decode cX1_sumOf 15 = .ok (.iaload, 1) := by decide +kernel
theorem dX1_sumOf_16 : decode cX1_sumOf 16 = .ok (.iadd, 1) := by decide +kernel
theorem dX1_sumOf_17 : decode cX1_sumOf 17 = .ok (.istore_n 2, 1) := by decide +kernel
theorem dX1_sumOf_18 : decode cX1_sumOf 18 = .ok (.iinc 3 1, 3) := by decide +kernel
theorem dX1_sumOf_21 : decode cX1_sumOf 21 = .ok (.goto (-17), 3) := by decide +kernel
theorem dX1_sumOf_24 : decode cX1_sumOf 24 = .ok (.iload_n 2, 1) := by decide +kernel
theorem dX1_sumOf_25 : decode cX1_sumOf 25 = .ok (.ireturn, 1) := by decide +kernel
theorem dX2_init_0 : decode cX2_init 0 = .ok (.aload_n 0, 1) := by decide +kernel
theorem dX2_init_1 : decode cX2_init 1 = .ok (.invokespecial 5, 3) := by decide +kernel
theorem dX2_init_4 : decode cX2_init 4 = .ok (.aload_n 0, 1) := by decide +kernel
theorem dX2_init_5 : decode cX2_init 5 = .ok (.new 11, 3) := by decide +kernel
theorem dX2_init_8 : decode cX2_init 8 = .ok (.dup, 1) := by decide +kernel
theorem dX2_init_9 : decode cX2_init 9 = .ok (.invokespecial 13, 3) := by decide +kernel
theorem dX2_init_12 : decode cX2_init 12 = .ok (.putfield 14, 3) := by decide +kernel
theorem dX2_init_15 : decode cX2_init 15 = .ok (.aload_n 0, 1) := by decide +kernel
theorem dX2_init_16 : decode cX2_init 16 = .ok (.new 11, 3) := by decide +kernel
theorem dX2_init_19 : decode cX2_init 19 = .ok (.dup, 1) := by decide +kernel
theorem dX2_init_20 : decode cX2_init 20 = .ok (.invokespecial 13, 3) := by decide +kernel
theorem dX2_init_23 : decode cX2_init 23 = .ok (.putfield 18, 3) := by decide +kernel
theorem dX2_init_26 : decode cX2_init 26 = .ok (.aload_n 0, 1) := by decide +kernel
theorem dX2_init_27 : decode cX2_init 27 = .ok (.iconst 4, 1) := by decide +kernel
theorem dX2_init_28 : decode cX2_init 28 = .ok (.anewarray 21, 3) := by decide +kernel
theorem dX2_init_31 : decode cX2_init 31 = .ok (.putfield 23, 3) := by decide +kernel
theorem dX2_init_34 : decode cX2_init 34 = .ok (.aload_n 0, 1) := by decide +kernel
theorem dX2_init_35 : decode cX2_init 35 = .ok (.bipush 8, 2) := by decide +kernel
theorem dX2_init_37 : decode cX2_init 37 = .ok (.newarray .int, 2) := by decide +kernel
theorem dX2_init_39 : decode cX2_init 39 = .ok (.putfield 27, 3) := by decide +kernel
theorem dX2_init_42 : decode cX2_init 42 = .ok (.aload_n 0, 1) := by decide +kernel
theorem dX2_init_43 : decode cX2_init 43 = .ok (.bipush 8, 2) := by decide +kernel
theorem dX2_init_45 : decode cX2_init 45 = .ok (.newarray .int, 2) := by decide +kernel
theorem dX2_init_47 : decode cX2_init 47 = .ok (.putfield 31, 3) := by decide +kernel
theorem dX2_init_50 : decode cX2_init 50 = .ok (.aload_n 0, 1) := by decide +kernel
theorem dX2_init_51 : decode cX2_init 51 = .ok (.iconst 0, 1) := by decide +kernel
theorem dX2_init_52 : decode cX2_init 52 = .ok (.putfield 34, 3) := by decide +kernel
theorem dX2_init_55 : decode cX2_init 55 = .ok (.aload_n 0, 1) := by decide +kernel
theorem dX2_init_56 : decode cX2_init 56 = .ok (.iconst 0, 1) := by decide +kernel
theorem dX2_init_57 : decode cX2_init 57 = .ok (.putfield 38, 3) := by decide +kernel
theorem dX2_init_60 : decode cX2_init 60 = .ok (.aload_n 0, 1) := by decide +kernel
theorem dX2_init_61 : decode cX2_init 61 = .ok (.iconst 0, 1) := by decide +kernel
theorem dX2_init_62 : decode cX2_init 62 = .ok (.putfield 41, 3) := by decide +kernel
theorem dX2_init_65 : decode cX2_init 65 = .ok (.iconst 0, 1) := by decide +kernel
theorem dX2_init_66 : decode cX2_init 66 = .ok (.istore_n 1, 1) := by decide +kernel
theorem dX2_init_67 : decode cX2_init 67 = .ok (.iload_n 1, 1) := by decide +kernel
theorem dX2_init_68 : decode cX2_init 68 = .ok (.iconst 4, 1) := by decide +kernel
theorem dX2_init_69 : decode cX2_init 69 = .ok (.if_icmp .ge 22, 3) := by decide +kernel
theorem dX2_init_72 : decode cX2_init 72 = .ok (.aload_n 0, 1) := by decide +kernel
theorem dX2_init_73 : decode cX2_init 73 = .ok (.getfield 23, 3) := by decide +kernel
theorem dX2_init_76 : decode cX2_init 76 = .ok (.iload_n 1, 1) := by decide +kernel
theorem dX2_init_77 : decode cX2_init 77 = .ok (.new 21, 3) := by decide +kernel
theorem dX2_init_80 : decode cX2_init 80 = .ok (.dup, 1) := by decide +kernel
theorem dX2_init_81 : decode cX2_init 81 = .ok (.invokespecial 44, 3) := by decide +kernel
theorem dX2_init_84 : decode cX2_init 84 = .ok (.aastore, 1) := by decide +kernel
theorem dX2_init_85 : decode cX2_init 85 = .ok (.iinc 1 1, 3) := by decide +kernel
theorem dX2_init_88 : decode cX2_init 88 = .ok (.goto (-21), 3) := by decide +kernel
theorem dX2_init_91 : decode cX2_init 91 = .ok (.return_, 1) := by decide +kernel
theorem dX2_street_0 : decode cX2_street 0 = .ok (.aload_n 0, 1) := by decide +kernel
theorem dX2_street_1 : decode cX2_street 1 = .ok (.iconst 0, 1) := by decide +kernel
theorem dX2_street_2 : decode cX2_street 2 = .ok (.putfield 41, 3) := by decide +kernel
theorem dX2_street_5 : decode cX2_street 5 = .ok (.iload_n 1, 1) := by decide +kernel
theorem dX2_street_6 : decode cX2_street 6 = .ok (.invokestatic 45, 3) := by decide +kernel
theorem dX2_street_9 : decode cX2_street 9 = .ok (.ifCond .ne 5, 3) := by decide +kernel
theorem dX2_street_12 : decode cX2_street 12 = .ok (.iconst (-1), 1) := by decide +kernel
theorem dX2_street_13 : decode cX2_street 13 = .ok (.ireturn, 1) := by decide +kernel
theorem dX2_street_14 : decode cX2_street 14 = .ok (.iload_n 2, 1) := by decide +kernel
theorem dX2_street_15 : decode cX2_street 15 = .ok (.invokestatic 49, 3) := by decide +kernel
theorem dX2_street_18 : decode cX2_street 18 = .ok (.ifCond .ne 6, 3) := by decide +kernel
theorem dX2_street_21 : decode cX2_street 21 = .ok (.bipush (-2), 2) := by decide +kernel
theorem dX2_street_23 : decode cX2_street 23 = .ok (.ireturn, 1) := by decide +kernel
theorem dX2_street_24 : decode cX2_street 24 = .ok (.aload_n 0, 1) := by decide +kernel
theorem dX2_street_25 : decode cX2_street 25 = .ok (.getfield 23, 3) := by decide +kernel
theorem dX2_street_28 : decode cX2_street 28 = .ok (.iload_n 1, 1) := by decide +kernel
theorem dX2_street_29 : decode cX2_street 29 = .ok (.aaload, 1) := by decide +kernel
theorem dX2_street_30 : decode cX2_street 30 = .ok (.astore 5, 2) := by decide +kernel
theorem dX2_street_32 : decode cX2_street 32 = .ok (.aload 5, 2) := by decide +kernel
theorem dX2_street_34 : decode cX2_street 34 = .ok (.iload_n 2, 1) := by decide +kernel
theorem dX2_street_35 : decode cX2_street 35 = .ok (.invokevirtual 52, 3) := by decide +kernel
theorem dX2_street_38 : decode cX2_street 38 = .ok (.istore 6, 2) := by decide +kernel
theorem dX2_street_40 : decode cX2_street 40 = .ok (.iload 6, 2) := by decide +kernel
theorem dX2_street_42 : decode cX2_street 42 = .ok (.ifCond .ne 11, 3) := by decide +kernel
theorem dX2_street_45 : decode cX2_street 45 = .ok (.iload 4, 2) := by decide +kernel
theorem dX2_street_47 : decode cX2_street 47 = .ok (.ifCond .ge 6, 3) := by decide +kernel
theorem dX2_street_50 : decode cX2_street 50 = .ok (.iconst 4, 1) := by decide +kernel
theorem dX2_street_51 : decode cX2_street 51 = .ok (.istore 6, 2) := by decide +kernel
theorem dX2_street_53 : decode cX2_street 53 = .ok (.iload 6, 2) := by decide +kernel
theorem dX2_street_55 : decode cX2_street 55 = .ok (.ifCond .ne 17, 3) := by decide +kernel
theorem dX2_street_58 : decode cX2_street 58 = .ok (.aload 5, 2) := by decide +kernel
theorem dX2_street_60 : decode cX2_street 60 = .ok (.iload_n 3, 1) := by decide +kernel
theorem dX2_street_61 : decode cX2_street 61 = .ok (.iload 4, 2) := by decide +kernel
theorem dX2_street_63 : decode cX2_street 63 = .ok (.invokevirtual 56, 3) := by decide +kernel
theorem dX2_street_66 : decode cX2_street 66 = .ok (.ifCond .eq 6, 3) := by decide +kernel
theorem dX2_street_69 : decode cX2_street 69 = .ok (.iconst 3, 1) := by decide +kernel
theorem dX2_street_70 : decode cX2_street 70 = .ok (.istore 6, 2) := by decide +kernel
theorem dX2_street_72 : decode cX2_street 72 = .ok (.iload 6, 2) := by decide +kernel
theorem dX2_street_74 : decode cX2_street 74 = .ok (.ifCond .eq 10, 3) := by decide +kernel
theorem dX2_street_77 : decode cX2_street 77 = .ok (.aload_n 0, 1) := by decide +kernel
theorem dX2_street_78 : decode cX2_street 78 = .ok (.iload 6, 2) := by decide +kernel
theorem dX2_street_80 : decode cX2_street 80 = .ok (.invokevirtual 60, 3) := by decide +kernel
theorem dX2_street_83 : decode cX2_street 83 = .ok (.ireturn, 1) := by decide +kernel
theorem dX2_street_84 : decode cX2_street 84 = .ok (.aload 5, 2) := by decide +kernel
theorem dX2_street_86 : decode cX2_street 86 = .ok (.getfield 63, 3) := by decide +kernel
theorem dX2_street_89 : decode cX2_street 89 = .ok (.iload_n 3, 1) := by decide +kernel
theorem dX2_street_90 : decode cX2_street 90 = .ok (.iload 4, 2) := by decide +kernel
theorem dX2_street_92 : decode cX2_street 92 = .ok (.invokestatic 66, 3) := by decide +kernel
theorem dX2_street_95 : decode cX2_street 95 = .ok (.istore 7, 2) := by decide +kernel
theorem dX2_street_97 : decode cX2_street 97 = .ok (.iload 7, 2) := by decide +kernel
theorem dX2_street_99 : decode cX2_street 99 = .ok (.bipush (-9), 2) := by decide +kernel
theorem dX2_street_101 : decode cX2_street 101 = .ok (.if_icmp .eq 9, 3) := by decide +kernel
theorem dX2_street_104 : decode cX2_street 104 = .ok (.bipush (-100), 2) := by decide +kernel
theorem dX2_street_106 : decode cX2_street 106 = .ok (.iload 7, 2) := by decide +kernel
theorem dX2_street_108 : decode cX2_street 108 = .ok (.isub, 1) := by decide +kernel
theorem dX2_street_109 : decode cX2_street 109 = .ok (.ireturn, 1) := by decide +kernel
theorem dX2_street_110 : decode cX2_street 110 = .ok (.aload_n 0, 1) := by decide +kernel
theorem dX2_street_111 : decode cX2_street 111 = .ok (.getfield 14, 3) := by decide +kernel
theorem dX2_street_114 : decode cX2_street 114 = .ok (.aload 5, 2) := by decide +kernel
theorem dX2_street_116 : decode cX2_street 116 = .ok (.getfield 63, 3) := by decide +kernel
theorem dX2_street_119 : decode cX2_street 119 = .ok (.iload_n 3, 1) := by decide +kernel
theorem dX2_street_120 : decode cX2_street 120 = .ok (.iload 4, 2) := by decide +kernel
theorem dX2_street_122 : decode cX2_street 122 = .ok (.invokevirtual 70, 3) := by decide +kernel
theorem dX2_street_125 : decode cX2_street 125 = .ok (.aload_n 0, 1) := by decide +kernel
theorem dX2_street_126 : decode cX2_street 126 = .ok (.iconst 0, 1) := by decide +kernel
theorem dX2_street_127 : decode cX2_street 127 = .ok (.putfield 34, 3) := by decide +kernel
theorem dX2_street_130 : decode cX2_street 130 = .ok (.aload_n 0, 1) := by decide +kernel
theorem dX2_street_131 : decode cX2_street 131 = .ok (.getfield 14, 3) := by decide +kernel
theorem dX2_street_134 : decode cX2_street 134 = .ok (.getfield 74, 3) := by decide +kernel
theorem dX2_street_137 : decode cX2_street 137 = .ok (.ireturn, 1) := by decide +kernel
theorem dX2_ofHouse_0 : decode cX2_ofHouse 0 = .ok (.aload_n 0, 1) := by decide +kernel
theorem dX2_ofHouse_1 : decode cX2_ofHouse 1 = .ok (.iload_n 1, 1) := by decide +kernel
theorem dX2_ofHouse_2 : decode cX2_ofHouse 2 = .ok (.invokevirtual 77, 3) := by decide +kernel
theorem dX2_ofHouse_5 : decode cX2_ofHouse 5 = .ok (.ifCond .ne 5, 3) := by decide +kernel
theorem dX2_ofHouse_8 : decode cX2_ofHouse 8 = .ok (.iconst (-1), 1) := by decide +kernel
theorem dX2_ofHouse_9 : decode cX2_ofHouse 9 = .ok (.ireturn, 1) := by decide +kernel
theorem dX2_ofHouse_10 : decode cX2_ofHouse 10 = .ok (.iload_n 2, 1) := by decide +kernel
theorem dX2_ofHouse_11 : decode cX2_ofHouse 11 = .ok (.tableswitch 115 0 6 #[41, 51, 61, 71, 81, 90, 99], 41) := by decide +kernel
theorem dX2_ofHouse_52 : decode cX2_ofHouse 52 = .ok (.aload_n 0, 1) := by decide +kernel
theorem dX2_ofHouse_53 : decode cX2_ofHouse 53 = .ok (.getfield 14, 3) := by decide +kernel
theorem dX2_ofHouse_56 : decode cX2_ofHouse 56 = .ok (.getfield 80, 3) := by decide +kernel
theorem dX2_ofHouse_59 : decode cX2_ofHouse 59 = .ok (.iload_n 1, 1) := by decide +kernel
theorem dX2_ofHouse_60 : decode cX2_ofHouse 60 = .ok (.iaload, 1) := by decide +kernel
theorem dX2_ofHouse_61 : decode cX2_ofHouse 61 = .ok (.ireturn, 1) := by decide +kernel
theorem dX2_ofHouse_62 : decode cX2_ofHouse 62 = .ok (.aload_n 0, 1) := by decide +kernel
theorem dX2_ofHouse_63 : decode cX2_ofHouse 63 = .ok (.getfield 14, 3) := by decide +kernel
theorem dX2_ofHouse_66 : decode cX2_ofHouse 66 = .ok (.getfield 83, 3) := by decide +kernel
theorem dX2_ofHouse_69 : decode cX2_ofHouse 69 = .ok (.iload_n 1, 1) := by decide +kernel
theorem dX2_ofHouse_70 : decode cX2_ofHouse 70 = .ok (.iaload, 1) := by decide +kernel
theorem dX2_ofHouse_71 : decode cX2_ofHouse 71 = .ok (.ireturn, 1) := by decide +kernel
theorem dX2_ofHouse_72 : decode cX2_ofHouse 72 = .ok (.aload_n 0, 1) := by decide +kernel
theorem dX2_ofHouse_73 : decode cX2_ofHouse 73 = .ok (.getfield 14, 3) := by decide +kernel
theorem dX2_ofHouse_76 : decode cX2_ofHouse 76 = .ok (.getfield 86, 3) := by decide +kernel
theorem dX2_ofHouse_79 : decode cX2_ofHouse 79 = .ok (.iload_n 1, 1) := by decide +kernel
theorem dX2_ofHouse_80 : decode cX2_ofHouse 80 = .ok (.iaload, 1) := by decide +kernel
theorem dX2_ofHouse_81 : decode cX2_ofHouse 81 = .ok (.ireturn, 1) := by decide +kernel
theorem dX2_ofHouse_82 : decode cX2_ofHouse 82 = .ok (.aload_n 0, 1) := by decide +kernel
theorem dX2_ofHouse_83 : decode cX2_ofHouse 83 = .ok (.getfield 14, 3) := by decide +kernel
theorem dX2_ofHouse_86 : decode cX2_ofHouse 86 = .ok (.getfield 89, 3) := by decide +kernel
theorem dX2_ofHouse_89 : decode cX2_ofHouse 89 = .ok (.iload_n 1, 1) := by decide +kernel
theorem dX2_ofHouse_90 : decode cX2_ofHouse 90 = .ok (.iaload, 1) := by decide +kernel
theorem dX2_ofHouse_91 : decode cX2_ofHouse 91 = .ok (.ireturn, 1) := by decide +kernel
theorem dX2_ofHouse_92 : decode cX2_ofHouse 92 = .ok (.aload_n 0, 1) := by decide +kernel
theorem dX2_ofHouse_93 : decode cX2_ofHouse 93 = .ok (.getfield 14, 3) := by decide +kernel
theorem dX2_ofHouse_96 : decode cX2_ofHouse 96 = .ok (.iload_n 1, 1) := by decide +kernel
theorem dX2_ofHouse_97 : decode cX2_ofHouse 97 = .ok (.invokevirtual 92, 3) := by decide +kernel
theorem dX2_ofHouse_100 : decode cX2_ofHouse 100 = .ok (.ireturn, 1) := by decide +kernel
theorem dX2_ofHouse_101 : decode cX2_ofHouse 101 = .ok (.aload_n 0, 1) := by decide +kernel
theorem dX2_ofHouse_102 : decode cX2_ofHouse 102 = .ok (.getfield 14, 3) := by decide +kernel
theorem dX2_ofHouse_105 : decode cX2_ofHouse 105 = .ok (.iload_n 1, 1) := by decide +kernel
theorem dX2_ofHouse_106 : decode cX2_ofHouse 106 = .ok (.invokevirtual 95, 3) := by decide +kernel
theorem dX2_ofHouse_109 : decode cX2_ofHouse 109 = .ok (.ireturn, 1) := by decide +kernel
theorem dX2_ofHouse_110 : decode cX2_ofHouse 110 = .ok (.aload_n 0, 1) := by decide +kernel
theorem dX2_ofHouse_111 : decode cX2_ofHouse 111 = .ok (.getfield 14, 3) := by decide +kernel
theorem dX2_ofHouse_114 : decode cX2_ofHouse 114 = .ok (.iload_n 1, 1) := by decide +kernel
theorem dX2_ofHouse_115 : decode cX2_ofHouse 115 = .ok (.aload_n 0, 1) := by decide +kernel
theorem dX2_ofHouse_116 : decode cX2_ofHouse 116 = .ok (.getfield 14, 3) := by decide +kernel
theorem dX2_ofHouse_119 : decode cX2_ofHouse 119 = .ok (.getfield 98, 3) := by decide +kernel
theorem dX2_ofHouse_122 : decode cX2_ofHouse 122 = .ok (.invokevirtual 101, 3) := by decide +kernel
theorem dX2_ofHouse_125 : decode cX2_ofHouse 125 = .ok (.ireturn, 1) := by decide +kernel
theorem dX2_ofHouse_126 : decode cX2_ofHouse 126 = .ok (.bipush (-2), 2) := by decide +kernel
theorem dX2_ofHouse_128 : decode cX2_ofHouse 128 = .ok (.ireturn, 1) := by decide +kernel
theorem dX2_anger_0 : decode cX2_anger 0 = .ok (.aload_n 0, 1) := by decide +kernel
theorem dX2_anger_1 : decode cX2_anger 1 = .ok (.iload_n 1, 1) := by decide +kernel
theorem dX2_anger_2 : decode cX2_anger 2 = .ok (.invokevirtual 77, 3) := by decide +kernel
theorem dX2_anger_5 : decode cX2_anger 5 = .ok (.ifCond .ne 5, 3) := by decide +kernel
theorem dX2_anger_8 : decode cX2_anger 8 = .ok (.iconst (-1), 1) := by decide +kernel
theorem dX2_anger_9 : decode cX2_anger 9 = .ok (.ireturn, 1) := by decide +kernel
theorem dX2_anger_10 : decode cX2_anger 10 = .ok (.iload_n 2, 1) := by decide +kernel
theorem dX2_anger_11 : decode cX2_anger 11 = .ok (.invokestatic 105, 3) := by decide +kernel
theorem dX2_anger_14 : decode cX2_anger 14 = .ok (.ifCond .ne 6, 3) := by decide +kernel
theorem dX2_anger_17 : decode cX2_anger 17 = .ok (.bipush (-2), 2) := by decide +kernel
theorem dX2_anger_19 : decode cX2_anger 19 = .ok (.ireturn, 1) := by decide +kernel
theorem dX2_anger_20 : decode cX2_anger 20 = .ok (.aload_n 0, 1) := by decide +kernel
theorem dX2_anger_21 : decode cX2_anger 21 = .ok (.getfield 14, 3) := by decide +kernel
theorem dX2_anger_24 : decode cX2_anger 24 = .ok (.getfield 83, 3) := by decide +kernel
theorem dX2_anger_27 : decode cX2_anger 27 = .ok (.iload_n 1, 1) := by decide +kernel
theorem dX2_anger_28 : decode cX2_anger 28 = .ok (.iaload, 1) := by decide +kernel
theorem dX2_anger_29 : decode cX2_anger 29 = .ok (.istore_n 3, 1) := by decide +kernel
theorem dX2_anger_30 : decode cX2_anger 30 = .ok (.aload_n 0, 1) := by decide +kernel
theorem dX2_anger_31 : decode cX2_anger 31 = .ok (.getfield 14, 3) := by decide +kernel
theorem dX2_anger_34 : decode cX2_anger 34 = .ok (.getfield 83, 3) := by decide +kernel
theorem dX2_anger_37 : decode cX2_anger 37 = .ok (.iload_n 1, 1) := by decide +kernel
theorem dX2_anger_38 : decode cX2_anger 38 = .ok (.iload_n 2, 1) := by decide +kernel
theorem dX2_anger_39 : decode cX2_anger 39 = .ok (.iastore, 1) := by decide +kernel
theorem dX2_anger_40 : decode cX2_anger 40 = .ok (.iload_n 3, 1) := by decide +kernel
theorem dX2_anger_41 : decode cX2_anger 41 = .ok (.ireturn, 1) := by decide +kernel
theorem dX2_crate_0 : decode cX2_crate 0 = .ok (.aload_n 0, 1) := by decide +kernel
theorem dX2_crate_1 : decode cX2_crate 1 = .ok (.invokevirtual 108, 3) := by decide +kernel
theorem dX2_crate_4 : decode cX2_crate 4 = .ok (.ifCond .ne 6, 3) := by decide +kernel
theorem dX2_crate_7 : decode cX2_crate 7 = .ok (.bipush (-3), 2) := by decide +kernel
theorem dX2_crate_9 : decode cX2_crate 9 = .ok (.ireturn, 1) := by decide +kernel
theorem dX2_crate_10 : decode cX2_crate 10 = .ok (.iload_n 1, 1) := by decide +kernel
theorem dX2_crate_11 : decode cX2_crate 11 = .ok (.invokestatic 112, 3) := by decide +kernel
theorem dX2_crate_14 : decode cX2_crate 14 = .ok (.ifCond .ne 6, 3) := by decide +kernel
theorem dX2_crate_17 : decode cX2_crate 17 = .ok (.bipush (-2), 2) := by decide +kernel
theorem dX2_crate_19 : decode cX2_crate 19 = .ok (.ireturn, 1) := by decide +kernel
theorem dX2_crate_20 : decode cX2_crate 20 = .ok (.aload_n 0, 1) := by decide +kernel
theorem dX2_crate_21 : decode cX2_crate 21 = .ok (.getfield 14, 3) := by decide +kernel
theorem dX2_crate_24 : decode cX2_crate 24 = .ok (.getfield 98, 3) := by decide +kernel
theorem dX2_crate_27 : decode cX2_crate 27 = .ok (.istore_n 2, 1) := by decide +kernel
theorem dX2_crate_28 : decode cX2_crate 28 = .ok (.aload_n 0, 1) := by decide +kernel
theorem dX2_crate_29 : decode cX2_crate 29 = .ok (.getfield 14, 3) := by decide +kernel
theorem dX2_crate_32 : decode cX2_crate 32 = .ok (.iload_n 1, 1) := by decide +kernel
theorem dX2_crate_33 : decode cX2_crate 33 = .ok (.putfield 98, 3) := by decide +kernel
theorem dX2_crate_36 : decode cX2_crate 36 = .ok (.iload_n 2, 1) := by decide +kernel
theorem dX2_crate_37 : decode cX2_crate 37 = .ok (.ireturn, 1) := by decide +kernel
theorem dX2_deal_0 : decode cX2_deal 0 = .ok (.aload_n 0, 1) := by decide +kernel
theorem dX2_deal_1 : decode cX2_deal 1 = .ok (.iload_n 1, 1) := by decide +kernel
theorem dX2_deal_2 : decode cX2_deal 2 = .ok (.invokevirtual 77, 3) := by decide +kernel
theorem dX2_deal_5 : decode cX2_deal 5 = .ok (.ifCond .ne 5, 3) := by decide +kernel
theorem dX2_deal_8 : decode cX2_deal 8 = .ok (.iconst (-1), 1) := by decide +kernel
theorem dX2_deal_9 : decode cX2_deal 9 = .ok (.ireturn, 1) := by decide +kernel
theorem dX2_deal_10 : decode cX2_deal 10 = .ok (.iload_n 2, 1) := by decide +kernel
theorem dX2_deal_11 : decode cX2_deal 11 = .ok (.invokestatic 112, 3) := by decide +kernel
theorem dX2_deal_14 : decode cX2_deal 14 = .ok (.ifCond .ne 6, 3) := by decide +kernel
theorem dX2_deal_17 : decode cX2_deal 17 = .ok (.bipush (-2), 2) := by decide +kernel
theorem dX2_deal_19 : decode cX2_deal 19 = .ok (.ireturn, 1) := by decide +kernel
theorem dX2_deal_20 : decode cX2_deal 20 = .ok (.aload_n 0, 1) := by decide +kernel
theorem dX2_deal_21 : decode cX2_deal 21 = .ok (.getfield 14, 3) := by decide +kernel
theorem dX2_deal_24 : decode cX2_deal 24 = .ok (.iload_n 1, 1) := by decide +kernel
theorem dX2_deal_25 : decode cX2_deal 25 = .ok (.iload_n 2, 1) := by decide +kernel
theorem dX2_deal_26 : decode cX2_deal 26 = .ok (.invokevirtual 101, 3) := by decide +kernel
theorem dX2_deal_29 : decode cX2_deal 29 = .ok (.ireturn, 1) := by decide +kernel
theorem dX2_weeks_0 : decode cX2_weeks 0 = .ok (.iload_n 1, 1) := by decide +kernel
theorem dX2_weeks_1 : decode cX2_weeks 1 = .ok (.iconst 1, 1) := by decide +kernel
theorem dX2_weeks_2 : decode cX2_weeks 2 = .ok (.if_icmp .lt 9, 3) := by decide +kernel
theorem dX2_weeks_5 : decode cX2_weeks 5 = .ok (.iload_n 1, 1) := by decide +kernel
theorem dX2_weeks_6 : decode cX2_weeks 6 = .ok (.bipush 60, 2) := by decide +kernel
theorem dX2_weeks_8 : decode cX2_weeks 8 = .ok (.if_icmp .le 6, 3) := by decide +kernel
theorem dX2_weeks_11 : decode cX2_weeks 11 = .ok (.bipush (-2), 2) := by decide +kernel
theorem dX2_weeks_13 : decode cX2_weeks 13 = .ok (.ireturn, 1) := by decide +kernel
theorem dX2_weeks_14 : decode cX2_weeks 14 = .ok (.aload_n 0, 1) := by decide +kernel
theorem dX2_weeks_15 : decode cX2_weeks 15 = .ok (.invokevirtual 108, 3) := by decide +kernel
theorem dX2_weeks_18 : decode cX2_weeks 18 = .ok (.ifCond .ne 6, 3) := by decide +kernel
theorem dX2_weeks_21 : decode cX2_weeks 21 = .ok (.bipush (-3), 2) := by decide +kernel
theorem dX2_weeks_23 : decode cX2_weeks 23 = .ok (.ireturn, 1) := by decide +kernel
theorem dX2_weeks_24 : decode cX2_weeks 24 = .ok (.aload_n 0, 1) := by decide +kernel
theorem dX2_weeks_25 : decode cX2_weeks 25 = .ok (.getfield 14, 3) := by decide +kernel
theorem dX2_weeks_28 : decode cX2_weeks 28 = .ok (.iload_n 1, 1) := by decide +kernel
theorem dX2_weeks_29 : decode cX2_weeks 29 = .ok (.invokevirtual 115, 3) := by decide +kernel
theorem dX2_weeks_32 : decode cX2_weeks 32 = .ok (.aload_n 0, 1) := by decide +kernel
theorem dX2_weeks_33 : decode cX2_weeks 33 = .ok (.getfield 14, 3) := by decide +kernel
theorem dX2_weeks_36 : decode cX2_weeks 36 = .ok (.invokevirtual 119, 3) := by decide +kernel
theorem dX2_weeks_39 : decode cX2_weeks 39 = .ok (.ireturn, 1) := by decide +kernel
theorem dX2_gift_0 : decode cX2_gift 0 = .ok (.aload_n 0, 1) := by decide +kernel
theorem dX2_gift_1 : decode cX2_gift 1 = .ok (.iload_n 1, 1) := by decide +kernel
theorem dX2_gift_2 : decode cX2_gift 2 = .ok (.invokevirtual 77, 3) := by decide +kernel
theorem dX2_gift_5 : decode cX2_gift 5 = .ok (.ifCond .ne 5, 3) := by decide +kernel
theorem dX2_gift_8 : decode cX2_gift 8 = .ok (.iconst (-1), 1) := by decide +kernel
theorem dX2_gift_9 : decode cX2_gift 9 = .ok (.ireturn, 1) := by decide +kernel
theorem dX2_gift_10 : decode cX2_gift 10 = .ok (.aload_n 0, 1) := by decide +kernel
theorem dX2_gift_11 : decode cX2_gift 11 = .ok (.getfield 14, 3) := by decide +kernel
theorem dX2_gift_14 : decode cX2_gift 14 = .ok (.iload_n 1, 1) := by decide +kernel
theorem dX2_gift_15 : decode cX2_gift 15 = .ok (.invokevirtual 123, 3) := by decide +kernel
theorem dX2_gift_18 : decode cX2_gift 18 = .ok (.ifCond .ne 6, 3) := by decide +kernel
theorem dX2_gift_21 : decode cX2_gift 21 = .ok (.bipush (-3), 2) := by decide +kernel
theorem dX2_gift_23 : decode cX2_gift 23 = .ok (.ireturn, 1) := by decide +kernel
theorem dX2_gift_24 : decode cX2_gift 24 = .ok (.aload_n 0, 1) := by decide +kernel
theorem dX2_gift_25 : decode cX2_gift 25 = .ok (.getfield 14, 3) := by decide +kernel
theorem dX2_gift_28 : decode cX2_gift 28 = .ok (.getfield 86, 3) := by decide +kernel
theorem dX2_gift_31 : decode cX2_gift 31 = .ok (.iload_n 1, 1) := by decide +kernel
theorem dX2_gift_32 : decode cX2_gift 32 = .ok (.iaload, 1) := by decide +kernel
theorem dX2_gift_33 : decode cX2_gift 33 = .ok (.ireturn, 1) := by decide +kernel
theorem dX2_season_0 : decode cX2_season 0 = .ok (.aload_n 0, 1) := by decide +kernel
theorem dX2_season_1 : decode cX2_season 1 = .ok (.iconst 0, 1) := by decide +kernel
theorem dX2_season_2 : decode cX2_season 2 = .ok (.putfield 41, 3) := by decide +kernel
theorem dX2_season_5 : decode cX2_season 5 = .ok (.iload_n 1, 1) := by decide +kernel
theorem dX2_season_6 : decode cX2_season 6 = .ok (.invokestatic 45, 3) := by decide +kernel
theorem dX2_season_9 : decode cX2_season 9 = .ok (.ifCond .ne 5, 3) := by decide +kernel
theorem dX2_season_12 : decode cX2_season 12 = .ok (.iconst (-1), 1) := by decide +kernel
theorem dX2_season_13 : decode cX2_season 13 = .ok (.ireturn, 1) := by decide +kernel
theorem dX2_season_14 : decode cX2_season 14 = .ok (.iload_n 2, 1) := by decide +kernel
theorem dX2_season_15 : decode cX2_season 15 = .ok (.invokestatic 49, 3) := by decide +kernel
theorem dX2_season_18 : decode cX2_season 18 = .ok (.ifCond .eq 23, 3) := by decide +kernel
theorem dX2_season_21 : decode cX2_season 21 = .ok (.iload 4, 2) := by decide +kernel
theorem dX2_season_23 : decode cX2_season 23 = .ok (.ifCond .lt 18, 3) := by decide +kernel
theorem dX2_season_26 : decode cX2_season 26 = .ok (.iload 4, 2) := by decide +kernel
theorem dX2_season_28 : decode cX2_season 28 = .ok (.bipush 20, 2) := by decide +kernel
theorem dX2_season_30 : decode cX2_season 30 = .ok (.if_icmp .gt 11, 3) := by decide +kernel
theorem dX2_season_33 : decode cX2_season 33 = .ok (.iload 5, 2) := by decide +kernel
theorem dX2_season_35 : decode cX2_season 35 = .ok (.invokestatic 126, 3) := by decide +kernel
theorem dX2_season_38 : decode cX2_season 38 = .ok (.ifCond .ne 6, 3) := by decide +kernel
theorem dX2_season_41 : decode cX2_season 41 = .ok (.bipush (-2), 2) := by decide +kernel
theorem dX2_season_43 : decode cX2_season 43 = .ok (.ireturn, 1) := by decide +kernel
theorem dX2_season_44 : decode cX2_season 44 = .ok (.aload_n 0, 1) := by decide +kernel
theorem dX2_season_45 : decode cX2_season 45 = .ok (.invokevirtual 108, 3) := by decide +kernel
theorem dX2_season_48 : decode cX2_season 48 = .ok (.ifCond .ne 6, 3) := by decide +kernel
theorem dX2_season_51 : decode cX2_season 51 = .ok (.bipush (-3), 2) := by decide +kernel
theorem dX2_season_53 : decode cX2_season 53 = .ok (.ireturn, 1) := by decide +kernel
theorem dX2_season_54 : decode cX2_season 54 = .ok (.aload_n 0, 1) := by decide +kernel
theorem dX2_season_55 : decode cX2_season 55 = .ok (.getfield 23, 3) := by decide +kernel
theorem dX2_season_58 : decode cX2_season 58 = .ok (.iload_n 1, 1) := by decide +kernel
theorem dX2_season_59 : decode cX2_season 59 = .ok (.aaload, 1) := by decide +kernel
theorem dX2_season_60 : decode cX2_season 60 = .ok (.astore 6, 2) := by decide +kernel
theorem dX2_season_62 : decode cX2_season 62 = .ok (.aload 6, 2) := by decide +kernel
theorem dX2_season_64 : decode cX2_season 64 = .ok (.iload_n 2, 1) := by decide +kernel
theorem dX2_season_65 : decode cX2_season 65 = .ok (.invokevirtual 52, 3) := by decide +kernel
theorem dX2_season_68 : decode cX2_season 68 = .ok (.istore 7, 2) := by decide +kernel
theorem dX2_season_70 : decode cX2_season 70 = .ok (.iload 7, 2) := by decide +kernel
theorem dX2_season_72 : decode cX2_season 72 = .ok (.ifCond .ne 19, 3) := by decide +kernel
theorem dX2_season_75 : decode cX2_season 75 = .ok (.aload 6, 2) := by decide +kernel
theorem dX2_season_77 : decode cX2_season 77 = .ok (.iload_n 3, 1) := by decide +kernel
theorem dX2_season_78 : decode cX2_season 78 = .ok (.iconst 2, 1) := by decide +kernel
theorem dX2_season_79 : decode cX2_season 79 = .ok (.iload 4, 2) := by decide +kernel
theorem dX2_season_81 : decode cX2_season 81 = .ok (.imul, 1) := by decide +kernel
theorem dX2_season_82 : decode cX2_season 82 = .ok (.invokevirtual 56, 3) := by decide +kernel
theorem dX2_season_85 : decode cX2_season 85 = .ok (.ifCond .eq 6, 3) := by decide +kernel
theorem dX2_season_88 : decode cX2_season 88 = .ok (.iconst 3, 1) := by decide +kernel
theorem dX2_season_89 : decode cX2_season 89 = .ok (.istore 7, 2) := by decide +kernel
theorem dX2_season_91 : decode cX2_season 91 = .ok (.iload 7, 2) := by decide +kernel
theorem dX2_season_93 : decode cX2_season 93 = .ok (.ifCond .eq 10, 3) := by decide +kernel
theorem dX2_season_96 : decode cX2_season 96 = .ok (.aload_n 0, 1) := by decide +kernel
theorem dX2_season_97 : decode cX2_season 97 = .ok (.iload 7, 2) := by decide +kernel
theorem dX2_season_99 : decode cX2_season 99 = .ok (.invokevirtual 60, 3) := by decide +kernel
theorem dX2_season_102 : decode cX2_season 102 = .ok (.ireturn, 1) := by decide +kernel
theorem dX2_season_103 : decode cX2_season 103 = .ok (.aload_n 0, 1) := by decide +kernel
theorem dX2_season_104 : decode cX2_season 104 = .ok (.aload 6, 2) := by decide +kernel
theorem dX2_season_106 : decode cX2_season 106 = .ok (.getfield 63, 3) := by decide +kernel
theorem dX2_season_109 : decode cX2_season 109 = .ok (.iload_n 3, 1) := by decide +kernel
theorem dX2_season_110 : decode cX2_season 110 = .ok (.iload 4, 2) := by decide +kernel
theorem dX2_season_112 : decode cX2_season 112 = .ok (.invokevirtual 129, 3) := by decide +kernel
theorem dX2_season_115 : decode cX2_season 115 = .ok (.istore 8, 2) := by decide +kernel
theorem dX2_season_117 : decode cX2_season 117 = .ok (.iload 8, 2) := by decide +kernel
theorem dX2_season_119 : decode cX2_season 119 = .ok (.ifCond .eq 6, 3) := by decide +kernel
theorem dX2_season_122 : decode cX2_season 122 = .ok (.iload 8, 2) := by decide +kernel
theorem dX2_season_124 : decode cX2_season 124 = .ok (.ireturn, 1) := by decide +kernel
theorem dX2_season_125 : decode cX2_season 125 = .ok (.aload_n 0, 1) := by decide +kernel
theorem dX2_season_126 : decode cX2_season 126 = .ok (.getfield 18, 3) := by decide +kernel
theorem dX2_season_129 : decode cX2_season 129 = .ok (.aload_n 0, 1) := by decide +kernel
theorem dX2_season_130 : decode cX2_season 130 = .ok (.getfield 14, 3) := by decide +kernel
theorem dX2_season_133 : decode cX2_season 133 = .ok (.invokevirtual 132, 3) := by decide +kernel
theorem dX2_season_136 : decode cX2_season 136 = .ok (.aload_n 0, 1) := by decide +kernel
theorem dX2_season_137 : decode cX2_season 137 = .ok (.aload 6, 2) := by decide +kernel
theorem dX2_season_139 : decode cX2_season 139 = .ok (.getfield 63, 3) := by decide +kernel
theorem dX2_season_142 : decode cX2_season 142 = .ok (.iload_n 3, 1) := by decide +kernel
theorem dX2_season_143 : decode cX2_season 143 = .ok (.iload 4, 2) := by decide +kernel
theorem dX2_season_145 : decode cX2_season 145 = .ok (.invokevirtual 136, 3) := by decide +kernel
theorem dX2_season_148 : decode cX2_season 148 = .ok (.istore 9, 2) := by decide +kernel
theorem dX2_season_150 : decode cX2_season 150 = .ok (.iload 5, 2) := by decide +kernel
theorem dX2_season_152 : decode cX2_season 152 = .ok (.iconst 1, 1) := by decide +kernel
theorem dX2_season_153 : decode cX2_season 153 = .ok (.if_icmp .ne 6, 3) := by decide +kernel
theorem dX2_season_156 : decode cX2_season 156 = .ok (.iload 9, 2) := by decide +kernel
theorem dX2_season_158 : decode cX2_season 158 = .ok (.ireturn, 1) := by decide +kernel
theorem dX2_season_159 : decode cX2_season 159 = .ok (.iload 9, 2) := by decide +kernel
theorem dX2_season_161 : decode cX2_season 161 = .ok (.bipush (-9), 2) := by decide +kernel
theorem dX2_season_163 : decode cX2_season 163 = .ok (.if_icmp .ne 12, 3) := by decide +kernel
theorem dX2_season_166 : decode cX2_season 166 = .ok (.aload_n 0, 1) := by decide +kernel
theorem dX2_season_167 : decode cX2_season 167 = .ok (.iload 5, 2) := by decide +kernel
theorem dX2_season_169 : decode cX2_season 169 = .ok (.invokevirtual 139, 3) := by decide +kernel
theorem dX2_season_172 : decode cX2_season 172 = .ok (.goto 8, 3) := by decide +kernel
theorem dX2_season_175 : decode cX2_season 175 = .ok (.bipush (-100), 2) := by decide +kernel
theorem dX2_season_177 : decode cX2_season 177 = .ok (.iload 9, 2) := by decide +kernel
theorem dX2_season_179 : decode cX2_season 179 = .ok (.isub, 1) := by decide +kernel
theorem dX2_season_180 : decode cX2_season 180 = .ok (.ireturn, 1) := by decide +kernel
theorem dX2_calm_0 : decode cX2_calm 0 = .ok (.aload_n 0, 1) := by decide +kernel
theorem dX2_calm_1 : decode cX2_calm 1 = .ok (.invokevirtual 108, 3) := by decide +kernel
theorem dX2_calm_4 : decode cX2_calm 4 = .ok (.ifCond .ne 6, 3) := by decide +kernel
theorem dX2_calm_7 : decode cX2_calm 7 = .ok (.bipush (-3), 2) := by decide +kernel
theorem dX2_calm_9 : decode cX2_calm 9 = .ok (.ireturn, 1) := by decide +kernel
theorem dX2_calm_10 : decode cX2_calm 10 = .ok (.iload_n 1, 1) := by decide +kernel
theorem dX2_calm_11 : decode cX2_calm 11 = .ok (.ifCond .lt 16, 3) := by decide +kernel
theorem dX2_calm_14 : decode cX2_calm 14 = .ok (.iload_n 1, 1) := by decide +kernel
theorem dX2_calm_15 : decode cX2_calm 15 = .ok (.bipush 12, 2) := by decide +kernel
theorem dX2_calm_17 : decode cX2_calm 17 = .ok (.if_icmp .gt 10, 3) := by decide +kernel
theorem dX2_calm_20 : decode cX2_calm 20 = .ok (.iload_n 2, 1) := by decide +kernel
theorem dX2_calm_21 : decode cX2_calm 21 = .ok (.invokestatic 105, 3) := by decide +kernel
theorem dX2_calm_24 : decode cX2_calm 24 = .ok (.ifCond .ne 6, 3) := by decide +kernel
theorem dX2_calm_27 : decode cX2_calm 27 = .ok (.bipush (-2), 2) := by decide +kernel
theorem dX2_calm_29 : decode cX2_calm 29 = .ok (.ireturn, 1) := by decide +kernel
theorem dX2_calm_30 : decode cX2_calm 30 = .ok (.iconst 0, 1) := by decide +kernel
theorem dX2_calm_31 : decode cX2_calm 31 = .ok (.istore_n 3, 1) := by decide +kernel
theorem dX2_calm_32 : decode cX2_calm 32 = .ok (.iload_n 3, 1) := by decide +kernel
theorem dX2_calm_33 : decode cX2_calm 33 = .ok (.bipush 99, 2) := by decide +kernel
theorem dX2_calm_35 : decode cX2_calm 35 = .ok (.if_icmp .gt 49, 3) := by decide +kernel
theorem dX2_calm_38 : decode cX2_calm 38 = .ok (.aload_n 0, 1) := by decide +kernel
theorem dX2_calm_39 : decode cX2_calm 39 = .ok (.getfield 18, 3) := by decide +kernel
theorem dX2_calm_42 : decode cX2_calm 42 = .ok (.aload_n 0, 1) := by decide +kernel
theorem dX2_calm_43 : decode cX2_calm 43 = .ok (.getfield 14, 3) := by decide +kernel
theorem dX2_calm_46 : decode cX2_calm 46 = .ok (.invokevirtual 132, 3) := by decide +kernel
theorem dX2_calm_49 : decode cX2_calm 49 = .ok (.aload_n 0, 1) := by decide +kernel
theorem dX2_calm_50 : decode cX2_calm 50 = .ok (.getfield 18, 3) := by decide +kernel
theorem dX2_calm_53 : decode cX2_calm 53 = .ok (.iload_n 3, 1) := by decide +kernel
theorem dX2_calm_54 : decode cX2_calm 54 = .ok (.putfield 98, 3) := by decide +kernel
theorem dX2_calm_57 : decode cX2_calm 57 = .ok (.aload_n 0, 1) := by decide +kernel
theorem dX2_calm_58 : decode cX2_calm 58 = .ok (.getfield 18, 3) := by decide +kernel
theorem dX2_calm_61 : decode cX2_calm 61 = .ok (.iload_n 1, 1) := by decide +kernel
theorem dX2_calm_62 : decode cX2_calm 62 = .ok (.invokevirtual 115, 3) := by decide +kernel
theorem dX2_calm_65 : decode cX2_calm 65 = .ok (.aload_n 0, 1) := by decide +kernel
theorem dX2_calm_66 : decode cX2_calm 66 = .ok (.getfield 18, 3) := by decide +kernel
theorem dX2_calm_69 : decode cX2_calm 69 = .ok (.invokevirtual 142, 3) := by decide +kernel
theorem dX2_calm_72 : decode cX2_calm 72 = .ok (.iload_n 2, 1) := by decide +kernel
theorem dX2_calm_73 : decode cX2_calm 73 = .ok (.if_icmp .gt 5, 3) := by decide +kernel
theorem dX2_calm_76 : decode cX2_calm 76 = .ok (.iload_n 3, 1) := by decide +kernel
theorem dX2_calm_77 : decode cX2_calm 77 = .ok (.ireturn, 1) := by decide +kernel
theorem dX2_calm_78 : decode cX2_calm 78 = .ok (.iinc 3 1, 3) := by decide +kernel
theorem dX2_calm_81 : decode cX2_calm 81 = .ok (.goto (-49), 3) := by decide +kernel
theorem dX2_calm_84 : decode cX2_calm 84 = .ok (.bipush (-9), 2) := by decide +kernel
theorem dX2_calm_86 : decode cX2_calm 86 = .ok (.ireturn, 1) := by decide +kernel
theorem dX2_wonder_0 : decode cX2_wonder 0 = .ok (.aload_n 0, 1) := by decide +kernel
theorem dX2_wonder_1 : decode cX2_wonder 1 = .ok (.invokevirtual 108, 3) := by decide +kernel
theorem dX2_wonder_4 : decode cX2_wonder 4 = .ok (.ifCond .ne 6, 3) := by decide +kernel
theorem dX2_wonder_7 : decode cX2_wonder 7 = .ok (.bipush (-3), 2) := by decide +kernel
theorem dX2_wonder_9 : decode cX2_wonder 9 = .ok (.ireturn, 1) := by decide +kernel
theorem dX2_wonder_10 : decode cX2_wonder 10 = .ok (.iload_n 1, 1) := by decide +kernel
theorem dX2_wonder_11 : decode cX2_wonder 11 = .ok (.ifCond .lt 8, 3) := by decide +kernel
theorem dX2_wonder_14 : decode cX2_wonder 14 = .ok (.iload_n 1, 1) := by decide +kernel
theorem dX2_wonder_15 : decode cX2_wonder 15 = .ok (.iconst 1, 1) := by decide +kernel
theorem dX2_wonder_16 : decode cX2_wonder 16 = .ok (.if_icmp .le 6, 3) := by decide +kernel
theorem dX2_wonder_19 : decode cX2_wonder 19 = .ok (.bipush (-2), 2) := by decide +kernel
theorem dX2_wonder_21 : decode cX2_wonder 21 = .ok (.ireturn, 1) := by decide +kernel
theorem dX2_wonder_22 : decode cX2_wonder 22 = .ok (.aload_n 0, 1) := by decide +kernel
theorem dX2_wonder_23 : decode cX2_wonder 23 = .ok (.getfield 18, 3) := by decide +kernel
theorem dX2_wonder_26 : decode cX2_wonder 26 = .ok (.aload_n 0, 1) := by decide +kernel
theorem dX2_wonder_27 : decode cX2_wonder 27 = .ok (.getfield 14, 3) := by decide +kernel
theorem dX2_wonder_30 : decode cX2_wonder 30 = .ok (.invokevirtual 132, 3) := by decide +kernel
theorem dX2_wonder_33 : decode cX2_wonder 33 = .ok (.aload_n 0, 1) := by decide +kernel
theorem dX2_wonder_34 : decode cX2_wonder 34 = .ok (.getfield 14, 3) := by decide +kernel
theorem dX2_wonder_37 : decode cX2_wonder 37 = .ok (.getfield 98, 3) := by decide +kernel
theorem dX2_wonder_40 : decode cX2_wonder 40 = .ok (.istore_n 2, 1) := by decide +kernel
theorem dX2_wonder_41 : decode cX2_wonder 41 = .ok (.iload_n 2, 1) := by decide +kernel
theorem dX2_wonder_42 : decode cX2_wonder 42 = .ok (.bipush 99, 2) := by decide +kernel
theorem dX2_wonder_44 : decode cX2_wonder 44 = .ok (.if_icmp .ge 31, 3) := by decide +kernel
theorem dX2_wonder_47 : decode cX2_wonder 47 = .ok (.aload_n 0, 1) := by decide +kernel
theorem dX2_wonder_48 : decode cX2_wonder 48 = .ok (.iload_n 2, 1) := by decide +kernel
theorem dX2_wonder_49 : decode cX2_wonder 49 = .ok (.invokevirtual 145, 3) := by decide +kernel
theorem dX2_wonder_52 : decode cX2_wonder 52 = .ok (.istore_n 3, 1) := by decide +kernel
theorem dX2_wonder_53 : decode cX2_wonder 53 = .ok (.iload_n 3, 1) := by decide +kernel
theorem dX2_wonder_54 : decode cX2_wonder 54 = .ok (.bipush (-9), 2) := by decide +kernel
theorem dX2_wonder_56 : decode cX2_wonder 56 = .ok (.if_icmp .eq 13, 3) := by decide +kernel
theorem dX2_wonder_59 : decode cX2_wonder 59 = .ok (.iload_n 1, 1) := by decide +kernel
theorem dX2_wonder_60 : decode cX2_wonder 60 = .ok (.ifCond .ne 7, 3) := by decide +kernel
theorem dX2_wonder_63 : decode cX2_wonder 63 = .ok (.iload_n 2, 1) := by decide +kernel
theorem dX2_wonder_64 : decode cX2_wonder 64 = .ok (.goto 4, 3) := by decide +kernel
theorem dX2_wonder_67 : decode cX2_wonder 67 = .ok (.iload_n 3, 1) := by decide +kernel
theorem dX2_wonder_68 : decode cX2_wonder 68 = .ok (.ireturn, 1) := by decide +kernel
theorem dX2_wonder_69 : decode cX2_wonder 69 = .ok (.iinc 2 1, 3) := by decide +kernel
theorem dX2_wonder_72 : decode cX2_wonder 72 = .ok (.goto (-31), 3) := by decide +kernel
theorem dX2_wonder_75 : decode cX2_wonder 75 = .ok (.bipush (-9), 2) := by decide +kernel
theorem dX2_wonder_77 : decode cX2_wonder 77 = .ok (.ireturn, 1) := by decide +kernel
theorem dX2_otherwise_0 : decode cX2_otherwise 0 = .ok (.aload_n 0, 1) := by decide +kernel
theorem dX2_otherwise_1 : decode cX2_otherwise 1 = .ok (.iload_n 1, 1) := by decide +kernel
theorem dX2_otherwise_2 : decode cX2_otherwise 2 = .ok (.invokevirtual 77, 3) := by decide +kernel
theorem dX2_otherwise_5 : decode cX2_otherwise 5 = .ok (.ifCond .ne 5, 3) := by decide +kernel
theorem dX2_otherwise_8 : decode cX2_otherwise 8 = .ok (.iconst (-1), 1) := by decide +kernel
theorem dX2_otherwise_9 : decode cX2_otherwise 9 = .ok (.ireturn, 1) := by decide +kernel
theorem dX2_otherwise_10 : decode cX2_otherwise 10 = .ok (.aload_n 0, 1) := by decide +kernel
theorem dX2_otherwise_11 : decode cX2_otherwise 11 = .ok (.getfield 14, 3) := by decide +kernel
theorem dX2_otherwise_14 : decode cX2_otherwise 14 = .ok (.aload_n 0, 1) := by decide +kernel
theorem dX2_otherwise_15 : decode cX2_otherwise 15 = .ok (.getfield 14, 3) := by decide +kernel
theorem dX2_otherwise_18 : decode cX2_otherwise 18 = .ok (.getfield 98, 3) := by decide +kernel
theorem dX2_otherwise_21 : decode cX2_otherwise 21 = .ok (.invokevirtual 148, 3) := by decide +kernel
theorem dX2_otherwise_24 : decode cX2_otherwise 24 = .ok (.aload_n 0, 1) := by decide +kernel
theorem dX2_otherwise_25 : decode cX2_otherwise 25 = .ok (.getfield 14, 3) := by decide +kernel
theorem dX2_otherwise_28 : decode cX2_otherwise 28 = .ok (.getfield 151, 3) := by decide +kernel
theorem dX2_otherwise_31 : decode cX2_otherwise 31 = .ok (.iload_n 1, 1) := by decide +kernel
theorem dX2_otherwise_32 : decode cX2_otherwise 32 = .ok (.iaload, 1) := by decide +kernel
theorem dX2_otherwise_33 : decode cX2_otherwise 33 = .ok (.ireturn, 1) := by decide +kernel
theorem dX2_halves_0 : decode cX2_halves 0 = .ok (.aload_n 0, 1) := by decide +kernel
theorem dX2_halves_1 : decode cX2_halves 1 = .ok (.invokevirtual 108, 3) := by decide +kernel
theorem dX2_halves_4 : decode cX2_halves 4 = .ok (.ifCond .ne 6, 3) := by decide +kernel
theorem dX2_halves_7 : decode cX2_halves 7 = .ok (.bipush (-3), 2) := by decide +kernel
theorem dX2_halves_9 : decode cX2_halves 9 = .ok (.ireturn, 1) := by decide +kernel
theorem dX2_halves_10 : decode cX2_halves 10 = .ok (.iload_n 1, 1) := by decide +kernel
theorem dX2_halves_11 : decode cX2_halves 11 = .ok (.ifCond .lt 8, 3) := by decide +kernel
theorem dX2_halves_14 : decode cX2_halves 14 = .ok (.iload_n 1, 1) := by decide +kernel
theorem dX2_halves_15 : decode cX2_halves 15 = .ok (.iconst 1, 1) := by decide +kernel
theorem dX2_halves_16 : decode cX2_halves 16 = .ok (.if_icmp .le 6, 3) := by decide +kernel
theorem dX2_halves_19 : decode cX2_halves 19 = .ok (.bipush (-2), 2) := by decide +kernel
theorem dX2_halves_21 : decode cX2_halves 21 = .ok (.ireturn, 1) := by decide +kernel
theorem dX2_halves_22 : decode cX2_halves 22 = .ok (.iconst 1, 1) := by decide +kernel
theorem dX2_halves_23 : decode cX2_halves 23 = .ok (.istore_n 2, 1) := by decide +kernel
theorem dX2_halves_24 : decode cX2_halves 24 = .ok (.aload_n 0, 1) := by decide +kernel
theorem dX2_halves_25 : decode cX2_halves 25 = .ok (.iload_n 2, 1) := by decide +kernel
theorem dX2_halves_26 : decode cX2_halves 26 = .ok (.invokevirtual 154, 3) := by decide +kernel
theorem dX2_halves_29 : decode cX2_halves 29 = .ok (.istore_n 3, 1) := by decide +kernel
theorem dX2_halves_30 : decode cX2_halves 30 = .ok (.iconst 3, 1) := by decide +kernel
theorem dX2_halves_31 : decode cX2_halves 31 = .ok (.istore 4, 2) := by decide +kernel
theorem dX2_halves_33 : decode cX2_halves 33 = .ok (.iload 4, 2) := by decide +kernel
theorem dX2_halves_35 : decode cX2_halves 35 = .ok (.iconst 1, 1) := by decide +kernel
theorem dX2_halves_36 : decode cX2_halves 36 = .ok (.aload_n 0, 1) := by decide +kernel
theorem dX2_halves_37 : decode cX2_halves 37 = .ok (.getfield 14, 3) := by decide +kernel
theorem dX2_halves_40 : decode cX2_halves 40 = .ok (.getfield 74, 3) := by decide +kernel
theorem dX2_halves_43 : decode cX2_halves 43 = .ok (.ishl, 1) := by decide +kernel
theorem dX2_halves_44 : decode cX2_halves 44 = .ok (.if_icmp .ge 29, 3) := by decide +kernel
theorem dX2_halves_47 : decode cX2_halves 47 = .ok (.aload_n 0, 1) := by decide +kernel
theorem dX2_halves_48 : decode cX2_halves 48 = .ok (.iload 4, 2) := by decide +kernel
theorem dX2_halves_50 : decode cX2_halves 50 = .ok (.invokevirtual 154, 3) := by decide +kernel
theorem dX2_halves_53 : decode cX2_halves 53 = .ok (.istore 5, 2) := by decide +kernel
theorem dX2_halves_55 : decode cX2_halves 55 = .ok (.iload 5, 2) := by decide +kernel
theorem dX2_halves_57 : decode cX2_halves 57 = .ok (.iload_n 3, 1) := by decide +kernel
theorem dX2_halves_58 : decode cX2_halves 58 = .ok (.if_icmp .ge 9, 3) := by decide +kernel
theorem dX2_halves_61 : decode cX2_halves 61 = .ok (.iload 4, 2) := by decide +kernel
theorem dX2_halves_63 : decode cX2_halves 63 = .ok (.istore_n 2, 1) := by decide +kernel
theorem dX2_halves_64 : decode cX2_halves 64 = .ok (.iload 5, 2) := by decide +kernel
theorem dX2_halves_66 : decode cX2_halves 66 = .ok (.istore_n 3, 1) := by decide +kernel
theorem dX2_halves_67 : decode cX2_halves 67 = .ok (.iinc 4 2, 3) := by decide +kernel
theorem dX2_halves_70 : decode cX2_halves 70 = .ok (.goto (-37), 3) := by decide +kernel
theorem dX2_halves_73 : decode cX2_halves 73 = .ok (.iload_n 1, 1) := by decide +kernel
theorem dX2_halves_74 : decode cX2_halves 74 = .ok (.ifCond .ne 7, 3) := by decide +kernel
theorem dX2_halves_77 : decode cX2_halves 77 = .ok (.iload_n 2, 1) := by decide +kernel
theorem dX2_halves_78 : decode cX2_halves 78 = .ok (.goto 4, 3) := by decide +kernel
theorem dX2_halves_81 : decode cX2_halves 81 = .ok (.iload_n 3, 1) := by decide +kernel
theorem dX2_halves_82 : decode cX2_halves 82 = .ok (.ireturn, 1) := by decide +kernel
theorem dX2_reading_0 : decode cX2_reading 0 = .ok (.aload_n 0, 1) := by decide +kernel
theorem dX2_reading_1 : decode cX2_reading 1 = .ok (.iload_n 1, 1) := by decide +kernel
theorem dX2_reading_2 : decode cX2_reading 2 = .ok (.invokevirtual 77, 3) := by decide +kernel
theorem dX2_reading_5 : decode cX2_reading 5 = .ok (.ifCond .ne 5, 3) := by decide +kernel
theorem dX2_reading_8 : decode cX2_reading 8 = .ok (.iconst (-1), 1) := by decide +kernel
theorem dX2_reading_9 : decode cX2_reading 9 = .ok (.ireturn, 1) := by decide +kernel
theorem dX2_reading_10 : decode cX2_reading 10 = .ok (.iload_n 2, 1) := by decide +kernel
theorem dX2_reading_11 : decode cX2_reading 11 = .ok (.invokestatic 112, 3) := by decide +kernel
theorem dX2_reading_14 : decode cX2_reading 14 = .ok (.ifCond .ne 6, 3) := by decide +kernel
theorem dX2_reading_17 : decode cX2_reading 17 = .ok (.bipush (-2), 2) := by decide +kernel
theorem dX2_reading_19 : decode cX2_reading 19 = .ok (.ireturn, 1) := by decide +kernel
theorem dX2_reading_20 : decode cX2_reading 20 = .ok (.aload_n 0, 1) := by decide +kernel
theorem dX2_reading_21 : decode cX2_reading 21 = .ok (.getfield 34, 3) := by decide +kernel
theorem dX2_reading_24 : decode cX2_reading 24 = .ok (.bipush 8, 2) := by decide +kernel
theorem dX2_reading_26 : decode cX2_reading 26 = .ok (.if_icmp .lt 6, 3) := by decide +kernel
theorem dX2_reading_29 : decode cX2_reading 29 = .ok (.bipush (-4), 2) := by decide +kernel
theorem dX2_reading_31 : decode cX2_reading 31 = .ok (.ireturn, 1) := by decide +kernel
theorem dX2_reading_32 : decode cX2_reading 32 = .ok (.aload_n 0, 1) := by decide +kernel
theorem dX2_reading_33 : decode cX2_reading 33 = .ok (.getfield 27, 3) := by decide +kernel
theorem dX2_reading_36 : decode cX2_reading 36 = .ok (.aload_n 0, 1) := by decide +kernel
theorem dX2_reading_37 : decode cX2_reading 37 = .ok (.getfield 34, 3) := by decide +kernel
theorem dX2_reading_40 : decode cX2_reading 40 = .ok (.iload_n 1, 1) := by decide +kernel
theorem dX2_reading_41 : decode cX2_reading 41 = .ok (.iastore, 1) := by decide +kernel
theorem dX2_reading_42 : decode cX2_reading 42 = .ok (.aload_n 0, 1) := by decide +kernel
theorem dX2_reading_43 : decode cX2_reading 43 = .ok (.getfield 31, 3) := by decide +kernel
theorem dX2_reading_46 : decode cX2_reading 46 = .ok (.aload_n 0, 1) := by decide +kernel
theorem dX2_reading_47 : decode cX2_reading 47 = .ok (.getfield 34, 3) := by decide +kernel
theorem dX2_reading_50 : decode cX2_reading 50 = .ok (.iload_n 2, 1) := by decide +kernel
theorem dX2_reading_51 : decode cX2_reading 51 = .ok (.iastore, 1) := by decide +kernel
theorem dX2_reading_52 : decode cX2_reading 52 = .ok (.aload_n 0, 1) := by decide +kernel
theorem dX2_reading_53 : decode cX2_reading 53 = .ok (.dup, 1) := by decide +kernel
theorem dX2_reading_54 : decode cX2_reading 54 = .ok (.getfield 34, 3) := by decide +kernel
theorem dX2_reading_57 : decode cX2_reading 57 = .ok (.iconst 1, 1) := by decide +kernel
theorem dX2_reading_58 : decode cX2_reading 58 = .ok (.iadd, 1) := by decide +kernel
theorem dX2_reading_59 : decode cX2_reading 59 = .ok (.putfield 34, 3) := by decide +kernel
theorem dX2_reading_62 : decode cX2_reading 62 = .ok (.aload_n 0, 1) := by decide +kernel
theorem dX2_reading_63 : decode cX2_reading 63 = .ok (.getfield 34, 3) := by decide +kernel
theorem dX2_reading_66 : decode cX2_reading 66 = .ok (.iconst 1, 1) := by decide +kernel
theorem dX2_reading_67 : decode cX2_reading 67 = .ok (.isub, 1) := by decide +kernel
theorem dX2_reading_68 : decode cX2_reading 68 = .ok (.ireturn, 1) := by decide +kernel
theorem dX2_back_0 : decode cX2_back 0 = .ok (.iload_n 1, 1) := by decide +kernel
theorem dX2_back_1 : decode cX2_back 1 = .ok (.ifCond .lt 11, 3) := by decide +kernel
theorem dX2_back_4 : decode cX2_back 4 = .ok (.iload_n 1, 1) := by decide +kernel
theorem dX2_back_5 : decode cX2_back 5 = .ok (.aload_n 0, 1) := by decide +kernel
theorem dX2_back_6 : decode cX2_back 6 = .ok (.getfield 34, 3) := by decide +kernel
theorem dX2_back_9 : decode cX2_back 9 = .ok (.if_icmp .le 6, 3) := by decide +kernel
theorem dX2_back_12 : decode cX2_back 12 = .ok (.bipush (-2), 2) := by decide +kernel
theorem dX2_back_14 : decode cX2_back 14 = .ok (.ireturn, 1) := by decide +kernel
theorem dX2_back_15 : decode cX2_back 15 = .ok (.aload_n 0, 1) := by decide +kernel
theorem dX2_back_16 : decode cX2_back 16 = .ok (.dup, 1) := by decide +kernel
theorem dX2_back_17 : decode cX2_back 17 = .ok (.getfield 34, 3) := by decide +kernel
theorem dX2_back_20 : decode cX2_back 20 = .ok (.iload_n 1, 1) := by decide +kernel
theorem dX2_back_21 : decode cX2_back 21 = .ok (.isub, 1) := by decide +kernel
theorem dX2_back_22 : decode cX2_back 22 = .ok (.putfield 34, 3) := by decide +kernel
theorem dX2_back_25 : decode cX2_back 25 = .ok (.aload_n 0, 1) := by decide +kernel
theorem dX2_back_26 : decode cX2_back 26 = .ok (.getfield 34, 3) := by decide +kernel
theorem dX2_back_29 : decode cX2_back 29 = .ok (.ireturn, 1) := by decide +kernel
theorem dX2_tempers_0 : decode cX2_tempers 0 = .ok (.aload_n 0, 1) := by decide +kernel
theorem dX2_tempers_1 : decode cX2_tempers 1 = .ok (.iload_n 1, 1) := by decide +kernel
theorem dX2_tempers_2 : decode cX2_tempers 2 = .ok (.invokevirtual 77, 3) := by decide +kernel
theorem dX2_tempers_5 : decode cX2_tempers 5 = .ok (.ifCond .ne 5, 3) := by decide +kernel
theorem dX2_tempers_8 : decode cX2_tempers 8 = .ok (.iconst (-1), 1) := by decide +kernel
theorem dX2_tempers_9 : decode cX2_tempers 9 = .ok (.ireturn, 1) := by decide +kernel
theorem dX2_tempers_10 : decode cX2_tempers 10 = .ok (.aload_n 0, 1) := by decide +kernel
theorem dX2_tempers_11 : decode cX2_tempers 11 = .ok (.getfield 18, 3) := by decide +kernel
theorem dX2_tempers_14 : decode cX2_tempers 14 = .ok (.aload_n 0, 1) := by decide +kernel
theorem dX2_tempers_15 : decode cX2_tempers 15 = .ok (.getfield 14, 3) := by decide +kernel
theorem dX2_tempers_18 : decode cX2_tempers 18 = .ok (.invokevirtual 132, 3) := by decide +kernel
theorem dX2_tempers_21 : decode cX2_tempers 21 = .ok (.iconst 0, 1) := by decide +kernel
theorem dX2_tempers_22 : decode cX2_tempers 22 = .ok (.istore_n 2, 1) := by decide +kernel
theorem dX2_tempers_23 : decode cX2_tempers 23 = .ok (.iconst 0, 1) := by decide +kernel
theorem dX2_tempers_24 : decode cX2_tempers 24 = .ok (.istore_n 3, 1) := by decide +kernel
theorem dX2_tempers_25 : decode cX2_tempers 25 = .ok (.iload_n 3, 1) := by decide +kernel
theorem dX2_tempers_26 : decode cX2_tempers 26 = .ok (.bipush 9, 2) := by decide +kernel
theorem dX2_tempers_28 : decode cX2_tempers 28 = .ok (.if_icmp .gt 32, 3) := by decide +kernel
theorem dX2_tempers_31 : decode cX2_tempers 31 = .ok (.aload_n 0, 1) := by decide +kernel
theorem dX2_tempers_32 : decode cX2_tempers 32 = .ok (.getfield 18, 3) := by decide +kernel
theorem dX2_tempers_35 : decode cX2_tempers 35 = .ok (.getfield 83, 3) := by decide +kernel
theorem dX2_tempers_38 : decode cX2_tempers 38 = .ok (.iload_n 1, 1) := by decide +kernel
theorem dX2_tempers_39 : decode cX2_tempers 39 = .ok (.iload_n 3, 1) := by decide +kernel
theorem dX2_tempers_40 : decode cX2_tempers 40 = .ok (.iastore, 1) := by decide +kernel
theorem dX2_tempers_41 : decode cX2_tempers 41 = .ok (.aload_n 0, 1) := by decide +kernel
theorem dX2_tempers_42 : decode cX2_tempers 42 = .ok (.invokevirtual 157, 3) := by decide +kernel
theorem dX2_tempers_45 : decode cX2_tempers 45 = .ok (.ifCond .eq 9, 3) := by decide +kernel
theorem dX2_tempers_48 : decode cX2_tempers 48 = .ok (.iload_n 2, 1) := by decide +kernel
theorem dX2_tempers_49 : decode cX2_tempers 49 = .ok (.iconst 1, 1) := by decide +kernel
theorem dX2_tempers_50 : decode cX2_tempers 50 = .ok (.iload_n 3, 1) := by decide +kernel
theorem dX2_tempers_51 : decode cX2_tempers 51 = .ok (.ishl, 1) := by decide +kernel
theorem dX2_tempers_52 : decode cX2_tempers 52 = .ok (.ior, 1) := by decide +kernel
theorem dX2_tempers_53 : decode cX2_tempers 53 = .ok (.istore_n 2, 1) := by decide +kernel
theorem dX2_tempers_54 : decode cX2_tempers 54 = .ok (.iinc 3 1, 3) := by decide +kernel
theorem dX2_tempers_57 : decode cX2_tempers 57 = .ok (.goto (-32), 3) := by decide +kernel
theorem dX2_tempers_60 : decode cX2_tempers 60 = .ok (.iload_n 2, 1) := by decide +kernel
theorem dX2_tempers_61 : decode cX2_tempers 61 = .ok (.ireturn, 1) := by decide +kernel
theorem dX2_kinds_0 : decode cX2_kinds 0 = .ok (.aload_n 0, 1) := by decide +kernel
theorem dX2_kinds_1 : decode cX2_kinds 1 = .ok (.iload_n 1, 1) := by decide +kernel
theorem dX2_kinds_2 : decode cX2_kinds 2 = .ok (.invokevirtual 77, 3) := by decide +kernel
theorem dX2_kinds_5 : decode cX2_kinds 5 = .ok (.ifCond .ne 5, 3) := by decide +kernel
theorem dX2_kinds_8 : decode cX2_kinds 8 = .ok (.iconst (-1), 1) := by decide +kernel
theorem dX2_kinds_9 : decode cX2_kinds 9 = .ok (.ireturn, 1) := by decide +kernel
theorem dX2_kinds_10 : decode cX2_kinds 10 = .ok (.aload_n 0, 1) := by decide +kernel
theorem dX2_kinds_11 : decode cX2_kinds 11 = .ok (.getfield 18, 3) := by decide +kernel
theorem dX2_kinds_14 : decode cX2_kinds 14 = .ok (.aload_n 0, 1) := by decide +kernel
theorem dX2_kinds_15 : decode cX2_kinds 15 = .ok (.getfield 14, 3) := by decide +kernel
theorem dX2_kinds_18 : decode cX2_kinds 18 = .ok (.invokevirtual 132, 3) := by decide +kernel
theorem dX2_kinds_21 : decode cX2_kinds 21 = .ok (.iconst 0, 1) := by decide +kernel
theorem dX2_kinds_22 : decode cX2_kinds 22 = .ok (.istore_n 2, 1) := by decide +kernel
theorem dX2_kinds_23 : decode cX2_kinds 23 = .ok (.iconst 0, 1) := by decide +kernel
theorem dX2_kinds_24 : decode cX2_kinds 24 = .ok (.istore_n 3, 1) := by decide +kernel
theorem dX2_kinds_25 : decode cX2_kinds 25 = .ok (.iload_n 3, 1) := by decide +kernel
theorem dX2_kinds_26 : decode cX2_kinds 26 = .ok (.iconst 3, 1) := by decide +kernel
theorem dX2_kinds_27 : decode cX2_kinds 27 = .ok (.if_icmp .ge 32, 3) := by decide +kernel
theorem dX2_kinds_30 : decode cX2_kinds 30 = .ok (.aload_n 0, 1) := by decide +kernel
theorem dX2_kinds_31 : decode cX2_kinds 31 = .ok (.getfield 18, 3) := by decide +kernel
theorem dX2_kinds_34 : decode cX2_kinds 34 = .ok (.getfield 80, 3) := by decide +kernel
theorem dX2_kinds_37 : decode cX2_kinds 37 = .ok (.iload_n 1, 1) := by decide +kernel
theorem dX2_kinds_38 : decode cX2_kinds 38 = .ok (.iload_n 3, 1) := by decide +kernel
theorem dX2_kinds_39 : decode cX2_kinds 39 = .ok (.iastore, 1) := by decide +kernel
theorem dX2_kinds_40 : decode cX2_kinds 40 = .ok (.aload_n 0, 1) := by decide +kernel
theorem dX2_kinds_41 : decode cX2_kinds 41 = .ok (.invokevirtual 157, 3) := by decide +kernel
theorem dX2_kinds_44 : decode cX2_kinds 44 = .ok (.ifCond .eq 9, 3) := by decide +kernel
theorem dX2_kinds_47 : decode cX2_kinds 47 = .ok (.iload_n 2, 1) := by decide +kernel
theorem dX2_kinds_48 : decode cX2_kinds 48 = .ok (.iconst 1, 1) := by decide +kernel
theorem dX2_kinds_49 : decode cX2_kinds 49 = .ok (.iload_n 3, 1) := by decide +kernel
theorem dX2_kinds_50 : decode cX2_kinds 50 = .ok (.ishl, 1) := by decide +kernel
theorem dX2_kinds_51 : decode cX2_kinds 51 = .ok (.ior, 1) := by decide +kernel
theorem dX2_kinds_52 : decode cX2_kinds 52 = .ok (.istore_n 2, 1) := by decide +kernel
theorem dX2_kinds_53 : decode cX2_kinds 53 = .ok (.iinc 3 1, 3) := by decide +kernel
theorem dX2_kinds_56 : decode cX2_kinds 56 = .ok (.goto (-31), 3) := by decide +kernel
theorem dX2_kinds_59 : decode cX2_kinds 59 = .ok (.iload_n 2, 1) := by decide +kernel
theorem dX2_kinds_60 : decode cX2_kinds 60 = .ok (.ireturn, 1) := by decide +kernel
theorem dX2_crates_0 : decode cX2_crates 0 = .ok (.aload_n 0, 1) := by decide +kernel
theorem dX2_crates_1 : decode cX2_crates 1 = .ok (.invokevirtual 108, 3) := by decide +kernel
theorem dX2_crates_4 : decode cX2_crates 4 = .ok (.ifCond .ne 6, 3) := by decide +kernel
theorem dX2_crates_7 : decode cX2_crates 7 = .ok (.bipush (-3), 2) := by decide +kernel
theorem dX2_crates_9 : decode cX2_crates 9 = .ok (.ireturn, 1) := by decide +kernel
theorem dX2_crates_10 : decode cX2_crates 10 = .ok (.iload_n 1, 1) := by decide +kernel
theorem dX2_crates_11 : decode cX2_crates 11 = .ok (.ifCond .lt 8, 3) := by decide +kernel
theorem dX2_crates_14 : decode cX2_crates 14 = .ok (.iload_n 1, 1) := by decide +kernel
theorem dX2_crates_15 : decode cX2_crates 15 = .ok (.iconst 2, 1) := by decide +kernel
theorem dX2_crates_16 : decode cX2_crates 16 = .ok (.if_icmp .le 6, 3) := by decide +kernel
theorem dX2_crates_19 : decode cX2_crates 19 = .ok (.bipush (-2), 2) := by decide +kernel
theorem dX2_crates_21 : decode cX2_crates 21 = .ok (.ireturn, 1) := by decide +kernel
theorem dX2_crates_22 : decode cX2_crates 22 = .ok (.aload_n 0, 1) := by decide +kernel
theorem dX2_crates_23 : decode cX2_crates 23 = .ok (.getfield 18, 3) := by decide +kernel
theorem dX2_crates_26 : decode cX2_crates 26 = .ok (.aload_n 0, 1) := by decide +kernel
theorem dX2_crates_27 : decode cX2_crates 27 = .ok (.getfield 14, 3) := by decide +kernel
theorem dX2_crates_30 : decode cX2_crates 30 = .ok (.invokevirtual 132, 3) := by decide +kernel
theorem dX2_crates_33 : decode cX2_crates 33 = .ok (.iconst 0, 1) := by decide +kernel
theorem dX2_crates_34 : decode cX2_crates 34 = .ok (.istore_n 2, 1) := by decide +kernel
theorem dX2_crates_35 : decode cX2_crates 35 = .ok (.bipush (-9), 2) := by decide +kernel
theorem dX2_crates_37 : decode cX2_crates 37 = .ok (.istore_n 3, 1) := by decide +kernel
theorem dX2_crates_38 : decode cX2_crates 38 = .ok (.bipush (-9), 2) := by decide +kernel
theorem dX2_crates_40 : decode cX2_crates 40 = .ok (.istore 4, 2) := by decide +kernel
theorem dX2_crates_42 : decode cX2_crates 42 = .ok (.iconst 0, 1) := by decide +kernel
theorem dX2_crates_43 : decode cX2_crates 43 = .ok (.istore 5, 2) := by decide +kernel
theorem dX2_crates_45 : decode cX2_crates 45 = .ok (.iload 5, 2) := by decide +kernel
theorem dX2_crates_47 : decode cX2_crates 47 = .ok (.bipush 99, 2) := by decide +kernel
theorem dX2_crates_49 : decode cX2_crates 49 = .ok (.if_icmp .gt 43, 3) := by decide +kernel
theorem dX2_crates_52 : decode cX2_crates 52 = .ok (.aload_n 0, 1) := by decide +kernel
theorem dX2_crates_53 : decode cX2_crates 53 = .ok (.getfield 18, 3) := by decide +kernel
theorem dX2_crates_56 : decode cX2_crates 56 = .ok (.iload 5, 2) := by decide +kernel
theorem dX2_crates_58 : decode cX2_crates 58 = .ok (.putfield 98, 3) := by decide +kernel
theorem dX2_crates_61 : decode cX2_crates 61 = .ok (.aload_n 0, 1) := by decide +kernel
theorem dX2_crates_62 : decode cX2_crates 62 = .ok (.invokevirtual 157, 3) := by decide +kernel
theorem dX2_crates_65 : decode cX2_crates 65 = .ok (.ifCond .eq 21, 3) := by decide +kernel
theorem dX2_crates_68 : decode cX2_crates 68 = .ok (.iload_n 2, 1) := by decide +kernel
theorem dX2_crates_69 : decode cX2_crates 69 = .ok (.ifCond .ne 8, 3) := by decide +kernel
theorem dX2_crates_72 : decode cX2_crates 72 = .ok (.iload 5, 2) := by decide +kernel
theorem dX2_crates_74 : decode cX2_crates 74 = .ok (.goto 4, 3) := by decide +kernel
theorem dX2_crates_77 : decode cX2_crates 77 = .ok (.iload_n 3, 1) := by decide +kernel
theorem dX2_crates_78 : decode cX2_crates 78 = .ok (.istore_n 3, 1) := by decide +kernel
theorem dX2_crates_79 : decode cX2_crates 79 = .ok (.iload 5, 2) := by decide +kernel
theorem dX2_crates_81 : decode cX2_crates 81 = .ok (.istore 4, 2) := by decide +kernel
theorem dX2_crates_83 : decode cX2_crates 83 = .ok (.iinc 2 1, 3) := by decide +kernel
theorem dX2_crates_86 : decode cX2_crates 86 = .ok (.iinc 5 1, 3) := by decide +kernel
theorem dX2_crates_89 : decode cX2_crates 89 = .ok (.goto (-44), 3) := by decide +kernel
theorem dX2_crates_92 : decode cX2_crates 92 = .ok (.iload_n 1, 1) := by decide +kernel
theorem dX2_crates_93 : decode cX2_crates 93 = .ok (.ifCond .ne 5, 3) := by decide +kernel
theorem dX2_crates_96 : decode cX2_crates 96 = .ok (.iload_n 2, 1) := by decide +kernel
theorem dX2_crates_97 : decode cX2_crates 97 = .ok (.ireturn, 1) := by decide +kernel
theorem dX2_crates_98 : decode cX2_crates 98 = .ok (.iload_n 1, 1) := by decide +kernel
theorem dX2_crates_99 : decode cX2_crates 99 = .ok (.iconst 1, 1) := by decide +kernel
theorem dX2_crates_100 : decode cX2_crates 100 = .ok (.if_icmp .ne 7, 3) := by decide +kernel
theorem dX2_crates_103 : decode cX2_crates 103 = .ok (.iload_n 3, 1) := by decide +kernel
theorem dX2_crates_104 : decode cX2_crates 104 = .ok (.goto 5, 3) := by decide +kernel
theorem dX2_crates_107 : decode cX2_crates 107 = .ok (.iload 4, 2) := by decide +kernel
theorem dX2_crates_109 : decode cX2_crates 109 = .ok (.ireturn, 1) := by decide +kernel
theorem dX2_odds_0 : decode cX2_odds 0 = .ok (.aload_n 0, 1) := by decide +kernel
theorem dX2_odds_1 : decode cX2_odds 1 = .ok (.iload_n 1, 1) := by decide +kernel
theorem dX2_odds_2 : decode cX2_odds 2 = .ok (.invokevirtual 77, 3) := by decide +kernel
theorem dX2_odds_5 : decode cX2_odds 5 = .ok (.ifCond .eq 19, 3) := by decide +kernel
theorem dX2_odds_8 : decode cX2_odds 8 = .ok (.iload_n 2, 1) := by decide +kernel
theorem dX2_odds_9 : decode cX2_odds 9 = .ok (.invokestatic 112, 3) := by decide +kernel
theorem dX2_odds_12 : decode cX2_odds 12 = .ok (.ifCond .eq 12, 3) := by decide +kernel
theorem dX2_odds_15 : decode cX2_odds 15 = .ok (.iload_n 3, 1) := by decide +kernel
theorem dX2_odds_16 : decode cX2_odds 16 = .ok (.ifCond .lt 8, 3) := by decide +kernel
theorem dX2_odds_19 : decode cX2_odds 19 = .ok (.iload_n 3, 1) := by decide +kernel
theorem dX2_odds_20 : decode cX2_odds 20 = .ok (.iconst 1, 1) := by decide +kernel
theorem dX2_odds_21 : decode cX2_odds 21 = .ok (.if_icmp .le 7, 3) := by decide +kernel
theorem dX2_odds_24 : decode cX2_odds 24 = .ok (.ldc2_w 160, 3) := by decide +kernel
theorem dX2_odds_27 : decode cX2_odds 27 = .ok (.lreturn, 1) := by decide +kernel
theorem dX2_odds_28 : decode cX2_odds 28 = .ok (.iconst 0, 1) := by decide +kernel
theorem dX2_odds_29 : decode cX2_odds 29 = .ok (.istore 4, 2) := by decide +kernel
theorem dX2_odds_31 : decode cX2_odds 31 = .ok (.iconst 0, 1) := by decide +kernel
theorem dX2_odds_32 : decode cX2_odds 32 = .ok (.istore 5, 2) := by decide +kernel
theorem dX2_odds_34 : decode cX2_odds 34 = .ok (.iload 5, 2) := by decide +kernel
theorem dX2_odds_36 : decode cX2_odds 36 = .ok (.bipush 99, 2) := by decide +kernel
theorem dX2_odds_38 : decode cX2_odds 38 = .ok (.if_icmp .gt 26, 3) := by decide +kernel
theorem dX2_odds_41 : decode cX2_odds 41 = .ok (.aload_n 0, 1) := by decide +kernel
theorem dX2_odds_42 : decode cX2_odds 42 = .ok (.getfield 14, 3) := by decide +kernel
theorem dX2_odds_45 : decode cX2_odds 45 = .ok (.iload_n 1, 1) := by decide +kernel
theorem dX2_odds_46 : decode cX2_odds 46 = .ok (.iload 5, 2) := by decide +kernel
theorem dX2_odds_48 : decode cX2_odds 48 = .ok (.invokevirtual 101, 3) := by decide +kernel
theorem dX2_odds_51 : decode cX2_odds 51 = .ok (.iload_n 2, 1) := by decide +kernel
theorem dX2_odds_52 : decode cX2_odds 52 = .ok (.if_icmp .lt 6, 3) := by decide +kernel
theorem dX2_odds_55 : decode cX2_odds 55 = .ok (.iinc 4 1, 3) := by decide +kernel
theorem dX2_odds_58 : decode cX2_odds 58 = .ok (.iinc 5 1, 3) := by decide +kernel
theorem dX2_odds_61 : decode cX2_odds 61 = .ok (.goto (-27), 3) := by decide +kernel
theorem dX2_odds_64 : decode cX2_odds 64 = .ok (.bipush 100, 2) := by decide +kernel
theorem dX2_odds_66 : decode cX2_odds 66 = .ok (.istore 5, 2) := by decide +kernel
theorem dX2_odds_68 : decode cX2_odds 68 = .ok (.iload 5, 2) := by decide +kernel
theorem dX2_odds_70 : decode cX2_odds 70 = .ok (.iconst 1, 1) := by decide +kernel
theorem dX2_odds_71 : decode cX2_odds 71 = .ok (.if_icmp .le 25, 3) := by decide +kernel
theorem dX2_odds_74 : decode cX2_odds 74 = .ok (.iload 4, 2) := by decide +kernel
theorem dX2_odds_76 : decode cX2_odds 76 = .ok (.iload 5, 2) := by decide +kernel
theorem dX2_odds_78 : decode cX2_odds 78 = .ok (.irem, 1) := by decide +kernel
theorem dX2_odds_79 : decode cX2_odds 79 = .ok (.ifCond .ne 11, 3) := by decide +kernel
theorem dX2_odds_82 : decode cX2_odds 82 = .ok (.bipush 100, 2) := by decide +kernel
theorem dX2_odds_84 : decode cX2_odds 84 = .ok (.iload 5, 2) := by decide +kernel
theorem dX2_odds_86 : decode cX2_odds 86 = .ok (.irem, 1) := by decide +kernel
theorem dX2_odds_87 : decode cX2_odds 87 = .ok (.ifCond .eq 9, 3) := by decide +kernel
theorem dX2_odds_90 : decode cX2_odds 90 = .ok (.iinc 5 (-1), 3) := by decide +kernel
theorem dX2_odds_93 : decode cX2_odds 93 = .ok (.goto (-25), 3) := by decide +kernel
theorem dX2_odds_96 : decode cX2_odds 96 = .ok (.iload_n 3, 1) := by decide +kernel
theorem dX2_odds_97 : decode cX2_odds 97 = .ok (.ifCond .ne 12, 3) := by decide +kernel
theorem dX2_odds_100 : decode cX2_odds 100 = .ok (.iload 4, 2) := by decide +kernel
theorem dX2_odds_102 : decode cX2_odds 102 = .ok (.iload 5, 2) := by decide +kernel
theorem dX2_odds_104 : decode cX2_odds 104 = .ok (.idiv, 1) := by decide +kernel
theorem dX2_odds_105 : decode cX2_odds 105 = .ok (.i2l, 1) := by decide +kernel
theorem dX2_odds_106 : decode cX2_odds 106 = .ok (.goto 9, 3) := by decide +kernel
theorem dX2_odds_109 : decode cX2_odds 109 = .ok (.bipush 100, 2) := by decide +kernel
theorem dX2_odds_111 : decode cX2_odds 111 = .ok (.iload 5, 2) := by decide +kernel
theorem dX2_odds_113 : decode cX2_odds 113 = .ok (.idiv, 1) := by decide +kernel
theorem dX2_odds_114 : decode cX2_odds 114 = .ok (.i2l, 1) := by decide +kernel
theorem dX2_odds_115 : decode cX2_odds 115 = .ok (.lreturn, 1) := by decide +kernel
theorem dX2_sheet_0 : decode cX2_sheet 0 = .ok (.aload_n 0, 1) := by decide +kernel
theorem dX2_sheet_1 : decode cX2_sheet 1 = .ok (.iconst 0, 1) := by decide +kernel
theorem dX2_sheet_2 : decode cX2_sheet 2 = .ok (.putfield 41, 3) := by decide +kernel
theorem dX2_sheet_5 : decode cX2_sheet 5 = .ok (.iload_n 1, 1) := by decide +kernel
theorem dX2_sheet_6 : decode cX2_sheet 6 = .ok (.invokestatic 45, 3) := by decide +kernel
theorem dX2_sheet_9 : decode cX2_sheet 9 = .ok (.ifCond .ne 5, 3) := by decide +kernel
theorem dX2_sheet_12 : decode cX2_sheet 12 = .ok (.iconst (-1), 1) := by decide +kernel
theorem dX2_sheet_13 : decode cX2_sheet 13 = .ok (.ireturn, 1) := by decide +kernel
theorem dX2_sheet_14 : decode cX2_sheet 14 = .ok (.iload_n 2, 1) := by decide +kernel
theorem dX2_sheet_15 : decode cX2_sheet 15 = .ok (.invokestatic 49, 3) := by decide +kernel
theorem dX2_sheet_18 : decode cX2_sheet 18 = .ok (.ifCond .eq 9, 3) := by decide +kernel
theorem dX2_sheet_21 : decode cX2_sheet 21 = .ok (.iload_n 3, 1) := by decide +kernel
theorem dX2_sheet_22 : decode cX2_sheet 22 = .ok (.bipush 60, 2) := by decide +kernel
theorem dX2_sheet_24 : decode cX2_sheet 24 = .ok (.if_icmp .le 6, 3) := by decide +kernel
theorem dX2_sheet_27 : decode cX2_sheet 27 = .ok (.bipush (-2), 2) := by decide +kernel
theorem dX2_sheet_29 : decode cX2_sheet 29 = .ok (.ireturn, 1) := by decide +kernel
theorem dX2_sheet_30 : decode cX2_sheet 30 = .ok (.iload_n 3, 1) := by decide +kernel
theorem dX2_sheet_31 : decode cX2_sheet 31 = .ok (.ifCond .ge 9, 3) := by decide +kernel
theorem dX2_sheet_34 : decode cX2_sheet 34 = .ok (.aload_n 0, 1) := by decide +kernel
theorem dX2_sheet_35 : decode cX2_sheet 35 = .ok (.iconst 4, 1) := by decide +kernel
theorem dX2_sheet_36 : decode cX2_sheet 36 = .ok (.invokevirtual 60, 3) := by decide +kernel
theorem dX2_sheet_39 : decode cX2_sheet 39 = .ok (.ireturn, 1) := by decide +kernel
theorem dX2_sheet_40 : decode cX2_sheet 40 = .ok (.aload_n 0, 1) := by decide +kernel
theorem dX2_sheet_41 : decode cX2_sheet 41 = .ok (.getfield 23, 3) := by decide +kernel
theorem dX2_sheet_44 : decode cX2_sheet 44 = .ok (.iload_n 1, 1) := by decide +kernel
theorem dX2_sheet_45 : decode cX2_sheet 45 = .ok (.aaload, 1) := by decide +kernel
theorem dX2_sheet_46 : decode cX2_sheet 46 = .ok (.iload_n 2, 1) := by decide +kernel
theorem dX2_sheet_47 : decode cX2_sheet 47 = .ok (.iload_n 3, 1) := by decide +kernel
theorem dX2_sheet_48 : decode cX2_sheet 48 = .ok (.invokevirtual 162, 3) := by decide +kernel
theorem dX2_sheet_51 : decode cX2_sheet 51 = .ok (.iconst 1, 1) := by decide +kernel
theorem dX2_sheet_52 : decode cX2_sheet 52 = .ok (.ireturn, 1) := by decide +kernel
theorem dX2_lose_0 : decode cX2_lose 0 = .ok (.iload_n 1, 1) := by decide +kernel
theorem dX2_lose_1 : decode cX2_lose 1 = .ok (.invokestatic 45, 3) := by decide +kernel
theorem dX2_lose_4 : decode cX2_lose 4 = .ok (.ifCond .ne 5, 3) := by decide +kernel
theorem dX2_lose_7 : decode cX2_lose 7 = .ok (.iconst (-1), 1) := by decide +kernel
theorem dX2_lose_8 : decode cX2_lose 8 = .ok (.ireturn, 1) := by decide +kernel
theorem dX2_lose_9 : decode cX2_lose 9 = .ok (.aload_n 0, 1) := by decide +kernel
theorem dX2_lose_10 : decode cX2_lose 10 = .ok (.getfield 23, 3) := by decide +kernel
theorem dX2_lose_13 : decode cX2_lose 13 = .ok (.iload_n 1, 1) := by decide +kernel
theorem dX2_lose_14 : decode cX2_lose 14 = .ok (.aaload, 1) := by decide +kernel
theorem dX2_lose_15 : decode cX2_lose 15 = .ok (.invokevirtual 166, 3) := by decide +kernel
theorem dX2_lose_18 : decode cX2_lose 18 = .ok (.istore_n 2, 1) := by decide +kernel
theorem dX2_lose_19 : decode cX2_lose 19 = .ok (.aload_n 0, 1) := by decide +kernel
theorem dX2_lose_20 : decode cX2_lose 20 = .ok (.getfield 23, 3) := by decide +kernel
theorem dX2_lose_23 : decode cX2_lose 23 = .ok (.iload_n 1, 1) := by decide +kernel
theorem dX2_lose_24 : decode cX2_lose 24 = .ok (.aaload, 1) := by decide +kernel
theorem dX2_lose_25 : decode cX2_lose 25 = .ok (.iconst (-1), 1) := by decide +kernel
theorem dX2_lose_26 : decode cX2_lose 26 = .ok (.putfield 169, 3) := by decide +kernel
theorem dX2_lose_29 : decode cX2_lose 29 = .ok (.iload_n 2, 1) := by decide +kernel
theorem dX2_lose_30 : decode cX2_lose 30 = .ok (.ifCond .eq 7, 3) := by decide +kernel
theorem dX2_lose_33 : decode cX2_lose 33 = .ok (.iconst 1, 1) := by decide +kernel
theorem dX2_lose_34 : decode cX2_lose 34 = .ok (.goto 4, 3) := by decide +kernel
theorem dX2_lose_37 : decode cX2_lose 37 = .ok (.iconst 0, 1) := by decide +kernel
theorem dX2_lose_38 : decode cX2_lose 38 = .ok (.ireturn, 1) := by decide +kernel
theorem dX2_put_0 : decode cX2_put 0 = .ok (.aload_n 0, 1) := by decide +kernel
theorem dX2_put_1 : decode cX2_put 1 = .ok (.iconst 0, 1) := by decide +kernel
theorem dX2_put_2 : decode cX2_put 2 = .ok (.putfield 41, 3) := by decide +kernel
theorem dX2_put_5 : decode cX2_put 5 = .ok (.iload_n 1, 1) := by decide +kernel
theorem dX2_put_6 : decode cX2_put 6 = .ok (.invokestatic 45, 3) := by decide +kernel
theorem dX2_put_9 : decode cX2_put 9 = .ok (.ifCond .ne 5, 3) := by decide +kernel
theorem dX2_put_12 : decode cX2_put 12 = .ok (.iconst (-1), 1) := by decide +kernel
theorem dX2_put_13 : decode cX2_put 13 = .ok (.ireturn, 1) := by decide +kernel
theorem dX2_put_14 : decode cX2_put 14 = .ok (.aload_n 0, 1) := by decide +kernel
theorem dX2_put_15 : decode cX2_put 15 = .ok (.getfield 23, 3) := by decide +kernel
theorem dX2_put_18 : decode cX2_put 18 = .ok (.iload_n 1, 1) := by decide +kernel
theorem dX2_put_19 : decode cX2_put 19 = .ok (.aaload, 1) := by decide +kernel
theorem dX2_put_20 : decode cX2_put 20 = .ok (.astore 4, 2) := by decide +kernel
theorem dX2_put_22 : decode cX2_put 22 = .ok (.aload 4, 2) := by decide +kernel
theorem dX2_put_24 : decode cX2_put 24 = .ok (.invokevirtual 166, 3) := by decide +kernel
theorem dX2_put_27 : decode cX2_put 27 = .ok (.ifCond .ne 9, 3) := by decide +kernel
theorem dX2_put_30 : decode cX2_put 30 = .ok (.aload_n 0, 1) := by decide +kernel
theorem dX2_put_31 : decode cX2_put 31 = .ok (.iconst 1, 1) := by decide +kernel
theorem dX2_put_32 : decode cX2_put 32 = .ok (.invokevirtual 60, 3) := by decide +kernel
theorem dX2_put_35 : decode cX2_put 35 = .ok (.ireturn, 1) := by decide +kernel
theorem dX2_put_36 : decode cX2_put 36 = .ok (.aload 4, 2) := by decide +kernel
theorem dX2_put_38 : decode cX2_put 38 = .ok (.iload_n 2, 1) := by decide +kernel
theorem dX2_put_39 : decode cX2_put 39 = .ok (.invokevirtual 172, 3) := by decide +kernel
theorem dX2_put_42 : decode cX2_put 42 = .ok (.ifCond .ne 9, 3) := by decide +kernel
theorem dX2_put_45 : decode cX2_put 45 = .ok (.aload_n 0, 1) := by decide +kernel
theorem dX2_put_46 : decode cX2_put 46 = .ok (.iconst 3, 1) := by decide +kernel
theorem dX2_put_47 : decode cX2_put 47 = .ok (.invokevirtual 60, 3) := by decide +kernel
theorem dX2_put_50 : decode cX2_put 50 = .ok (.ireturn, 1) := by decide +kernel
theorem dX2_put_51 : decode cX2_put 51 = .ok (.aload 4, 2) := by decide +kernel
theorem dX2_put_53 : decode cX2_put 53 = .ok (.getfield 63, 3) := by decide +kernel
theorem dX2_put_56 : decode cX2_put 56 = .ok (.iload_n 2, 1) := by decide +kernel
theorem dX2_put_57 : decode cX2_put 57 = .ok (.aload 4, 2) := by decide +kernel
theorem dX2_put_59 : decode cX2_put 59 = .ok (.iload_n 3, 1) := by decide +kernel
theorem dX2_put_60 : decode cX2_put 60 = .ok (.invokevirtual 175, 3) := by decide +kernel
theorem dX2_put_63 : decode cX2_put 63 = .ok (.iastore, 1) := by decide +kernel
theorem dX2_put_64 : decode cX2_put 64 = .ok (.iconst 1, 1) := by decide +kernel
theorem dX2_put_65 : decode cX2_put 65 = .ok (.ireturn, 1) := by decide +kernel
theorem dX2_cell_0 : decode cX2_cell 0 = .ok (.aload_n 0, 1) := by decide +kernel
theorem dX2_cell_1 : decode cX2_cell 1 = .ok (.iconst 0, 1) := by decide +kernel
theorem dX2_cell_2 : decode cX2_cell 2 = .ok (.putfield 41, 3) := by decide +kernel
theorem dX2_cell_5 : decode cX2_cell 5 = .ok (.iload_n 1, 1) := by decide +kernel
theorem dX2_cell_6 : decode cX2_cell 6 = .ok (.invokestatic 45, 3) := by decide +kernel
theorem dX2_cell_9 : decode cX2_cell 9 = .ok (.ifCond .eq 10, 3) := by decide +kernel
theorem dX2_cell_12 : decode cX2_cell 12 = .ok (.iload_n 3, 1) := by decide +kernel
theorem dX2_cell_13 : decode cX2_cell 13 = .ok (.invokestatic 49, 3) := by decide +kernel
theorem dX2_cell_16 : decode cX2_cell 16 = .ok (.ifCond .ne 7, 3) := by decide +kernel
theorem dX2_cell_19 : decode cX2_cell 19 = .ok (.ldc2_w 160, 3) := by decide +kernel
theorem dX2_cell_22 : decode cX2_cell 22 = .ok (.lreturn, 1) := by decide +kernel
theorem dX2_cell_23 : decode cX2_cell 23 = .ok (.aload_n 0, 1) := by decide +kernel
theorem dX2_cell_24 : decode cX2_cell 24 = .ok (.getfield 23, 3) := by decide +kernel
theorem dX2_cell_27 : decode cX2_cell 27 = .ok (.iload_n 1, 1) := by decide +kernel
theorem dX2_cell_28 : decode cX2_cell 28 = .ok (.aaload, 1) := by decide +kernel
theorem dX2_cell_29 : decode cX2_cell 29 = .ok (.astore 4, 2) := by decide +kernel
theorem dX2_cell_31 : decode cX2_cell 31 = .ok (.aload 4, 2) := by decide +kernel
theorem dX2_cell_33 : decode cX2_cell 33 = .ok (.iload_n 3, 1) := by decide +kernel
theorem dX2_cell_34 : decode cX2_cell 34 = .ok (.invokevirtual 52, 3) := by decide +kernel
theorem dX2_cell_37 : decode cX2_cell 37 = .ok (.istore 5, 2) := by decide +kernel
theorem dX2_cell_39 : decode cX2_cell 39 = .ok (.iload 5, 2) := by decide +kernel
theorem dX2_cell_41 : decode cX2_cell 41 = .ok (.ifCond .ne 15, 3) := by decide +kernel
theorem dX2_cell_44 : decode cX2_cell 44 = .ok (.aload 4, 2) := by decide +kernel
theorem dX2_cell_46 : decode cX2_cell 46 = .ok (.iload_n 2, 1) := by decide +kernel
theorem dX2_cell_47 : decode cX2_cell 47 = .ok (.invokevirtual 172, 3) := by decide +kernel
theorem dX2_cell_50 : decode cX2_cell 50 = .ok (.ifCond .ne 6, 3) := by decide +kernel
theorem dX2_cell_53 : decode cX2_cell 53 = .ok (.iconst 3, 1) := by decide +kernel
theorem dX2_cell_54 : decode cX2_cell 54 = .ok (.istore 5, 2) := by decide +kernel
theorem dX2_cell_56 : decode cX2_cell 56 = .ok (.iload 5, 2) := by decide +kernel
theorem dX2_cell_58 : decode cX2_cell 58 = .ok (.ifCond .eq 13, 3) := by decide +kernel
theorem dX2_cell_61 : decode cX2_cell 61 = .ok (.aload_n 0, 1) := by decide +kernel
theorem dX2_cell_62 : decode cX2_cell 62 = .ok (.iload 5, 2) := by decide +kernel
theorem dX2_cell_64 : decode cX2_cell 64 = .ok (.putfield 41, 3) := by decide +kernel
theorem dX2_cell_67 : decode cX2_cell 67 = .ok (.ldc2_w 160, 3) := by decide +kernel
theorem dX2_cell_70 : decode cX2_cell 70 = .ok (.lreturn, 1) := by decide +kernel
theorem dX2_cell_71 : decode cX2_cell 71 = .ok (.aload 4, 2) := by decide +kernel
theorem dX2_cell_73 : decode cX2_cell 73 = .ok (.getfield 63, 3) := by decide +kernel
theorem dX2_cell_76 : decode cX2_cell 76 = .ok (.iload_n 2, 1) := by decide +kernel
theorem dX2_cell_77 : decode cX2_cell 77 = .ok (.iaload, 1) := by decide +kernel
theorem dX2_cell_78 : decode cX2_cell 78 = .ok (.i2l, 1) := by decide +kernel
theorem dX2_cell_79 : decode cX2_cell 79 = .ok (.lreturn, 1) := by decide +kernel
theorem dX2_copy_0 : decode cX2_copy 0 = .ok (.aload_n 0, 1) := by decide +kernel
theorem dX2_copy_1 : decode cX2_copy 1 = .ok (.iconst 0, 1) := by decide +kernel
theorem dX2_copy_2 : decode cX2_copy 2 = .ok (.putfield 41, 3) := by decide +kernel
theorem dX2_copy_5 : decode cX2_copy 5 = .ok (.iload_n 1, 1) := by decide +kernel
theorem dX2_copy_6 : decode cX2_copy 6 = .ok (.invokestatic 45, 3) := by decide +kernel
theorem dX2_copy_9 : decode cX2_copy 9 = .ok (.ifCond .eq 10, 3) := by decide +kernel
theorem dX2_copy_12 : decode cX2_copy 12 = .ok (.iload_n 3, 1) := by decide +kernel
theorem dX2_copy_13 : decode cX2_copy 13 = .ok (.invokestatic 45, 3) := by decide +kernel
theorem dX2_copy_16 : decode cX2_copy 16 = .ok (.ifCond .ne 5, 3) := by decide +kernel
theorem dX2_copy_19 : decode cX2_copy 19 = .ok (.iconst (-1), 1) := by decide +kernel
theorem dX2_copy_20 : decode cX2_copy 20 = .ok (.ireturn, 1) := by decide +kernel
theorem dX2_copy_21 : decode cX2_copy 21 = .ok (.aload_n 0, 1) := by decide +kernel
theorem dX2_copy_22 : decode cX2_copy 22 = .ok (.getfield 23, 3) := by decide +kernel
theorem dX2_copy_25 : decode cX2_copy 25 = .ok (.iload_n 1, 1) := by decide +kernel
theorem dX2_copy_26 : decode cX2_copy 26 = .ok (.aaload, 1) := by decide +kernel
theorem dX2_copy_27 : decode cX2_copy 27 = .ok (.astore 6, 2) := by decide +kernel
theorem dX2_copy_29 : decode cX2_copy 29 = .ok (.aload_n 0, 1) := by decide +kernel
theorem dX2_copy_30 : decode cX2_copy 30 = .ok (.getfield 23, 3) := by decide +kernel
theorem dX2_copy_33 : decode cX2_copy 33 = .ok (.iload_n 3, 1) := by decide +kernel
theorem dX2_copy_34 : decode cX2_copy 34 = .ok (.aaload, 1) := by decide +kernel
theorem dX2_copy_35 : decode cX2_copy 35 = .ok (.astore 7, 2) := by decide +kernel
theorem dX2_copy_37 : decode cX2_copy 37 = .ok (.aload 6, 2) := by decide +kernel
theorem dX2_copy_39 : decode cX2_copy 39 = .ok (.invokevirtual 166, 3) := by decide +kernel
theorem dX2_copy_42 : decode cX2_copy 42 = .ok (.ifCond .eq 11, 3) := by decide +kernel
theorem dX2_copy_45 : decode cX2_copy 45 = .ok (.aload 7, 2) := by decide +kernel
theorem dX2_copy_47 : decode cX2_copy 47 = .ok (.invokevirtual 166, 3) := by decide +kernel
theorem dX2_copy_50 : decode cX2_copy 50 = .ok (.ifCond .ne 9, 3) := by decide +kernel
theorem dX2_copy_53 : decode cX2_copy 53 = .ok (.aload_n 0, 1) := by decide +kernel
theorem dX2_copy_54 : decode cX2_copy 54 = .ok (.iconst 1, 1) := by decide +kernel
theorem dX2_copy_55 : decode cX2_copy 55 = .ok (.invokevirtual 60, 3) := by decide +kernel
theorem dX2_copy_58 : decode cX2_copy 58 = .ok (.ireturn, 1) := by decide +kernel
theorem dX2_copy_59 : decode cX2_copy 59 = .ok (.aload 6, 2) := by decide +kernel
theorem dX2_copy_61 : decode cX2_copy 61 = .ok (.getfield 178, 3) := by decide +kernel
theorem dX2_copy_64 : decode cX2_copy 64 = .ok (.aload 7, 2) := by decide +kernel
theorem dX2_copy_66 : decode cX2_copy 66 = .ok (.getfield 178, 3) := by decide +kernel
theorem dX2_copy_69 : decode cX2_copy 69 = .ok (.if_icmp .eq 9, 3) := by decide +kernel
theorem dX2_copy_72 : decode cX2_copy 72 = .ok (.aload_n 0, 1) := by decide +kernel
theorem dX2_copy_73 : decode cX2_copy 73 = .ok (.iconst 2, 1) := by decide +kernel
theorem dX2_copy_74 : decode cX2_copy 74 = .ok (.invokevirtual 60, 3) := by decide +kernel
theorem dX2_copy_77 : decode cX2_copy 77 = .ok (.ireturn, 1) := by decide +kernel
theorem dX2_copy_78 : decode cX2_copy 78 = .ok (.aload 6, 2) := by decide +kernel
theorem dX2_copy_80 : decode cX2_copy 80 = .ok (.iload_n 2, 1) := by decide +kernel
theorem dX2_copy_81 : decode cX2_copy 81 = .ok (.iload 5, 2) := by decide +kernel
theorem dX2_copy_83 : decode cX2_copy 83 = .ok (.invokevirtual 56, 3) := by decide +kernel
theorem dX2_copy_86 : decode cX2_copy 86 = .ok (.ifCond .ne 15, 3) := by decide +kernel
theorem dX2_copy_89 : decode cX2_copy 89 = .ok (.aload 7, 2) := by decide +kernel
theorem dX2_copy_91 : decode cX2_copy 91 = .ok (.iload 4, 2) := by decide +kernel
theorem dX2_copy_93 : decode cX2_copy 93 = .ok (.iload 5, 2) := by decide +kernel
theorem dX2_copy_95 : decode cX2_copy 95 = .ok (.invokevirtual 56, 3) := by decide +kernel
theorem dX2_copy_98 : decode cX2_copy 98 = .ok (.ifCond .eq 9, 3) := by decide +kernel
theorem dX2_copy_101 : decode cX2_copy 101 = .ok (.aload_n 0, 1) := by decide +kernel
theorem dX2_copy_102 : decode cX2_copy 102 = .ok (.iconst 3, 1) := by decide +kernel
theorem dX2_copy_103 : decode cX2_copy 103 = .ok (.invokevirtual 60, 3) := by decide +kernel
theorem dX2_copy_106 : decode cX2_copy 106 = .ok (.ireturn, 1) := by decide +kernel
theorem dX2_copy_107 : decode cX2_copy 107 = .ok (.aload 6, 2) := by decide +kernel
theorem dX2_copy_109 : decode cX2_copy 109 = .ok (.getfield 63, 3) := by decide +kernel
theorem dX2_copy_112 : decode cX2_copy 112 = .ok (.iload_n 2, 1) := by decide +kernel
theorem dX2_copy_113 : decode cX2_copy 113 = .ok (.aload 7, 2) := by decide +kernel
theorem dX2_copy_115 : decode cX2_copy 115 = .ok (.getfield 63, 3) := by decide +kernel
theorem dX2_copy_118 : decode cX2_copy 118 = .ok (.iload 4, 2) := by decide +kernel
theorem dX2_copy_120 : decode cX2_copy 120 = .ok (.iload 5, 2) := by decide +kernel
theorem dX2_copy_122 : decode cX2_copy 122 = .ok (.invokestatic 181, 3) := by decide +kernel
theorem dX2_copy_125 : decode cX2_copy 125 = .ok (.iload 5, 2) := by decide +kernel
theorem dX2_copy_127 : decode cX2_copy 127 = .ok (.ireturn, 1) := by decide +kernel
theorem dX2_tell_0 : decode cX2_tell 0 = .ok (.aload_n 0, 1) := by decide +kernel
theorem dX2_tell_1 : decode cX2_tell 1 = .ok (.iload_n 1, 1) := by decide +kernel
theorem dX2_tell_2 : decode cX2_tell 2 = .ok (.invokevirtual 77, 3) := by decide +kernel
theorem dX2_tell_5 : decode cX2_tell 5 = .ok (.ifCond .ne 5, 3) := by decide +kernel
theorem dX2_tell_8 : decode cX2_tell 8 = .ok (.iconst (-1), 1) := by decide +kernel
theorem dX2_tell_9 : decode cX2_tell 9 = .ok (.ireturn, 1) := by decide +kernel
theorem dX2_tell_10 : decode cX2_tell 10 = .ok (.aload_n 0, 1) := by decide +kernel
theorem dX2_tell_11 : decode cX2_tell 11 = .ok (.getfield 14, 3) := by decide +kernel
theorem dX2_tell_14 : decode cX2_tell 14 = .ok (.getfield 80, 3) := by decide +kernel
theorem dX2_tell_17 : decode cX2_tell 17 = .ok (.iload_n 1, 1) := by decide +kernel
theorem dX2_tell_18 : decode cX2_tell 18 = .ok (.iaload, 1) := by decide +kernel
theorem dX2_tell_19 : decode cX2_tell 19 = .ok (.lookupswitch 37 #[(1, 25), (2, 31)], 25) := by decide +kernel
theorem dX2_tell_44 : decode cX2_tell 44 = .ok (.aload_n 0, 1) := by decide +kernel
theorem dX2_tell_45 : decode cX2_tell 45 = .ok (.iload_n 1, 1) := by decide +kernel
theorem dX2_tell_46 : decode cX2_tell 46 = .ok (.invokevirtual 187, 3) := by decide +kernel
theorem dX2_tell_49 : decode cX2_tell 49 = .ok (.ireturn, 1) := by decide +kernel
theorem dX2_tell_50 : decode cX2_tell 50 = .ok (.aload_n 0, 1) := by decide +kernel
theorem dX2_tell_51 : decode cX2_tell 51 = .ok (.iload_n 1, 1) := by decide +kernel
theorem dX2_tell_52 : decode cX2_tell 52 = .ok (.invokevirtual 190, 3) := by decide +kernel
theorem dX2_tell_55 : decode cX2_tell 55 = .ok (.ireturn, 1) := by decide +kernel
theorem dX2_tell_56 : decode cX2_tell 56 = .ok (.aload_n 0, 1) := by decide +kernel
theorem dX2_tell_57 : decode cX2_tell 57 = .ok (.iload_n 1, 1) := by decide +kernel
theorem dX2_tell_58 : decode cX2_tell 58 = .ok (.invokevirtual 193, 3) := by decide +kernel
theorem dX2_tell_61 : decode cX2_tell 61 = .ok (.ireturn, 1) := by decide +kernel
theorem dX2_knock_0 : decode cX2_knock 0 = .ok (.aload_n 0, 1) := by decide +kernel
theorem dX2_knock_1 : decode cX2_knock 1 = .ok (.iload_n 1, 1) := by decide +kernel
theorem dX2_knock_2 : decode cX2_knock 2 = .ok (.invokevirtual 77, 3) := by decide +kernel
theorem dX2_knock_5 : decode cX2_knock 5 = .ok (.ifCond .ne 5, 3) := by decide +kernel
theorem dX2_knock_8 : decode cX2_knock 8 = .ok (.iconst (-1), 1) := by decide +kernel
theorem dX2_knock_9 : decode cX2_knock 9 = .ok (.ireturn, 1) := by decide +kernel
theorem dX2_knock_10 : decode cX2_knock 10 = .ok (.aload_n 0, 1) := by decide +kernel
theorem dX2_knock_11 : decode cX2_knock 11 = .ok (.getfield 14, 3) := by decide +kernel
theorem dX2_knock_14 : decode cX2_knock 14 = .ok (.getfield 80, 3) := by decide +kernel
theorem dX2_knock_17 : decode cX2_knock 17 = .ok (.iload_n 1, 1) := by decide +kernel
theorem dX2_knock_18 : decode cX2_knock 18 = .ok (.iaload, 1) := by decide +kernel
theorem dX2_knock_19 : decode cX2_knock 19 = .ok (.iconst 2, 1) := by decide +kernel
theorem dX2_knock_20 : decode cX2_knock 20 = .ok (.if_icmp .ne 7, 3) := by decide +kernel
theorem dX2_knock_23 : decode cX2_knock 23 = .ok (.iconst 1, 1) := by decide +kernel
theorem dX2_knock_24 : decode cX2_knock 24 = .ok (.goto 4, 3) := by decide +kernel
theorem dX2_knock_27 : decode cX2_knock 27 = .ok (.iconst 0, 1) := by decide +kernel
theorem dX2_knock_28 : decode cX2_knock 28 = .ok (.istore_n 2, 1) := by decide +kernel
theorem dX2_knock_29 : decode cX2_knock 29 = .ok (.aload_n 0, 1) := by decide +kernel
theorem dX2_knock_30 : decode cX2_knock 30 = .ok (.iload_n 2, 1) := by decide +kernel
theorem dX2_knock_31 : decode cX2_knock 31 = .ok (.ifCond .eq 7, 3) := by decide +kernel
theorem dX2_knock_34 : decode cX2_knock 34 = .ok (.iconst 5, 1) := by decide +kernel
theorem dX2_knock_35 : decode cX2_knock 35 = .ok (.goto 4, 3) := by decide +kernel
theorem dX2_knock_38 : decode cX2_knock 38 = .ok (.iconst 4, 1) := by decide +kernel
theorem dX2_knock_39 : decode cX2_knock 39 = .ok (.invokevirtual 196, 3) := by decide +kernel
theorem dX2_knock_42 : decode cX2_knock 42 = .ok (.iload_n 2, 1) := by decide +kernel
theorem dX2_knock_43 : decode cX2_knock 43 = .ok (.ifCond .eq 8, 3) := by decide +kernel
theorem dX2_knock_46 : decode cX2_knock 46 = .ok (.bipush 30, 2) := by decide +kernel
theorem dX2_knock_48 : decode cX2_knock 48 = .ok (.goto 4, 3) := by decide +kernel
theorem dX2_knock_51 : decode cX2_knock 51 = .ok (.iload_n 1, 1) := by decide +kernel
theorem dX2_knock_52 : decode cX2_knock 52 = .ok (.ireturn, 1) := by decide +kernel
theorem dX2_as_0 : decode cX2_as 0 = .ok (.aload_n 0, 1) := by decide +kernel
theorem dX2_as_1 : decode cX2_as 1 = .ok (.iconst 0, 1) := by decide +kernel
theorem dX2_as_2 : decode cX2_as 2 = .ok (.putfield 41, 3) := by decide +kernel
theorem dX2_as_5 : decode cX2_as 5 = .ok (.aload_n 0, 1) := by decide +kernel
theorem dX2_as_6 : decode cX2_as 6 = .ok (.iload_n 1, 1) := by decide +kernel
theorem dX2_as_7 : decode cX2_as 7 = .ok (.invokevirtual 77, 3) := by decide +kernel
theorem dX2_as_10 : decode cX2_as 10 = .ok (.ifCond .ne 5, 3) := by decide +kernel
theorem dX2_as_13 : decode cX2_as 13 = .ok (.iconst (-1), 1) := by decide +kernel
theorem dX2_as_14 : decode cX2_as 14 = .ok (.ireturn, 1) := by decide +kernel
theorem dX2_as_15 : decode cX2_as 15 = .ok (.iload_n 2, 1) := by decide +kernel
theorem dX2_as_16 : decode cX2_as 16 = .ok (.ifCond .lt 8, 3) := by decide +kernel
theorem dX2_as_19 : decode cX2_as 19 = .ok (.iload_n 2, 1) := by decide +kernel
theorem dX2_as_20 : decode cX2_as 20 = .ok (.iconst 3, 1) := by decide +kernel
theorem dX2_as_21 : decode cX2_as 21 = .ok (.if_icmp .lt 6, 3) := by decide +kernel
theorem dX2_as_24 : decode cX2_as 24 = .ok (.bipush (-2), 2) := by decide +kernel
theorem dX2_as_26 : decode cX2_as 26 = .ok (.ireturn, 1) := by decide +kernel
theorem dX2_as_27 : decode cX2_as 27 = .ok (.aload_n 0, 1) := by decide +kernel
theorem dX2_as_28 : decode cX2_as 28 = .ok (.getfield 14, 3) := by decide +kernel
theorem dX2_as_31 : decode cX2_as 31 = .ok (.getfield 80, 3) := by decide +kernel
theorem dX2_as_34 : decode cX2_as 34 = .ok (.iload_n 1, 1) := by decide +kernel
theorem dX2_as_35 : decode cX2_as 35 = .ok (.iaload, 1) := by decide +kernel
theorem dX2_as_36 : decode cX2_as 36 = .ok (.iload_n 2, 1) := by decide +kernel
theorem dX2_as_37 : decode cX2_as 37 = .ok (.if_icmp .lt 7, 3) := by decide +kernel
theorem dX2_as_40 : decode cX2_as 40 = .ok (.iconst 1, 1) := by decide +kernel
theorem dX2_as_41 : decode cX2_as 41 = .ok (.goto 8, 3) := by decide +kernel
theorem dX2_as_44 : decode cX2_as 44 = .ok (.aload_n 0, 1) := by decide +kernel
theorem dX2_as_45 : decode cX2_as 45 = .ok (.iconst 2, 1) := by decide +kernel
theorem dX2_as_46 : decode cX2_as 46 = .ok (.invokevirtual 60, 3) := by decide +kernel
theorem dX2_as_49 : decode cX2_as 49 = .ok (.ireturn, 1) := by decide +kernel
theorem dX2_trace_0 : decode cX2_trace 0 = .ok (.aload_n 0, 1) := by decide +kernel
theorem dX2_trace_1 : decode cX2_trace 1 = .ok (.getfield 38, 3) := by decide +kernel
theorem dX2_trace_4 : decode cX2_trace 4 = .ok (.ireturn, 1) := by decide +kernel
theorem dX2_fault_0 : decode cX2_fault 0 = .ok (.aload_n 0, 1) := by decide +kernel
theorem dX2_fault_1 : decode cX2_fault 1 = .ok (.getfield 41, 3) := by decide +kernel
theorem dX2_fault_4 : decode cX2_fault 4 = .ok (.ireturn, 1) := by decide +kernel
theorem dX2_many_0 : decode cX2_many 0 = .ok (.iload_n 1, 1) := by decide +kernel
theorem dX2_many_1 : decode cX2_many 1 = .ok (.tableswitch 72 0 4 #[35, 43, 51, 59, 67], 35) := by decide +kernel
theorem dX2_many_36 : decode cX2_many 36 = .ok (.aload_n 0, 1) := by decide +kernel
theorem dX2_many_37 : decode cX2_many 37 = .ok (.getfield 14, 3) := by decide +kernel
theorem dX2_many_40 : decode cX2_many 40 = .ok (.getfield 74, 3) := by decide +kernel
theorem dX2_many_43 : decode cX2_many 43 = .ok (.ireturn, 1) := by decide +kernel
theorem dX2_many_44 : decode cX2_many 44 = .ok (.aload_n 0, 1) := by decide +kernel
theorem dX2_many_45 : decode cX2_many 45 = .ok (.getfield 14, 3) := by decide +kernel
theorem dX2_many_48 : decode cX2_many 48 = .ok (.getfield 98, 3) := by decide +kernel
theorem dX2_many_51 : decode cX2_many 51 = .ok (.ireturn, 1) := by decide +kernel
theorem dX2_many_52 : decode cX2_many 52 = .ok (.aload_n 0, 1) := by decide +kernel
theorem dX2_many_53 : decode cX2_many 53 = .ok (.getfield 14, 3) := by decide +kernel
theorem dX2_many_56 : decode cX2_many 56 = .ok (.getfield 199, 3) := by decide +kernel
theorem dX2_many_59 : decode cX2_many 59 = .ok (.ireturn, 1) := by decide +kernel
theorem dX2_many_60 : decode cX2_many 60 = .ok (.aload_n 0, 1) := by decide +kernel
theorem dX2_many_61 : decode cX2_many 61 = .ok (.getfield 14, 3) := by decide +kernel
theorem dX2_many_64 : decode cX2_many 64 = .ok (.invokevirtual 119, 3) := by decide +kernel
theorem dX2_many_67 : decode cX2_many 67 = .ok (.ireturn, 1) := by decide +kernel
theorem dX2_many_68 : decode cX2_many 68 = .ok (.aload_n 0, 1) := by decide +kernel
theorem dX2_many_69 : decode cX2_many 69 = .ok (.getfield 34, 3) := by decide +kernel
theorem dX2_many_72 : decode cX2_many 72 = .ok (.ireturn, 1) := by decide +kernel
theorem dX2_many_73 : decode cX2_many 73 = .ok (.bipush (-2), 2) := by decide +kernel
theorem dX2_many_75 : decode cX2_many 75 = .ok (.ireturn, 1) := by decide +kernel
theorem dX2_hasStreet_0 : decode cX2_hasStreet 0 = .ok (.aload_n 0, 1) := by decide +kernel
theorem dX2_hasStreet_1 : decode cX2_hasStreet 1 = .ok (.getfield 14, 3) := by decide +kernel
theorem dX2_hasStreet_4 : decode cX2_hasStreet 4 = .ok (.getfield 74, 3) := by decide +kernel
theorem dX2_hasStreet_7 : decode cX2_hasStreet 7 = .ok (.ifCond .le 7, 3) := by decide +kernel
theorem dX2_hasStreet_10 : decode cX2_hasStreet 10 = .ok (.iconst 1, 1) := by decide +kernel
theorem dX2_hasStreet_11 : decode cX2_hasStreet 11 = .ok (.goto 4, 3) := by decide +kernel
theorem dX2_hasStreet_14 : decode cX2_hasStreet 14 = .ok (.iconst 0, 1) := by decide +kernel
theorem dX2_hasStreet_15 : decode cX2_hasStreet 15 = .ok (.ireturn, 1) := by decide +kernel
theorem dX2_isHouse_0 : decode cX2_isHouse 0 = .ok (.iload_n 1, 1) := by decide +kernel
theorem dX2_isHouse_1 : decode cX2_isHouse 1 = .ok (.ifCond .lt 18, 3) := by decide +kernel
theorem dX2_isHouse_4 : decode cX2_isHouse 4 = .ok (.iload_n 1, 1) := by decide +kernel
theorem dX2_isHouse_5 : decode cX2_isHouse 5 = .ok (.aload_n 0, 1) := by decide +kernel
theorem dX2_isHouse_6 : decode cX2_isHouse 6 = .ok (.getfield 14, 3) := by decide +kernel
theorem dX2_isHouse_9 : decode cX2_isHouse 9 = .ok (.getfield 74, 3) := by decide +kernel
theorem dX2_isHouse_12 : decode cX2_isHouse 12 = .ok (.if_icmp .ge 7, 3) := by decide +kernel
theorem dX2_isHouse_15 : decode cX2_isHouse 15 = .ok (.iconst 1, 1) := by decide +kernel
theorem dX2_isHouse_16 : decode cX2_isHouse 16 = .ok (.goto 4, 3) := by decide +kernel
theorem dX2_isHouse_19 : decode cX2_isHouse 19 = .ok (.iconst 0, 1) := by decide +kernel
theorem dX2_isHouse_20 : decode cX2_isHouse 20 = .ok (.ireturn, 1) := by decide +kernel
theorem dX2_isSheet_0 : decode cX2_isSheet 0 = .ok (.iload_n 0, 1) := by decide +kernel
theorem dX2_isSheet_1 : decode cX2_isSheet 1 = .ok (.ifCond .lt 12, 3) := by decide +kernel
theorem dX2_isSheet_4 : decode cX2_isSheet 4 = .ok (.iload_n 0, 1) := by decide +kernel
theorem dX2_isSheet_5 : decode cX2_isSheet 5 = .ok (.iconst 4, 1) := by decide +kernel
theorem dX2_isSheet_6 : decode cX2_isSheet 6 = .ok (.if_icmp .ge 7, 3) := by decide +kernel
theorem dX2_isSheet_9 : decode cX2_isSheet 9 = .ok (.iconst 1, 1) := by decide +kernel
theorem dX2_isSheet_10 : decode cX2_isSheet 10 = .ok (.goto 4, 3) := by decide +kernel
theorem dX2_isSheet_13 : decode cX2_isSheet 13 = .ok (.iconst 0, 1) := by decide +kernel
theorem dX2_isSheet_14 : decode cX2_isSheet 14 = .ok (.ireturn, 1) := by decide +kernel
theorem dX2_isLane_0 : decode cX2_isLane 0 = .ok (.iload_n 0, 1) := by decide +kernel
theorem dX2_isLane_1 : decode cX2_isLane 1 = .ok (.ifCond .lt 12, 3) := by decide +kernel
theorem dX2_isLane_4 : decode cX2_isLane 4 = .ok (.iload_n 0, 1) := by decide +kernel
theorem dX2_isLane_5 : decode cX2_isLane 5 = .ok (.iconst 3, 1) := by decide +kernel
theorem dX2_isLane_6 : decode cX2_isLane 6 = .ok (.if_icmp .ge 7, 3) := by decide +kernel
theorem dX2_isLane_9 : decode cX2_isLane 9 = .ok (.iconst 1, 1) := by decide +kernel
theorem dX2_isLane_10 : decode cX2_isLane 10 = .ok (.goto 4, 3) := by decide +kernel
theorem dX2_isLane_13 : decode cX2_isLane 13 = .ok (.iconst 0, 1) := by decide +kernel
theorem dX2_isLane_14 : decode cX2_isLane 14 = .ok (.ireturn, 1) := by decide +kernel
theorem dX2_isTemper_0 : decode cX2_isTemper 0 = .ok (.iload_n 0, 1) := by decide +kernel
theorem dX2_isTemper_1 : decode cX2_isTemper 1 = .ok (.ifCond .lt 13, 3) := by decide +kernel
theorem dX2_isTemper_4 : decode cX2_isTemper 4 = .ok (.iload_n 0, 1) := by decide +kernel
theorem dX2_isTemper_5 : decode cX2_isTemper 5 = .ok (.bipush 9, 2) := by decide +kernel
theorem dX2_isTemper_7 : decode cX2_isTemper 7 = .ok (.if_icmp .gt 7, 3) := by decide +kernel
theorem dX2_isTemper_10 : decode cX2_isTemper 10 = .ok (.iconst 1, 1) := by decide +kernel
theorem dX2_isTemper_11 : decode cX2_isTemper 11 = .ok (.goto 4, 3) := by decide +kernel
theorem dX2_isTemper_14 : decode cX2_isTemper 14 = .ok (.iconst 0, 1) := by decide +kernel
theorem dX2_isTemper_15 : decode cX2_isTemper 15 = .ok (.ireturn, 1) := by decide +kernel
theorem dX2_isCrate_0 : decode cX2_isCrate 0 = .ok (.iload_n 0, 1) := by decide +kernel
theorem dX2_isCrate_1 : decode cX2_isCrate 1 = .ok (.ifCond .lt 13, 3) := by decide +kernel
theorem dX2_isCrate_4 : decode cX2_isCrate 4 = .ok (.iload_n 0, 1) := by decide +kernel
theorem dX2_isCrate_5 : decode cX2_isCrate 5 = .ok (.bipush 99, 2) := by decide +kernel
theorem dX2_isCrate_7 : decode cX2_isCrate 7 = .ok (.if_icmp .gt 7, 3) := by decide +kernel
theorem dX2_isCrate_10 : decode cX2_isCrate 10 = .ok (.iconst 1, 1) := by decide +kernel
theorem dX2_isCrate_11 : decode cX2_isCrate 11 = .ok (.goto 4, 3) := by decide +kernel
theorem dX2_isCrate_14 : decode cX2_isCrate 14 = .ok (.iconst 0, 1) := by decide +kernel
theorem dX2_isCrate_15 : decode cX2_isCrate 15 = .ok (.ireturn, 1) := by decide +kernel
theorem dX2_isAskedOfSeason_0 : decode cX2_isAskedOfSeason 0 = .ok (.iload_n 0, 1) := by decide +kernel
theorem dX2_isAskedOfSeason_1 : decode cX2_isAskedOfSeason 1 = .ok (.ifCond .lt 8, 3) := by decide +kernel
theorem dX2_isAskedOfSeason_4 : decode cX2_isAskedOfSeason 4 = .ok (.iload_n 0, 1) := by decide +kernel
theorem dX2_isAskedOfSeason_5 : decode cX2_isAskedOfSeason 5 = .ok (.iconst 4, 1) := by decide +kernel
theorem dX2_isAskedOfSeason_6 : decode cX2_isAskedOfSeason 6 = .ok (.if_icmp .le 15, 3) := by decide +kernel
theorem dX2_isAskedOfSeason_9 : decode cX2_isAskedOfSeason 9 = .ok (.iload_n 0, 1) := by decide +kernel
theorem dX2_isAskedOfSeason_10 : decode cX2_isAskedOfSeason 10 = .ok (.bipush 10, 2) := by decide +kernel
theorem dX2_isAskedOfSeason_12 : decode cX2_isAskedOfSeason 12 = .ok (.if_icmp .lt 13, 3) := by decide +kernel
theorem dX2_isAskedOfSeason_15 : decode cX2_isAskedOfSeason 15 = .ok (.iload_n 0, 1) := by decide +kernel
theorem dX2_isAskedOfSeason_16 : decode cX2_isAskedOfSeason 16 = .ok (.bipush 18, 2) := by decide +kernel
theorem dX2_isAskedOfSeason_18 : decode cX2_isAskedOfSeason 18 = .ok (.if_icmp .ge 7, 3) := by decide +kernel
theorem dX2_isAskedOfSeason_21 : decode cX2_isAskedOfSeason 21 = .ok (.iconst 1, 1) := by decide +kernel
theorem dX2_isAskedOfSeason_22 : decode cX2_isAskedOfSeason 22 = .ok (.goto 4, 3) := by decide +kernel
theorem dX2_isAskedOfSeason_25 : decode cX2_isAskedOfSeason 25 = .ok (.iconst 0, 1) := by decide +kernel
theorem dX2_isAskedOfSeason_26 : decode cX2_isAskedOfSeason 26 = .ok (.ireturn, 1) := by decide +kernel
theorem dX2_fails_0 : decode cX2_fails 0 = .ok (.aload_n 0, 1) := by decide +kernel
theorem dX2_fails_1 : decode cX2_fails 1 = .ok (.iload_n 1, 1) := by decide +kernel
theorem dX2_fails_2 : decode cX2_fails 2 = .ok (.putfield 41, 3) := by decide +kernel
theorem dX2_fails_5 : decode cX2_fails 5 = .ok (.bipush (-10), 2) := by decide +kernel
theorem dX2_fails_7 : decode cX2_fails 7 = .ok (.iload_n 1, 1) := by decide +kernel
theorem dX2_fails_8 : decode cX2_fails 8 = .ok (.isub, 1) := by decide +kernel
theorem dX2_fails_9 : decode cX2_fails 9 = .ok (.ireturn, 1) := by decide +kernel
theorem dX2_firstTextFault_0 : decode cX2_firstTextFault 0 = .ok (.iconst 0, 1) := by decide +kernel
theorem dX2_firstTextFault_1 : decode cX2_firstTextFault 1 = .ok (.istore_n 3, 1) := by decide +kernel
theorem dX2_firstTextFault_2 : decode cX2_firstTextFault 2 = .ok (.iload_n 3, 1) := by decide +kernel
theorem dX2_firstTextFault_3 : decode cX2_firstTextFault 3 = .ok (.iload_n 2, 1) := by decide +kernel
theorem dX2_firstTextFault_4 : decode cX2_firstTextFault 4 = .ok (.if_icmp .ge 23, 3) := by decide +kernel
theorem dX2_firstTextFault_7 : decode cX2_firstTextFault 7 = .ok (.iload_n 3, 1) := by decide +kernel
theorem dX2_firstTextFault_8 : decode cX2_firstTextFault 8 = .ok (.aload_n 0, 1) := by decide +kernel
theorem dX2_firstTextFault_9 : decode cX2_firstTextFault 9 = .ok (.iload_n 1, 1) := by decide +kernel
theorem dX2_firstTextFault_10 : decode cX2_firstTextFault 10 = .ok (.iload_n 3, 1) := by decide +kernel
theorem dX2_firstTextFault_11 : decode cX2_firstTextFault 11 = .ok (.iadd, 1) := by decide +kernel
theorem dX2_firstTextFault_12 : decode cX2_firstTextFault 12 = .ok (.iaload, 1) := by decide +kernel
theorem dX2_firstTextFault_13 : decode cX2_firstTextFault 13 = .ok (.invokestatic 202, 3) := by decide +kernel
theorem dX2_firstTextFault_16 : decode cX2_firstTextFault 16 = .ok (.ifCond .ne 5, 3) := by decide +kernel
theorem dX2_firstTextFault_19 : decode cX2_firstTextFault 19 = .ok (.iload_n 3, 1) := by decide +kernel
theorem dX2_firstTextFault_20 : decode cX2_firstTextFault 20 = .ok (.ireturn, 1) := by decide +kernel
theorem dX2_firstTextFault_21 : decode cX2_firstTextFault 21 = .ok (.iinc 3 1, 3) := by decide +kernel
theorem dX2_firstTextFault_24 : decode cX2_firstTextFault 24 = .ok (.goto (-22), 3) := by decide +kernel
theorem dX2_firstTextFault_27 : decode cX2_firstTextFault 27 = .ok (.iload_n 2, 1) := by decide +kernel
theorem dX2_firstTextFault_28 : decode cX2_firstTextFault 28 = .ok (.iconst 3, 1) := by decide +kernel
theorem dX2_firstTextFault_29 : decode cX2_firstTextFault 29 = .ok (.if_icmp .le 15, 3) := by decide +kernel
theorem dX2_firstTextFault_32 : decode cX2_firstTextFault 32 = .ok (.iload_n 2, 1) := by decide +kernel
theorem dX2_firstTextFault_33 : decode cX2_firstTextFault 33 = .ok (.iconst 3, 1) := by decide +kernel
theorem dX2_firstTextFault_34 : decode cX2_firstTextFault 34 = .ok (.isub, 1) := by decide +kernel
theorem dX2_firstTextFault_35 : decode cX2_firstTextFault 35 = .ok (.iconst 4, 1) := by decide +kernel
theorem dX2_firstTextFault_36 : decode cX2_firstTextFault 36 = .ok (.irem, 1) := by decide +kernel
theorem dX2_firstTextFault_37 : decode cX2_firstTextFault 37 = .ok (.ifCond .ne 7, 3) := by decide +kernel
theorem dX2_firstTextFault_40 : decode cX2_firstTextFault 40 = .ok (.iconst 1, 1) := by decide +kernel
theorem dX2_firstTextFault_41 : decode cX2_firstTextFault 41 = .ok (.goto 4, 3) := by decide +kernel
theorem dX2_firstTextFault_44 : decode cX2_firstTextFault 44 = .ok (.iconst 0, 1) := by decide +kernel
theorem dX2_firstTextFault_45 : decode cX2_firstTextFault 45 = .ok (.istore_n 3, 1) := by decide +kernel
theorem dX2_firstTextFault_46 : decode cX2_firstTextFault 46 = .ok (.iload_n 3, 1) := by decide +kernel
theorem dX2_firstTextFault_47 : decode cX2_firstTextFault 47 = .ok (.ifCond .eq 8, 3) := by decide +kernel
theorem dX2_firstTextFault_50 : decode cX2_firstTextFault 50 = .ok (.bipush (-9), 2) := by decide +kernel
theorem dX2_firstTextFault_52 : decode cX2_firstTextFault 52 = .ok (.goto 4, 3) := by decide +kernel
theorem dX2_firstTextFault_55 : decode cX2_firstTextFault 55 = .ok (.iload_n 2, 1) := by decide +kernel
theorem dX2_firstTextFault_56 : decode cX2_firstTextFault 56 = .ok (.ireturn, 1) := by decide +kernel
theorem dX2_goesOn_0 : decode cX2_goesOn 0 = .ok (.iload_n 0, 1) := by decide +kernel
theorem dX2_goesOn_1 : decode cX2_goesOn 1 = .ok (.bipush 35, 2) := by decide +kernel
theorem dX2_goesOn_3 : decode cX2_goesOn 3 = .ok (.if_icmp .lt 5, 3) := by decide +kernel
theorem dX2_goesOn_6 : decode cX2_goesOn 6 = .ok (.iconst 0, 1) := by decide +kernel
theorem dX2_goesOn_7 : decode cX2_goesOn 7 = .ok (.ireturn, 1) := by decide +kernel
theorem dX2_goesOn_8 : decode cX2_goesOn 8 = .ok (.iload_n 0, 1) := by decide +kernel
theorem dX2_goesOn_9 : decode cX2_goesOn 9 = .ok (.iconst 3, 1) := by decide +kernel
theorem dX2_goesOn_10 : decode cX2_goesOn 10 = .ok (.if_icmp .ge 26, 3) := by decide +kernel
theorem dX2_goesOn_13 : decode cX2_goesOn 13 = .ok (.iload_n 0, 1) := by decide +kernel
theorem dX2_goesOn_14 : decode cX2_goesOn 14 = .ok (.ifCond .ne 17, 3) := by decide +kernel
theorem dX2_goesOn_17 : decode cX2_goesOn 17 = .ok (.iload_n 1, 1) := by decide +kernel
theorem dX2_goesOn_18 : decode cX2_goesOn 18 = .ok (.bipush 108, 2) := by decide +kernel
theorem dX2_goesOn_20 : decode cX2_goesOn 20 = .ok (.if_icmp .ne 7, 3) := by decide +kernel
theorem dX2_goesOn_23 : decode cX2_goesOn 23 = .ok (.iconst 1, 1) := by decide +kernel
theorem dX2_goesOn_24 : decode cX2_goesOn 24 = .ok (.goto 11, 3) := by decide +kernel
theorem dX2_goesOn_27 : decode cX2_goesOn 27 = .ok (.iconst 0, 1) := by decide +kernel
theorem dX2_goesOn_28 : decode cX2_goesOn 28 = .ok (.goto 7, 3) := by decide +kernel
theorem dX2_goesOn_31 : decode cX2_goesOn 31 = .ok (.iload_n 1, 1) := by decide +kernel
theorem dX2_goesOn_32 : decode cX2_goesOn 32 = .ok (.invokestatic 205, 3) := by decide +kernel
theorem dX2_goesOn_35 : decode cX2_goesOn 35 = .ok (.ireturn, 1) := by decide +kernel
theorem dX2_goesOn_36 : decode cX2_goesOn 36 = .ok (.iload_n 0, 1) := by decide +kernel
theorem dX2_goesOn_37 : decode cX2_goesOn 37 = .ok (.iconst 3, 1) := by decide +kernel
theorem dX2_goesOn_38 : decode cX2_goesOn 38 = .ok (.isub, 1) := by decide +kernel
theorem dX2_goesOn_39 : decode cX2_goesOn 39 = .ok (.iconst 4, 1) := by decide +kernel
theorem dX2_goesOn_40 : decode cX2_goesOn 40 = .ok (.irem, 1) := by decide +kernel
theorem dX2_goesOn_41 : decode cX2_goesOn 41 = .ok (.lookupswitch 54 #[(0, 27), (1, 39)], 27) := by decide +kernel
theorem dX2_goesOn_68 : decode cX2_goesOn 68 = .ok (.iload_n 1, 1) := by decide +kernel
theorem dX2_goesOn_69 : decode cX2_goesOn 69 = .ok (.bipush 59, 2) := by decide +kernel
theorem dX2_goesOn_71 : decode cX2_goesOn 71 = .ok (.if_icmp .ne 7, 3) := by decide +kernel
theorem dX2_goesOn_74 : decode cX2_goesOn 74 = .ok (.iconst 1, 1) := by decide +kernel
theorem dX2_goesOn_75 : decode cX2_goesOn 75 = .ok (.goto 4, 3) := by decide +kernel
theorem dX2_goesOn_78 : decode cX2_goesOn 78 = .ok (.iconst 0, 1) := by decide +kernel
theorem dX2_goesOn_79 : decode cX2_goesOn 79 = .ok (.ireturn, 1) := by decide +kernel
theorem dX2_goesOn_80 : decode cX2_goesOn 80 = .ok (.iload_n 1, 1) := by decide +kernel
theorem dX2_goesOn_81 : decode cX2_goesOn 81 = .ok (.invokestatic 208, 3) := by decide +kernel
theorem dX2_goesOn_84 : decode cX2_goesOn 84 = .ok (.bipush (-9), 2) := by decide +kernel
theorem dX2_goesOn_86 : decode cX2_goesOn 86 = .ok (.if_icmp .eq 7, 3) := by decide +kernel
theorem dX2_goesOn_89 : decode cX2_goesOn 89 = .ok (.iconst 1, 1) := by decide +kernel
theorem dX2_goesOn_90 : decode cX2_goesOn 90 = .ok (.goto 4, 3) := by decide +kernel
theorem dX2_goesOn_93 : decode cX2_goesOn 93 = .ok (.iconst 0, 1) := by decide +kernel
theorem dX2_goesOn_94 : decode cX2_goesOn 94 = .ok (.ireturn, 1) := by decide +kernel
theorem dX2_goesOn_95 : decode cX2_goesOn 95 = .ok (.iload_n 1, 1) := by decide +kernel
theorem dX2_goesOn_96 : decode cX2_goesOn 96 = .ok (.invokestatic 205, 3) := by decide +kernel
theorem dX2_goesOn_99 : decode cX2_goesOn 99 = .ok (.ireturn, 1) := by decide +kernel
theorem dX2_isDigit_0 : decode cX2_isDigit 0 = .ok (.iload_n 0, 1) := by decide +kernel
theorem dX2_isDigit_1 : decode cX2_isDigit 1 = .ok (.bipush 48, 2) := by decide +kernel
theorem dX2_isDigit_3 : decode cX2_isDigit 3 = .ok (.if_icmp .lt 13, 3) := by decide +kernel
theorem dX2_isDigit_6 : decode cX2_isDigit 6 = .ok (.iload_n 0, 1) := by decide +kernel
theorem dX2_isDigit_7 : decode cX2_isDigit 7 = .ok (.bipush 57, 2) := by decide +kernel
theorem dX2_isDigit_9 : decode cX2_isDigit 9 = .ok (.if_icmp .gt 7, 3) := by decide +kernel
theorem dX2_isDigit_12 : decode cX2_isDigit 12 = .ok (.iconst 1, 1) := by decide +kernel
theorem dX2_isDigit_13 : decode cX2_isDigit 13 = .ok (.goto 4, 3) := by decide +kernel
theorem dX2_isDigit_16 : decode cX2_isDigit 16 = .ok (.iconst 0, 1) := by decide +kernel
theorem dX2_isDigit_17 : decode cX2_isDigit 17 = .ok (.ireturn, 1) := by decide +kernel
theorem dX2_kindByLetter_0 : decode cX2_kindByLetter 0 = .ok (.iload_n 0, 1) := by decide +kernel
theorem dX2_kindByLetter_1 : decode cX2_kindByLetter 1 = .ok (.lookupswitch 41 #[(98, 39), (112, 35), (116, 37)], 35) := by decide +kernel
theorem dX2_kindByLetter_36 : decode cX2_kindByLetter 36 = .ok (.iconst 0, 1) := by decide +kernel
theorem dX2_kindByLetter_37 : decode cX2_kindByLetter 37 = .ok (.ireturn, 1) := by decide +kernel
theorem dX2_kindByLetter_38 : decode cX2_kindByLetter 38 = .ok (.iconst 1, 1) := by decide +kernel
theorem dX2_kindByLetter_39 : decode cX2_kindByLetter 39 = .ok (.ireturn, 1) := by decide +kernel
theorem dX2_kindByLetter_40 : decode cX2_kindByLetter 40 = .ok (.iconst 2, 1) := by decide +kernel
theorem dX2_kindByLetter_41 : decode cX2_kindByLetter 41 = .ok (.ireturn, 1) := by decide +kernel
theorem dX2_kindByLetter_42 : decode cX2_kindByLetter 42 = .ok (.bipush (-9), 2) := by decide +kernel
theorem dX2_kindByLetter_44 : decode cX2_kindByLetter 44 = .ok (.ireturn, 1) := by decide +kernel
theorem dX2_refusalOfPairs_0 : decode cX2_refusalOfPairs 0 = .ok (.iconst 0, 1) := by decide +kernel
theorem dX2_refusalOfPairs_1 : decode cX2_refusalOfPairs 1 = .ok (.istore 4, 2) := by decide +kernel
theorem dX2_refusalOfPairs_3 : decode cX2_refusalOfPairs 3 = .ok (.iload 4, 2) := by decide +kernel
theorem dX2_refusalOfPairs_5 : decode cX2_refusalOfPairs 5 = .ok (.iload_n 3, 1) := by decide +kernel
theorem dX2_refusalOfPairs_6 : decode cX2_refusalOfPairs 6 = .ok (.if_icmp .ge 41, 3) := by decide +kernel
theorem dX2_refusalOfPairs_9 : decode cX2_refusalOfPairs 9 = .ok (.aload_n 0, 1) := by decide +kernel
theorem dX2_refusalOfPairs_10 : decode cX2_refusalOfPairs 10 = .ok (.aload_n 1, 1) := by decide +kernel
theorem dX2_refusalOfPairs_11 : decode cX2_refusalOfPairs 11 = .ok (.iload_n 2, 1) := by decide +kernel
theorem dX2_refusalOfPairs_12 : decode cX2_refusalOfPairs 12 = .ok (.iconst 2, 1) := by decide +kernel
theorem dX2_refusalOfPairs_13 : decode cX2_refusalOfPairs 13 = .ok (.iload 4, 2) := by decide +kernel
theorem dX2_refusalOfPairs_15 : decode cX2_refusalOfPairs 15 = .ok (.imul, 1) := by decide +kernel
theorem dX2_refusalOfPairs_16 : decode cX2_refusalOfPairs 16 = .ok (.iadd, 1) := by decide +kernel
theorem dX2_refusalOfPairs_17 : decode cX2_refusalOfPairs 17 = .ok (.iaload, 1) := by decide +kernel
theorem dX2_refusalOfPairs_18 : decode cX2_refusalOfPairs 18 = .ok (.aload_n 1, 1) := by decide +kernel
theorem dX2_refusalOfPairs_19 : decode cX2_refusalOfPairs 19 = .ok (.iload_n 2, 1) := by decide +kernel
theorem dX2_refusalOfPairs_20 : decode cX2_refusalOfPairs 20 = .ok (.iconst 2, 1) := by decide +kernel
theorem dX2_refusalOfPairs_21 : decode cX2_refusalOfPairs 21 = .ok (.iload 4, 2) := by decide +kernel
theorem dX2_refusalOfPairs_23 : decode cX2_refusalOfPairs 23 = .ok (.imul, 1) := by decide +kernel
theorem dX2_refusalOfPairs_24 : decode cX2_refusalOfPairs 24 = .ok (.iadd, 1) := by decide +kernel
theorem dX2_refusalOfPairs_25 : decode cX2_refusalOfPairs 25 = .ok (.iconst 1, 1) := by decide +kernel
theorem dX2_refusalOfPairs_26 : decode cX2_refusalOfPairs 26 = .ok (.iadd, 1) := by decide +kernel
theorem dX2_refusalOfPairs_27 : decode cX2_refusalOfPairs 27 = .ok (.iaload, 1) := by decide +kernel
theorem dX2_refusalOfPairs_28 : decode cX2_refusalOfPairs 28 = .ok (.invokevirtual 211, 3) := by decide +kernel
theorem dX2_refusalOfPairs_31 : decode cX2_refusalOfPairs 31 = .ok (.istore 5, 2) := by decide +kernel
theorem dX2_refusalOfPairs_33 : decode cX2_refusalOfPairs 33 = .ok (.iload 5, 2) := by decide +kernel
theorem dX2_refusalOfPairs_35 : decode cX2_refusalOfPairs 35 = .ok (.ifCond .eq 6, 3) := by decide +kernel
theorem dX2_refusalOfPairs_38 : decode cX2_refusalOfPairs 38 = .ok (.iload 5, 2) := by decide +kernel
theorem dX2_refusalOfPairs_40 : decode cX2_refusalOfPairs 40 = .ok (.ireturn, 1) := by decide +kernel
theorem dX2_refusalOfPairs_41 : decode cX2_refusalOfPairs 41 = .ok (.iinc 4 1, 3) := by decide +kernel
theorem dX2_refusalOfPairs_44 : decode cX2_refusalOfPairs 44 = .ok (.goto (-41), 3) := by decide +kernel
theorem dX2_refusalOfPairs_47 : decode cX2_refusalOfPairs 47 = .ok (.iconst 0, 1) := by decide +kernel
theorem dX2_refusalOfPairs_48 : decode cX2_refusalOfPairs 48 = .ok (.ireturn, 1) := by decide +kernel
theorem dX2_refusalOfPair_0 : decode cX2_refusalOfPair 0 = .ok (.iload_n 2, 1) := by decide +kernel
theorem dX2_refusalOfPair_1 : decode cX2_refusalOfPair 1 = .ok (.tableswitch 72 0 2 #[27, 44, 58], 27) := by decide +kernel
theorem dX2_refusalOfPair_28 : decode cX2_refusalOfPair 28 = .ok (.iload_n 1, 1) := by decide +kernel
theorem dX2_refusalOfPair_29 : decode cX2_refusalOfPair 29 = .ok (.ifCond .lt 13, 3) := by decide +kernel
theorem dX2_refusalOfPair_32 : decode cX2_refusalOfPair 32 = .ok (.iload_n 1, 1) := by decide +kernel
theorem dX2_refusalOfPair_33 : decode cX2_refusalOfPair 33 = .ok (.bipush 9, 2) := by decide +kernel
theorem dX2_refusalOfPair_35 : decode cX2_refusalOfPair 35 = .ok (.if_icmp .gt 7, 3) := by decide +kernel
theorem dX2_refusalOfPair_38 : decode cX2_refusalOfPair 38 = .ok (.iconst 0, 1) := by decide +kernel
theorem dX2_refusalOfPair_39 : decode cX2_refusalOfPair 39 = .ok (.goto 5, 3) := by decide +kernel
theorem dX2_refusalOfPair_42 : decode cX2_refusalOfPair 42 = .ok (.bipush (-2), 2) := by decide +kernel
theorem dX2_refusalOfPair_44 : decode cX2_refusalOfPair 44 = .ok (.ireturn, 1) := by decide +kernel
theorem dX2_refusalOfPair_45 : decode cX2_refusalOfPair 45 = .ok (.aload_n 0, 1) := by decide +kernel
theorem dX2_refusalOfPair_46 : decode cX2_refusalOfPair 46 = .ok (.iload_n 1, 1) := by decide +kernel
theorem dX2_refusalOfPair_47 : decode cX2_refusalOfPair 47 = .ok (.invokevirtual 77, 3) := by decide +kernel
theorem dX2_refusalOfPair_50 : decode cX2_refusalOfPair 50 = .ok (.ifCond .eq 7, 3) := by decide +kernel
theorem dX2_refusalOfPair_53 : decode cX2_refusalOfPair 53 = .ok (.iconst 0, 1) := by decide +kernel
theorem dX2_refusalOfPair_54 : decode cX2_refusalOfPair 54 = .ok (.goto 4, 3) := by decide +kernel
theorem dX2_refusalOfPair_57 : decode cX2_refusalOfPair 57 = .ok (.iconst (-1), 1) := by decide +kernel
theorem dX2_refusalOfPair_58 : decode cX2_refusalOfPair 58 = .ok (.ireturn, 1) := by decide +kernel
theorem dX2_refusalOfPair_59 : decode cX2_refusalOfPair 59 = .ok (.iload_n 1, 1) := by decide +kernel
theorem dX2_refusalOfPair_60 : decode cX2_refusalOfPair 60 = .ok (.invokestatic 112, 3) := by decide +kernel
theorem dX2_refusalOfPair_63 : decode cX2_refusalOfPair 63 = .ok (.ifCond .eq 7, 3) := by decide +kernel
theorem dX2_refusalOfPair_66 : decode cX2_refusalOfPair 66 = .ok (.iconst 0, 1) := by decide +kernel
theorem dX2_refusalOfPair_67 : decode cX2_refusalOfPair 67 = .ok (.goto 5, 3) := by decide +kernel
theorem dX2_refusalOfPair_70 : decode cX2_refusalOfPair 70 = .ok (.bipush (-2), 2) := by decide +kernel
theorem dX2_refusalOfPair_72 : decode cX2_refusalOfPair 72 = .ok (.ireturn, 1) := by decide +kernel
theorem dX2_refusalOfPair_73 : decode cX2_refusalOfPair 73 = .ok (.bipush (-2), 2) := by decide +kernel
theorem dX2_refusalOfPair_75 : decode cX2_refusalOfPair 75 = .ok (.ireturn, 1) := by decide +kernel
theorem dX2_actPairs_0 : decode cX2_actPairs 0 = .ok (.iconst 0, 1) := by decide +kernel
theorem dX2_actPairs_1 : decode cX2_actPairs 1 = .ok (.istore 4, 2) := by decide +kernel
theorem dX2_actPairs_3 : decode cX2_actPairs 3 = .ok (.iload 4, 2) := by decide +kernel
theorem dX2_actPairs_5 : decode cX2_actPairs 5 = .ok (.iload_n 3, 1) := by decide +kernel
theorem dX2_actPairs_6 : decode cX2_actPairs 6 = .ok (.if_icmp .ge 37, 3) := by decide +kernel
theorem dX2_actPairs_9 : decode cX2_actPairs 9 = .ok (.aload_n 0, 1) := by decide +kernel
theorem dX2_actPairs_10 : decode cX2_actPairs 10 = .ok (.aload_n 1, 1) := by decide +kernel
theorem dX2_actPairs_11 : decode cX2_actPairs 11 = .ok (.iload_n 2, 1) := by decide +kernel
theorem dX2_actPairs_12 : decode cX2_actPairs 12 = .ok (.iconst 2, 1) := by decide +kernel
theorem dX2_actPairs_13 : decode cX2_actPairs 13 = .ok (.iload 4, 2) := by decide +kernel
theorem dX2_actPairs_15 : decode cX2_actPairs 15 = .ok (.imul, 1) := by decide +kernel
theorem dX2_actPairs_16 : decode cX2_actPairs 16 = .ok (.iadd, 1) := by decide +kernel
theorem dX2_actPairs_17 : decode cX2_actPairs 17 = .ok (.iaload, 1) := by decide +kernel
theorem dX2_actPairs_18 : decode cX2_actPairs 18 = .ok (.aload_n 1, 1) := by decide +kernel
theorem dX2_actPairs_19 : decode cX2_actPairs 19 = .ok (.iload_n 2, 1) := by decide +kernel
theorem dX2_actPairs_20 : decode cX2_actPairs 20 = .ok (.iconst 2, 1) := by decide +kernel
theorem dX2_actPairs_21 : decode cX2_actPairs 21 = .ok (.iload 4, 2) := by decide +kernel
theorem dX2_actPairs_23 : decode cX2_actPairs 23 = .ok (.imul, 1) := by decide +kernel
theorem dX2_actPairs_24 : decode cX2_actPairs 24 = .ok (.iadd, 1) := by decide +kernel
theorem dX2_actPairs_25 : decode cX2_actPairs 25 = .ok (.iconst 1, 1) := by decide +kernel
theorem dX2_actPairs_26 : decode cX2_actPairs 26 = .ok (.iadd, 1) := by decide +kernel
theorem dX2_actPairs_27 : decode cX2_actPairs 27 = .ok (.iaload, 1) := by decide +kernel
theorem dX2_actPairs_28 : decode cX2_actPairs 28 = .ok (.invokevirtual 214, 3) := by decide +kernel
theorem dX2_actPairs_31 : decode cX2_actPairs 31 = .ok (.ifCond .ne 6, 3) := by decide +kernel
theorem dX2_actPairs_34 : decode cX2_actPairs 34 = .ok (.iload 4, 2) := by decide +kernel
theorem dX2_actPairs_36 : decode cX2_actPairs 36 = .ok (.ireturn, 1) := by decide +kernel
theorem dX2_actPairs_37 : decode cX2_actPairs 37 = .ok (.iinc 4 1, 3) := by decide +kernel
theorem dX2_actPairs_40 : decode cX2_actPairs 40 = .ok (.goto (-37), 3) := by decide +kernel
theorem dX2_actPairs_43 : decode cX2_actPairs 43 = .ok (.bipush (-9), 2) := by decide +kernel
theorem dX2_actPairs_45 : decode cX2_actPairs 45 = .ok (.ireturn, 1) := by decide +kernel
theorem dX2_actPair_0 : decode cX2_actPair 0 = .ok (.iload_n 2, 1) := by decide +kernel
theorem dX2_actPair_1 : decode cX2_actPair 1 = .ok (.iconst 1, 1) := by decide +kernel
theorem dX2_actPair_2 : decode cX2_actPair 2 = .ok (.if_icmp .ne 12, 3) := by decide +kernel
theorem dX2_actPair_5 : decode cX2_actPair 5 = .ok (.aload_n 0, 1) := by decide +kernel
theorem dX2_actPair_6 : decode cX2_actPair 6 = .ok (.getfield 18, 3) := by decide +kernel
theorem dX2_actPair_9 : decode cX2_actPair 9 = .ok (.iload_n 1, 1) := by decide +kernel
theorem dX2_actPair_10 : decode cX2_actPair 10 = .ok (.invokevirtual 123, 3) := by decide +kernel
theorem dX2_actPair_13 : decode cX2_actPair 13 = .ok (.ireturn, 1) := by decide +kernel
theorem dX2_actPair_14 : decode cX2_actPair 14 = .ok (.iload_n 2, 1) := by decide +kernel
theorem dX2_actPair_15 : decode cX2_actPair 15 = .ok (.iconst 2, 1) := by decide +kernel
theorem dX2_actPair_16 : decode cX2_actPair 16 = .ok (.if_icmp .ne 14, 3) := by decide +kernel
theorem dX2_actPair_19 : decode cX2_actPair 19 = .ok (.aload_n 0, 1) := by decide +kernel
theorem dX2_actPair_20 : decode cX2_actPair 20 = .ok (.getfield 18, 3) := by decide +kernel
theorem dX2_actPair_23 : decode cX2_actPair 23 = .ok (.iload_n 1, 1) := by decide +kernel
theorem dX2_actPair_24 : decode cX2_actPair 24 = .ok (.putfield 98, 3) := by decide +kernel
theorem dX2_actPair_27 : decode cX2_actPair 27 = .ok (.goto 11, 3) := by decide +kernel
theorem dX2_actPair_30 : decode cX2_actPair 30 = .ok (.aload_n 0, 1) := by decide +kernel
theorem dX2_actPair_31 : decode cX2_actPair 31 = .ok (.getfield 18, 3) := by decide +kernel
theorem dX2_actPair_34 : decode cX2_actPair 34 = .ok (.iload_n 1, 1) := by decide +kernel
theorem dX2_actPair_35 : decode cX2_actPair 35 = .ok (.invokevirtual 115, 3) := by decide +kernel
theorem dX2_actPair_38 : decode cX2_actPair 38 = .ok (.iconst 1, 1) := by decide +kernel
theorem dX2_actPair_39 : decode cX2_actPair 39 = .ok (.ireturn, 1) := by decide +kernel
theorem dX2_answerOfSeason_0 : decode cX2_answerOfSeason 0 = .ok (.iload_n 1, 1) := by decide +kernel
theorem dX2_answerOfSeason_1 : decode cX2_answerOfSeason 1 = .ok (.tableswitch 88 0 4 #[35, 88, 50, 65, 73], 35) := by decide +kernel
theorem dX2_answerOfSeason_36 : decode cX2_answerOfSeason 36 = .ok (.aload_n 0, 1) := by decide +kernel
theorem dX2_answerOfSeason_37 : decode cX2_answerOfSeason 37 = .ok (.getfield 18, 3) := by decide +kernel
theorem dX2_answerOfSeason_40 : decode cX2_answerOfSeason 40 = .ok (.aload_n 0, 1) := by decide +kernel
theorem dX2_answerOfSeason_41 : decode cX2_answerOfSeason 41 = .ok (.getfield 18, 3) := by decide +kernel
theorem dX2_answerOfSeason_44 : decode cX2_answerOfSeason 44 = .ok (.getfield 86, 3) := by decide +kernel
theorem dX2_answerOfSeason_47 : decode cX2_answerOfSeason 47 = .ok (.invokevirtual 217, 3) := by decide +kernel
theorem dX2_answerOfSeason_50 : decode cX2_answerOfSeason 50 = .ok (.ireturn, 1) := by decide +kernel
theorem dX2_answerOfSeason_51 : decode cX2_answerOfSeason 51 = .ok (.aload_n 0, 1) := by decide +kernel
theorem dX2_answerOfSeason_52 : decode cX2_answerOfSeason 52 = .ok (.getfield 18, 3) := by decide +kernel
theorem dX2_answerOfSeason_55 : decode cX2_answerOfSeason 55 = .ok (.aload_n 0, 1) := by decide +kernel
theorem dX2_answerOfSeason_56 : decode cX2_answerOfSeason 56 = .ok (.getfield 18, 3) := by decide +kernel
theorem dX2_answerOfSeason_59 : decode cX2_answerOfSeason 59 = .ok (.getfield 83, 3) := by decide +kernel
theorem dX2_answerOfSeason_62 : decode cX2_answerOfSeason 62 = .ok (.invokevirtual 217, 3) := by decide +kernel
theorem dX2_answerOfSeason_65 : decode cX2_answerOfSeason 65 = .ok (.ireturn, 1) := by decide +kernel
theorem dX2_answerOfSeason_66 : decode cX2_answerOfSeason 66 = .ok (.aload_n 0, 1) := by decide +kernel
theorem dX2_answerOfSeason_67 : decode cX2_answerOfSeason 67 = .ok (.getfield 18, 3) := by decide +kernel
theorem dX2_answerOfSeason_70 : decode cX2_answerOfSeason 70 = .ok (.getfield 221, 3) := by decide +kernel
theorem dX2_answerOfSeason_73 : decode cX2_answerOfSeason 73 = .ok (.ireturn, 1) := by decide +kernel
theorem dX2_answerOfSeason_74 : decode cX2_answerOfSeason 74 = .ok (.aload_n 0, 1) := by decide +kernel
theorem dX2_answerOfSeason_75 : decode cX2_answerOfSeason 75 = .ok (.getfield 18, 3) := by decide +kernel
theorem dX2_answerOfSeason_78 : decode cX2_answerOfSeason 78 = .ok (.aload_n 0, 1) := by decide +kernel
theorem dX2_answerOfSeason_79 : decode cX2_answerOfSeason 79 = .ok (.getfield 18, 3) := by decide +kernel
theorem dX2_answerOfSeason_82 : decode cX2_answerOfSeason 82 = .ok (.getfield 89, 3) := by decide +kernel
theorem dX2_answerOfSeason_85 : decode cX2_answerOfSeason 85 = .ok (.invokevirtual 217, 3) := by decide +kernel
theorem dX2_answerOfSeason_88 : decode cX2_answerOfSeason 88 = .ok (.ireturn, 1) := by decide +kernel
theorem dX2_answerOfSeason_89 : decode cX2_answerOfSeason 89 = .ok (.iload_n 1, 1) := by decide +kernel
theorem dX2_answerOfSeason_90 : decode cX2_answerOfSeason 90 = .ok (.bipush 10, 2) := by decide +kernel
theorem dX2_answerOfSeason_92 : decode cX2_answerOfSeason 92 = .ok (.isub, 1) := by decide +kernel
theorem dX2_answerOfSeason_93 : decode cX2_answerOfSeason 93 = .ok (.istore_n 2, 1) := by decide +kernel
theorem dX2_answerOfSeason_94 : decode cX2_answerOfSeason 94 = .ok (.aload_n 0, 1) := by decide +kernel
theorem dX2_answerOfSeason_95 : decode cX2_answerOfSeason 95 = .ok (.iload_n 2, 1) := by decide +kernel
theorem dX2_answerOfSeason_96 : decode cX2_answerOfSeason 96 = .ok (.invokevirtual 77, 3) := by decide +kernel
theorem dX2_answerOfSeason_99 : decode cX2_answerOfSeason 99 = .ok (.ifCond .eq 15, 3) := by decide +kernel
theorem dX2_answerOfSeason_102 : decode cX2_answerOfSeason 102 = .ok (.aload_n 0, 1) := by decide +kernel
theorem dX2_answerOfSeason_103 : decode cX2_answerOfSeason 103 = .ok (.getfield 18, 3) := by decide +kernel
theorem dX2_answerOfSeason_106 : decode cX2_answerOfSeason 106 = .ok (.getfield 83, 3) := by decide +kernel
theorem dX2_answerOfSeason_109 : decode cX2_answerOfSeason 109 = .ok (.iload_n 2, 1) := by decide +kernel
theorem dX2_answerOfSeason_110 : decode cX2_answerOfSeason 110 = .ok (.iaload, 1) := by decide +kernel
theorem dX2_answerOfSeason_111 : decode cX2_answerOfSeason 111 = .ok (.goto 5, 3) := by decide +kernel
theorem dX2_answerOfSeason_114 : decode cX2_answerOfSeason 114 = .ok (.bipush (-9), 2) := by decide +kernel
theorem dX2_answerOfSeason_116 : decode cX2_answerOfSeason 116 = .ok (.ireturn, 1) := by decide +kernel
theorem dX2_loserByOneMore_0 : decode cX2_loserByOneMore 0 = .ok (.aload_n 0, 1) := by decide +kernel
theorem dX2_loserByOneMore_1 : decode cX2_loserByOneMore 1 = .ok (.getfield 14, 3) := by decide +kernel
theorem dX2_loserByOneMore_4 : decode cX2_loserByOneMore 4 = .ok (.iload_n 1, 1) := by decide +kernel
theorem dX2_loserByOneMore_5 : decode cX2_loserByOneMore 5 = .ok (.invokevirtual 224, 3) := by decide +kernel
theorem dX2_loserByOneMore_8 : decode cX2_loserByOneMore 8 = .ok (.aload_n 0, 1) := by decide +kernel
theorem dX2_loserByOneMore_9 : decode cX2_loserByOneMore 9 = .ok (.getfield 18, 3) := by decide +kernel
theorem dX2_loserByOneMore_12 : decode cX2_loserByOneMore 12 = .ok (.iload_n 1, 1) := by decide +kernel
theorem dX2_loserByOneMore_13 : decode cX2_loserByOneMore 13 = .ok (.iconst 1, 1) := by decide +kernel
theorem dX2_loserByOneMore_14 : decode cX2_loserByOneMore 14 = .ok (.iadd, 1) := by decide +kernel
theorem dX2_loserByOneMore_15 : decode cX2_loserByOneMore 15 = .ok (.invokevirtual 224, 3) := by decide +kernel
theorem dX2_loserByOneMore_18 : decode cX2_loserByOneMore 18 = .ok (.iconst 0, 1) := by decide +kernel
theorem dX2_loserByOneMore_19 : decode cX2_loserByOneMore 19 = .ok (.istore_n 2, 1) := by decide +kernel
theorem dX2_loserByOneMore_20 : decode cX2_loserByOneMore 20 = .ok (.iload_n 2, 1) := by decide +kernel
theorem dX2_loserByOneMore_21 : decode cX2_loserByOneMore 21 = .ok (.aload_n 0, 1) := by decide +kernel
theorem dX2_loserByOneMore_22 : decode cX2_loserByOneMore 22 = .ok (.getfield 14, 3) := by decide +kernel
theorem dX2_loserByOneMore_25 : decode cX2_loserByOneMore 25 = .ok (.getfield 74, 3) := by decide +kernel
theorem dX2_loserByOneMore_28 : decode cX2_loserByOneMore 28 = .ok (.if_icmp .ge 32, 3) := by decide +kernel
theorem dX2_loserByOneMore_31 : decode cX2_loserByOneMore 31 = .ok (.aload_n 0, 1) := by decide +kernel
theorem dX2_loserByOneMore_32 : decode cX2_loserByOneMore 32 = .ok (.getfield 14, 3) := by decide +kernel
theorem dX2_loserByOneMore_35 : decode cX2_loserByOneMore 35 = .ok (.getfield 151, 3) := by decide +kernel
theorem dX2_loserByOneMore_38 : decode cX2_loserByOneMore 38 = .ok (.iload_n 2, 1) := by decide +kernel
theorem dX2_loserByOneMore_39 : decode cX2_loserByOneMore 39 = .ok (.iaload, 1) := by decide +kernel
theorem dX2_loserByOneMore_40 : decode cX2_loserByOneMore 40 = .ok (.aload_n 0, 1) := by decide +kernel
theorem dX2_loserByOneMore_41 : decode cX2_loserByOneMore 41 = .ok (.getfield 18, 3) := by decide +kernel
theorem dX2_loserByOneMore_44 : decode cX2_loserByOneMore 44 = .ok (.getfield 151, 3) := by decide +kernel
theorem dX2_loserByOneMore_47 : decode cX2_loserByOneMore 47 = .ok (.iload_n 2, 1) := by decide +kernel
theorem dX2_loserByOneMore_48 : decode cX2_loserByOneMore 48 = .ok (.iaload, 1) := by decide +kernel
theorem dX2_loserByOneMore_49 : decode cX2_loserByOneMore 49 = .ok (.if_icmp .le 5, 3) := by decide +kernel
theorem dX2_loserByOneMore_52 : decode cX2_loserByOneMore 52 = .ok (.iload_n 2, 1) := by decide +kernel
theorem dX2_loserByOneMore_53 : decode cX2_loserByOneMore 53 = .ok (.ireturn, 1) := by decide +kernel
theorem dX2_loserByOneMore_54 : decode cX2_loserByOneMore 54 = .ok (.iinc 2 1, 3) := by decide +kernel
theorem dX2_loserByOneMore_57 : decode cX2_loserByOneMore 57 = .ok (.goto (-37), 3) := by decide +kernel
theorem dX2_loserByOneMore_60 : decode cX2_loserByOneMore 60 = .ok (.bipush (-9), 2) := by decide +kernel
theorem dX2_loserByOneMore_62 : decode cX2_loserByOneMore 62 = .ok (.ireturn, 1) := by decide +kernel
theorem dX2_apartBy_0 : decode cX2_apartBy 0 = .ok (.iconst 0, 1) := by decide +kernel
theorem dX2_apartBy_1 : decode cX2_apartBy 1 = .ok (.istore_n 2, 1) := by decide +kernel
theorem dX2_apartBy_2 : decode cX2_apartBy 2 = .ok (.iconst 0, 1) := by decide +kernel
theorem dX2_apartBy_3 : decode cX2_apartBy 3 = .ok (.istore_n 3, 1) := by decide +kernel
theorem dX2_apartBy_4 : decode cX2_apartBy 4 = .ok (.iload_n 3, 1) := by decide +kernel
theorem dX2_apartBy_5 : decode cX2_apartBy 5 = .ok (.aload_n 0, 1) := by decide +kernel
theorem dX2_apartBy_6 : decode cX2_apartBy 6 = .ok (.getfield 14, 3) := by decide +kernel
theorem dX2_apartBy_9 : decode cX2_apartBy 9 = .ok (.getfield 74, 3) := by decide +kernel
theorem dX2_apartBy_12 : decode cX2_apartBy 12 = .ok (.if_icmp .ge 53, 3) := by decide +kernel
theorem dX2_apartBy_15 : decode cX2_apartBy 15 = .ok (.iload_n 1, 1) := by decide +kernel
theorem dX2_apartBy_16 : decode cX2_apartBy 16 = .ok (.iload_n 3, 1) := by decide +kernel
theorem dX2_apartBy_17 : decode cX2_apartBy 17 = .ok (.ishr, 1) := by decide +kernel
theorem dX2_apartBy_18 : decode cX2_apartBy 18 = .ok (.iconst 1, 1) := by decide +kernel
theorem dX2_apartBy_19 : decode cX2_apartBy 19 = .ok (.iand, 1) := by decide +kernel
theorem dX2_apartBy_20 : decode cX2_apartBy 20 = .ok (.iconst 1, 1) := by decide +kernel
theorem dX2_apartBy_21 : decode cX2_apartBy 21 = .ok (.if_icmp .ne 7, 3) := by decide +kernel
theorem dX2_apartBy_24 : decode cX2_apartBy 24 = .ok (.iconst 1, 1) := by decide +kernel
theorem dX2_apartBy_25 : decode cX2_apartBy 25 = .ok (.goto 4, 3) := by decide +kernel
theorem dX2_apartBy_28 : decode cX2_apartBy 28 = .ok (.iconst 0, 1) := by decide +kernel
theorem dX2_apartBy_29 : decode cX2_apartBy 29 = .ok (.istore 4, 2) := by decide +kernel
theorem dX2_apartBy_31 : decode cX2_apartBy 31 = .ok (.iload_n 2, 1) := by decide +kernel
theorem dX2_apartBy_32 : decode cX2_apartBy 32 = .ok (.iload 4, 2) := by decide +kernel
theorem dX2_apartBy_34 : decode cX2_apartBy 34 = .ok (.ifCond .eq 14, 3) := by decide +kernel
theorem dX2_apartBy_37 : decode cX2_apartBy 37 = .ok (.aload_n 0, 1) := by decide +kernel
theorem dX2_apartBy_38 : decode cX2_apartBy 38 = .ok (.getfield 14, 3) := by decide +kernel
theorem dX2_apartBy_41 : decode cX2_apartBy 41 = .ok (.iload_n 3, 1) := by decide +kernel
theorem dX2_apartBy_42 : decode cX2_apartBy 42 = .ok (.invokevirtual 95, 3) := by decide +kernel
theorem dX2_apartBy_45 : decode cX2_apartBy 45 = .ok (.goto 12, 3) := by decide +kernel
theorem dX2_apartBy_48 : decode cX2_apartBy 48 = .ok (.aload_n 0, 1) := by decide +kernel
theorem dX2_apartBy_49 : decode cX2_apartBy 49 = .ok (.getfield 14, 3) := by decide +kernel
theorem dX2_apartBy_52 : decode cX2_apartBy 52 = .ok (.iload_n 3, 1) := by decide +kernel
theorem dX2_apartBy_53 : decode cX2_apartBy 53 = .ok (.invokevirtual 95, 3) := by decide +kernel
theorem dX2_apartBy_56 : decode cX2_apartBy 56 = .ok (.ineg, 1) := by decide +kernel
theorem dX2_apartBy_57 : decode cX2_apartBy 57 = .ok (.iadd, 1) := by decide +kernel
theorem dX2_apartBy_58 : decode cX2_apartBy 58 = .ok (.istore_n 2, 1) := by decide +kernel
theorem dX2_apartBy_59 : decode cX2_apartBy 59 = .ok (.iinc 3 1, 3) := by decide +kernel
theorem dX2_apartBy_62 : decode cX2_apartBy 62 = .ok (.goto (-58), 3) := by decide +kernel
theorem dX2_apartBy_65 : decode cX2_apartBy 65 = .ok (.iload_n 2, 1) := by decide +kernel
theorem dX2_apartBy_66 : decode cX2_apartBy 66 = .ok (.invokestatic 227, 3) := by decide +kernel
theorem dX2_apartBy_69 : decode cX2_apartBy 69 = .ok (.ireturn, 1) := by decide +kernel
theorem dX2_readingsHoldInTrial_0 : decode cX2_readingsHoldInTrial 0 = .ok (.aload_n 0, 1) := by decide +kernel
theorem dX2_readingsHoldInTrial_1 : decode cX2_readingsHoldInTrial 1 = .ok (.getfield 18, 3) := by decide +kernel
theorem dX2_readingsHoldInTrial_4 : decode cX2_readingsHoldInTrial 4 = .ok (.aload_n 0, 1) := by decide +kernel
theorem dX2_readingsHoldInTrial_5 : decode cX2_readingsHoldInTrial 5 = .ok (.getfield 18, 3) := by decide +kernel
theorem dX2_readingsHoldInTrial_8 : decode cX2_readingsHoldInTrial 8 = .ok (.getfield 98, 3) := by decide +kernel
theorem dX2_readingsHoldInTrial_11 : decode cX2_readingsHoldInTrial 11 = .ok (.invokevirtual 224, 3) := by decide +kernel
theorem dX2_readingsHoldInTrial_14 : decode cX2_readingsHoldInTrial 14 = .ok (.iconst 0, 1) := by decide +kernel
theorem dX2_readingsHoldInTrial_15 : decode cX2_readingsHoldInTrial 15 = .ok (.istore_n 1, 1) := by decide +kernel
theorem dX2_readingsHoldInTrial_16 : decode cX2_readingsHoldInTrial 16 = .ok (.iload_n 1, 1) := by decide +kernel
theorem dX2_readingsHoldInTrial_17 : decode cX2_readingsHoldInTrial 17 = .ok (.aload_n 0, 1) := by decide +kernel
theorem dX2_readingsHoldInTrial_18 : decode cX2_readingsHoldInTrial 18 = .ok (.getfield 34, 3) := by decide +kernel
theorem dX2_readingsHoldInTrial_21 : decode cX2_readingsHoldInTrial 21 = .ok (.if_icmp .ge 34, 3) := by decide +kernel
theorem dX2_readingsHoldInTrial_24 : decode cX2_readingsHoldInTrial 24 = .ok (.aload_n 0, 1) := by decide +kernel
theorem dX2_readingsHoldInTrial_25 : decode cX2_readingsHoldInTrial 25 = .ok (.getfield 18, 3) := by decide +kernel
theorem dX2_readingsHoldInTrial_28 : decode cX2_readingsHoldInTrial 28 = .ok (.getfield 151, 3) := by decide +kernel
theorem dX2_readingsHoldInTrial_31 : decode cX2_readingsHoldInTrial 31 = .ok (.aload_n 0, 1) := by decide +kernel
theorem dX2_readingsHoldInTrial_32 : decode cX2_readingsHoldInTrial 32 = .ok (.getfield 27, 3) := by decide +kernel
theorem dX2_readingsHoldInTrial_35 : decode cX2_readingsHoldInTrial 35 = .ok (.iload_n 1, 1) := by decide +kernel
theorem dX2_readingsHoldInTrial_36 : decode cX2_readingsHoldInTrial 36 = .ok (.iaload, 1) := by decide +kernel
theorem dX2_readingsHoldInTrial_37 : decode cX2_readingsHoldInTrial 37 = .ok (.iaload, 1) := by decide +kernel
theorem dX2_readingsHoldInTrial_38 : decode cX2_readingsHoldInTrial 38 = .ok (.aload_n 0, 1) := by decide +kernel
theorem dX2_readingsHoldInTrial_39 : decode cX2_readingsHoldInTrial 39 = .ok (.getfield 31, 3) := by decide +kernel
theorem dX2_readingsHoldInTrial_42 : decode cX2_readingsHoldInTrial 42 = .ok (.iload_n 1, 1) := by decide +kernel
theorem dX2_readingsHoldInTrial_43 : decode cX2_readingsHoldInTrial 43 = .ok (.iaload, 1) := by decide +kernel
theorem dX2_readingsHoldInTrial_44 : decode cX2_readingsHoldInTrial 44 = .ok (.if_icmp .eq 5, 3) := by decide +kernel
theorem dX2_readingsHoldInTrial_47 : decode cX2_readingsHoldInTrial 47 = .ok (.iconst 0, 1) := by decide +kernel
theorem dX2_readingsHoldInTrial_48 : decode cX2_readingsHoldInTrial 48 = .ok (.ireturn, 1) := by decide +kernel
theorem dX2_readingsHoldInTrial_49 : decode cX2_readingsHoldInTrial 49 = .ok (.iinc 1 1, 3) := by decide +kernel
theorem dX2_readingsHoldInTrial_52 : decode cX2_readingsHoldInTrial 52 = .ok (.goto (-36), 3) := by decide +kernel
theorem dX2_readingsHoldInTrial_55 : decode cX2_readingsHoldInTrial 55 = .ok (.iconst 1, 1) := by decide +kernel
theorem dX2_readingsHoldInTrial_56 : decode cX2_readingsHoldInTrial 56 = .ok (.ireturn, 1) := by decide +kernel
theorem dX2_tellAsPlain_0 : decode cX2_tellAsPlain 0 = .ok (.aload_n 0, 1) := by decide +kernel
theorem dX2_tellAsPlain_1 : decode cX2_tellAsPlain 1 = .ok (.iconst 1, 1) := by decide +kernel
theorem dX2_tellAsPlain_2 : decode cX2_tellAsPlain 2 = .ok (.invokevirtual 196, 3) := by decide +kernel
theorem dX2_tellAsPlain_5 : decode cX2_tellAsPlain 5 = .ok (.aload_n 0, 1) := by decide +kernel
theorem dX2_tellAsPlain_6 : decode cX2_tellAsPlain 6 = .ok (.getfield 14, 3) := by decide +kernel
theorem dX2_tellAsPlain_9 : decode cX2_tellAsPlain 9 = .ok (.getfield 83, 3) := by decide +kernel
theorem dX2_tellAsPlain_12 : decode cX2_tellAsPlain 12 = .ok (.iload_n 1, 1) := by decide +kernel
theorem dX2_tellAsPlain_13 : decode cX2_tellAsPlain 13 = .ok (.iaload, 1) := by decide +kernel
theorem dX2_tellAsPlain_14 : decode cX2_tellAsPlain 14 = .ok (.ireturn, 1) := by decide +kernel
theorem dX2_tellAsTart_0 : decode cX2_tellAsTart 0 = .ok (.aload_n 0, 1) := by decide +kernel
theorem dX2_tellAsTart_1 : decode cX2_tellAsTart 1 = .ok (.iconst 2, 1) := by decide +kernel
theorem dX2_tellAsTart_2 : decode cX2_tellAsTart 2 = .ok (.invokevirtual 196, 3) := by decide +kernel
theorem dX2_tellAsTart_5 : decode cX2_tellAsTart 5 = .ok (.aload_n 0, 1) := by decide +kernel
theorem dX2_tellAsTart_6 : decode cX2_tellAsTart 6 = .ok (.iload_n 1, 1) := by decide +kernel
theorem dX2_tellAsTart_7 : decode cX2_tellAsTart 7 = .ok (.invokevirtual 193, 3) := by decide +kernel
theorem dX2_tellAsTart_10 : decode cX2_tellAsTart 10 = .ok (.bipush 100, 2) := by decide +kernel
theorem dX2_tellAsTart_12 : decode cX2_tellAsTart 12 = .ok (.iadd, 1) := by decide +kernel
theorem dX2_tellAsTart_13 : decode cX2_tellAsTart 13 = .ok (.ireturn, 1) := by decide +kernel
theorem dX2_tellAsBitter_0 : decode cX2_tellAsBitter 0 = .ok (.aload_n 0, 1) := by decide +kernel
theorem dX2_tellAsBitter_1 : decode cX2_tellAsBitter 1 = .ok (.iconst 3, 1) := by decide +kernel
theorem dX2_tellAsBitter_2 : decode cX2_tellAsBitter 2 = .ok (.invokevirtual 196, 3) := by decide +kernel
theorem dX2_tellAsBitter_5 : decode cX2_tellAsBitter 5 = .ok (.aload_n 0, 1) := by decide +kernel
theorem dX2_tellAsBitter_6 : decode cX2_tellAsBitter 6 = .ok (.iload_n 1, 1) := by decide +kernel
theorem dX2_tellAsBitter_7 : decode cX2_tellAsBitter 7 = .ok (.invokevirtual 187, 3) := by decide +kernel
theorem dX2_tellAsBitter_10 : decode cX2_tellAsBitter 10 = .ok (.istore_n 2, 1) := by decide +kernel
theorem dX2_tellAsBitter_11 : decode cX2_tellAsBitter 11 = .ok (.iload_n 2, 1) := by decide +kernel
theorem dX2_tellAsBitter_12 : decode cX2_tellAsBitter 12 = .ok (.aload_n 0, 1) := by decide +kernel
theorem dX2_tellAsBitter_13 : decode cX2_tellAsBitter 13 = .ok (.iload_n 1, 1) := by decide +kernel
theorem dX2_tellAsBitter_14 : decode cX2_tellAsBitter 14 = .ok (.invokevirtual 193, 3) := by decide +kernel
theorem dX2_tellAsBitter_17 : decode cX2_tellAsBitter 17 = .ok (.iadd, 1) := by decide +kernel
theorem dX2_tellAsBitter_18 : decode cX2_tellAsBitter 18 = .ok (.ireturn, 1) := by decide +kernel
theorem dX2_leaveInTrace_0 : decode cX2_leaveInTrace 0 = .ok (.aload_n 0, 1) := by decide +kernel
theorem dX2_leaveInTrace_1 : decode cX2_leaveInTrace 1 = .ok (.bipush 31, 2) := by decide +kernel
theorem dX2_leaveInTrace_3 : decode cX2_leaveInTrace 3 = .ok (.aload_n 0, 1) := by decide +kernel
theorem dX2_leaveInTrace_4 : decode cX2_leaveInTrace 4 = .ok (.getfield 38, 3) := by decide +kernel
theorem dX2_leaveInTrace_7 : decode cX2_leaveInTrace 7 = .ok (.imul, 1) := by decide +kernel
theorem dX2_leaveInTrace_8 : decode cX2_leaveInTrace 8 = .ok (.iload_n 1, 1) := by decide +kernel
theorem dX2_leaveInTrace_9 : decode cX2_leaveInTrace 9 = .ok (.iadd, 1) := by decide +kernel
theorem dX2_leaveInTrace_10 : decode cX2_leaveInTrace 10 = .ok (.putfield 38, 3) := by decide +kernel
theorem dX2_leaveInTrace_13 : decode cX2_leaveInTrace 13 = .ok (.return_, 1) := by decide +kernel
end
section
theorem dX3_init_0 : decode cX3_init 0 = .ok (.aload_n 0, 1) := by decide +kernel
theorem dX3_init_1 : decode cX3_init 1 = .ok (.invokespecial 1, 3) := by decide +kernel
theorem dX3_init_4 : decode cX3_init 4 = .ok (.aload_n 0, 1) := by decide +kernel
theorem dX3_init_5 : decode cX3_init 5 = .ok (.bipush 8, 2) := by decide +kernel
theorem dX3_init_7 : decode cX3_init 7 = .ok (.newarray .int, 2) := by decide +kernel
theorem dX3_init_9 : decode cX3_init 9 = .ok (.putfield 7, 3) := by decide +kernel
theorem dX3_init_12 : decode cX3_init 12 = .ok (.aload_n 0, 1) := by decide +kernel
theorem dX3_init_13 : decode cX3_init 13 = .ok (.bipush 8, 2) := by decide +kernel
theorem dX3_init_15 : decode cX3_init 15 = .ok (.newarray .int, 2) := by decide +kernel
theorem dX3_init_17 : decode cX3_init 17 = .ok (.putfield 13, 3) := by decide +kernel
theorem dX3_init_20 : decode cX3_init 20 = .ok (.aload_n 0, 1) := by decide +kernel
theorem dX3_init_21 : decode cX3_init 21 = .ok (.bipush 8, 2) := by decide +kernel
theorem dX3_init_23 : decode cX3_init 23 = .ok (.newarray .int, 2) := by decide +kernel
theorem dX3_init_25 : decode cX3_init 25 = .ok (.putfield 16, 3) := by decide +kernel
theorem dX3_init_28 : decode cX3_init 28 = .ok (.aload_n 0, 1) := by decide +kernel
theorem dX3_init_29 : decode cX3_init 29 = .ok (.bipush 8, 2) := by decide +kernel
theorem dX3_init_31 : decode cX3_init 31 = .ok (.newarray .int, 2) := by decide +kernel
theorem dX3_init_33 : decode cX3_init 33 = .ok (.putfield 19, 3) := by decide +kernel
theorem dX3_init_36 : decode cX3_init 36 = .ok (.aload_n 0, 1) := by decide +kernel
theorem dX3_init_37 : decode cX3_init 37 = .ok (.bipush 8, 2) := by decide +kernel
theorem dX3_init_39 : decode cX3_init 39 = .ok (.newarray .int, 2) := by decide +kernel
theorem dX3_init_41 : decode cX3_init 41 = .ok (.putfield 22, 3) := by decide +kernel
theorem dX3_init_44 : decode cX3_init 44 = .ok (.aload_n 0, 1) := by decide +kernel
theorem dX3_init_45 : decode cX3_init 45 = .ok (.bipush 8, 2) := by decide +kernel
theorem dX3_init_47 : decode cX3_init 47 = .ok (.newarray .int, 2) := by decide +kernel
theorem dX3_init_49 : decode cX3_init 49 = .ok (.putfield 25, 3) := by decide +kernel
theorem dX3_init_52 : decode cX3_init 52 = .ok (.aload_n 0, 1) := by decide +kernel
theorem dX3_init_53 : decode cX3_init 53 = .ok (.bipush 8, 2) := by decide +kernel
theorem dX3_init_55 : decode cX3_init 55 = .ok (.newarray .int, 2) := by decide +kernel
theorem dX3_init_57 : decode cX3_init 57 = .ok (.putfield 28, 3) := by decide +kernel
theorem dX3_init_60 : decode cX3_init 60 = .ok (.aload_n 0, 1) := by decide +kernel
theorem dX3_init_61 : decode cX3_init 61 = .ok (.bipush 8, 2) := by decide +kernel
theorem dX3_init_63 : decode cX3_init 63 = .ok (.newarray .int, 2) := by decide +kernel
theorem dX3_init_65 : decode cX3_init 65 = .ok (.putfield 31, 3) := by decide +kernel
theorem dX3_init_68 : decode cX3_init 68 = .ok (.aload_n 0, 1) := by decide +kernel
theorem dX3_init_69 : decode cX3_init 69 = .ok (.bipush 8, 2) := by decide +kernel
theorem dX3_init_71 : decode cX3_init 71 = .ok (.newarray .int, 2) := by decide +kernel
theorem dX3_init_73 : decode cX3_init 73 = .ok (.putfield 34, 3) := by decide +kernel
theorem dX3_init_76 : decode cX3_init 76 = .ok (.aload_n 0, 1) := by decide +kernel
theorem dX3_init_77 : decode cX3_init 77 = .ok (.bipush 8, 2) := by decide +kernel
theorem dX3_init_79 : decode cX3_init 79 = .ok (.newarray .int, 2) := by decide +kernel
theorem dX3_init_81 : decode cX3_init 81 = .ok (.putfield 37, 3) := by decide +kernel
theorem dX3_init_84 : decode cX3_init 84 = .ok (.aload_n 0, 1) := by decide +kernel
theorem dX3_init_85 : decode cX3_init 85 = .ok (.bipush 8, 2) := by decide +kernel
theorem dX3_init_87 : decode cX3_init 87 = .ok (.newarray .int, 2) := by decide +kernel
theorem dX3_init_89 : decode cX3_init 89 = .ok (.putfield 40, 3) := by decide +kernel
theorem dX3_init_92 : decode cX3_init 92 = .ok (.aload_n 0, 1) := by decide +kernel
theorem dX3_init_93 : decode cX3_init 93 = .ok (.bipush 8, 2) := by decide +kernel
theorem dX3_init_95 : decode cX3_init 95 = .ok (.newarray .int, 2) := by decide +kernel
theorem dX3_init_97 : decode cX3_init 97 = .ok (.putfield 43, 3) := by decide +kernel
theorem dX3_init_100 : decode cX3_init 100 = .ok (.aload_n 0, 1) := by decide +kernel
theorem dX3_init_101 : decode cX3_init 101 = .ok (.bipush 8, 2) := by decide +kernel
theorem dX3_init_103 : decode cX3_init 103 = .ok (.newarray .int, 2) := by decide +kernel
theorem dX3_init_105 : decode cX3_init 105 = .ok (.putfield 46, 3) := by decide +kernel
theorem dX3_init_108 : decode cX3_init 108 = .ok (.aload_n 0, 1) := by decide +kernel
theorem dX3_init_109 : decode cX3_init 109 = .ok (.bipush 8, 2) := by decide +kernel
theorem dX3_init_111 : decode cX3_init 111 = .ok (.newarray .int, 2) := by decide +kernel
theorem dX3_init_113 : decode cX3_init 113 = .ok (.putfield 49, 3) := by decide +kernel
theorem dX3_init_116 : decode cX3_init 116 = .ok (.aload_n 0, 1) := by decide +kernel
theorem dX3_init_117 : decode cX3_init 117 = .ok (.iconst 4, 1) := by decide +kernel
theorem dX3_init_118 : decode cX3_init 118 = .ok (.newarray .int, 2) := by decide +kernel
theorem dX3_init_120 : decode cX3_init 120 = .ok (.putfield 52, 3) := by decide +kernel
theorem dX3_init_123 : decode cX3_init 123 = .ok (.aload_n 0, 1) := by decide +kernel
theorem dX3_init_124 : decode cX3_init 124 = .ok (.iconst 4, 1) := by decide +kernel
theorem dX3_init_125 : decode cX3_init 125 = .ok (.newarray .int, 2) := by decide +kernel
theorem dX3_init_127 : decode cX3_init 127 = .ok (.putfield 55, 3) := by decide +kernel
theorem dX3_init_130 : decode cX3_init 130 = .ok (.aload_n 0, 1) := by decide +kernel
theorem dX3_init_131 : decode cX3_init 131 = .ok (.sipush 240, 3) := by decide +kernel
theorem dX3_init_134 : decode cX3_init 134 = .ok (.newarray .int, 2) := by decide +kernel
theorem dX3_init_136 : decode cX3_init 136 = .ok (.putfield 58, 3) := by decide +kernel
theorem dX3_init_139 : decode cX3_init 139 = .ok (.aload_n 0, 1) := by decide +kernel
theorem dX3_init_140 : decode cX3_init 140 = .ok (.bipush 60, 2) := by decide +kernel
theorem dX3_init_142 : decode cX3_init 142 = .ok (.newarray .int, 2) := by decide +kernel
theorem dX3_init_144 : decode cX3_init 144 = .ok (.putfield 61, 3) := by decide +kernel
theorem dX3_init_147 : decode cX3_init 147 = .ok (.iconst 0, 1) := by decide +kernel
theorem dX3_init_148 : decode cX3_init 148 = .ok (.istore_n 1, 1) := by decide +kernel
theorem dX3_init_149 : decode cX3_init 149 = .ok (.iload_n 1, 1) := by decide +kernel
theorem dX3_init_150 : decode cX3_init 150 = .ok (.iconst 4, 1) := by decide +kernel
theorem dX3_init_151 : decode cX3_init 151 = .ok (.if_icmp .ge 16, 3) := by decide +kernel
theorem dX3_init_154 : decode cX3_init 154 = .ok (.aload_n 0, 1) := by decide +kernel
theorem dX3_init_155 : decode cX3_init 155 = .ok (.getfield 52, 3) := by decide +kernel
theorem dX3_init_158 : decode cX3_init 158 = .ok (.iload_n 1, 1) := by decide +kernel
theorem dX3_init_159 : decode cX3_init 159 = .ok (.iconst (-1), 1) := by decide +kernel
theorem dX3_init_160 : decode cX3_init 160 = .ok (.iastore, 1) := by decide +kernel
theorem dX3_init_161 : decode cX3_init 161 = .ok (.iinc 1 1, 3) := by decide +kernel
theorem dX3_init_164 : decode cX3_init 164 = .ok (.goto (-15), 3) := by decide +kernel
theorem dX3_init_167 : decode cX3_init 167 = .ok (.return_, 1) := by decide +kernel
theorem dX3_in_0 : decode cX3_in 0 = .ok (.lload_n 0, 1) := by decide +kernel
theorem dX3_in_1 : decode cX3_in 1 = .ok (.lload_n 2, 1) := by decide +kernel
theorem dX3_in_2 : decode cX3_in 2 = .ok (.lcmp, 1) := by decide +kernel
theorem dX3_in_3 : decode cX3_in 3 = .ok (.ifCond .lt 14, 3) := by decide +kernel
theorem dX3_in_6 : decode cX3_in 6 = .ok (.lload_n 0, 1) := by decide +kernel
theorem dX3_in_7 : decode cX3_in 7 = .ok (.lload 4, 2) := by decide +kernel
theorem dX3_in_9 : decode cX3_in 9 = .ok (.lcmp, 1) := by decide +kernel
theorem dX3_in_10 : decode cX3_in 10 = .ok (.ifCond .gt 7, 3) := by decide +kernel
theorem dX3_in_13 : decode cX3_in 13 = .ok (.iconst 1, 1) := by decide +kernel
theorem dX3_in_14 : decode cX3_in 14 = .ok (.goto 4, 3) := by decide +kernel
theorem dX3_in_17 : decode cX3_in 17 = .ok (.iconst 0, 1) := by decide +kernel
theorem dX3_in_18 : decode cX3_in 18 = .ok (.ireturn, 1) := by decide +kernel
theorem dX3_lost_0 : decode cX3_lost 0 = .ok (.ldc2_w 64, 3) := by decide +kernel
theorem dX3_lost_3 : decode cX3_lost 3 = .ok (.lreturn, 1) := by decide +kernel
theorem dX3_isIn_0 : decode cX3_isIn 0 = .ok (.iload_n 0, 1) := by decide +kernel
theorem dX3_isIn_1 : decode cX3_isIn 1 = .ok (.iload_n 1, 1) := by decide +kernel
theorem dX3_isIn_2 : decode cX3_isIn 2 = .ok (.ishr, 1) := by decide +kernel
theorem dX3_isIn_3 : decode cX3_isIn 3 = .ok (.iconst 1, 1) := by decide +kernel
theorem dX3_isIn_4 : decode cX3_isIn 4 = .ok (.iand, 1) := by decide +kernel
theorem dX3_isIn_5 : decode cX3_isIn 5 = .ok (.iconst 1, 1) := by decide +kernel
theorem dX3_isIn_6 : decode cX3_isIn 6 = .ok (.if_icmp .ne 7, 3) := by decide +kernel
theorem dX3_isIn_9 : decode cX3_isIn 9 = .ok (.iconst 1, 1) := by decide +kernel
theorem dX3_isIn_10 : decode cX3_isIn 10 = .ok (.goto 4, 3) := by decide +kernel
theorem dX3_isIn_13 : decode cX3_isIn 13 = .ok (.iconst 0, 1) := by decide +kernel
theorem dX3_isIn_14 : decode cX3_isIn 14 = .ok (.ireturn, 1) := by decide +kernel
theorem dX3_share_0 : decode cX3_share 0 = .ok (.lload_n 0, 1) := by decide +kernel
theorem dX3_share_1 : decode cX3_share 1 = .ok (.lstore 5, 2) := by decide +kernel
theorem dX3_share_3 : decode cX3_share 3 = .ok (.lload_n 2, 1) := by decide +kernel
theorem dX3_share_4 : decode cX3_share 4 = .ok (.lstore 7, 2) := by decide +kernel
theorem dX3_share_6 : decode cX3_share 6 = .ok (.lload 7, 2) := by decide +kernel
theorem dX3_share_8 : decode cX3_share 8 = .ok (.lconst 0, 1) := by decide +kernel
theorem dX3_share_9 : decode cX3_share 9 = .ok (.lcmp, 1) := by decide +kernel
theorem dX3_share_10 : decode cX3_share 10 = .ok (.ifCond .eq 21, 3) := by decide +kernel
theorem dX3_share_13 : decode cX3_share 13 = .ok (.lload 5, 2) := by decide +kernel
theorem dX3_share_15 : decode cX3_share 15 = .ok (.lload 7, 2) := by decide +kernel
theorem dX3_share_17 : decode cX3_share 17 = .ok (.lrem, 1) := by decide +kernel
theorem dX3_share_18 : decode cX3_share 18 = .ok (.lstore 9, 2) := by decide +kernel
theorem dX3_share_20 : decode cX3_share 20 = .ok (.lload 7, 2) := by decide +kernel
theorem dX3_share_22 : decode cX3_share 22 = .ok (.lstore 5, 2) := by decide +kernel
theorem dX3_share_24 : decode cX3_share 24 = .ok (.lload 9, 2) := by decide +kernel
theorem dX3_share_26 : decode cX3_share 26 = .ok (.lstore 7, 2) := by decide +kernel
theorem dX3_share_28 : decode cX3_share 28 = .ok (.goto (-22), 3) := by decide +kernel
theorem dX3_share_31 : decode cX3_share 31 = .ok (.iload 4, 2) := by decide +kernel
theorem dX3_share_33 : decode cX3_share 33 = .ok (.ifCond .ne 7, 3) := by decide +kernel
theorem dX3_share_36 : decode cX3_share 36 = .ok (.lload_n 0, 1) := by decide +kernel
theorem dX3_share_37 : decode cX3_share 37 = .ok (.goto 4, 3) := by decide +kernel
theorem dX3_share_40 : decode cX3_share 40 = .ok (.lload_n 2, 1) := by decide +kernel
theorem dX3_share_41 : decode cX3_share 41 = .ok (.lload 5, 2) := by decide +kernel
theorem dX3_share_43 : decode cX3_share 43 = .ok (.ldiv, 1) := by decide +kernel
theorem dX3_share_44 : decode cX3_share 44 = .ok (.lreturn, 1) := by decide +kernel
theorem dX3_refused_0 : decode cX3_refused 0 = .ok (.aload_n 0, 1) := by decide +kernel
theorem dX3_refused_1 : decode cX3_refused 1 = .ok (.iconst 0, 1) := by decide +kernel
theorem dX3_refused_2 : decode cX3_refused 2 = .ok (.putfield 66, 3) := by decide +kernel
theorem dX3_refused_5 : decode cX3_refused 5 = .ok (.iload_n 1, 1) := by decide +kernel
theorem dX3_refused_6 : decode cX3_refused 6 = .ok (.ireturn, 1) := by decide +kernel
theorem dX3_failed_0 : decode cX3_failed 0 = .ok (.aload_n 0, 1) := by decide +kernel
theorem dX3_failed_1 : decode cX3_failed 1 = .ok (.iload_n 1, 1) := by decide +kernel
theorem dX3_failed_2 : decode cX3_failed 2 = .ok (.putfield 66, 3) := by decide +kernel
theorem dX3_failed_5 : decode cX3_failed 5 = .ok (.bipush (-10), 2) := by decide +kernel
theorem dX3_failed_7 : decode cX3_failed 7 = .ok (.iload_n 1, 1) := by decide +kernel
theorem dX3_failed_8 : decode cX3_failed 8 = .ok (.isub, 1) := by decide +kernel
theorem dX3_failed_9 : decode cX3_failed 9 = .ok (.ireturn, 1) := by decide +kernel
theorem dX3_failedLong_0 : decode cX3_failedLong 0 = .ok (.aload_n 0, 1) := by decide +kernel
theorem dX3_failedLong_1 : decode cX3_failedLong 1 = .ok (.iload_n 1, 1) := by decide +kernel
theorem dX3_failedLong_2 : decode cX3_failedLong 2 = .ok (.putfield 66, 3) := by decide +kernel
theorem dX3_failedLong_5 : decode cX3_failedLong 5 = .ok (.invokestatic 70, 3) := by decide +kernel
theorem dX3_failedLong_8 : decode cX3_failedLong 8 = .ok (.lreturn, 1) := by decide +kernel
theorem dX3_noHouse_0 : decode cX3_noHouse 0 = .ok (.iload_n 1, 1) := by decide +kernel
theorem dX3_noHouse_1 : decode cX3_noHouse 1 = .ok (.i2l, 1) := by decide +kernel
theorem dX3_noHouse_2 : decode cX3_noHouse 2 = .ok (.lconst 0, 1) := by decide +kernel
theorem dX3_noHouse_3 : decode cX3_noHouse 3 = .ok (.aload_n 0, 1) := by decide +kernel
theorem dX3_noHouse_4 : decode cX3_noHouse 4 = .ok (.getfield 74, 3) := by decide +kernel
theorem dX3_noHouse_7 : decode cX3_noHouse 7 = .ok (.i2l, 1) := by decide +kernel
theorem dX3_noHouse_8 : decode cX3_noHouse 8 = .ok (.lconst 1, 1) := by decide +kernel
theorem dX3_noHouse_9 : decode cX3_noHouse 9 = .ok (.lsub, 1) := by decide +kernel
theorem dX3_noHouse_10 : decode cX3_noHouse 10 = .ok (.invokestatic 77, 3) := by decide +kernel
theorem dX3_noHouse_13 : decode cX3_noHouse 13 = .ok (.ifCond .ne 7, 3) := by decide +kernel
theorem dX3_noHouse_16 : decode cX3_noHouse 16 = .ok (.iconst 1, 1) := by decide +kernel
theorem dX3_noHouse_17 : decode cX3_noHouse 17 = .ok (.goto 4, 3) := by decide +kernel
theorem dX3_noHouse_20 : decode cX3_noHouse 20 = .ok (.iconst 0, 1) := by decide +kernel
theorem dX3_noHouse_21 : decode cX3_noHouse 21 = .ok (.ireturn, 1) := by decide +kernel
theorem dX3_isCrate_0 : decode cX3_isCrate 0 = .ok (.iload_n 0, 1) := by decide +kernel
theorem dX3_isCrate_1 : decode cX3_isCrate 1 = .ok (.i2l, 1) := by decide +kernel
theorem dX3_isCrate_2 : decode cX3_isCrate 2 = .ok (.lconst 0, 1) := by decide +kernel
theorem dX3_isCrate_3 : decode cX3_isCrate 3 = .ok (.ldc2_w 81, 3) := by decide +kernel
theorem dX3_isCrate_6 : decode cX3_isCrate 6 = .ok (.invokestatic 77, 3) := by decide +kernel
theorem dX3_isCrate_9 : decode cX3_isCrate 9 = .ok (.ireturn, 1) := by decide +kernel
theorem dX3_codeAt_0 : decode cX3_codeAt 0 = .ok (.aload_n 0, 1) := by decide +kernel
theorem dX3_codeAt_1 : decode cX3_codeAt 1 = .ok (.getfield 83, 3) := by decide +kernel
theorem dX3_codeAt_4 : decode cX3_codeAt 4 = .ok (.iload_n 2, 1) := by decide +kernel
theorem dX3_codeAt_5 : decode cX3_codeAt 5 = .ok (.if_icmp .ge 17, 3) := by decide +kernel
theorem dX3_codeAt_8 : decode cX3_codeAt 8 = .ok (.aload_n 0, 1) := by decide +kernel
theorem dX3_codeAt_9 : decode cX3_codeAt 9 = .ok (.getfield 58, 3) := by decide +kernel
theorem dX3_codeAt_12 : decode cX3_codeAt 12 = .ok (.iload_n 1, 1) := by decide +kernel
theorem dX3_codeAt_13 : decode cX3_codeAt 13 = .ok (.aload_n 0, 1) := by decide +kernel
theorem dX3_codeAt_14 : decode cX3_codeAt 14 = .ok (.getfield 83, 3) := by decide +kernel
theorem dX3_codeAt_17 : decode cX3_codeAt 17 = .ok (.iadd, 1) := by decide +kernel
theorem dX3_codeAt_18 : decode cX3_codeAt 18 = .ok (.iaload, 1) := by decide +kernel
theorem dX3_codeAt_19 : decode cX3_codeAt 19 = .ok (.goto 5, 3) := by decide +kernel
theorem dX3_codeAt_22 : decode cX3_codeAt 22 = .ok (.bipush (-9), 2) := by decide +kernel
theorem dX3_codeAt_24 : decode cX3_codeAt 24 = .ok (.ireturn, 1) := by decide +kernel
theorem dX3_figure_0 : decode cX3_figure 0 = .ok (.iload_n 3, 1) := by decide +kernel
theorem dX3_figure_1 : decode cX3_figure 1 = .ok (.ifCond .ge 8, 3) := by decide +kernel
theorem dX3_figure_4 : decode cX3_figure 4 = .ok (.bipush (-9), 2) := by decide +kernel
theorem dX3_figure_6 : decode cX3_figure 6 = .ok (.goto 12, 3) := by decide +kernel
theorem dX3_figure_9 : decode cX3_figure 9 = .ok (.aload_n 0, 1) := by decide +kernel
theorem dX3_figure_10 : decode cX3_figure 10 = .ok (.iload_n 1, 1) := by decide +kernel
theorem dX3_figure_11 : decode cX3_figure 11 = .ok (.iload_n 2, 1) := by decide +kernel
theorem dX3_figure_12 : decode cX3_figure 12 = .ok (.invokevirtual 86, 3) := by decide +kernel
theorem dX3_figure_15 : decode cX3_figure 15 = .ok (.bipush 48, 2) := by decide +kernel
theorem dX3_figure_17 : decode cX3_figure 17 = .ok (.isub, 1) := by decide +kernel
theorem dX3_figure_18 : decode cX3_figure 18 = .ok (.istore 4, 2) := by decide +kernel
theorem dX3_figure_20 : decode cX3_figure 20 = .ok (.iload 4, 2) := by decide +kernel
theorem dX3_figure_22 : decode cX3_figure 22 = .ok (.i2l, 1) := by decide +kernel
theorem dX3_figure_23 : decode cX3_figure 23 = .ok (.lconst 0, 1) := by decide +kernel
theorem dX3_figure_24 : decode cX3_figure 24 = .ok (.ldc2_w 90, 3) := by decide +kernel
theorem dX3_figure_27 : decode cX3_figure 27 = .ok (.invokestatic 77, 3) := by decide +kernel
theorem dX3_figure_30 : decode cX3_figure 30 = .ok (.istore 5, 2) := by decide +kernel
theorem dX3_figure_32 : decode cX3_figure 32 = .ok (.aload_n 0, 1) := by decide +kernel
theorem dX3_figure_33 : decode cX3_figure 33 = .ok (.dup, 1) := by decide +kernel
theorem dX3_figure_34 : decode cX3_figure 34 = .ok (.getfield 83, 3) := by decide +kernel
theorem dX3_figure_37 : decode cX3_figure 37 = .ok (.iload 5, 2) := by decide +kernel
theorem dX3_figure_39 : decode cX3_figure 39 = .ok (.ifCond .eq 7, 3) := by decide +kernel
theorem dX3_figure_42 : decode cX3_figure 42 = .ok (.iconst 1, 1) := by decide +kernel
theorem dX3_figure_43 : decode cX3_figure 43 = .ok (.goto 4, 3) := by decide +kernel
theorem dX3_figure_46 : decode cX3_figure 46 = .ok (.iconst 0, 1) := by decide +kernel
theorem dX3_figure_47 : decode cX3_figure 47 = .ok (.iadd, 1) := by decide +kernel
theorem dX3_figure_48 : decode cX3_figure 48 = .ok (.putfield 83, 3) := by decide +kernel
theorem dX3_figure_51 : decode cX3_figure 51 = .ok (.iload 5, 2) := by decide +kernel
theorem dX3_figure_53 : decode cX3_figure 53 = .ok (.ifCond .eq 8, 3) := by decide +kernel
theorem dX3_figure_56 : decode cX3_figure 56 = .ok (.iload 4, 2) := by decide +kernel
theorem dX3_figure_58 : decode cX3_figure 58 = .ok (.goto 5, 3) := by decide +kernel
theorem dX3_figure_61 : decode cX3_figure 61 = .ok (.bipush (-9), 2) := by decide +kernel
theorem dX3_figure_63 : decode cX3_figure 63 = .ok (.ireturn, 1) := by decide +kernel
theorem dX3_readsHouse_0 : decode cX3_readsHouse 0 = .ok (.aload_n 0, 1) := by decide +kernel
theorem dX3_readsHouse_1 : decode cX3_readsHouse 1 = .ok (.getfield 92, 3) := by decide +kernel
theorem dX3_readsHouse_4 : decode cX3_readsHouse 4 = .ok (.bipush 8, 2) := by decide +kernel
theorem dX3_readsHouse_6 : decode cX3_readsHouse 6 = .ok (.if_icmp .eq 14, 3) := by decide +kernel
theorem dX3_readsHouse_9 : decode cX3_readsHouse 9 = .ok (.aload_n 0, 1) := by decide +kernel
theorem dX3_readsHouse_10 : decode cX3_readsHouse 10 = .ok (.iload_n 1, 1) := by decide +kernel
theorem dX3_readsHouse_11 : decode cX3_readsHouse 11 = .ok (.iload_n 2, 1) := by decide +kernel
theorem dX3_readsHouse_12 : decode cX3_readsHouse 12 = .ok (.invokevirtual 86, 3) := by decide +kernel
theorem dX3_readsHouse_15 : decode cX3_readsHouse 15 = .ok (.bipush 59, 2) := by decide +kernel
theorem dX3_readsHouse_17 : decode cX3_readsHouse 17 = .ok (.if_icmp .eq 5, 3) := by decide +kernel
theorem dX3_readsHouse_20 : decode cX3_readsHouse 20 = .ok (.iconst 0, 1) := by decide +kernel
theorem dX3_readsHouse_21 : decode cX3_readsHouse 21 = .ok (.ireturn, 1) := by decide +kernel
theorem dX3_readsHouse_22 : decode cX3_readsHouse 22 = .ok (.aload_n 0, 1) := by decide +kernel
theorem dX3_readsHouse_23 : decode cX3_readsHouse 23 = .ok (.dup, 1) := by decide +kernel
theorem dX3_readsHouse_24 : decode cX3_readsHouse 24 = .ok (.getfield 83, 3) := by decide +kernel
theorem dX3_readsHouse_27 : decode cX3_readsHouse 27 = .ok (.iconst 1, 1) := by decide +kernel
theorem dX3_readsHouse_28 : decode cX3_readsHouse 28 = .ok (.iadd, 1) := by decide +kernel
theorem dX3_readsHouse_29 : decode cX3_readsHouse 29 = .ok (.putfield 83, 3) := by decide +kernel
theorem dX3_readsHouse_32 : decode cX3_readsHouse 32 = .ok (.aload_n 0, 1) := by decide +kernel
theorem dX3_readsHouse_33 : decode cX3_readsHouse 33 = .ok (.iload_n 1, 1) := by decide +kernel
theorem dX3_readsHouse_34 : decode cX3_readsHouse 34 = .ok (.iload_n 2, 1) := by decide +kernel
theorem dX3_readsHouse_35 : decode cX3_readsHouse 35 = .ok (.invokevirtual 86, 3) := by decide +kernel
theorem dX3_readsHouse_38 : decode cX3_readsHouse 38 = .ok (.istore_n 3, 1) := by decide +kernel
theorem dX3_readsHouse_39 : decode cX3_readsHouse 39 = .ok (.iload_n 3, 1) := by decide +kernel
theorem dX3_readsHouse_40 : decode cX3_readsHouse 40 = .ok (.bipush 112, 2) := by decide +kernel
theorem dX3_readsHouse_42 : decode cX3_readsHouse 42 = .ok (.if_icmp .eq 17, 3) := by decide +kernel
theorem dX3_readsHouse_45 : decode cX3_readsHouse 45 = .ok (.iload_n 3, 1) := by decide +kernel
theorem dX3_readsHouse_46 : decode cX3_readsHouse 46 = .ok (.bipush 116, 2) := by decide +kernel
theorem dX3_readsHouse_48 : decode cX3_readsHouse 48 = .ok (.if_icmp .eq 11, 3) := by decide +kernel
theorem dX3_readsHouse_51 : decode cX3_readsHouse 51 = .ok (.iload_n 3, 1) := by decide +kernel
theorem dX3_readsHouse_52 : decode cX3_readsHouse 52 = .ok (.bipush 98, 2) := by decide +kernel
theorem dX3_readsHouse_54 : decode cX3_readsHouse 54 = .ok (.if_icmp .eq 5, 3) := by decide +kernel
theorem dX3_readsHouse_57 : decode cX3_readsHouse 57 = .ok (.iconst 0, 1) := by decide +kernel
theorem dX3_readsHouse_58 : decode cX3_readsHouse 58 = .ok (.ireturn, 1) := by decide +kernel
theorem dX3_readsHouse_59 : decode cX3_readsHouse 59 = .ok (.aload_n 0, 1) := by decide +kernel
theorem dX3_readsHouse_60 : decode cX3_readsHouse 60 = .ok (.dup, 1) := by decide +kernel
theorem dX3_readsHouse_61 : decode cX3_readsHouse 61 = .ok (.getfield 83, 3) := by decide +kernel
theorem dX3_readsHouse_64 : decode cX3_readsHouse 64 = .ok (.iconst 1, 1) := by decide +kernel
theorem dX3_readsHouse_65 : decode cX3_readsHouse 65 = .ok (.iadd, 1) := by decide +kernel
theorem dX3_readsHouse_66 : decode cX3_readsHouse 66 = .ok (.putfield 83, 3) := by decide +kernel
theorem dX3_readsHouse_69 : decode cX3_readsHouse 69 = .ok (.aload_n 0, 1) := by decide +kernel
theorem dX3_readsHouse_70 : decode cX3_readsHouse 70 = .ok (.iload_n 1, 1) := by decide +kernel
theorem dX3_readsHouse_71 : decode cX3_readsHouse 71 = .ok (.iload_n 2, 1) := by decide +kernel
theorem dX3_readsHouse_72 : decode cX3_readsHouse 72 = .ok (.iconst 0, 1) := by decide +kernel
theorem dX3_readsHouse_73 : decode cX3_readsHouse 73 = .ok (.invokevirtual 95, 3) := by decide +kernel
theorem dX3_readsHouse_76 : decode cX3_readsHouse 76 = .ok (.istore 4, 2) := by decide +kernel
theorem dX3_readsHouse_78 : decode cX3_readsHouse 78 = .ok (.aload_n 0, 1) := by decide +kernel
theorem dX3_readsHouse_79 : decode cX3_readsHouse 79 = .ok (.iload_n 1, 1) := by decide +kernel
theorem dX3_readsHouse_80 : decode cX3_readsHouse 80 = .ok (.iload_n 2, 1) := by decide +kernel
theorem dX3_readsHouse_81 : decode cX3_readsHouse 81 = .ok (.iload 4, 2) := by decide +kernel
theorem dX3_readsHouse_83 : decode cX3_readsHouse 83 = .ok (.invokevirtual 95, 3) := by decide +kernel
theorem dX3_readsHouse_86 : decode cX3_readsHouse 86 = .ok (.istore 5, 2) := by decide +kernel
theorem dX3_readsHouse_88 : decode cX3_readsHouse 88 = .ok (.aload_n 0, 1) := by decide +kernel
theorem dX3_readsHouse_89 : decode cX3_readsHouse 89 = .ok (.getfield 22, 3) := by decide +kernel
theorem dX3_readsHouse_92 : decode cX3_readsHouse 92 = .ok (.aload_n 0, 1) := by decide +kernel
theorem dX3_readsHouse_93 : decode cX3_readsHouse 93 = .ok (.getfield 92, 3) := by decide +kernel
theorem dX3_readsHouse_96 : decode cX3_readsHouse 96 = .ok (.iload_n 3, 1) := by decide +kernel
theorem dX3_readsHouse_97 : decode cX3_readsHouse 97 = .ok (.bipush 112, 2) := by decide +kernel
theorem dX3_readsHouse_99 : decode cX3_readsHouse 99 = .ok (.if_icmp .ne 7, 3) := by decide +kernel
theorem dX3_readsHouse_102 : decode cX3_readsHouse 102 = .ok (.iconst 0, 1) := by decide +kernel
theorem dX3_readsHouse_103 : decode cX3_readsHouse 103 = .ok (.goto 14, 3) := by decide +kernel
theorem dX3_readsHouse_106 : decode cX3_readsHouse 106 = .ok (.iload_n 3, 1) := by decide +kernel
theorem dX3_readsHouse_107 : decode cX3_readsHouse 107 = .ok (.bipush 116, 2) := by decide +kernel
theorem dX3_readsHouse_109 : decode cX3_readsHouse 109 = .ok (.if_icmp .ne 7, 3) := by decide +kernel
theorem dX3_readsHouse_112 : decode cX3_readsHouse 112 = .ok (.iconst 1, 1) := by decide +kernel
theorem dX3_readsHouse_113 : decode cX3_readsHouse 113 = .ok (.goto 4, 3) := by decide +kernel
theorem dX3_readsHouse_116 : decode cX3_readsHouse 116 = .ok (.iconst 2, 1) := by decide +kernel
theorem dX3_readsHouse_117 : decode cX3_readsHouse 117 = .ok (.iastore, 1) := by decide +kernel
theorem dX3_readsHouse_118 : decode cX3_readsHouse 118 = .ok (.aload_n 0, 1) := by decide +kernel
theorem dX3_readsHouse_119 : decode cX3_readsHouse 119 = .ok (.getfield 25, 3) := by decide +kernel
theorem dX3_readsHouse_122 : decode cX3_readsHouse 122 = .ok (.aload_n 0, 1) := by decide +kernel
theorem dX3_readsHouse_123 : decode cX3_readsHouse 123 = .ok (.getfield 92, 3) := by decide +kernel
theorem dX3_readsHouse_126 : decode cX3_readsHouse 126 = .ok (.iload 4, 2) := by decide +kernel
theorem dX3_readsHouse_128 : decode cX3_readsHouse 128 = .ok (.iastore, 1) := by decide +kernel
theorem dX3_readsHouse_129 : decode cX3_readsHouse 129 = .ok (.aload_n 0, 1) := by decide +kernel
theorem dX3_readsHouse_130 : decode cX3_readsHouse 130 = .ok (.getfield 28, 3) := by decide +kernel
theorem dX3_readsHouse_133 : decode cX3_readsHouse 133 = .ok (.aload_n 0, 1) := by decide +kernel
theorem dX3_readsHouse_134 : decode cX3_readsHouse 134 = .ok (.getfield 92, 3) := by decide +kernel
theorem dX3_readsHouse_137 : decode cX3_readsHouse 137 = .ok (.iload 5, 2) := by decide +kernel
theorem dX3_readsHouse_139 : decode cX3_readsHouse 139 = .ok (.iastore, 1) := by decide +kernel
theorem dX3_readsHouse_140 : decode cX3_readsHouse 140 = .ok (.aload_n 0, 1) := by decide +kernel
theorem dX3_readsHouse_141 : decode cX3_readsHouse 141 = .ok (.dup, 1) := by decide +kernel
theorem dX3_readsHouse_142 : decode cX3_readsHouse 142 = .ok (.getfield 92, 3) := by decide +kernel
theorem dX3_readsHouse_145 : decode cX3_readsHouse 145 = .ok (.iconst 1, 1) := by decide +kernel
theorem dX3_readsHouse_146 : decode cX3_readsHouse 146 = .ok (.iadd, 1) := by decide +kernel
theorem dX3_readsHouse_147 : decode cX3_readsHouse 147 = .ok (.putfield 92, 3) := by decide +kernel
theorem dX3_readsHouse_150 : decode cX3_readsHouse 150 = .ok (.iload 5, 2) := by decide +kernel
theorem dX3_readsHouse_152 : decode cX3_readsHouse 152 = .ok (.ifCond .lt 7, 3) := by decide +kernel
theorem dX3_readsHouse_155 : decode cX3_readsHouse 155 = .ok (.iconst 1, 1) := by decide +kernel
theorem dX3_readsHouse_156 : decode cX3_readsHouse 156 = .ok (.goto 4, 3) := by decide +kernel
theorem dX3_readsHouse_159 : decode cX3_readsHouse 159 = .ok (.iconst 0, 1) := by decide +kernel
theorem dX3_readsHouse_160 : decode cX3_readsHouse 160 = .ok (.ireturn, 1) := by decide +kernel
theorem dX3_readsStreet_0 : decode cX3_readsStreet 0 = .ok (.aload_n 0, 1) := by decide +kernel
theorem dX3_readsStreet_1 : decode cX3_readsStreet 1 = .ok (.iconst 0, 1) := by decide +kernel
theorem dX3_readsStreet_2 : decode cX3_readsStreet 2 = .ok (.putfield 83, 3) := by decide +kernel
theorem dX3_readsStreet_5 : decode cX3_readsStreet 5 = .ok (.aload_n 0, 1) := by decide +kernel
theorem dX3_readsStreet_6 : decode cX3_readsStreet 6 = .ok (.iconst 0, 1) := by decide +kernel
theorem dX3_readsStreet_7 : decode cX3_readsStreet 7 = .ok (.putfield 92, 3) := by decide +kernel
theorem dX3_readsStreet_10 : decode cX3_readsStreet 10 = .ok (.aload_n 0, 1) := by decide +kernel
theorem dX3_readsStreet_11 : decode cX3_readsStreet 11 = .ok (.iload_n 1, 1) := by decide +kernel
theorem dX3_readsStreet_12 : decode cX3_readsStreet 12 = .ok (.iload_n 2, 1) := by decide +kernel
theorem dX3_readsStreet_13 : decode cX3_readsStreet 13 = .ok (.invokevirtual 86, 3) := by decide +kernel
theorem dX3_readsStreet_16 : decode cX3_readsStreet 16 = .ok (.bipush 108, 2) := by decide +kernel
theorem dX3_readsStreet_18 : decode cX3_readsStreet 18 = .ok (.if_icmp .eq 5, 3) := by decide +kernel
theorem dX3_readsStreet_21 : decode cX3_readsStreet 21 = .ok (.iconst 0, 1) := by decide +kernel
theorem dX3_readsStreet_22 : decode cX3_readsStreet 22 = .ok (.ireturn, 1) := by decide +kernel
theorem dX3_readsStreet_23 : decode cX3_readsStreet 23 = .ok (.aload_n 0, 1) := by decide +kernel
theorem dX3_readsStreet_24 : decode cX3_readsStreet 24 = .ok (.dup, 1) := by decide +kernel
theorem dX3_readsStreet_25 : decode cX3_readsStreet 25 = .ok (.getfield 83, 3) := by decide +kernel
theorem dX3_readsStreet_28 : decode cX3_readsStreet 28 = .ok (.iconst 1, 1) := by decide +kernel
theorem dX3_readsStreet_29 : decode cX3_readsStreet 29 = .ok (.iadd, 1) := by decide +kernel
theorem dX3_readsStreet_30 : decode cX3_readsStreet 30 = .ok (.putfield 83, 3) := by decide +kernel
theorem dX3_readsStreet_33 : decode cX3_readsStreet 33 = .ok (.aload_n 0, 1) := by decide +kernel
theorem dX3_readsStreet_34 : decode cX3_readsStreet 34 = .ok (.iload_n 1, 1) := by decide +kernel
theorem dX3_readsStreet_35 : decode cX3_readsStreet 35 = .ok (.iload_n 2, 1) := by decide +kernel
theorem dX3_readsStreet_36 : decode cX3_readsStreet 36 = .ok (.iconst 0, 1) := by decide +kernel
theorem dX3_readsStreet_37 : decode cX3_readsStreet 37 = .ok (.invokevirtual 95, 3) := by decide +kernel
theorem dX3_readsStreet_40 : decode cX3_readsStreet 40 = .ok (.istore_n 3, 1) := by decide +kernel
theorem dX3_readsStreet_41 : decode cX3_readsStreet 41 = .ok (.aload_n 0, 1) := by decide +kernel
theorem dX3_readsStreet_42 : decode cX3_readsStreet 42 = .ok (.iload_n 1, 1) := by decide +kernel
theorem dX3_readsStreet_43 : decode cX3_readsStreet 43 = .ok (.iload_n 2, 1) := by decide +kernel
theorem dX3_readsStreet_44 : decode cX3_readsStreet 44 = .ok (.iload_n 3, 1) := by decide +kernel
theorem dX3_readsStreet_45 : decode cX3_readsStreet 45 = .ok (.invokevirtual 95, 3) := by decide +kernel
theorem dX3_readsStreet_48 : decode cX3_readsStreet 48 = .ok (.istore 4, 2) := by decide +kernel
theorem dX3_readsStreet_50 : decode cX3_readsStreet 50 = .ok (.aload_n 0, 1) := by decide +kernel
theorem dX3_readsStreet_51 : decode cX3_readsStreet 51 = .ok (.bipush 10, 2) := by decide +kernel
theorem dX3_readsStreet_53 : decode cX3_readsStreet 53 = .ok (.iload_n 3, 1) := by decide +kernel
theorem dX3_readsStreet_54 : decode cX3_readsStreet 54 = .ok (.imul, 1) := by decide +kernel
theorem dX3_readsStreet_55 : decode cX3_readsStreet 55 = .ok (.iload 4, 2) := by decide +kernel
theorem dX3_readsStreet_57 : decode cX3_readsStreet 57 = .ok (.iadd, 1) := by decide +kernel
theorem dX3_readsStreet_58 : decode cX3_readsStreet 58 = .ok (.putfield 99, 3) := by decide +kernel
theorem dX3_readsStreet_61 : decode cX3_readsStreet 61 = .ok (.iload 4, 2) := by decide +kernel
theorem dX3_readsStreet_63 : decode cX3_readsStreet 63 = .ok (.ifCond .lt 7, 3) := by decide +kernel
theorem dX3_readsStreet_66 : decode cX3_readsStreet 66 = .ok (.iconst 1, 1) := by decide +kernel
theorem dX3_readsStreet_67 : decode cX3_readsStreet 67 = .ok (.goto 4, 3) := by decide +kernel
theorem dX3_readsStreet_70 : decode cX3_readsStreet 70 = .ok (.iconst 0, 1) := by decide +kernel
theorem dX3_readsStreet_71 : decode cX3_readsStreet 71 = .ok (.istore 5, 2) := by decide +kernel
theorem dX3_readsStreet_73 : decode cX3_readsStreet 73 = .ok (.iload 5, 2) := by decide +kernel
theorem dX3_readsStreet_75 : decode cX3_readsStreet 75 = .ok (.ifCond .eq 30, 3) := by decide +kernel
theorem dX3_readsStreet_78 : decode cX3_readsStreet 78 = .ok (.aload_n 0, 1) := by decide +kernel
theorem dX3_readsStreet_79 : decode cX3_readsStreet 79 = .ok (.getfield 92, 3) := by decide +kernel
theorem dX3_readsStreet_82 : decode cX3_readsStreet 82 = .ok (.iconst 1, 1) := by decide +kernel
theorem dX3_readsStreet_83 : decode cX3_readsStreet 83 = .ok (.if_icmp .lt 11, 3) := by decide +kernel
theorem dX3_readsStreet_86 : decode cX3_readsStreet 86 = .ok (.aload_n 0, 1) := by decide +kernel
theorem dX3_readsStreet_87 : decode cX3_readsStreet 87 = .ok (.getfield 83, 3) := by decide +kernel
theorem dX3_readsStreet_90 : decode cX3_readsStreet 90 = .ok (.iload_n 2, 1) := by decide +kernel
theorem dX3_readsStreet_91 : decode cX3_readsStreet 91 = .ok (.if_icmp .ge 14, 3) := by decide +kernel
theorem dX3_readsStreet_94 : decode cX3_readsStreet 94 = .ok (.aload_n 0, 1) := by decide +kernel
theorem dX3_readsStreet_95 : decode cX3_readsStreet 95 = .ok (.iload_n 1, 1) := by decide +kernel
theorem dX3_readsStreet_96 : decode cX3_readsStreet 96 = .ok (.iload_n 2, 1) := by decide +kernel
theorem dX3_readsStreet_97 : decode cX3_readsStreet 97 = .ok (.invokevirtual 102, 3) := by decide +kernel
theorem dX3_readsStreet_100 : decode cX3_readsStreet 100 = .ok (.istore 5, 2) := by decide +kernel
theorem dX3_readsStreet_102 : decode cX3_readsStreet 102 = .ok (.goto (-29), 3) := by decide +kernel
theorem dX3_readsStreet_105 : decode cX3_readsStreet 105 = .ok (.iload 5, 2) := by decide +kernel
theorem dX3_readsStreet_107 : decode cX3_readsStreet 107 = .ok (.ireturn, 1) := by decide +kernel
theorem dX3_cellsBarred_0 : decode cX3_cellsBarred 0 = .ok (.aload_n 0, 1) := by decide +kernel
theorem dX3_cellsBarred_1 : decode cX3_cellsBarred 1 = .ok (.getfield 52, 3) := by decide +kernel
theorem dX3_cellsBarred_4 : decode cX3_cellsBarred 4 = .ok (.iload_n 1, 1) := by decide +kernel
theorem dX3_cellsBarred_5 : decode cX3_cellsBarred 5 = .ok (.iaload, 1) := by decide +kernel
theorem dX3_cellsBarred_6 : decode cX3_cellsBarred 6 = .ok (.ifCond .lt 19, 3) := by decide +kernel
theorem dX3_cellsBarred_9 : decode cX3_cellsBarred 9 = .ok (.aload_n 0, 1) := by decide +kernel
theorem dX3_cellsBarred_10 : decode cX3_cellsBarred 10 = .ok (.getfield 55, 3) := by decide +kernel
theorem dX3_cellsBarred_13 : decode cX3_cellsBarred 13 = .ok (.iload_n 1, 1) := by decide +kernel
theorem dX3_cellsBarred_14 : decode cX3_cellsBarred 14 = .ok (.iaload, 1) := by decide +kernel
theorem dX3_cellsBarred_15 : decode cX3_cellsBarred 15 = .ok (.iload_n 2, 1) := by decide +kernel
theorem dX3_cellsBarred_16 : decode cX3_cellsBarred 16 = .ok (.if_icmp .eq 9, 3) := by decide +kernel
theorem dX3_cellsBarred_19 : decode cX3_cellsBarred 19 = .ok (.aload_n 0, 1) := by decide +kernel
theorem dX3_cellsBarred_20 : decode cX3_cellsBarred 20 = .ok (.iconst 2, 1) := by decide +kernel
theorem dX3_cellsBarred_21 : decode cX3_cellsBarred 21 = .ok (.invokevirtual 106, 3) := by decide +kernel
theorem dX3_cellsBarred_24 : decode cX3_cellsBarred 24 = .ok (.ireturn, 1) := by decide +kernel
theorem dX3_cellsBarred_25 : decode cX3_cellsBarred 25 = .ok (.aload_n 0, 1) := by decide +kernel
theorem dX3_cellsBarred_26 : decode cX3_cellsBarred 26 = .ok (.getfield 52, 3) := by decide +kernel
theorem dX3_cellsBarred_29 : decode cX3_cellsBarred 29 = .ok (.iload_n 1, 1) := by decide +kernel
theorem dX3_cellsBarred_30 : decode cX3_cellsBarred 30 = .ok (.iaload, 1) := by decide +kernel
theorem dX3_cellsBarred_31 : decode cX3_cellsBarred 31 = .ok (.ifCond .ge 9, 3) := by decide +kernel
theorem dX3_cellsBarred_34 : decode cX3_cellsBarred 34 = .ok (.aload_n 0, 1) := by decide +kernel
theorem dX3_cellsBarred_35 : decode cX3_cellsBarred 35 = .ok (.iconst 1, 1) := by decide +kernel
theorem dX3_cellsBarred_36 : decode cX3_cellsBarred 36 = .ok (.invokevirtual 106, 3) := by decide +kernel
theorem dX3_cellsBarred_39 : decode cX3_cellsBarred 39 = .ok (.ireturn, 1) := by decide +kernel
theorem dX3_cellsBarred_40 : decode cX3_cellsBarred 40 = .ok (.lload 4, 2) := by decide +kernel
theorem dX3_cellsBarred_42 : decode cX3_cellsBarred 42 = .ok (.lconst 0, 1) := by decide +kernel
theorem dX3_cellsBarred_43 : decode cX3_cellsBarred 43 = .ok (.lcmp, 1) := by decide +kernel
theorem dX3_cellsBarred_44 : decode cX3_cellsBarred 44 = .ok (.ifCond .ge 9, 3) := by decide +kernel
theorem dX3_cellsBarred_47 : decode cX3_cellsBarred 47 = .ok (.aload_n 0, 1) := by decide +kernel
theorem dX3_cellsBarred_48 : decode cX3_cellsBarred 48 = .ok (.iconst 4, 1) := by decide +kernel
theorem dX3_cellsBarred_49 : decode cX3_cellsBarred 49 = .ok (.invokevirtual 106, 3) := by decide +kernel
theorem dX3_cellsBarred_52 : decode cX3_cellsBarred 52 = .ok (.ireturn, 1) := by decide +kernel
theorem dX3_cellsBarred_53 : decode cX3_cellsBarred 53 = .ok (.iload_n 3, 1) := by decide +kernel
theorem dX3_cellsBarred_54 : decode cX3_cellsBarred 54 = .ok (.lload 4, 2) := by decide +kernel
theorem dX3_cellsBarred_56 : decode cX3_cellsBarred 56 = .ok (.aload_n 0, 1) := by decide +kernel
theorem dX3_cellsBarred_57 : decode cX3_cellsBarred 57 = .ok (.getfield 52, 3) := by decide +kernel
theorem dX3_cellsBarred_60 : decode cX3_cellsBarred 60 = .ok (.iload_n 1, 1) := by decide +kernel
theorem dX3_cellsBarred_61 : decode cX3_cellsBarred 61 = .ok (.iaload, 1) := by decide +kernel
theorem dX3_cellsBarred_62 : decode cX3_cellsBarred 62 = .ok (.invokestatic 110, 3) := by decide +kernel
theorem dX3_cellsBarred_65 : decode cX3_cellsBarred 65 = .ok (.ifCond .eq 11, 3) := by decide +kernel
theorem dX3_cellsBarred_68 : decode cX3_cellsBarred 68 = .ok (.aload_n 0, 1) := by decide +kernel
theorem dX3_cellsBarred_69 : decode cX3_cellsBarred 69 = .ok (.iconst 3, 1) := by decide +kernel
theorem dX3_cellsBarred_70 : decode cX3_cellsBarred 70 = .ok (.invokevirtual 106, 3) := by decide +kernel
theorem dX3_cellsBarred_73 : decode cX3_cellsBarred 73 = .ok (.goto 4, 3) := by decide +kernel
theorem dX3_cellsBarred_76 : decode cX3_cellsBarred 76 = .ok (.iconst 0, 1) := by decide +kernel
theorem dX3_cellsBarred_77 : decode cX3_cellsBarred 77 = .ok (.ireturn, 1) := by decide +kernel
theorem dX3_street_0 : decode cX3_street 0 = .ok (.iload_n 1, 1) := by decide +kernel
theorem dX3_street_1 : decode cX3_street 1 = .ok (.invokestatic 114, 3) := by decide +kernel
theorem dX3_street_4 : decode cX3_street 4 = .ok (.ifCond .eq 9, 3) := by decide +kernel
theorem dX3_street_7 : decode cX3_street 7 = .ok (.aload_n 0, 1) := by decide +kernel
theorem dX3_street_8 : decode cX3_street 8 = .ok (.iconst (-1), 1) := by decide +kernel
theorem dX3_street_9 : decode cX3_street 9 = .ok (.invokevirtual 118, 3) := by decide +kernel
theorem dX3_street_12 : decode cX3_street 12 = .ok (.ireturn, 1) := by decide +kernel
theorem dX3_street_13 : decode cX3_street 13 = .ok (.iload_n 2, 1) := by decide +kernel
theorem dX3_street_14 : decode cX3_street 14 = .ok (.i2l, 1) := by decide +kernel
theorem dX3_street_15 : decode cX3_street 15 = .ok (.lconst 0, 1) := by decide +kernel
theorem dX3_street_16 : decode cX3_street 16 = .ok (.ldc2_w 121, 3) := by decide +kernel
theorem dX3_street_19 : decode cX3_street 19 = .ok (.invokestatic 77, 3) := by decide +kernel
theorem dX3_street_22 : decode cX3_street 22 = .ok (.ifCond .ne 10, 3) := by decide +kernel
theorem dX3_street_25 : decode cX3_street 25 = .ok (.aload_n 0, 1) := by decide +kernel
theorem dX3_street_26 : decode cX3_street 26 = .ok (.bipush (-2), 2) := by decide +kernel
theorem dX3_street_28 : decode cX3_street 28 = .ok (.invokevirtual 118, 3) := by decide +kernel
theorem dX3_street_31 : decode cX3_street 31 = .ok (.ireturn, 1) := by decide +kernel
theorem dX3_street_32 : decode cX3_street 32 = .ok (.aload_n 0, 1) := by decide +kernel
theorem dX3_street_33 : decode cX3_street 33 = .ok (.iload_n 1, 1) := by decide +kernel
theorem dX3_street_34 : decode cX3_street 34 = .ok (.iload_n 2, 1) := by decide +kernel
theorem dX3_street_35 : decode cX3_street 35 = .ok (.iload_n 3, 1) := by decide +kernel
theorem dX3_street_36 : decode cX3_street 36 = .ok (.iload 4, 2) := by decide +kernel
theorem dX3_street_38 : decode cX3_street 38 = .ok (.i2l, 1) := by decide +kernel
theorem dX3_street_39 : decode cX3_street 39 = .ok (.invokevirtual 123, 3) := by decide +kernel
theorem dX3_street_42 : decode cX3_street 42 = .ok (.istore 5, 2) := by decide +kernel
theorem dX3_street_44 : decode cX3_street 44 = .ok (.iload 5, 2) := by decide +kernel
theorem dX3_street_46 : decode cX3_street 46 = .ok (.ifCond .ge 6, 3) := by decide +kernel
theorem dX3_street_49 : decode cX3_street 49 = .ok (.iload 5, 2) := by decide +kernel
theorem dX3_street_51 : decode cX3_street 51 = .ok (.ireturn, 1) := by decide +kernel
theorem dX3_street_52 : decode cX3_street 52 = .ok (.aload_n 0, 1) := by decide +kernel
theorem dX3_street_53 : decode cX3_street 53 = .ok (.bipush 60, 2) := by decide +kernel
theorem dX3_street_55 : decode cX3_street 55 = .ok (.iload_n 1, 1) := by decide +kernel
theorem dX3_street_56 : decode cX3_street 56 = .ok (.imul, 1) := by decide +kernel
theorem dX3_street_57 : decode cX3_street 57 = .ok (.iload_n 3, 1) := by decide +kernel
theorem dX3_street_58 : decode cX3_street 58 = .ok (.iadd, 1) := by decide +kernel
theorem dX3_street_59 : decode cX3_street 59 = .ok (.iload 4, 2) := by decide +kernel
theorem dX3_street_61 : decode cX3_street 61 = .ok (.invokevirtual 127, 3) := by decide +kernel
theorem dX3_street_64 : decode cX3_street 64 = .ok (.ifCond .ne 15, 3) := by decide +kernel
theorem dX3_street_67 : decode cX3_street 67 = .ok (.aload_n 0, 1) := by decide +kernel
theorem dX3_street_68 : decode cX3_street 68 = .ok (.bipush (-100), 2) := by decide +kernel
theorem dX3_street_70 : decode cX3_street 70 = .ok (.aload_n 0, 1) := by decide +kernel
theorem dX3_street_71 : decode cX3_street 71 = .ok (.getfield 83, 3) := by decide +kernel
theorem dX3_street_74 : decode cX3_street 74 = .ok (.isub, 1) := by decide +kernel
theorem dX3_street_75 : decode cX3_street 75 = .ok (.invokevirtual 118, 3) := by decide +kernel
theorem dX3_street_78 : decode cX3_street 78 = .ok (.ireturn, 1) := by decide +kernel
theorem dX3_street_79 : decode cX3_street 79 = .ok (.aload_n 0, 1) := by decide +kernel
theorem dX3_street_80 : decode cX3_street 80 = .ok (.aload_n 0, 1) := by decide +kernel
theorem dX3_street_81 : decode cX3_street 81 = .ok (.getfield 92, 3) := by decide +kernel
theorem dX3_street_84 : decode cX3_street 84 = .ok (.putfield 74, 3) := by decide +kernel
theorem dX3_street_87 : decode cX3_street 87 = .ok (.aload_n 0, 1) := by decide +kernel
theorem dX3_street_88 : decode cX3_street 88 = .ok (.aload_n 0, 1) := by decide +kernel
theorem dX3_street_89 : decode cX3_street 89 = .ok (.getfield 99, 3) := by decide +kernel
theorem dX3_street_92 : decode cX3_street 92 = .ok (.putfield 130, 3) := by decide +kernel
theorem dX3_street_95 : decode cX3_street 95 = .ok (.aload_n 0, 1) := by decide +kernel
theorem dX3_street_96 : decode cX3_street 96 = .ok (.iconst 0, 1) := by decide +kernel
theorem dX3_street_97 : decode cX3_street 97 = .ok (.putfield 133, 3) := by decide +kernel
theorem dX3_street_100 : decode cX3_street 100 = .ok (.iconst 0, 1) := by decide +kernel
theorem dX3_street_101 : decode cX3_street 101 = .ok (.istore 6, 2) := by decide +kernel
theorem dX3_street_103 : decode cX3_street 103 = .ok (.iload 6, 2) := by decide +kernel
theorem dX3_street_105 : decode cX3_street 105 = .ok (.aload_n 0, 1) := by decide +kernel
theorem dX3_street_106 : decode cX3_street 106 = .ok (.getfield 74, 3) := by decide +kernel
theorem dX3_street_109 : decode cX3_street 109 = .ok (.if_icmp .ge 59, 3) := by decide +kernel
theorem dX3_street_112 : decode cX3_street 112 = .ok (.aload_n 0, 1) := by decide +kernel
theorem dX3_street_113 : decode cX3_street 113 = .ok (.getfield 7, 3) := by decide +kernel
theorem dX3_street_116 : decode cX3_street 116 = .ok (.iload 6, 2) := by decide +kernel
theorem dX3_street_118 : decode cX3_street 118 = .ok (.aload_n 0, 1) := by decide +kernel
theorem dX3_street_119 : decode cX3_street 119 = .ok (.getfield 22, 3) := by decide +kernel
theorem dX3_street_122 : decode cX3_street 122 = .ok (.iload 6, 2) := by decide +kernel
theorem dX3_street_124 : decode cX3_street 124 = .ok (.iaload, 1) := by decide +kernel
theorem dX3_street_125 : decode cX3_street 125 = .ok (.iastore, 1) := by decide +kernel
theorem dX3_street_126 : decode cX3_street 126 = .ok (.aload_n 0, 1) := by decide +kernel
theorem dX3_street_127 : decode cX3_street 127 = .ok (.getfield 13, 3) := by decide +kernel
theorem dX3_street_130 : decode cX3_street 130 = .ok (.iload 6, 2) := by decide +kernel
theorem dX3_street_132 : decode cX3_street 132 = .ok (.aload_n 0, 1) := by decide +kernel
theorem dX3_street_133 : decode cX3_street 133 = .ok (.getfield 25, 3) := by decide +kernel
theorem dX3_street_136 : decode cX3_street 136 = .ok (.iload 6, 2) := by decide +kernel
theorem dX3_street_138 : decode cX3_street 138 = .ok (.iaload, 1) := by decide +kernel
theorem dX3_street_139 : decode cX3_street 139 = .ok (.iastore, 1) := by decide +kernel
theorem dX3_street_140 : decode cX3_street 140 = .ok (.aload_n 0, 1) := by decide +kernel
theorem dX3_street_141 : decode cX3_street 141 = .ok (.getfield 16, 3) := by decide +kernel
theorem dX3_street_144 : decode cX3_street 144 = .ok (.iload 6, 2) := by decide +kernel
theorem dX3_street_146 : decode cX3_street 146 = .ok (.aload_n 0, 1) := by decide +kernel
theorem dX3_street_147 : decode cX3_street 147 = .ok (.getfield 28, 3) := by decide +kernel
theorem dX3_street_150 : decode cX3_street 150 = .ok (.iload 6, 2) := by decide +kernel
theorem dX3_street_152 : decode cX3_street 152 = .ok (.iaload, 1) := by decide +kernel
theorem dX3_street_153 : decode cX3_street 153 = .ok (.iastore, 1) := by decide +kernel
theorem dX3_street_154 : decode cX3_street 154 = .ok (.aload_n 0, 1) := by decide +kernel
theorem dX3_street_155 : decode cX3_street 155 = .ok (.getfield 19, 3) := by decide +kernel
theorem dX3_street_158 : decode cX3_street 158 = .ok (.iload 6, 2) := by decide +kernel
theorem dX3_street_160 : decode cX3_street 160 = .ok (.iconst 0, 1) := by decide +kernel
theorem dX3_street_161 : decode cX3_street 161 = .ok (.iastore, 1) := by decide +kernel
theorem dX3_street_162 : decode cX3_street 162 = .ok (.iinc 6 1, 3) := by decide +kernel
theorem dX3_street_165 : decode cX3_street 165 = .ok (.goto (-62), 3) := by decide +kernel
theorem dX3_street_168 : decode cX3_street 168 = .ok (.aload_n 0, 1) := by decide +kernel
theorem dX3_street_169 : decode cX3_street 169 = .ok (.iconst 0, 1) := by decide +kernel
theorem dX3_street_170 : decode cX3_street 170 = .ok (.putfield 136, 3) := by decide +kernel
theorem dX3_street_173 : decode cX3_street 173 = .ok (.aload_n 0, 1) := by decide +kernel
theorem dX3_street_174 : decode cX3_street 174 = .ok (.aload_n 0, 1) := by decide +kernel
theorem dX3_street_175 : decode cX3_street 175 = .ok (.getfield 74, 3) := by decide +kernel
theorem dX3_street_178 : decode cX3_street 178 = .ok (.invokevirtual 118, 3) := by decide +kernel
theorem dX3_street_181 : decode cX3_street 181 = .ok (.ireturn, 1) := by decide +kernel
theorem dX3_sourOf_0 : decode cX3_sourOf 0 = .ok (.aload_n 0, 1) := by decide +kernel
theorem dX3_sourOf_1 : decode cX3_sourOf 1 = .ok (.getfield 13, 3) := by decide +kernel
theorem dX3_sourOf_4 : decode cX3_sourOf 4 = .ok (.iload_n 1, 1) := by decide +kernel
theorem dX3_sourOf_5 : decode cX3_sourOf 5 = .ok (.iaload, 1) := by decide +kernel
theorem dX3_sourOf_6 : decode cX3_sourOf 6 = .ok (.iconst 1, 1) := by decide +kernel
theorem dX3_sourOf_7 : decode cX3_sourOf 7 = .ok (.iadd, 1) := by decide +kernel
theorem dX3_sourOf_8 : decode cX3_sourOf 8 = .ok (.istore_n 2, 1) := by decide +kernel
theorem dX3_sourOf_9 : decode cX3_sourOf 9 = .ok (.aload_n 0, 1) := by decide +kernel
theorem dX3_sourOf_10 : decode cX3_sourOf 10 = .ok (.getfield 7, 3) := by decide +kernel
theorem dX3_sourOf_13 : decode cX3_sourOf 13 = .ok (.iload_n 1, 1) := by decide +kernel
theorem dX3_sourOf_14 : decode cX3_sourOf 14 = .ok (.iaload, 1) := by decide +kernel
theorem dX3_sourOf_15 : decode cX3_sourOf 15 = .ok (.ifCond .ne 12, 3) := by decide +kernel
theorem dX3_sourOf_18 : decode cX3_sourOf 18 = .ok (.aload_n 0, 1) := by decide +kernel
theorem dX3_sourOf_19 : decode cX3_sourOf 19 = .ok (.getfield 13, 3) := by decide +kernel
theorem dX3_sourOf_22 : decode cX3_sourOf 22 = .ok (.iload_n 1, 1) := by decide +kernel
theorem dX3_sourOf_23 : decode cX3_sourOf 23 = .ok (.iaload, 1) := by decide +kernel
theorem dX3_sourOf_24 : decode cX3_sourOf 24 = .ok (.goto 20, 3) := by decide +kernel
theorem dX3_sourOf_27 : decode cX3_sourOf 27 = .ok (.aload_n 0, 1) := by decide +kernel
theorem dX3_sourOf_28 : decode cX3_sourOf 28 = .ok (.getfield 7, 3) := by decide +kernel
theorem dX3_sourOf_31 : decode cX3_sourOf 31 = .ok (.iload_n 1, 1) := by decide +kernel
theorem dX3_sourOf_32 : decode cX3_sourOf 32 = .ok (.iaload, 1) := by decide +kernel
theorem dX3_sourOf_33 : decode cX3_sourOf 33 = .ok (.iconst 1, 1) := by decide +kernel
theorem dX3_sourOf_34 : decode cX3_sourOf 34 = .ok (.if_icmp .ne 7, 3) := by decide +kernel
theorem dX3_sourOf_37 : decode cX3_sourOf 37 = .ok (.iload_n 2, 1) := by decide +kernel
theorem dX3_sourOf_38 : decode cX3_sourOf 38 = .ok (.goto 6, 3) := by decide +kernel
theorem dX3_sourOf_41 : decode cX3_sourOf 41 = .ok (.iconst 2, 1) := by decide +kernel
theorem dX3_sourOf_42 : decode cX3_sourOf 42 = .ok (.iload_n 2, 1) := by decide +kernel
theorem dX3_sourOf_43 : decode cX3_sourOf 43 = .ok (.imul, 1) := by decide +kernel
theorem dX3_sourOf_44 : decode cX3_sourOf 44 = .ok (.ireturn, 1) := by decide +kernel
theorem dX3_sourOfAll_0 : decode cX3_sourOfAll 0 = .ok (.iconst 0, 1) := by decide +kernel
theorem dX3_sourOfAll_1 : decode cX3_sourOfAll 1 = .ok (.istore_n 1, 1) := by decide +kernel
theorem dX3_sourOfAll_2 : decode cX3_sourOfAll 2 = .ok (.iconst 0, 1) := by decide +kernel
theorem dX3_sourOfAll_3 : decode cX3_sourOfAll 3 = .ok (.istore_n 2, 1) := by decide +kernel
theorem dX3_sourOfAll_4 : decode cX3_sourOfAll 4 = .ok (.iload_n 2, 1) := by decide +kernel
theorem dX3_sourOfAll_5 : decode cX3_sourOfAll 5 = .ok (.aload_n 0, 1) := by decide +kernel
theorem dX3_sourOfAll_6 : decode cX3_sourOfAll 6 = .ok (.getfield 74, 3) := by decide +kernel
theorem dX3_sourOfAll_9 : decode cX3_sourOfAll 9 = .ok (.if_icmp .ge 17, 3) := by decide +kernel
theorem dX3_sourOfAll_12 : decode cX3_sourOfAll 12 = .ok (.iload_n 1, 1) := by decide +kernel
theorem dX3_sourOfAll_13 : decode cX3_sourOfAll 13 = .ok (.aload_n 0, 1) := by decide +kernel
theorem dX3_sourOfAll_14 : decode cX3_sourOfAll 14 = .ok (.iload_n 2, 1) := by decide +kernel
theorem dX3_sourOfAll_15 : decode cX3_sourOfAll 15 = .ok (.invokevirtual 139, 3) := by decide +kernel
theorem dX3_sourOfAll_18 : decode cX3_sourOfAll 18 = .ok (.iadd, 1) := by decide +kernel
theorem dX3_sourOfAll_19 : decode cX3_sourOfAll 19 = .ok (.istore_n 1, 1) := by decide +kernel
theorem dX3_sourOfAll_20 : decode cX3_sourOfAll 20 = .ok (.iinc 2 1, 3) := by decide +kernel
theorem dX3_sourOfAll_23 : decode cX3_sourOfAll 23 = .ok (.goto (-19), 3) := by decide +kernel
theorem dX3_sourOfAll_26 : decode cX3_sourOfAll 26 = .ok (.iload_n 1, 1) := by decide +kernel
theorem dX3_sourOfAll_27 : decode cX3_sourOfAll 27 = .ok (.ireturn, 1) := by decide +kernel
theorem dX3_aheadOf_0 : decode cX3_aheadOf 0 = .ok (.iload_n 2, 1) := by decide +kernel
theorem dX3_aheadOf_1 : decode cX3_aheadOf 1 = .ok (.aload_n 0, 1) := by decide +kernel
theorem dX3_aheadOf_2 : decode cX3_aheadOf 2 = .ok (.iload_n 1, 1) := by decide +kernel
theorem dX3_aheadOf_3 : decode cX3_aheadOf 3 = .ok (.invokevirtual 139, 3) := by decide +kernel
theorem dX3_aheadOf_6 : decode cX3_aheadOf 6 = .ok (.imul, 1) := by decide +kernel
theorem dX3_aheadOf_7 : decode cX3_aheadOf 7 = .ok (.iload_n 3, 1) := by decide +kernel
theorem dX3_aheadOf_8 : decode cX3_aheadOf 8 = .ok (.irem, 1) := by decide +kernel
theorem dX3_aheadOf_9 : decode cX3_aheadOf 9 = .ok (.istore 4, 2) := by decide +kernel
theorem dX3_aheadOf_11 : decode cX3_aheadOf 11 = .ok (.iconst 0, 1) := by decide +kernel
theorem dX3_aheadOf_12 : decode cX3_aheadOf 12 = .ok (.istore 5, 2) := by decide +kernel
theorem dX3_aheadOf_14 : decode cX3_aheadOf 14 = .ok (.iconst 0, 1) := by decide +kernel
theorem dX3_aheadOf_15 : decode cX3_aheadOf 15 = .ok (.istore 6, 2) := by decide +kernel
theorem dX3_aheadOf_17 : decode cX3_aheadOf 17 = .ok (.iload 6, 2) := by decide +kernel
theorem dX3_aheadOf_19 : decode cX3_aheadOf 19 = .ok (.aload_n 0, 1) := by decide +kernel
theorem dX3_aheadOf_20 : decode cX3_aheadOf 20 = .ok (.getfield 74, 3) := by decide +kernel
theorem dX3_aheadOf_23 : decode cX3_aheadOf 23 = .ok (.if_icmp .ge 51, 3) := by decide +kernel
theorem dX3_aheadOf_26 : decode cX3_aheadOf 26 = .ok (.iload_n 2, 1) := by decide +kernel
theorem dX3_aheadOf_27 : decode cX3_aheadOf 27 = .ok (.aload_n 0, 1) := by decide +kernel
theorem dX3_aheadOf_28 : decode cX3_aheadOf 28 = .ok (.iload 6, 2) := by decide +kernel
theorem dX3_aheadOf_30 : decode cX3_aheadOf 30 = .ok (.invokevirtual 139, 3) := by decide +kernel
theorem dX3_aheadOf_33 : decode cX3_aheadOf 33 = .ok (.imul, 1) := by decide +kernel
theorem dX3_aheadOf_34 : decode cX3_aheadOf 34 = .ok (.iload_n 3, 1) := by decide +kernel
theorem dX3_aheadOf_35 : decode cX3_aheadOf 35 = .ok (.irem, 1) := by decide +kernel
theorem dX3_aheadOf_36 : decode cX3_aheadOf 36 = .ok (.istore 7, 2) := by decide +kernel
theorem dX3_aheadOf_38 : decode cX3_aheadOf 38 = .ok (.iload 5, 2) := by decide +kernel
theorem dX3_aheadOf_40 : decode cX3_aheadOf 40 = .ok (.iload 7, 2) := by decide +kernel
theorem dX3_aheadOf_42 : decode cX3_aheadOf 42 = .ok (.iload 4, 2) := by decide +kernel
theorem dX3_aheadOf_44 : decode cX3_aheadOf 44 = .ok (.if_icmp .gt 16, 3) := by decide +kernel
theorem dX3_aheadOf_47 : decode cX3_aheadOf 47 = .ok (.iload 7, 2) := by decide +kernel
theorem dX3_aheadOf_49 : decode cX3_aheadOf 49 = .ok (.iload 4, 2) := by decide +kernel
theorem dX3_aheadOf_51 : decode cX3_aheadOf 51 = .ok (.if_icmp .ne 13, 3) := by decide +kernel
theorem dX3_aheadOf_54 : decode cX3_aheadOf 54 = .ok (.iload 6, 2) := by decide +kernel
theorem dX3_aheadOf_56 : decode cX3_aheadOf 56 = .ok (.iload_n 1, 1) := by decide +kernel
theorem dX3_aheadOf_57 : decode cX3_aheadOf 57 = .ok (.if_icmp .ge 7, 3) := by decide +kernel
theorem dX3_aheadOf_60 : decode cX3_aheadOf 60 = .ok (.iconst 1, 1) := by decide +kernel
theorem dX3_aheadOf_61 : decode cX3_aheadOf 61 = .ok (.goto 4, 3) := by decide +kernel
theorem dX3_aheadOf_64 : decode cX3_aheadOf 64 = .ok (.iconst 0, 1) := by decide +kernel
theorem dX3_aheadOf_65 : decode cX3_aheadOf 65 = .ok (.iadd, 1) := by decide +kernel
theorem dX3_aheadOf_66 : decode cX3_aheadOf 66 = .ok (.istore 5, 2) := by decide +kernel
theorem dX3_aheadOf_68 : decode cX3_aheadOf 68 = .ok (.iinc 6 1, 3) := by decide +kernel
theorem dX3_aheadOf_71 : decode cX3_aheadOf 71 = .ok (.goto (-54), 3) := by decide +kernel
theorem dX3_aheadOf_74 : decode cX3_aheadOf 74 = .ok (.iload 5, 2) := by decide +kernel
theorem dX3_aheadOf_76 : decode cX3_aheadOf 76 = .ok (.ireturn, 1) := by decide +kernel
theorem dX3_dealtTo_0 : decode cX3_dealtTo 0 = .ok (.aload_n 0, 1) := by decide +kernel
theorem dX3_dealtTo_1 : decode cX3_dealtTo 1 = .ok (.invokevirtual 142, 3) := by decide +kernel
theorem dX3_dealtTo_4 : decode cX3_dealtTo 4 = .ok (.istore_n 3, 1) := by decide +kernel
theorem dX3_dealtTo_5 : decode cX3_dealtTo 5 = .ok (.iload_n 3, 1) := by decide +kernel
theorem dX3_dealtTo_6 : decode cX3_dealtTo 6 = .ok (.ifCond .ne 5, 3) := by decide +kernel
theorem dX3_dealtTo_9 : decode cX3_dealtTo 9 = .ok (.iconst 0, 1) := by decide +kernel
theorem dX3_dealtTo_10 : decode cX3_dealtTo 10 = .ok (.ireturn, 1) := by decide +kernel
theorem dX3_dealtTo_11 : decode cX3_dealtTo 11 = .ok (.iload_n 2, 1) := by decide +kernel
theorem dX3_dealtTo_12 : decode cX3_dealtTo 12 = .ok (.istore 4, 2) := by decide +kernel
theorem dX3_dealtTo_14 : decode cX3_dealtTo 14 = .ok (.iconst 0, 1) := by decide +kernel
theorem dX3_dealtTo_15 : decode cX3_dealtTo 15 = .ok (.istore 5, 2) := by decide +kernel
theorem dX3_dealtTo_17 : decode cX3_dealtTo 17 = .ok (.iload 5, 2) := by decide +kernel
theorem dX3_dealtTo_19 : decode cX3_dealtTo 19 = .ok (.aload_n 0, 1) := by decide +kernel
theorem dX3_dealtTo_20 : decode cX3_dealtTo 20 = .ok (.getfield 74, 3) := by decide +kernel
theorem dX3_dealtTo_23 : decode cX3_dealtTo 23 = .ok (.if_icmp .ge 24, 3) := by decide +kernel
theorem dX3_dealtTo_26 : decode cX3_dealtTo 26 = .ok (.iload 4, 2) := by decide +kernel
theorem dX3_dealtTo_28 : decode cX3_dealtTo 28 = .ok (.iload_n 2, 1) := by decide +kernel
theorem dX3_dealtTo_29 : decode cX3_dealtTo 29 = .ok (.aload_n 0, 1) := by decide +kernel
theorem dX3_dealtTo_30 : decode cX3_dealtTo 30 = .ok (.iload 5, 2) := by decide +kernel
theorem dX3_dealtTo_32 : decode cX3_dealtTo 32 = .ok (.invokevirtual 139, 3) := by decide +kernel
theorem dX3_dealtTo_35 : decode cX3_dealtTo 35 = .ok (.imul, 1) := by decide +kernel
theorem dX3_dealtTo_36 : decode cX3_dealtTo 36 = .ok (.iload_n 3, 1) := by decide +kernel
theorem dX3_dealtTo_37 : decode cX3_dealtTo 37 = .ok (.idiv, 1) := by decide +kernel
theorem dX3_dealtTo_38 : decode cX3_dealtTo 38 = .ok (.isub, 1) := by decide +kernel
theorem dX3_dealtTo_39 : decode cX3_dealtTo 39 = .ok (.istore 4, 2) := by decide +kernel
theorem dX3_dealtTo_41 : decode cX3_dealtTo 41 = .ok (.iinc 5 1, 3) := by decide +kernel
theorem dX3_dealtTo_44 : decode cX3_dealtTo 44 = .ok (.goto (-27), 3) := by decide +kernel
theorem dX3_dealtTo_47 : decode cX3_dealtTo 47 = .ok (.iload_n 2, 1) := by decide +kernel
theorem dX3_dealtTo_48 : decode cX3_dealtTo 48 = .ok (.aload_n 0, 1) := by decide +kernel
theorem dX3_dealtTo_49 : decode cX3_dealtTo 49 = .ok (.iload_n 1, 1) := by decide +kernel
theorem dX3_dealtTo_50 : decode cX3_dealtTo 50 = .ok (.invokevirtual 139, 3) := by decide +kernel
theorem dX3_dealtTo_53 : decode cX3_dealtTo 53 = .ok (.imul, 1) := by decide +kernel
theorem dX3_dealtTo_54 : decode cX3_dealtTo 54 = .ok (.iload_n 3, 1) := by decide +kernel
theorem dX3_dealtTo_55 : decode cX3_dealtTo 55 = .ok (.idiv, 1) := by decide +kernel
theorem dX3_dealtTo_56 : decode cX3_dealtTo 56 = .ok (.aload_n 0, 1) := by decide +kernel
theorem dX3_dealtTo_57 : decode cX3_dealtTo 57 = .ok (.iload_n 1, 1) := by decide +kernel
theorem dX3_dealtTo_58 : decode cX3_dealtTo 58 = .ok (.iload_n 2, 1) := by decide +kernel
theorem dX3_dealtTo_59 : decode cX3_dealtTo 59 = .ok (.iload_n 3, 1) := by decide +kernel
theorem dX3_dealtTo_60 : decode cX3_dealtTo 60 = .ok (.invokevirtual 146, 3) := by decide +kernel
theorem dX3_dealtTo_63 : decode cX3_dealtTo 63 = .ok (.iload 4, 2) := by decide +kernel
theorem dX3_dealtTo_65 : decode cX3_dealtTo 65 = .ok (.if_icmp .ge 7, 3) := by decide +kernel
theorem dX3_dealtTo_68 : decode cX3_dealtTo 68 = .ok (.iconst 1, 1) := by decide +kernel
theorem dX3_dealtTo_69 : decode cX3_dealtTo 69 = .ok (.goto 4, 3) := by decide +kernel
theorem dX3_dealtTo_72 : decode cX3_dealtTo 72 = .ok (.iconst 0, 1) := by decide +kernel
theorem dX3_dealtTo_73 : decode cX3_dealtTo 73 = .ok (.iadd, 1) := by decide +kernel
theorem dX3_dealtTo_74 : decode cX3_dealtTo 74 = .ok (.ireturn, 1) := by decide +kernel
theorem dX3_ofHouse_0 : decode cX3_ofHouse 0 = .ok (.aload_n 0, 1) := by decide +kernel
theorem dX3_ofHouse_1 : decode cX3_ofHouse 1 = .ok (.iload_n 1, 1) := by decide +kernel
theorem dX3_ofHouse_2 : decode cX3_ofHouse 2 = .ok (.invokevirtual 149, 3) := by decide +kernel
theorem dX3_ofHouse_5 : decode cX3_ofHouse 5 = .ok (.ifCond .eq 5, 3) := by decide +kernel
theorem dX3_ofHouse_8 : decode cX3_ofHouse 8 = .ok (.iconst (-1), 1) := by decide +kernel
theorem dX3_ofHouse_9 : decode cX3_ofHouse 9 = .ok (.ireturn, 1) := by decide +kernel
theorem dX3_ofHouse_10 : decode cX3_ofHouse 10 = .ok (.iload_n 2, 1) := by decide +kernel
theorem dX3_ofHouse_11 : decode cX3_ofHouse 11 = .ok (.tableswitch 94 0 6 #[41, 48, 55, 62, 69, 78, 84], 41) := by decide +kernel
theorem dX3_ofHouse_52 : decode cX3_ofHouse 52 = .ok (.aload_n 0, 1) := by decide +kernel
theorem dX3_ofHouse_53 : decode cX3_ofHouse 53 = .ok (.getfield 7, 3) := by decide +kernel
theorem dX3_ofHouse_56 : decode cX3_ofHouse 56 = .ok (.iload_n 1, 1) := by decide +kernel
theorem dX3_ofHouse_57 : decode cX3_ofHouse 57 = .ok (.iaload, 1) := by decide +kernel
theorem dX3_ofHouse_58 : decode cX3_ofHouse 58 = .ok (.ireturn, 1) := by decide +kernel
theorem dX3_ofHouse_59 : decode cX3_ofHouse 59 = .ok (.aload_n 0, 1) := by decide +kernel
theorem dX3_ofHouse_60 : decode cX3_ofHouse 60 = .ok (.getfield 13, 3) := by decide +kernel
theorem dX3_ofHouse_63 : decode cX3_ofHouse 63 = .ok (.iload_n 1, 1) := by decide +kernel
theorem dX3_ofHouse_64 : decode cX3_ofHouse 64 = .ok (.iaload, 1) := by decide +kernel
theorem dX3_ofHouse_65 : decode cX3_ofHouse 65 = .ok (.ireturn, 1) := by decide +kernel
theorem dX3_ofHouse_66 : decode cX3_ofHouse 66 = .ok (.aload_n 0, 1) := by decide +kernel
theorem dX3_ofHouse_67 : decode cX3_ofHouse 67 = .ok (.getfield 16, 3) := by decide +kernel
theorem dX3_ofHouse_70 : decode cX3_ofHouse 70 = .ok (.iload_n 1, 1) := by decide +kernel
theorem dX3_ofHouse_71 : decode cX3_ofHouse 71 = .ok (.iaload, 1) := by decide +kernel
theorem dX3_ofHouse_72 : decode cX3_ofHouse 72 = .ok (.ireturn, 1) := by decide +kernel
theorem dX3_ofHouse_73 : decode cX3_ofHouse 73 = .ok (.aload_n 0, 1) := by decide +kernel
theorem dX3_ofHouse_74 : decode cX3_ofHouse 74 = .ok (.getfield 19, 3) := by decide +kernel
theorem dX3_ofHouse_77 : decode cX3_ofHouse 77 = .ok (.iload_n 1, 1) := by decide +kernel
theorem dX3_ofHouse_78 : decode cX3_ofHouse 78 = .ok (.iaload, 1) := by decide +kernel
theorem dX3_ofHouse_79 : decode cX3_ofHouse 79 = .ok (.ireturn, 1) := by decide +kernel
theorem dX3_ofHouse_80 : decode cX3_ofHouse 80 = .ok (.aload_n 0, 1) := by decide +kernel
theorem dX3_ofHouse_81 : decode cX3_ofHouse 81 = .ok (.getfield 19, 3) := by decide +kernel
theorem dX3_ofHouse_84 : decode cX3_ofHouse 84 = .ok (.iload_n 1, 1) := by decide +kernel
theorem dX3_ofHouse_85 : decode cX3_ofHouse 85 = .ok (.iaload, 1) := by decide +kernel
theorem dX3_ofHouse_86 : decode cX3_ofHouse 86 = .ok (.iconst 4, 1) := by decide +kernel
theorem dX3_ofHouse_87 : decode cX3_ofHouse 87 = .ok (.idiv, 1) := by decide +kernel
theorem dX3_ofHouse_88 : decode cX3_ofHouse 88 = .ok (.ireturn, 1) := by decide +kernel
theorem dX3_ofHouse_89 : decode cX3_ofHouse 89 = .ok (.aload_n 0, 1) := by decide +kernel
theorem dX3_ofHouse_90 : decode cX3_ofHouse 90 = .ok (.iload_n 1, 1) := by decide +kernel
theorem dX3_ofHouse_91 : decode cX3_ofHouse 91 = .ok (.invokevirtual 139, 3) := by decide +kernel
theorem dX3_ofHouse_94 : decode cX3_ofHouse 94 = .ok (.ireturn, 1) := by decide +kernel
theorem dX3_ofHouse_95 : decode cX3_ofHouse 95 = .ok (.aload_n 0, 1) := by decide +kernel
theorem dX3_ofHouse_96 : decode cX3_ofHouse 96 = .ok (.iload_n 1, 1) := by decide +kernel
theorem dX3_ofHouse_97 : decode cX3_ofHouse 97 = .ok (.aload_n 0, 1) := by decide +kernel
theorem dX3_ofHouse_98 : decode cX3_ofHouse 98 = .ok (.getfield 130, 3) := by decide +kernel
theorem dX3_ofHouse_101 : decode cX3_ofHouse 101 = .ok (.invokevirtual 152, 3) := by decide +kernel
theorem dX3_ofHouse_104 : decode cX3_ofHouse 104 = .ok (.ireturn, 1) := by decide +kernel
theorem dX3_ofHouse_105 : decode cX3_ofHouse 105 = .ok (.bipush (-2), 2) := by decide +kernel
theorem dX3_ofHouse_107 : decode cX3_ofHouse 107 = .ok (.ireturn, 1) := by decide +kernel
theorem dX3_anger_0 : decode cX3_anger 0 = .ok (.aload_n 0, 1) := by decide +kernel
theorem dX3_anger_1 : decode cX3_anger 1 = .ok (.iload_n 1, 1) := by decide +kernel
theorem dX3_anger_2 : decode cX3_anger 2 = .ok (.invokevirtual 149, 3) := by decide +kernel
theorem dX3_anger_5 : decode cX3_anger 5 = .ok (.ifCond .eq 5, 3) := by decide +kernel
theorem dX3_anger_8 : decode cX3_anger 8 = .ok (.iconst (-1), 1) := by decide +kernel
theorem dX3_anger_9 : decode cX3_anger 9 = .ok (.ireturn, 1) := by decide +kernel
theorem dX3_anger_10 : decode cX3_anger 10 = .ok (.iload_n 2, 1) := by decide +kernel
theorem dX3_anger_11 : decode cX3_anger 11 = .ok (.i2l, 1) := by decide +kernel
theorem dX3_anger_12 : decode cX3_anger 12 = .ok (.lconst 0, 1) := by decide +kernel
theorem dX3_anger_13 : decode cX3_anger 13 = .ok (.ldc2_w 90, 3) := by decide +kernel
theorem dX3_anger_16 : decode cX3_anger 16 = .ok (.invokestatic 77, 3) := by decide +kernel
theorem dX3_anger_19 : decode cX3_anger 19 = .ok (.ifCond .ne 6, 3) := by decide +kernel
theorem dX3_anger_22 : decode cX3_anger 22 = .ok (.bipush (-2), 2) := by decide +kernel
theorem dX3_anger_24 : decode cX3_anger 24 = .ok (.ireturn, 1) := by decide +kernel
theorem dX3_anger_25 : decode cX3_anger 25 = .ok (.aload_n 0, 1) := by decide +kernel
theorem dX3_anger_26 : decode cX3_anger 26 = .ok (.getfield 13, 3) := by decide +kernel
theorem dX3_anger_29 : decode cX3_anger 29 = .ok (.iload_n 1, 1) := by decide +kernel
theorem dX3_anger_30 : decode cX3_anger 30 = .ok (.iaload, 1) := by decide +kernel
theorem dX3_anger_31 : decode cX3_anger 31 = .ok (.istore_n 3, 1) := by decide +kernel
theorem dX3_anger_32 : decode cX3_anger 32 = .ok (.aload_n 0, 1) := by decide +kernel
theorem dX3_anger_33 : decode cX3_anger 33 = .ok (.getfield 13, 3) := by decide +kernel
theorem dX3_anger_36 : decode cX3_anger 36 = .ok (.iload_n 1, 1) := by decide +kernel
theorem dX3_anger_37 : decode cX3_anger 37 = .ok (.iload_n 2, 1) := by decide +kernel
theorem dX3_anger_38 : decode cX3_anger 38 = .ok (.iastore, 1) := by decide +kernel
theorem dX3_anger_39 : decode cX3_anger 39 = .ok (.iload_n 3, 1) := by decide +kernel
theorem dX3_anger_40 : decode cX3_anger 40 = .ok (.ireturn, 1) := by decide +kernel
theorem dX3_crate_0 : decode cX3_crate 0 = .ok (.aload_n 0, 1) := by decide +kernel
theorem dX3_crate_1 : decode cX3_crate 1 = .ok (.getfield 74, 3) := by decide +kernel
theorem dX3_crate_4 : decode cX3_crate 4 = .ok (.ifCond .ne 6, 3) := by decide +kernel
theorem dX3_crate_7 : decode cX3_crate 7 = .ok (.bipush (-3), 2) := by decide +kernel
theorem dX3_crate_9 : decode cX3_crate 9 = .ok (.ireturn, 1) := by decide +kernel
theorem dX3_crate_10 : decode cX3_crate 10 = .ok (.iload_n 1, 1) := by decide +kernel
theorem dX3_crate_11 : decode cX3_crate 11 = .ok (.invokestatic 155, 3) := by decide +kernel
theorem dX3_crate_14 : decode cX3_crate 14 = .ok (.ifCond .ne 6, 3) := by decide +kernel
theorem dX3_crate_17 : decode cX3_crate 17 = .ok (.bipush (-2), 2) := by decide +kernel
theorem dX3_crate_19 : decode cX3_crate 19 = .ok (.ireturn, 1) := by decide +kernel
theorem dX3_crate_20 : decode cX3_crate 20 = .ok (.aload_n 0, 1) := by decide +kernel
theorem dX3_crate_21 : decode cX3_crate 21 = .ok (.getfield 130, 3) := by decide +kernel
theorem dX3_crate_24 : decode cX3_crate 24 = .ok (.istore_n 2, 1) := by decide +kernel
theorem dX3_crate_25 : decode cX3_crate 25 = .ok (.aload_n 0, 1) := by decide +kernel
theorem dX3_crate_26 : decode cX3_crate 26 = .ok (.iload_n 1, 1) := by decide +kernel
theorem dX3_crate_27 : decode cX3_crate 27 = .ok (.putfield 130, 3) := by decide +kernel
theorem dX3_crate_30 : decode cX3_crate 30 = .ok (.iload_n 2, 1) := by decide +kernel
theorem dX3_crate_31 : decode cX3_crate 31 = .ok (.ireturn, 1) := by decide +kernel
theorem dX3_deal_0 : decode cX3_deal 0 = .ok (.aload_n 0, 1) := by decide +kernel
theorem dX3_deal_1 : decode cX3_deal 1 = .ok (.iload_n 1, 1) := by decide +kernel
theorem dX3_deal_2 : decode cX3_deal 2 = .ok (.invokevirtual 149, 3) := by decide +kernel
theorem dX3_deal_5 : decode cX3_deal 5 = .ok (.ifCond .eq 5, 3) := by decide +kernel
theorem dX3_deal_8 : decode cX3_deal 8 = .ok (.iconst (-1), 1) := by decide +kernel
theorem dX3_deal_9 : decode cX3_deal 9 = .ok (.ireturn, 1) := by decide +kernel
theorem dX3_deal_10 : decode cX3_deal 10 = .ok (.iload_n 2, 1) := by decide +kernel
theorem dX3_deal_11 : decode cX3_deal 11 = .ok (.invokestatic 155, 3) := by decide +kernel
theorem dX3_deal_14 : decode cX3_deal 14 = .ok (.ifCond .eq 12, 3) := by decide +kernel
theorem dX3_deal_17 : decode cX3_deal 17 = .ok (.aload_n 0, 1) := by decide +kernel
theorem dX3_deal_18 : decode cX3_deal 18 = .ok (.iload_n 1, 1) := by decide +kernel
theorem dX3_deal_19 : decode cX3_deal 19 = .ok (.iload_n 2, 1) := by decide +kernel
theorem dX3_deal_20 : decode cX3_deal 20 = .ok (.invokevirtual 152, 3) := by decide +kernel
theorem dX3_deal_23 : decode cX3_deal 23 = .ok (.goto 5, 3) := by decide +kernel
theorem dX3_deal_26 : decode cX3_deal 26 = .ok (.bipush (-2), 2) := by decide +kernel
theorem dX3_deal_28 : decode cX3_deal 28 = .ok (.ireturn, 1) := by decide +kernel
theorem dX3_passes_0 : decode cX3_passes 0 = .ok (.iconst 0, 1) := by decide +kernel
theorem dX3_passes_1 : decode cX3_passes 1 = .ok (.istore_n 1, 1) := by decide +kernel
theorem dX3_passes_2 : decode cX3_passes 2 = .ok (.iload_n 1, 1) := by decide +kernel
theorem dX3_passes_3 : decode cX3_passes 3 = .ok (.aload_n 0, 1) := by decide +kernel
theorem dX3_passes_4 : decode cX3_passes 4 = .ok (.getfield 74, 3) := by decide +kernel
theorem dX3_passes_7 : decode cX3_passes 7 = .ok (.if_icmp .ge 33, 3) := by decide +kernel
theorem dX3_passes_10 : decode cX3_passes 10 = .ok (.aload_n 0, 1) := by decide +kernel
theorem dX3_passes_11 : decode cX3_passes 11 = .ok (.getfield 31, 3) := by decide +kernel
theorem dX3_passes_14 : decode cX3_passes 14 = .ok (.iload_n 1, 1) := by decide +kernel
theorem dX3_passes_15 : decode cX3_passes 15 = .ok (.aload_n 0, 1) := by decide +kernel
theorem dX3_passes_16 : decode cX3_passes 16 = .ok (.iload_n 1, 1) := by decide +kernel
theorem dX3_passes_17 : decode cX3_passes 17 = .ok (.aload_n 0, 1) := by decide +kernel
theorem dX3_passes_18 : decode cX3_passes 18 = .ok (.getfield 130, 3) := by decide +kernel
theorem dX3_passes_21 : decode cX3_passes 21 = .ok (.invokevirtual 152, 3) := by decide +kernel
theorem dX3_passes_24 : decode cX3_passes 24 = .ok (.aload_n 0, 1) := by decide +kernel
theorem dX3_passes_25 : decode cX3_passes 25 = .ok (.getfield 19, 3) := by decide +kernel
theorem dX3_passes_28 : decode cX3_passes 28 = .ok (.iload_n 1, 1) := by decide +kernel
theorem dX3_passes_29 : decode cX3_passes 29 = .ok (.iaload, 1) := by decide +kernel
theorem dX3_passes_30 : decode cX3_passes 30 = .ok (.iconst 4, 1) := by decide +kernel
theorem dX3_passes_31 : decode cX3_passes 31 = .ok (.idiv, 1) := by decide +kernel
theorem dX3_passes_32 : decode cX3_passes 32 = .ok (.iadd, 1) := by decide +kernel
theorem dX3_passes_33 : decode cX3_passes 33 = .ok (.iastore, 1) := by decide +kernel
theorem dX3_passes_34 : decode cX3_passes 34 = .ok (.iinc 1 1, 3) := by decide +kernel
theorem dX3_passes_37 : decode cX3_passes 37 = .ok (.goto (-35), 3) := by decide +kernel
theorem dX3_passes_40 : decode cX3_passes 40 = .ok (.iconst 0, 1) := by decide +kernel
theorem dX3_passes_41 : decode cX3_passes 41 = .ok (.istore_n 1, 1) := by decide +kernel
theorem dX3_passes_42 : decode cX3_passes 42 = .ok (.iload_n 1, 1) := by decide +kernel
theorem dX3_passes_43 : decode cX3_passes 43 = .ok (.aload_n 0, 1) := by decide +kernel
theorem dX3_passes_44 : decode cX3_passes 44 = .ok (.getfield 74, 3) := by decide +kernel
theorem dX3_passes_47 : decode cX3_passes 47 = .ok (.if_icmp .ge 120, 3) := by decide +kernel
theorem dX3_passes_50 : decode cX3_passes 50 = .ok (.aload_n 0, 1) := by decide +kernel
theorem dX3_passes_51 : decode cX3_passes 51 = .ok (.getfield 16, 3) := by decide +kernel
theorem dX3_passes_54 : decode cX3_passes 54 = .ok (.iload_n 1, 1) := by decide +kernel
theorem dX3_passes_55 : decode cX3_passes 55 = .ok (.dup2, 1) := by decide +kernel
theorem dX3_passes_56 : decode cX3_passes 56 = .ok (.iaload, 1) := by decide +kernel
theorem dX3_passes_57 : decode cX3_passes 57 = .ok (.aload_n 0, 1) := by decide +kernel
theorem dX3_passes_58 : decode cX3_passes 58 = .ok (.getfield 31, 3) := by decide +kernel
theorem dX3_passes_61 : decode cX3_passes 61 = .ok (.iload_n 1, 1) := by decide +kernel
theorem dX3_passes_62 : decode cX3_passes 62 = .ok (.iaload, 1) := by decide +kernel
theorem dX3_passes_63 : decode cX3_passes 63 = .ok (.iadd, 1) := by decide +kernel
theorem dX3_passes_64 : decode cX3_passes 64 = .ok (.iastore, 1) := by decide +kernel
theorem dX3_passes_65 : decode cX3_passes 65 = .ok (.aload_n 0, 1) := by decide +kernel
theorem dX3_passes_66 : decode cX3_passes 66 = .ok (.getfield 16, 3) := by decide +kernel
theorem dX3_passes_69 : decode cX3_passes 69 = .ok (.iload_n 1, 1) := by decide +kernel
theorem dX3_passes_70 : decode cX3_passes 70 = .ok (.iaload, 1) := by decide +kernel
theorem dX3_passes_71 : decode cX3_passes 71 = .ok (.ifCond .le 7, 3) := by decide +kernel
theorem dX3_passes_74 : decode cX3_passes 74 = .ok (.iconst 1, 1) := by decide +kernel
theorem dX3_passes_75 : decode cX3_passes 75 = .ok (.goto 4, 3) := by decide +kernel
theorem dX3_passes_78 : decode cX3_passes 78 = .ok (.iconst 0, 1) := by decide +kernel
theorem dX3_passes_79 : decode cX3_passes 79 = .ok (.istore_n 2, 1) := by decide +kernel
theorem dX3_passes_80 : decode cX3_passes 80 = .ok (.aload_n 0, 1) := by decide +kernel
theorem dX3_passes_81 : decode cX3_passes 81 = .ok (.getfield 13, 3) := by decide +kernel
theorem dX3_passes_84 : decode cX3_passes 84 = .ok (.iload_n 1, 1) := by decide +kernel
theorem dX3_passes_85 : decode cX3_passes 85 = .ok (.iaload, 1) := by decide +kernel
theorem dX3_passes_86 : decode cX3_passes 86 = .ok (.iload_n 2, 1) := by decide +kernel
theorem dX3_passes_87 : decode cX3_passes 87 = .ok (.ifCond .eq 7, 3) := by decide +kernel
theorem dX3_passes_90 : decode cX3_passes 90 = .ok (.iconst (-1), 1) := by decide +kernel
theorem dX3_passes_91 : decode cX3_passes 91 = .ok (.goto 4, 3) := by decide +kernel
theorem dX3_passes_94 : decode cX3_passes 94 = .ok (.iconst 1, 1) := by decide +kernel
theorem dX3_passes_95 : decode cX3_passes 95 = .ok (.iadd, 1) := by decide +kernel
theorem dX3_passes_96 : decode cX3_passes 96 = .ok (.istore_n 3, 1) := by decide +kernel
theorem dX3_passes_97 : decode cX3_passes 97 = .ok (.aload_n 0, 1) := by decide +kernel
theorem dX3_passes_98 : decode cX3_passes 98 = .ok (.getfield 16, 3) := by decide +kernel
theorem dX3_passes_101 : decode cX3_passes 101 = .ok (.iload_n 1, 1) := by decide +kernel
theorem dX3_passes_102 : decode cX3_passes 102 = .ok (.dup2, 1) := by decide +kernel
theorem dX3_passes_103 : decode cX3_passes 103 = .ok (.iaload, 1) := by decide +kernel
theorem dX3_passes_104 : decode cX3_passes 104 = .ok (.iload_n 2, 1) := by decide +kernel
theorem dX3_passes_105 : decode cX3_passes 105 = .ok (.ifCond .eq 7, 3) := by decide +kernel
theorem dX3_passes_108 : decode cX3_passes 108 = .ok (.iconst 1, 1) := by decide +kernel
theorem dX3_passes_109 : decode cX3_passes 109 = .ok (.goto 4, 3) := by decide +kernel
theorem dX3_passes_112 : decode cX3_passes 112 = .ok (.iconst 0, 1) := by decide +kernel
theorem dX3_passes_113 : decode cX3_passes 113 = .ok (.isub, 1) := by decide +kernel
theorem dX3_passes_114 : decode cX3_passes 114 = .ok (.iastore, 1) := by decide +kernel
theorem dX3_passes_115 : decode cX3_passes 115 = .ok (.aload_n 0, 1) := by decide +kernel
theorem dX3_passes_116 : decode cX3_passes 116 = .ok (.getfield 19, 3) := by decide +kernel
theorem dX3_passes_119 : decode cX3_passes 119 = .ok (.iload_n 1, 1) := by decide +kernel
theorem dX3_passes_120 : decode cX3_passes 120 = .ok (.dup2, 1) := by decide +kernel
theorem dX3_passes_121 : decode cX3_passes 121 = .ok (.iaload, 1) := by decide +kernel
theorem dX3_passes_122 : decode cX3_passes 122 = .ok (.iload_n 2, 1) := by decide +kernel
theorem dX3_passes_123 : decode cX3_passes 123 = .ok (.ifCond .eq 7, 3) := by decide +kernel
theorem dX3_passes_126 : decode cX3_passes 126 = .ok (.iconst 1, 1) := by decide +kernel
theorem dX3_passes_127 : decode cX3_passes 127 = .ok (.goto 4, 3) := by decide +kernel
theorem dX3_passes_130 : decode cX3_passes 130 = .ok (.iconst 0, 1) := by decide +kernel
theorem dX3_passes_131 : decode cX3_passes 131 = .ok (.iadd, 1) := by decide +kernel
theorem dX3_passes_132 : decode cX3_passes 132 = .ok (.iastore, 1) := by decide +kernel
theorem dX3_passes_133 : decode cX3_passes 133 = .ok (.aload_n 0, 1) := by decide +kernel
theorem dX3_passes_134 : decode cX3_passes 134 = .ok (.getfield 13, 3) := by decide +kernel
theorem dX3_passes_137 : decode cX3_passes 137 = .ok (.iload_n 1, 1) := by decide +kernel
theorem dX3_passes_138 : decode cX3_passes 138 = .ok (.iload_n 3, 1) := by decide +kernel
theorem dX3_passes_139 : decode cX3_passes 139 = .ok (.i2l, 1) := by decide +kernel
theorem dX3_passes_140 : decode cX3_passes 140 = .ok (.lconst 0, 1) := by decide +kernel
theorem dX3_passes_141 : decode cX3_passes 141 = .ok (.ldc2_w 90, 3) := by decide +kernel
theorem dX3_passes_144 : decode cX3_passes 144 = .ok (.invokestatic 77, 3) := by decide +kernel
theorem dX3_passes_147 : decode cX3_passes 147 = .ok (.ifCond .eq 7, 3) := by decide +kernel
theorem dX3_passes_150 : decode cX3_passes 150 = .ok (.iload_n 3, 1) := by decide +kernel
theorem dX3_passes_151 : decode cX3_passes 151 = .ok (.goto 9, 3) := by decide +kernel
theorem dX3_passes_154 : decode cX3_passes 154 = .ok (.aload_n 0, 1) := by decide +kernel
theorem dX3_passes_155 : decode cX3_passes 155 = .ok (.getfield 13, 3) := by decide +kernel
theorem dX3_passes_158 : decode cX3_passes 158 = .ok (.iload_n 1, 1) := by decide +kernel
theorem dX3_passes_159 : decode cX3_passes 159 = .ok (.iaload, 1) := by decide +kernel
theorem dX3_passes_160 : decode cX3_passes 160 = .ok (.iastore, 1) := by decide +kernel
theorem dX3_passes_161 : decode cX3_passes 161 = .ok (.iinc 1 1, 3) := by decide +kernel
theorem dX3_passes_164 : decode cX3_passes 164 = .ok (.goto (-122), 3) := by decide +kernel
theorem dX3_passes_167 : decode cX3_passes 167 = .ok (.aload_n 0, 1) := by decide +kernel
theorem dX3_passes_168 : decode cX3_passes 168 = .ok (.dup, 1) := by decide +kernel
theorem dX3_passes_169 : decode cX3_passes 169 = .ok (.getfield 133, 3) := by decide +kernel
theorem dX3_passes_172 : decode cX3_passes 172 = .ok (.iconst 1, 1) := by decide +kernel
theorem dX3_passes_173 : decode cX3_passes 173 = .ok (.iadd, 1) := by decide +kernel
theorem dX3_passes_174 : decode cX3_passes 174 = .ok (.putfield 133, 3) := by decide +kernel
theorem dX3_passes_177 : decode cX3_passes 177 = .ok (.return_, 1) := by decide +kernel
theorem dX3_without_0 : decode cX3_without 0 = .ok (.iconst 0, 1) := by decide +kernel
theorem dX3_without_1 : decode cX3_without 1 = .ok (.istore_n 1, 1) := by decide +kernel
theorem dX3_without_2 : decode cX3_without 2 = .ok (.iconst 0, 1) := by decide +kernel
theorem dX3_without_3 : decode cX3_without 3 = .ok (.istore_n 2, 1) := by decide +kernel
theorem dX3_without_4 : decode cX3_without 4 = .ok (.iload_n 2, 1) := by decide +kernel
theorem dX3_without_5 : decode cX3_without 5 = .ok (.aload_n 0, 1) := by decide +kernel
theorem dX3_without_6 : decode cX3_without 6 = .ok (.getfield 74, 3) := by decide +kernel
theorem dX3_without_9 : decode cX3_without 9 = .ok (.if_icmp .ge 26, 3) := by decide +kernel
theorem dX3_without_12 : decode cX3_without 12 = .ok (.iload_n 1, 1) := by decide +kernel
theorem dX3_without_13 : decode cX3_without 13 = .ok (.aload_n 0, 1) := by decide +kernel
theorem dX3_without_14 : decode cX3_without 14 = .ok (.getfield 16, 3) := by decide +kernel
theorem dX3_without_17 : decode cX3_without 17 = .ok (.iload_n 2, 1) := by decide +kernel
theorem dX3_without_18 : decode cX3_without 18 = .ok (.iaload, 1) := by decide +kernel
theorem dX3_without_19 : decode cX3_without 19 = .ok (.ifCond .ne 7, 3) := by decide +kernel
theorem dX3_without_22 : decode cX3_without 22 = .ok (.iconst 1, 1) := by decide +kernel
theorem dX3_without_23 : decode cX3_without 23 = .ok (.goto 4, 3) := by decide +kernel
theorem dX3_without_26 : decode cX3_without 26 = .ok (.iconst 0, 1) := by decide +kernel
theorem dX3_without_27 : decode cX3_without 27 = .ok (.iadd, 1) := by decide +kernel
theorem dX3_without_28 : decode cX3_without 28 = .ok (.istore_n 1, 1) := by decide +kernel
theorem dX3_without_29 : decode cX3_without 29 = .ok (.iinc 2 1, 3) := by decide +kernel
theorem dX3_without_32 : decode cX3_without 32 = .ok (.goto (-28), 3) := by decide +kernel
theorem dX3_without_35 : decode cX3_without 35 = .ok (.iload_n 1, 1) := by decide +kernel
theorem dX3_without_36 : decode cX3_without 36 = .ok (.ireturn, 1) := by decide +kernel
theorem dX3_weeks_0 : decode cX3_weeks 0 = .ok (.iload_n 1, 1) := by decide +kernel
theorem dX3_weeks_1 : decode cX3_weeks 1 = .ok (.i2l, 1) := by decide +kernel
theorem dX3_weeks_2 : decode cX3_weeks 2 = .ok (.lconst 1, 1) := by decide +kernel
theorem dX3_weeks_3 : decode cX3_weeks 3 = .ok (.ldc2_w 158, 3) := by decide +kernel
theorem dX3_weeks_6 : decode cX3_weeks 6 = .ok (.invokestatic 77, 3) := by decide +kernel
theorem dX3_weeks_9 : decode cX3_weeks 9 = .ok (.ifCond .ne 6, 3) := by decide +kernel
theorem dX3_weeks_12 : decode cX3_weeks 12 = .ok (.bipush (-2), 2) := by decide +kernel
theorem dX3_weeks_14 : decode cX3_weeks 14 = .ok (.ireturn, 1) := by decide +kernel
theorem dX3_weeks_15 : decode cX3_weeks 15 = .ok (.aload_n 0, 1) := by decide +kernel
theorem dX3_weeks_16 : decode cX3_weeks 16 = .ok (.getfield 74, 3) := by decide +kernel
theorem dX3_weeks_19 : decode cX3_weeks 19 = .ok (.ifCond .ne 6, 3) := by decide +kernel
theorem dX3_weeks_22 : decode cX3_weeks 22 = .ok (.bipush (-3), 2) := by decide +kernel
theorem dX3_weeks_24 : decode cX3_weeks 24 = .ok (.ireturn, 1) := by decide +kernel
theorem dX3_weeks_25 : decode cX3_weeks 25 = .ok (.iconst 0, 1) := by decide +kernel
theorem dX3_weeks_26 : decode cX3_weeks 26 = .ok (.istore_n 2, 1) := by decide +kernel
theorem dX3_weeks_27 : decode cX3_weeks 27 = .ok (.iload_n 2, 1) := by decide +kernel
theorem dX3_weeks_28 : decode cX3_weeks 28 = .ok (.iload_n 1, 1) := by decide +kernel
theorem dX3_weeks_29 : decode cX3_weeks 29 = .ok (.if_icmp .ge 13, 3) := by decide +kernel
theorem dX3_weeks_32 : decode cX3_weeks 32 = .ok (.aload_n 0, 1) := by decide +kernel
theorem dX3_weeks_33 : decode cX3_weeks 33 = .ok (.invokevirtual 160, 3) := by decide +kernel
theorem dX3_weeks_36 : decode cX3_weeks 36 = .ok (.iinc 2 1, 3) := by decide +kernel
theorem dX3_weeks_39 : decode cX3_weeks 39 = .ok (.goto (-12), 3) := by decide +kernel
theorem dX3_weeks_42 : decode cX3_weeks 42 = .ok (.aload_n 0, 1) := by decide +kernel
theorem dX3_weeks_43 : decode cX3_weeks 43 = .ok (.invokevirtual 163, 3) := by decide +kernel
theorem dX3_weeks_46 : decode cX3_weeks 46 = .ok (.ireturn, 1) := by decide +kernel
theorem dX3_gave_0 : decode cX3_gave 0 = .ok (.aload_n 0, 1) := by decide +kernel
theorem dX3_gave_1 : decode cX3_gave 1 = .ok (.getfield 16, 3) := by decide +kernel
theorem dX3_gave_4 : decode cX3_gave 4 = .ok (.iload_n 1, 1) := by decide +kernel
theorem dX3_gave_5 : decode cX3_gave 5 = .ok (.iaload, 1) := by decide +kernel
theorem dX3_gave_6 : decode cX3_gave 6 = .ok (.ifCond .le 7, 3) := by decide +kernel
theorem dX3_gave_9 : decode cX3_gave 9 = .ok (.iconst 1, 1) := by decide +kernel
theorem dX3_gave_10 : decode cX3_gave 10 = .ok (.goto 4, 3) := by decide +kernel
theorem dX3_gave_13 : decode cX3_gave 13 = .ok (.iconst 0, 1) := by decide +kernel
theorem dX3_gave_14 : decode cX3_gave 14 = .ok (.istore_n 2, 1) := by decide +kernel
theorem dX3_gave_15 : decode cX3_gave 15 = .ok (.iload_n 1, 1) := by decide +kernel
theorem dX3_gave_16 : decode cX3_gave 16 = .ok (.iconst 1, 1) := by decide +kernel
theorem dX3_gave_17 : decode cX3_gave 17 = .ok (.iadd, 1) := by decide +kernel
theorem dX3_gave_18 : decode cX3_gave 18 = .ok (.aload_n 0, 1) := by decide +kernel
theorem dX3_gave_19 : decode cX3_gave 19 = .ok (.getfield 74, 3) := by decide +kernel
theorem dX3_gave_22 : decode cX3_gave 22 = .ok (.if_icmp .ne 7, 3) := by decide +kernel
theorem dX3_gave_25 : decode cX3_gave 25 = .ok (.iconst 0, 1) := by decide +kernel
theorem dX3_gave_26 : decode cX3_gave 26 = .ok (.goto 6, 3) := by decide +kernel
theorem dX3_gave_29 : decode cX3_gave 29 = .ok (.iload_n 1, 1) := by decide +kernel
theorem dX3_gave_30 : decode cX3_gave 30 = .ok (.iconst 1, 1) := by decide +kernel
theorem dX3_gave_31 : decode cX3_gave 31 = .ok (.iadd, 1) := by decide +kernel
theorem dX3_gave_32 : decode cX3_gave 32 = .ok (.istore_n 3, 1) := by decide +kernel
theorem dX3_gave_33 : decode cX3_gave 33 = .ok (.aload_n 0, 1) := by decide +kernel
theorem dX3_gave_34 : decode cX3_gave 34 = .ok (.getfield 16, 3) := by decide +kernel
theorem dX3_gave_37 : decode cX3_gave 37 = .ok (.iload_n 1, 1) := by decide +kernel
theorem dX3_gave_38 : decode cX3_gave 38 = .ok (.dup2, 1) := by decide +kernel
theorem dX3_gave_39 : decode cX3_gave 39 = .ok (.iaload, 1) := by decide +kernel
theorem dX3_gave_40 : decode cX3_gave 40 = .ok (.iload_n 2, 1) := by decide +kernel
theorem dX3_gave_41 : decode cX3_gave 41 = .ok (.ifCond .eq 7, 3) := by decide +kernel
theorem dX3_gave_44 : decode cX3_gave 44 = .ok (.iconst 1, 1) := by decide +kernel
theorem dX3_gave_45 : decode cX3_gave 45 = .ok (.goto 4, 3) := by decide +kernel
theorem dX3_gave_48 : decode cX3_gave 48 = .ok (.iconst 0, 1) := by decide +kernel
theorem dX3_gave_49 : decode cX3_gave 49 = .ok (.isub, 1) := by decide +kernel
theorem dX3_gave_50 : decode cX3_gave 50 = .ok (.iastore, 1) := by decide +kernel
theorem dX3_gave_51 : decode cX3_gave 51 = .ok (.aload_n 0, 1) := by decide +kernel
theorem dX3_gave_52 : decode cX3_gave 52 = .ok (.getfield 16, 3) := by decide +kernel
theorem dX3_gave_55 : decode cX3_gave 55 = .ok (.iload_n 3, 1) := by decide +kernel
theorem dX3_gave_56 : decode cX3_gave 56 = .ok (.dup2, 1) := by decide +kernel
theorem dX3_gave_57 : decode cX3_gave 57 = .ok (.iaload, 1) := by decide +kernel
theorem dX3_gave_58 : decode cX3_gave 58 = .ok (.iload_n 2, 1) := by decide +kernel
theorem dX3_gave_59 : decode cX3_gave 59 = .ok (.ifCond .eq 7, 3) := by decide +kernel
theorem dX3_gave_62 : decode cX3_gave 62 = .ok (.iconst 1, 1) := by decide +kernel
theorem dX3_gave_63 : decode cX3_gave 63 = .ok (.goto 4, 3) := by decide +kernel
theorem dX3_gave_66 : decode cX3_gave 66 = .ok (.iconst 0, 1) := by decide +kernel
theorem dX3_gave_67 : decode cX3_gave 67 = .ok (.iadd, 1) := by decide +kernel
theorem dX3_gave_68 : decode cX3_gave 68 = .ok (.iastore, 1) := by decide +kernel
theorem dX3_gave_69 : decode cX3_gave 69 = .ok (.iload_n 2, 1) := by decide +kernel
theorem dX3_gave_70 : decode cX3_gave 70 = .ok (.ireturn, 1) := by decide +kernel
theorem dX3_gift_0 : decode cX3_gift 0 = .ok (.aload_n 0, 1) := by decide +kernel
theorem dX3_gift_1 : decode cX3_gift 1 = .ok (.iload_n 1, 1) := by decide +kernel
theorem dX3_gift_2 : decode cX3_gift 2 = .ok (.invokevirtual 149, 3) := by decide +kernel
theorem dX3_gift_5 : decode cX3_gift 5 = .ok (.ifCond .eq 5, 3) := by decide +kernel
theorem dX3_gift_8 : decode cX3_gift 8 = .ok (.iconst (-1), 1) := by decide +kernel
theorem dX3_gift_9 : decode cX3_gift 9 = .ok (.ireturn, 1) := by decide +kernel
theorem dX3_gift_10 : decode cX3_gift 10 = .ok (.aload_n 0, 1) := by decide +kernel
theorem dX3_gift_11 : decode cX3_gift 11 = .ok (.iload_n 1, 1) := by decide +kernel
theorem dX3_gift_12 : decode cX3_gift 12 = .ok (.invokevirtual 166, 3) := by decide +kernel
theorem dX3_gift_15 : decode cX3_gift 15 = .ok (.ifCond .eq 12, 3) := by decide +kernel
theorem dX3_gift_18 : decode cX3_gift 18 = .ok (.aload_n 0, 1) := by decide +kernel
theorem dX3_gift_19 : decode cX3_gift 19 = .ok (.getfield 16, 3) := by decide +kernel
theorem dX3_gift_22 : decode cX3_gift 22 = .ok (.iload_n 1, 1) := by decide +kernel
theorem dX3_gift_23 : decode cX3_gift 23 = .ok (.iaload, 1) := by decide +kernel
theorem dX3_gift_24 : decode cX3_gift 24 = .ok (.goto 5, 3) := by decide +kernel
theorem dX3_gift_27 : decode cX3_gift 27 = .ok (.bipush (-3), 2) := by decide +kernel
theorem dX3_gift_29 : decode cX3_gift 29 = .ok (.ireturn, 1) := by decide +kernel
theorem dX3_keepAll_0 : decode cX3_keepAll 0 = .ok (.aload_n 0, 1) := by decide +kernel
theorem dX3_keepAll_1 : decode cX3_keepAll 1 = .ok (.aload_n 0, 1) := by decide +kernel
theorem dX3_keepAll_2 : decode cX3_keepAll 2 = .ok (.getfield 130, 3) := by decide +kernel
theorem dX3_keepAll_5 : decode cX3_keepAll 5 = .ok (.putfield 169, 3) := by decide +kernel
theorem dX3_keepAll_8 : decode cX3_keepAll 8 = .ok (.aload_n 0, 1) := by decide +kernel
theorem dX3_keepAll_9 : decode cX3_keepAll 9 = .ok (.aload_n 0, 1) := by decide +kernel
theorem dX3_keepAll_10 : decode cX3_keepAll 10 = .ok (.getfield 133, 3) := by decide +kernel
theorem dX3_keepAll_13 : decode cX3_keepAll 13 = .ok (.putfield 172, 3) := by decide +kernel
theorem dX3_keepAll_16 : decode cX3_keepAll 16 = .ok (.iconst 0, 1) := by decide +kernel
theorem dX3_keepAll_17 : decode cX3_keepAll 17 = .ok (.istore_n 1, 1) := by decide +kernel
theorem dX3_keepAll_18 : decode cX3_keepAll 18 = .ok (.iload_n 1, 1) := by decide +kernel
theorem dX3_keepAll_19 : decode cX3_keepAll 19 = .ok (.aload_n 0, 1) := by decide +kernel
theorem dX3_keepAll_20 : decode cX3_keepAll 20 = .ok (.getfield 74, 3) := by decide +kernel
theorem dX3_keepAll_23 : decode cX3_keepAll 23 = .ok (.if_icmp .ge 45, 3) := by decide +kernel
theorem dX3_keepAll_26 : decode cX3_keepAll 26 = .ok (.aload_n 0, 1) := by decide +kernel
theorem dX3_keepAll_27 : decode cX3_keepAll 27 = .ok (.getfield 34, 3) := by decide +kernel
theorem dX3_keepAll_30 : decode cX3_keepAll 30 = .ok (.iload_n 1, 1) := by decide +kernel
theorem dX3_keepAll_31 : decode cX3_keepAll 31 = .ok (.aload_n 0, 1) := by decide +kernel
theorem dX3_keepAll_32 : decode cX3_keepAll 32 = .ok (.getfield 13, 3) := by decide +kernel
theorem dX3_keepAll_35 : decode cX3_keepAll 35 = .ok (.iload_n 1, 1) := by decide +kernel
theorem dX3_keepAll_36 : decode cX3_keepAll 36 = .ok (.iaload, 1) := by decide +kernel
theorem dX3_keepAll_37 : decode cX3_keepAll 37 = .ok (.iastore, 1) := by decide +kernel
theorem dX3_keepAll_38 : decode cX3_keepAll 38 = .ok (.aload_n 0, 1) := by decide +kernel
theorem dX3_keepAll_39 : decode cX3_keepAll 39 = .ok (.getfield 37, 3) := by decide +kernel
theorem dX3_keepAll_42 : decode cX3_keepAll 42 = .ok (.iload_n 1, 1) := by decide +kernel
theorem dX3_keepAll_43 : decode cX3_keepAll 43 = .ok (.aload_n 0, 1) := by decide +kernel
theorem dX3_keepAll_44 : decode cX3_keepAll 44 = .ok (.getfield 16, 3) := by decide +kernel
theorem dX3_keepAll_47 : decode cX3_keepAll 47 = .ok (.iload_n 1, 1) := by decide +kernel
theorem dX3_keepAll_48 : decode cX3_keepAll 48 = .ok (.iaload, 1) := by decide +kernel
theorem dX3_keepAll_49 : decode cX3_keepAll 49 = .ok (.iastore, 1) := by decide +kernel
theorem dX3_keepAll_50 : decode cX3_keepAll 50 = .ok (.aload_n 0, 1) := by decide +kernel
theorem dX3_keepAll_51 : decode cX3_keepAll 51 = .ok (.getfield 40, 3) := by decide +kernel
theorem dX3_keepAll_54 : decode cX3_keepAll 54 = .ok (.iload_n 1, 1) := by decide +kernel
theorem dX3_keepAll_55 : decode cX3_keepAll 55 = .ok (.aload_n 0, 1) := by decide +kernel
theorem dX3_keepAll_56 : decode cX3_keepAll 56 = .ok (.getfield 19, 3) := by decide +kernel
theorem dX3_keepAll_59 : decode cX3_keepAll 59 = .ok (.iload_n 1, 1) := by decide +kernel
theorem dX3_keepAll_60 : decode cX3_keepAll 60 = .ok (.iaload, 1) := by decide +kernel
theorem dX3_keepAll_61 : decode cX3_keepAll 61 = .ok (.iastore, 1) := by decide +kernel
theorem dX3_keepAll_62 : decode cX3_keepAll 62 = .ok (.iinc 1 1, 3) := by decide +kernel
theorem dX3_keepAll_65 : decode cX3_keepAll 65 = .ok (.goto (-47), 3) := by decide +kernel
theorem dX3_keepAll_68 : decode cX3_keepAll 68 = .ok (.return_, 1) := by decide +kernel
theorem dX3_bringBack_0 : decode cX3_bringBack 0 = .ok (.aload_n 0, 1) := by decide +kernel
theorem dX3_bringBack_1 : decode cX3_bringBack 1 = .ok (.aload_n 0, 1) := by decide +kernel
theorem dX3_bringBack_2 : decode cX3_bringBack 2 = .ok (.getfield 169, 3) := by decide +kernel
theorem dX3_bringBack_5 : decode cX3_bringBack 5 = .ok (.putfield 130, 3) := by decide +kernel
theorem dX3_bringBack_8 : decode cX3_bringBack 8 = .ok (.aload_n 0, 1) := by decide +kernel
theorem dX3_bringBack_9 : decode cX3_bringBack 9 = .ok (.aload_n 0, 1) := by decide +kernel
theorem dX3_bringBack_10 : decode cX3_bringBack 10 = .ok (.getfield 172, 3) := by decide +kernel
theorem dX3_bringBack_13 : decode cX3_bringBack 13 = .ok (.putfield 133, 3) := by decide +kernel
theorem dX3_bringBack_16 : decode cX3_bringBack 16 = .ok (.iconst 0, 1) := by decide +kernel
theorem dX3_bringBack_17 : decode cX3_bringBack 17 = .ok (.istore_n 1, 1) := by decide +kernel
theorem dX3_bringBack_18 : decode cX3_bringBack 18 = .ok (.iload_n 1, 1) := by decide +kernel
theorem dX3_bringBack_19 : decode cX3_bringBack 19 = .ok (.aload_n 0, 1) := by decide +kernel
theorem dX3_bringBack_20 : decode cX3_bringBack 20 = .ok (.getfield 74, 3) := by decide +kernel
theorem dX3_bringBack_23 : decode cX3_bringBack 23 = .ok (.if_icmp .ge 45, 3) := by decide +kernel
theorem dX3_bringBack_26 : decode cX3_bringBack 26 = .ok (.aload_n 0, 1) := by decide +kernel
theorem dX3_bringBack_27 : decode cX3_bringBack 27 = .ok (.getfield 13, 3) := by decide +kernel
theorem dX3_bringBack_30 : decode cX3_bringBack 30 = .ok (.iload_n 1, 1) := by decide +kernel
theorem dX3_bringBack_31 : decode cX3_bringBack 31 = .ok (.aload_n 0, 1) := by decide +kernel
theorem dX3_bringBack_32 : decode cX3_bringBack 32 = .ok (.getfield 34, 3) := by decide +kernel
theorem dX3_bringBack_35 : decode cX3_bringBack 35 = .ok (.iload_n 1, 1) := by decide +kernel
theorem dX3_bringBack_36 : decode cX3_bringBack 36 = .ok (.iaload, 1) := by decide +kernel
theorem dX3_bringBack_37 : decode cX3_bringBack 37 = .ok (.iastore, 1) := by decide +kernel
theorem dX3_bringBack_38 : decode cX3_bringBack 38 = .ok (.aload_n 0, 1) := by decide +kernel
theorem dX3_bringBack_39 : decode cX3_bringBack 39 = .ok (.getfield 16, 3) := by decide +kernel
theorem dX3_bringBack_42 : decode cX3_bringBack 42 = .ok (.iload_n 1, 1) := by decide +kernel
theorem dX3_bringBack_43 : decode cX3_bringBack 43 = .ok (.aload_n 0, 1) := by decide +kernel
theorem dX3_bringBack_44 : decode cX3_bringBack 44 = .ok (.getfield 37, 3) := by decide +kernel
theorem dX3_bringBack_47 : decode cX3_bringBack 47 = .ok (.iload_n 1, 1) := by decide +kernel
theorem dX3_bringBack_48 : decode cX3_bringBack 48 = .ok (.iaload, 1) := by decide +kernel
theorem dX3_bringBack_49 : decode cX3_bringBack 49 = .ok (.iastore, 1) := by decide +kernel
theorem dX3_bringBack_50 : decode cX3_bringBack 50 = .ok (.aload_n 0, 1) := by decide +kernel
theorem dX3_bringBack_51 : decode cX3_bringBack 51 = .ok (.getfield 19, 3) := by decide +kernel
theorem dX3_bringBack_54 : decode cX3_bringBack 54 = .ok (.iload_n 1, 1) := by decide +kernel
theorem dX3_bringBack_55 : decode cX3_bringBack 55 = .ok (.aload_n 0, 1) := by decide +kernel
theorem dX3_bringBack_56 : decode cX3_bringBack 56 = .ok (.getfield 40, 3) := by decide +kernel
theorem dX3_bringBack_59 : decode cX3_bringBack 59 = .ok (.iload_n 1, 1) := by decide +kernel
theorem dX3_bringBack_60 : decode cX3_bringBack 60 = .ok (.iaload, 1) := by decide +kernel
theorem dX3_bringBack_61 : decode cX3_bringBack 61 = .ok (.iastore, 1) := by decide +kernel
theorem dX3_bringBack_62 : decode cX3_bringBack 62 = .ok (.iinc 1 1, 3) := by decide +kernel
theorem dX3_bringBack_65 : decode cX3_bringBack 65 = .ok (.goto (-47), 3) := by decide +kernel
theorem dX3_bringBack_68 : decode cX3_bringBack 68 = .ok (.return_, 1) := by decide +kernel
theorem dX3_pairsBarred_0 : decode cX3_pairsBarred 0 = .ok (.iconst 0, 1) := by decide +kernel
theorem dX3_pairsBarred_1 : decode cX3_pairsBarred 1 = .ok (.istore_n 3, 1) := by decide +kernel
theorem dX3_pairsBarred_2 : decode cX3_pairsBarred 2 = .ok (.iload_n 3, 1) := by decide +kernel
theorem dX3_pairsBarred_3 : decode cX3_pairsBarred 3 = .ok (.iload_n 2, 1) := by decide +kernel
theorem dX3_pairsBarred_4 : decode cX3_pairsBarred 4 = .ok (.if_icmp .ge 100, 3) := by decide +kernel
theorem dX3_pairsBarred_7 : decode cX3_pairsBarred 7 = .ok (.aload_n 0, 1) := by decide +kernel
theorem dX3_pairsBarred_8 : decode cX3_pairsBarred 8 = .ok (.getfield 58, 3) := by decide +kernel
theorem dX3_pairsBarred_11 : decode cX3_pairsBarred 11 = .ok (.iload_n 1, 1) := by decide +kernel
theorem dX3_pairsBarred_12 : decode cX3_pairsBarred 12 = .ok (.iconst 2, 1) := by decide +kernel
theorem dX3_pairsBarred_13 : decode cX3_pairsBarred 13 = .ok (.iload_n 3, 1) := by decide +kernel
theorem dX3_pairsBarred_14 : decode cX3_pairsBarred 14 = .ok (.imul, 1) := by decide +kernel
theorem dX3_pairsBarred_15 : decode cX3_pairsBarred 15 = .ok (.iadd, 1) := by decide +kernel
theorem dX3_pairsBarred_16 : decode cX3_pairsBarred 16 = .ok (.iaload, 1) := by decide +kernel
theorem dX3_pairsBarred_17 : decode cX3_pairsBarred 17 = .ok (.istore 4, 2) := by decide +kernel
theorem dX3_pairsBarred_19 : decode cX3_pairsBarred 19 = .ok (.aload_n 0, 1) := by decide +kernel
theorem dX3_pairsBarred_20 : decode cX3_pairsBarred 20 = .ok (.getfield 58, 3) := by decide +kernel
theorem dX3_pairsBarred_23 : decode cX3_pairsBarred 23 = .ok (.iload_n 1, 1) := by decide +kernel
theorem dX3_pairsBarred_24 : decode cX3_pairsBarred 24 = .ok (.iconst 2, 1) := by decide +kernel
theorem dX3_pairsBarred_25 : decode cX3_pairsBarred 25 = .ok (.iload_n 3, 1) := by decide +kernel
theorem dX3_pairsBarred_26 : decode cX3_pairsBarred 26 = .ok (.imul, 1) := by decide +kernel
theorem dX3_pairsBarred_27 : decode cX3_pairsBarred 27 = .ok (.iadd, 1) := by decide +kernel
theorem dX3_pairsBarred_28 : decode cX3_pairsBarred 28 = .ok (.iconst 1, 1) := by decide +kernel
theorem dX3_pairsBarred_29 : decode cX3_pairsBarred 29 = .ok (.iadd, 1) := by decide +kernel
theorem dX3_pairsBarred_30 : decode cX3_pairsBarred 30 = .ok (.iaload, 1) := by decide +kernel
theorem dX3_pairsBarred_31 : decode cX3_pairsBarred 31 = .ok (.istore 5, 2) := by decide +kernel
theorem dX3_pairsBarred_33 : decode cX3_pairsBarred 33 = .ok (.iload 5, 2) := by decide +kernel
theorem dX3_pairsBarred_35 : decode cX3_pairsBarred 35 = .ok (.i2l, 1) := by decide +kernel
theorem dX3_pairsBarred_36 : decode cX3_pairsBarred 36 = .ok (.lconst 0, 1) := by decide +kernel
theorem dX3_pairsBarred_37 : decode cX3_pairsBarred 37 = .ok (.ldc2_w 121, 3) := by decide +kernel
theorem dX3_pairsBarred_40 : decode cX3_pairsBarred 40 = .ok (.invokestatic 77, 3) := by decide +kernel
theorem dX3_pairsBarred_43 : decode cX3_pairsBarred 43 = .ok (.ifCond .eq 35, 3) := by decide +kernel
theorem dX3_pairsBarred_46 : decode cX3_pairsBarred 46 = .ok (.iload 5, 2) := by decide +kernel
theorem dX3_pairsBarred_48 : decode cX3_pairsBarred 48 = .ok (.ifCond .ne 16, 3) := by decide +kernel
theorem dX3_pairsBarred_51 : decode cX3_pairsBarred 51 = .ok (.iload 4, 2) := by decide +kernel
theorem dX3_pairsBarred_53 : decode cX3_pairsBarred 53 = .ok (.i2l, 1) := by decide +kernel
theorem dX3_pairsBarred_54 : decode cX3_pairsBarred 54 = .ok (.lconst 0, 1) := by decide +kernel
theorem dX3_pairsBarred_55 : decode cX3_pairsBarred 55 = .ok (.ldc2_w 90, 3) := by decide +kernel
theorem dX3_pairsBarred_58 : decode cX3_pairsBarred 58 = .ok (.invokestatic 77, 3) := by decide +kernel
theorem dX3_pairsBarred_61 : decode cX3_pairsBarred 61 = .ok (.ifCond .eq 17, 3) := by decide +kernel
theorem dX3_pairsBarred_64 : decode cX3_pairsBarred 64 = .ok (.iload 5, 2) := by decide +kernel
theorem dX3_pairsBarred_66 : decode cX3_pairsBarred 66 = .ok (.iconst 2, 1) := by decide +kernel
theorem dX3_pairsBarred_67 : decode cX3_pairsBarred 67 = .ok (.if_icmp .ne 14, 3) := by decide +kernel
theorem dX3_pairsBarred_70 : decode cX3_pairsBarred 70 = .ok (.iload 4, 2) := by decide +kernel
theorem dX3_pairsBarred_72 : decode cX3_pairsBarred 72 = .ok (.invokestatic 155, 3) := by decide +kernel
theorem dX3_pairsBarred_75 : decode cX3_pairsBarred 75 = .ok (.ifCond .ne 6, 3) := by decide +kernel
theorem dX3_pairsBarred_78 : decode cX3_pairsBarred 78 = .ok (.bipush (-2), 2) := by decide +kernel
theorem dX3_pairsBarred_80 : decode cX3_pairsBarred 80 = .ok (.ireturn, 1) := by decide +kernel
theorem dX3_pairsBarred_81 : decode cX3_pairsBarred 81 = .ok (.iload 5, 2) := by decide +kernel
theorem dX3_pairsBarred_83 : decode cX3_pairsBarred 83 = .ok (.iconst 1, 1) := by decide +kernel
theorem dX3_pairsBarred_84 : decode cX3_pairsBarred 84 = .ok (.if_icmp .ne 14, 3) := by decide +kernel
theorem dX3_pairsBarred_87 : decode cX3_pairsBarred 87 = .ok (.aload_n 0, 1) := by decide +kernel
theorem dX3_pairsBarred_88 : decode cX3_pairsBarred 88 = .ok (.iload 4, 2) := by decide +kernel
theorem dX3_pairsBarred_90 : decode cX3_pairsBarred 90 = .ok (.invokevirtual 149, 3) := by decide +kernel
theorem dX3_pairsBarred_93 : decode cX3_pairsBarred 93 = .ok (.ifCond .eq 5, 3) := by decide +kernel
theorem dX3_pairsBarred_96 : decode cX3_pairsBarred 96 = .ok (.iconst (-1), 1) := by decide +kernel
theorem dX3_pairsBarred_97 : decode cX3_pairsBarred 97 = .ok (.ireturn, 1) := by decide +kernel
theorem dX3_pairsBarred_98 : decode cX3_pairsBarred 98 = .ok (.iinc 3 1, 3) := by decide +kernel
theorem dX3_pairsBarred_101 : decode cX3_pairsBarred 101 = .ok (.goto (-99), 3) := by decide +kernel
theorem dX3_pairsBarred_104 : decode cX3_pairsBarred 104 = .ok (.iconst 0, 1) := by decide +kernel
theorem dX3_pairsBarred_105 : decode cX3_pairsBarred 105 = .ok (.ireturn, 1) := by decide +kernel
theorem dX3_did_0 : decode cX3_did 0 = .ok (.iload_n 2, 1) := by decide +kernel
theorem dX3_did_1 : decode cX3_did 1 = .ok (.iconst 1, 1) := by decide +kernel
theorem dX3_did_2 : decode cX3_did 2 = .ok (.if_icmp .ne 9, 3) := by decide +kernel
theorem dX3_did_5 : decode cX3_did 5 = .ok (.aload_n 0, 1) := by decide +kernel
theorem dX3_did_6 : decode cX3_did 6 = .ok (.iload_n 1, 1) := by decide +kernel
theorem dX3_did_7 : decode cX3_did 7 = .ok (.invokevirtual 166, 3) := by decide +kernel
theorem dX3_did_10 : decode cX3_did 10 = .ok (.ireturn, 1) := by decide +kernel
theorem dX3_did_11 : decode cX3_did 11 = .ok (.iload_n 2, 1) := by decide +kernel
theorem dX3_did_12 : decode cX3_did 12 = .ok (.iconst 2, 1) := by decide +kernel
theorem dX3_did_13 : decode cX3_did 13 = .ok (.if_icmp .ne 10, 3) := by decide +kernel
theorem dX3_did_16 : decode cX3_did 16 = .ok (.aload_n 0, 1) := by decide +kernel
theorem dX3_did_17 : decode cX3_did 17 = .ok (.iload_n 1, 1) := by decide +kernel
theorem dX3_did_18 : decode cX3_did 18 = .ok (.putfield 130, 3) := by decide +kernel
theorem dX3_did_21 : decode cX3_did 21 = .ok (.iconst 1, 1) := by decide +kernel
theorem dX3_did_22 : decode cX3_did 22 = .ok (.ireturn, 1) := by decide +kernel
theorem dX3_did_23 : decode cX3_did 23 = .ok (.iconst 0, 1) := by decide +kernel
theorem dX3_did_24 : decode cX3_did 24 = .ok (.istore_n 3, 1) := by decide +kernel
theorem dX3_did_25 : decode cX3_did 25 = .ok (.iload_n 3, 1) := by decide +kernel
theorem dX3_did_26 : decode cX3_did 26 = .ok (.iload_n 1, 1) := by decide +kernel
theorem dX3_did_27 : decode cX3_did 27 = .ok (.if_icmp .ge 34, 3) := by decide +kernel
theorem dX3_did_30 : decode cX3_did 30 = .ok (.aload_n 0, 1) := by decide +kernel
theorem dX3_did_31 : decode cX3_did 31 = .ok (.invokevirtual 160, 3) := by decide +kernel
theorem dX3_did_34 : decode cX3_did 34 = .ok (.aload_n 0, 1) := by decide +kernel
theorem dX3_did_35 : decode cX3_did 35 = .ok (.dup, 1) := by decide +kernel
theorem dX3_did_36 : decode cX3_did 36 = .ok (.getfield 175, 3) := by decide +kernel
theorem dX3_did_39 : decode cX3_did 39 = .ok (.aload_n 0, 1) := by decide +kernel
theorem dX3_did_40 : decode cX3_did 40 = .ok (.invokevirtual 163, 3) := by decide +kernel
theorem dX3_did_43 : decode cX3_did 43 = .ok (.ifCond .le 7, 3) := by decide +kernel
theorem dX3_did_46 : decode cX3_did 46 = .ok (.iconst 1, 1) := by decide +kernel
theorem dX3_did_47 : decode cX3_did 47 = .ok (.goto 4, 3) := by decide +kernel
theorem dX3_did_50 : decode cX3_did 50 = .ok (.iconst 0, 1) := by decide +kernel
theorem dX3_did_51 : decode cX3_did 51 = .ok (.iadd, 1) := by decide +kernel
theorem dX3_did_52 : decode cX3_did 52 = .ok (.putfield 175, 3) := by decide +kernel
theorem dX3_did_55 : decode cX3_did 55 = .ok (.iinc 3 1, 3) := by decide +kernel
theorem dX3_did_58 : decode cX3_did 58 = .ok (.goto (-33), 3) := by decide +kernel
theorem dX3_did_61 : decode cX3_did 61 = .ok (.iconst 1, 1) := by decide +kernel
theorem dX3_did_62 : decode cX3_did 62 = .ok (.ireturn, 1) := by decide +kernel
theorem dX3_seasonBy_0 : decode cX3_seasonBy 0 = .ok (.bipush (-9), 2) := by decide +kernel
theorem dX3_seasonBy_2 : decode cX3_seasonBy 2 = .ok (.istore 4, 2) := by decide +kernel
theorem dX3_seasonBy_4 : decode cX3_seasonBy 4 = .ok (.aload_n 0, 1) := by decide +kernel
theorem dX3_seasonBy_5 : decode cX3_seasonBy 5 = .ok (.iconst 0, 1) := by decide +kernel
theorem dX3_seasonBy_6 : decode cX3_seasonBy 6 = .ok (.putfield 175, 3) := by decide +kernel
theorem dX3_seasonBy_9 : decode cX3_seasonBy 9 = .ok (.iconst 0, 1) := by decide +kernel
theorem dX3_seasonBy_10 : decode cX3_seasonBy 10 = .ok (.istore 5, 2) := by decide +kernel
theorem dX3_seasonBy_12 : decode cX3_seasonBy 12 = .ok (.iload 5, 2) := by decide +kernel
theorem dX3_seasonBy_14 : decode cX3_seasonBy 14 = .ok (.iload_n 2, 1) := by decide +kernel
theorem dX3_seasonBy_15 : decode cX3_seasonBy 15 = .ok (.if_icmp .ge 54, 3) := by decide +kernel
theorem dX3_seasonBy_18 : decode cX3_seasonBy 18 = .ok (.iload 4, 2) := by decide +kernel
theorem dX3_seasonBy_20 : decode cX3_seasonBy 20 = .ok (.ifCond .ge 49, 3) := by decide +kernel
theorem dX3_seasonBy_23 : decode cX3_seasonBy 23 = .ok (.aload_n 0, 1) := by decide +kernel
theorem dX3_seasonBy_24 : decode cX3_seasonBy 24 = .ok (.aload_n 0, 1) := by decide +kernel
theorem dX3_seasonBy_25 : decode cX3_seasonBy 25 = .ok (.getfield 58, 3) := by decide +kernel
theorem dX3_seasonBy_28 : decode cX3_seasonBy 28 = .ok (.iload_n 1, 1) := by decide +kernel
theorem dX3_seasonBy_29 : decode cX3_seasonBy 29 = .ok (.iconst 2, 1) := by decide +kernel
theorem dX3_seasonBy_30 : decode cX3_seasonBy 30 = .ok (.iload 5, 2) := by decide +kernel
theorem dX3_seasonBy_32 : decode cX3_seasonBy 32 = .ok (.imul, 1) := by decide +kernel
theorem dX3_seasonBy_33 : decode cX3_seasonBy 33 = .ok (.iadd, 1) := by decide +kernel
theorem dX3_seasonBy_34 : decode cX3_seasonBy 34 = .ok (.iaload, 1) := by decide +kernel
theorem dX3_seasonBy_35 : decode cX3_seasonBy 35 = .ok (.aload_n 0, 1) := by decide +kernel
theorem dX3_seasonBy_36 : decode cX3_seasonBy 36 = .ok (.getfield 58, 3) := by decide +kernel
theorem dX3_seasonBy_39 : decode cX3_seasonBy 39 = .ok (.iload_n 1, 1) := by decide +kernel
theorem dX3_seasonBy_40 : decode cX3_seasonBy 40 = .ok (.iconst 2, 1) := by decide +kernel
theorem dX3_seasonBy_41 : decode cX3_seasonBy 41 = .ok (.iload 5, 2) := by decide +kernel
theorem dX3_seasonBy_43 : decode cX3_seasonBy 43 = .ok (.imul, 1) := by decide +kernel
theorem dX3_seasonBy_44 : decode cX3_seasonBy 44 = .ok (.iadd, 1) := by decide +kernel
theorem dX3_seasonBy_45 : decode cX3_seasonBy 45 = .ok (.iconst 1, 1) := by decide +kernel
theorem dX3_seasonBy_46 : decode cX3_seasonBy 46 = .ok (.iadd, 1) := by decide +kernel
theorem dX3_seasonBy_47 : decode cX3_seasonBy 47 = .ok (.iaload, 1) := by decide +kernel
theorem dX3_seasonBy_48 : decode cX3_seasonBy 48 = .ok (.invokevirtual 178, 3) := by decide +kernel
theorem dX3_seasonBy_51 : decode cX3_seasonBy 51 = .ok (.ifCond .eq 8, 3) := by decide +kernel
theorem dX3_seasonBy_54 : decode cX3_seasonBy 54 = .ok (.bipush (-9), 2) := by decide +kernel
theorem dX3_seasonBy_56 : decode cX3_seasonBy 56 = .ok (.goto 5, 3) := by decide +kernel
theorem dX3_seasonBy_59 : decode cX3_seasonBy 59 = .ok (.iload 5, 2) := by decide +kernel
theorem dX3_seasonBy_61 : decode cX3_seasonBy 61 = .ok (.istore 4, 2) := by decide +kernel
theorem dX3_seasonBy_63 : decode cX3_seasonBy 63 = .ok (.iinc 5 1, 3) := by decide +kernel
theorem dX3_seasonBy_66 : decode cX3_seasonBy 66 = .ok (.goto (-54), 3) := by decide +kernel
theorem dX3_seasonBy_69 : decode cX3_seasonBy 69 = .ok (.iload_n 3, 1) := by decide +kernel
theorem dX3_seasonBy_70 : decode cX3_seasonBy 70 = .ok (.iconst 1, 1) := by decide +kernel
theorem dX3_seasonBy_71 : decode cX3_seasonBy 71 = .ok (.if_icmp .ne 6, 3) := by decide +kernel
theorem dX3_seasonBy_74 : decode cX3_seasonBy 74 = .ok (.iload 4, 2) := by decide +kernel
theorem dX3_seasonBy_76 : decode cX3_seasonBy 76 = .ok (.ireturn, 1) := by decide +kernel
theorem dX3_seasonBy_77 : decode cX3_seasonBy 77 = .ok (.iload 4, 2) := by decide +kernel
theorem dX3_seasonBy_79 : decode cX3_seasonBy 79 = .ok (.ifCond .lt 9, 3) := by decide +kernel
theorem dX3_seasonBy_82 : decode cX3_seasonBy 82 = .ok (.bipush (-100), 2) := by decide +kernel
theorem dX3_seasonBy_84 : decode cX3_seasonBy 84 = .ok (.iload 4, 2) := by decide +kernel
theorem dX3_seasonBy_86 : decode cX3_seasonBy 86 = .ok (.isub, 1) := by decide +kernel
theorem dX3_seasonBy_87 : decode cX3_seasonBy 87 = .ok (.ireturn, 1) := by decide +kernel
theorem dX3_seasonBy_88 : decode cX3_seasonBy 88 = .ok (.iload_n 3, 1) := by decide +kernel
theorem dX3_seasonBy_89 : decode cX3_seasonBy 89 = .ok (.bipush 10, 2) := by decide +kernel
theorem dX3_seasonBy_91 : decode cX3_seasonBy 91 = .ok (.if_icmp .lt 29, 3) := by decide +kernel
theorem dX3_seasonBy_94 : decode cX3_seasonBy 94 = .ok (.aload_n 0, 1) := by decide +kernel
theorem dX3_seasonBy_95 : decode cX3_seasonBy 95 = .ok (.iload_n 3, 1) := by decide +kernel
theorem dX3_seasonBy_96 : decode cX3_seasonBy 96 = .ok (.bipush 10, 2) := by decide +kernel
theorem dX3_seasonBy_98 : decode cX3_seasonBy 98 = .ok (.isub, 1) := by decide +kernel
theorem dX3_seasonBy_99 : decode cX3_seasonBy 99 = .ok (.invokevirtual 149, 3) := by decide +kernel
theorem dX3_seasonBy_102 : decode cX3_seasonBy 102 = .ok (.ifCond .eq 8, 3) := by decide +kernel
theorem dX3_seasonBy_105 : decode cX3_seasonBy 105 = .ok (.bipush (-9), 2) := by decide +kernel
theorem dX3_seasonBy_107 : decode cX3_seasonBy 107 = .ok (.goto 12, 3) := by decide +kernel
theorem dX3_seasonBy_110 : decode cX3_seasonBy 110 = .ok (.aload_n 0, 1) := by decide +kernel
theorem dX3_seasonBy_111 : decode cX3_seasonBy 111 = .ok (.getfield 13, 3) := by decide +kernel
theorem dX3_seasonBy_114 : decode cX3_seasonBy 114 = .ok (.iload_n 3, 1) := by decide +kernel
theorem dX3_seasonBy_115 : decode cX3_seasonBy 115 = .ok (.bipush 10, 2) := by decide +kernel
theorem dX3_seasonBy_117 : decode cX3_seasonBy 117 = .ok (.isub, 1) := by decide +kernel
theorem dX3_seasonBy_118 : decode cX3_seasonBy 118 = .ok (.iaload, 1) := by decide +kernel
theorem dX3_seasonBy_119 : decode cX3_seasonBy 119 = .ok (.ireturn, 1) := by decide +kernel
theorem dX3_seasonBy_120 : decode cX3_seasonBy 120 = .ok (.iconst 0, 1) := by decide +kernel
theorem dX3_seasonBy_121 : decode cX3_seasonBy 121 = .ok (.istore 5, 2) := by decide +kernel
theorem dX3_seasonBy_123 : decode cX3_seasonBy 123 = .ok (.iconst 0, 1) := by decide +kernel
theorem dX3_seasonBy_124 : decode cX3_seasonBy 124 = .ok (.istore 6, 2) := by decide +kernel
theorem dX3_seasonBy_126 : decode cX3_seasonBy 126 = .ok (.iconst 0, 1) := by decide +kernel
theorem dX3_seasonBy_127 : decode cX3_seasonBy 127 = .ok (.istore 7, 2) := by decide +kernel
theorem dX3_seasonBy_129 : decode cX3_seasonBy 129 = .ok (.iconst 0, 1) := by decide +kernel
theorem dX3_seasonBy_130 : decode cX3_seasonBy 130 = .ok (.istore 8, 2) := by decide +kernel
theorem dX3_seasonBy_132 : decode cX3_seasonBy 132 = .ok (.iload 8, 2) := by decide +kernel
theorem dX3_seasonBy_134 : decode cX3_seasonBy 134 = .ok (.aload_n 0, 1) := by decide +kernel
theorem dX3_seasonBy_135 : decode cX3_seasonBy 135 = .ok (.getfield 74, 3) := by decide +kernel
theorem dX3_seasonBy_138 : decode cX3_seasonBy 138 = .ok (.if_icmp .ge 45, 3) := by decide +kernel
theorem dX3_seasonBy_141 : decode cX3_seasonBy 141 = .ok (.iload 5, 2) := by decide +kernel
theorem dX3_seasonBy_143 : decode cX3_seasonBy 143 = .ok (.aload_n 0, 1) := by decide +kernel
theorem dX3_seasonBy_144 : decode cX3_seasonBy 144 = .ok (.getfield 16, 3) := by decide +kernel
theorem dX3_seasonBy_147 : decode cX3_seasonBy 147 = .ok (.iload 8, 2) := by decide +kernel
theorem dX3_seasonBy_149 : decode cX3_seasonBy 149 = .ok (.iaload, 1) := by decide +kernel
theorem dX3_seasonBy_150 : decode cX3_seasonBy 150 = .ok (.iadd, 1) := by decide +kernel
theorem dX3_seasonBy_151 : decode cX3_seasonBy 151 = .ok (.istore 5, 2) := by decide +kernel
theorem dX3_seasonBy_153 : decode cX3_seasonBy 153 = .ok (.iload 6, 2) := by decide +kernel
theorem dX3_seasonBy_155 : decode cX3_seasonBy 155 = .ok (.aload_n 0, 1) := by decide +kernel
theorem dX3_seasonBy_156 : decode cX3_seasonBy 156 = .ok (.getfield 13, 3) := by decide +kernel
theorem dX3_seasonBy_159 : decode cX3_seasonBy 159 = .ok (.iload 8, 2) := by decide +kernel
theorem dX3_seasonBy_161 : decode cX3_seasonBy 161 = .ok (.iaload, 1) := by decide +kernel
theorem dX3_seasonBy_162 : decode cX3_seasonBy 162 = .ok (.iadd, 1) := by decide +kernel
theorem dX3_seasonBy_163 : decode cX3_seasonBy 163 = .ok (.istore 6, 2) := by decide +kernel
theorem dX3_seasonBy_165 : decode cX3_seasonBy 165 = .ok (.iload 7, 2) := by decide +kernel
theorem dX3_seasonBy_167 : decode cX3_seasonBy 167 = .ok (.aload_n 0, 1) := by decide +kernel
theorem dX3_seasonBy_168 : decode cX3_seasonBy 168 = .ok (.getfield 19, 3) := by decide +kernel
theorem dX3_seasonBy_171 : decode cX3_seasonBy 171 = .ok (.iload 8, 2) := by decide +kernel
theorem dX3_seasonBy_173 : decode cX3_seasonBy 173 = .ok (.iaload, 1) := by decide +kernel
theorem dX3_seasonBy_174 : decode cX3_seasonBy 174 = .ok (.iadd, 1) := by decide +kernel
theorem dX3_seasonBy_175 : decode cX3_seasonBy 175 = .ok (.istore 7, 2) := by decide +kernel
theorem dX3_seasonBy_177 : decode cX3_seasonBy 177 = .ok (.iinc 8 1, 3) := by decide +kernel
theorem dX3_seasonBy_180 : decode cX3_seasonBy 180 = .ok (.goto (-48), 3) := by decide +kernel
theorem dX3_seasonBy_183 : decode cX3_seasonBy 183 = .ok (.iload_n 3, 1) := by decide +kernel
theorem dX3_seasonBy_184 : decode cX3_seasonBy 184 = .ok (.ifCond .ne 8, 3) := by decide +kernel
theorem dX3_seasonBy_187 : decode cX3_seasonBy 187 = .ok (.iload 5, 2) := by decide +kernel
theorem dX3_seasonBy_189 : decode cX3_seasonBy 189 = .ok (.goto 27, 3) := by decide +kernel
theorem dX3_seasonBy_192 : decode cX3_seasonBy 192 = .ok (.iload_n 3, 1) := by decide +kernel
theorem dX3_seasonBy_193 : decode cX3_seasonBy 193 = .ok (.iconst 2, 1) := by decide +kernel
theorem dX3_seasonBy_194 : decode cX3_seasonBy 194 = .ok (.if_icmp .ne 8, 3) := by decide +kernel
theorem dX3_seasonBy_197 : decode cX3_seasonBy 197 = .ok (.iload 6, 2) := by decide +kernel
theorem dX3_seasonBy_199 : decode cX3_seasonBy 199 = .ok (.goto 17, 3) := by decide +kernel
theorem dX3_seasonBy_202 : decode cX3_seasonBy 202 = .ok (.iload_n 3, 1) := by decide +kernel
theorem dX3_seasonBy_203 : decode cX3_seasonBy 203 = .ok (.iconst 3, 1) := by decide +kernel
theorem dX3_seasonBy_204 : decode cX3_seasonBy 204 = .ok (.if_icmp .ne 10, 3) := by decide +kernel
theorem dX3_seasonBy_207 : decode cX3_seasonBy 207 = .ok (.aload_n 0, 1) := by decide +kernel
theorem dX3_seasonBy_208 : decode cX3_seasonBy 208 = .ok (.getfield 175, 3) := by decide +kernel
theorem dX3_seasonBy_211 : decode cX3_seasonBy 211 = .ok (.goto 5, 3) := by decide +kernel
theorem dX3_seasonBy_214 : decode cX3_seasonBy 214 = .ok (.iload 7, 2) := by decide +kernel
theorem dX3_seasonBy_216 : decode cX3_seasonBy 216 = .ok (.ireturn, 1) := by decide +kernel
theorem dX3_season_0 : decode cX3_season 0 = .ok (.iload_n 1, 1) := by decide +kernel
theorem dX3_season_1 : decode cX3_season 1 = .ok (.invokestatic 114, 3) := by decide +kernel
theorem dX3_season_4 : decode cX3_season 4 = .ok (.ifCond .eq 9, 3) := by decide +kernel
theorem dX3_season_7 : decode cX3_season 7 = .ok (.aload_n 0, 1) := by decide +kernel
theorem dX3_season_8 : decode cX3_season 8 = .ok (.iconst (-1), 1) := by decide +kernel
theorem dX3_season_9 : decode cX3_season 9 = .ok (.invokevirtual 118, 3) := by decide +kernel
theorem dX3_season_12 : decode cX3_season 12 = .ok (.ireturn, 1) := by decide +kernel
theorem dX3_season_13 : decode cX3_season 13 = .ok (.iload_n 2, 1) := by decide +kernel
theorem dX3_season_14 : decode cX3_season 14 = .ok (.i2l, 1) := by decide +kernel
theorem dX3_season_15 : decode cX3_season 15 = .ok (.lconst 0, 1) := by decide +kernel
theorem dX3_season_16 : decode cX3_season 16 = .ok (.ldc2_w 121, 3) := by decide +kernel
theorem dX3_season_19 : decode cX3_season 19 = .ok (.invokestatic 77, 3) := by decide +kernel
theorem dX3_season_22 : decode cX3_season 22 = .ok (.ifCond .eq 44, 3) := by decide +kernel
theorem dX3_season_25 : decode cX3_season 25 = .ok (.iload 4, 2) := by decide +kernel
theorem dX3_season_27 : decode cX3_season 27 = .ok (.i2l, 1) := by decide +kernel
theorem dX3_season_28 : decode cX3_season 28 = .ok (.lconst 0, 1) := by decide +kernel
theorem dX3_season_29 : decode cX3_season 29 = .ok (.ldc2_w 181, 3) := by decide +kernel
theorem dX3_season_32 : decode cX3_season 32 = .ok (.invokestatic 77, 3) := by decide +kernel
theorem dX3_season_35 : decode cX3_season 35 = .ok (.ifCond .eq 31, 3) := by decide +kernel
theorem dX3_season_38 : decode cX3_season 38 = .ok (.iload 5, 2) := by decide +kernel
theorem dX3_season_40 : decode cX3_season 40 = .ok (.i2l, 1) := by decide +kernel
theorem dX3_season_41 : decode cX3_season 41 = .ok (.lconst 0, 1) := by decide +kernel
theorem dX3_season_42 : decode cX3_season 42 = .ok (.ldc2_w 183, 3) := by decide +kernel
theorem dX3_season_45 : decode cX3_season 45 = .ok (.invokestatic 77, 3) := by decide +kernel
theorem dX3_season_48 : decode cX3_season 48 = .ok (.ifCond .ne 25, 3) := by decide +kernel
theorem dX3_season_51 : decode cX3_season 51 = .ok (.iload 5, 2) := by decide +kernel
theorem dX3_season_53 : decode cX3_season 53 = .ok (.i2l, 1) := by decide +kernel
theorem dX3_season_54 : decode cX3_season 54 = .ok (.ldc2_w 185, 3) := by decide +kernel
theorem dX3_season_57 : decode cX3_season 57 = .ok (.ldc2_w 187, 3) := by decide +kernel
theorem dX3_season_60 : decode cX3_season 60 = .ok (.invokestatic 77, 3) := by decide +kernel
theorem dX3_season_63 : decode cX3_season 63 = .ok (.ifCond .ne 10, 3) := by decide +kernel
theorem dX3_season_66 : decode cX3_season 66 = .ok (.aload_n 0, 1) := by decide +kernel
theorem dX3_season_67 : decode cX3_season 67 = .ok (.bipush (-2), 2) := by decide +kernel
theorem dX3_season_69 : decode cX3_season 69 = .ok (.invokevirtual 118, 3) := by decide +kernel
theorem dX3_season_72 : decode cX3_season 72 = .ok (.ireturn, 1) := by decide +kernel
theorem dX3_season_73 : decode cX3_season 73 = .ok (.aload_n 0, 1) := by decide +kernel
theorem dX3_season_74 : decode cX3_season 74 = .ok (.getfield 74, 3) := by decide +kernel
theorem dX3_season_77 : decode cX3_season 77 = .ok (.ifCond .ne 10, 3) := by decide +kernel
theorem dX3_season_80 : decode cX3_season 80 = .ok (.aload_n 0, 1) := by decide +kernel
theorem dX3_season_81 : decode cX3_season 81 = .ok (.bipush (-3), 2) := by decide +kernel
theorem dX3_season_83 : decode cX3_season 83 = .ok (.invokevirtual 118, 3) := by decide +kernel
theorem dX3_season_86 : decode cX3_season 86 = .ok (.ireturn, 1) := by decide +kernel
theorem dX3_season_87 : decode cX3_season 87 = .ok (.aload_n 0, 1) := by decide +kernel
theorem dX3_season_88 : decode cX3_season 88 = .ok (.iload_n 1, 1) := by decide +kernel
theorem dX3_season_89 : decode cX3_season 89 = .ok (.iload_n 2, 1) := by decide +kernel
theorem dX3_season_90 : decode cX3_season 90 = .ok (.iload_n 3, 1) := by decide +kernel
theorem dX3_season_91 : decode cX3_season 91 = .ok (.ldc2_w 121, 3) := by decide +kernel
theorem dX3_season_94 : decode cX3_season 94 = .ok (.iload 4, 2) := by decide +kernel
theorem dX3_season_96 : decode cX3_season 96 = .ok (.i2l, 1) := by decide +kernel
theorem dX3_season_97 : decode cX3_season 97 = .ok (.lmul, 1) := by decide +kernel
theorem dX3_season_98 : decode cX3_season 98 = .ok (.invokevirtual 123, 3) := by decide +kernel
theorem dX3_season_101 : decode cX3_season 101 = .ok (.istore 6, 2) := by decide +kernel
theorem dX3_season_103 : decode cX3_season 103 = .ok (.iload 6, 2) := by decide +kernel
theorem dX3_season_105 : decode cX3_season 105 = .ok (.ifCond .ge 6, 3) := by decide +kernel
theorem dX3_season_108 : decode cX3_season 108 = .ok (.iload 6, 2) := by decide +kernel
theorem dX3_season_110 : decode cX3_season 110 = .ok (.ireturn, 1) := by decide +kernel
theorem dX3_season_111 : decode cX3_season 111 = .ok (.aload_n 0, 1) := by decide +kernel
theorem dX3_season_112 : decode cX3_season 112 = .ok (.bipush 60, 2) := by decide +kernel
theorem dX3_season_114 : decode cX3_season 114 = .ok (.iload_n 1, 1) := by decide +kernel
theorem dX3_season_115 : decode cX3_season 115 = .ok (.imul, 1) := by decide +kernel
theorem dX3_season_116 : decode cX3_season 116 = .ok (.iload_n 3, 1) := by decide +kernel
theorem dX3_season_117 : decode cX3_season 117 = .ok (.iadd, 1) := by decide +kernel
theorem dX3_season_118 : decode cX3_season 118 = .ok (.iload 4, 2) := by decide +kernel
theorem dX3_season_120 : decode cX3_season 120 = .ok (.invokevirtual 189, 3) := by decide +kernel
theorem dX3_season_123 : decode cX3_season 123 = .ok (.istore 6, 2) := by decide +kernel
theorem dX3_season_125 : decode cX3_season 125 = .ok (.iload 6, 2) := by decide +kernel
theorem dX3_season_127 : decode cX3_season 127 = .ok (.ifCond .ge 10, 3) := by decide +kernel
theorem dX3_season_130 : decode cX3_season 130 = .ok (.aload_n 0, 1) := by decide +kernel
theorem dX3_season_131 : decode cX3_season 131 = .ok (.iload 6, 2) := by decide +kernel
theorem dX3_season_133 : decode cX3_season 133 = .ok (.invokevirtual 118, 3) := by decide +kernel
theorem dX3_season_136 : decode cX3_season 136 = .ok (.ireturn, 1) := by decide +kernel
theorem dX3_season_137 : decode cX3_season 137 = .ok (.aload_n 0, 1) := by decide +kernel
theorem dX3_season_138 : decode cX3_season 138 = .ok (.invokevirtual 192, 3) := by decide +kernel
theorem dX3_season_141 : decode cX3_season 141 = .ok (.aload_n 0, 1) := by decide +kernel
theorem dX3_season_142 : decode cX3_season 142 = .ok (.bipush 60, 2) := by decide +kernel
theorem dX3_season_144 : decode cX3_season 144 = .ok (.iload_n 1, 1) := by decide +kernel
theorem dX3_season_145 : decode cX3_season 145 = .ok (.imul, 1) := by decide +kernel
theorem dX3_season_146 : decode cX3_season 146 = .ok (.iload_n 3, 1) := by decide +kernel
theorem dX3_season_147 : decode cX3_season 147 = .ok (.iadd, 1) := by decide +kernel
theorem dX3_season_148 : decode cX3_season 148 = .ok (.iload 4, 2) := by decide +kernel
theorem dX3_season_150 : decode cX3_season 150 = .ok (.iload 5, 2) := by decide +kernel
theorem dX3_season_152 : decode cX3_season 152 = .ok (.invokevirtual 195, 3) := by decide +kernel
theorem dX3_season_155 : decode cX3_season 155 = .ok (.istore 7, 2) := by decide +kernel
theorem dX3_season_157 : decode cX3_season 157 = .ok (.aload_n 0, 1) := by decide +kernel
theorem dX3_season_158 : decode cX3_season 158 = .ok (.invokevirtual 198, 3) := by decide +kernel
theorem dX3_season_161 : decode cX3_season 161 = .ok (.aload_n 0, 1) := by decide +kernel
theorem dX3_season_162 : decode cX3_season 162 = .ok (.iload 7, 2) := by decide +kernel
theorem dX3_season_164 : decode cX3_season 164 = .ok (.invokevirtual 118, 3) := by decide +kernel
theorem dX3_season_167 : decode cX3_season 167 = .ok (.ireturn, 1) := by decide +kernel
theorem dX3_worstTemper_0 : decode cX3_worstTemper 0 = .ok (.iconst 0, 1) := by decide +kernel
theorem dX3_worstTemper_1 : decode cX3_worstTemper 1 = .ok (.istore_n 1, 1) := by decide +kernel
theorem dX3_worstTemper_2 : decode cX3_worstTemper 2 = .ok (.iconst 0, 1) := by decide +kernel
theorem dX3_worstTemper_3 : decode cX3_worstTemper 3 = .ok (.istore_n 2, 1) := by decide +kernel
theorem dX3_worstTemper_4 : decode cX3_worstTemper 4 = .ok (.iload_n 2, 1) := by decide +kernel
theorem dX3_worstTemper_5 : decode cX3_worstTemper 5 = .ok (.aload_n 0, 1) := by decide +kernel
theorem dX3_worstTemper_6 : decode cX3_worstTemper 6 = .ok (.getfield 74, 3) := by decide +kernel
theorem dX3_worstTemper_9 : decode cX3_worstTemper 9 = .ok (.if_icmp .ge 30, 3) := by decide +kernel
theorem dX3_worstTemper_12 : decode cX3_worstTemper 12 = .ok (.aload_n 0, 1) := by decide +kernel
theorem dX3_worstTemper_13 : decode cX3_worstTemper 13 = .ok (.getfield 13, 3) := by decide +kernel
theorem dX3_worstTemper_16 : decode cX3_worstTemper 16 = .ok (.iload_n 2, 1) := by decide +kernel
theorem dX3_worstTemper_17 : decode cX3_worstTemper 17 = .ok (.iaload, 1) := by decide +kernel
theorem dX3_worstTemper_18 : decode cX3_worstTemper 18 = .ok (.iload_n 1, 1) := by decide +kernel
theorem dX3_worstTemper_19 : decode cX3_worstTemper 19 = .ok (.if_icmp .le 12, 3) := by decide +kernel
theorem dX3_worstTemper_22 : decode cX3_worstTemper 22 = .ok (.aload_n 0, 1) := by decide +kernel
theorem dX3_worstTemper_23 : decode cX3_worstTemper 23 = .ok (.getfield 13, 3) := by decide +kernel
theorem dX3_worstTemper_26 : decode cX3_worstTemper 26 = .ok (.iload_n 2, 1) := by decide +kernel
theorem dX3_worstTemper_27 : decode cX3_worstTemper 27 = .ok (.iaload, 1) := by decide +kernel
theorem dX3_worstTemper_28 : decode cX3_worstTemper 28 = .ok (.goto 4, 3) := by decide +kernel
theorem dX3_worstTemper_31 : decode cX3_worstTemper 31 = .ok (.iload_n 1, 1) := by decide +kernel
theorem dX3_worstTemper_32 : decode cX3_worstTemper 32 = .ok (.istore_n 1, 1) := by decide +kernel
theorem dX3_worstTemper_33 : decode cX3_worstTemper 33 = .ok (.iinc 2 1, 3) := by decide +kernel
theorem dX3_worstTemper_36 : decode cX3_worstTemper 36 = .ok (.goto (-32), 3) := by decide +kernel
theorem dX3_worstTemper_39 : decode cX3_worstTemper 39 = .ok (.iload_n 1, 1) := by decide +kernel
theorem dX3_worstTemper_40 : decode cX3_worstTemper 40 = .ok (.ireturn, 1) := by decide +kernel
theorem dX3_calm_0 : decode cX3_calm 0 = .ok (.aload_n 0, 1) := by decide +kernel
theorem dX3_calm_1 : decode cX3_calm 1 = .ok (.getfield 74, 3) := by decide +kernel
theorem dX3_calm_4 : decode cX3_calm 4 = .ok (.ifCond .ne 6, 3) := by decide +kernel
theorem dX3_calm_7 : decode cX3_calm 7 = .ok (.bipush (-3), 2) := by decide +kernel
theorem dX3_calm_9 : decode cX3_calm 9 = .ok (.ireturn, 1) := by decide +kernel
theorem dX3_calm_10 : decode cX3_calm 10 = .ok (.iload_n 1, 1) := by decide +kernel
theorem dX3_calm_11 : decode cX3_calm 11 = .ok (.i2l, 1) := by decide +kernel
theorem dX3_calm_12 : decode cX3_calm 12 = .ok (.lconst 0, 1) := by decide +kernel
theorem dX3_calm_13 : decode cX3_calm 13 = .ok (.ldc2_w 201, 3) := by decide +kernel
theorem dX3_calm_16 : decode cX3_calm 16 = .ok (.invokestatic 77, 3) := by decide +kernel
theorem dX3_calm_19 : decode cX3_calm 19 = .ok (.ifCond .eq 15, 3) := by decide +kernel
theorem dX3_calm_22 : decode cX3_calm 22 = .ok (.iload_n 2, 1) := by decide +kernel
theorem dX3_calm_23 : decode cX3_calm 23 = .ok (.i2l, 1) := by decide +kernel
theorem dX3_calm_24 : decode cX3_calm 24 = .ok (.lconst 0, 1) := by decide +kernel
theorem dX3_calm_25 : decode cX3_calm 25 = .ok (.ldc2_w 90, 3) := by decide +kernel
theorem dX3_calm_28 : decode cX3_calm 28 = .ok (.invokestatic 77, 3) := by decide +kernel
theorem dX3_calm_31 : decode cX3_calm 31 = .ok (.ifCond .ne 6, 3) := by decide +kernel
theorem dX3_calm_34 : decode cX3_calm 34 = .ok (.bipush (-2), 2) := by decide +kernel
theorem dX3_calm_36 : decode cX3_calm 36 = .ok (.ireturn, 1) := by decide +kernel
theorem dX3_calm_37 : decode cX3_calm 37 = .ok (.aload_n 0, 1) := by decide +kernel
theorem dX3_calm_38 : decode cX3_calm 38 = .ok (.invokevirtual 192, 3) := by decide +kernel
theorem dX3_calm_41 : decode cX3_calm 41 = .ok (.bipush (-9), 2) := by decide +kernel
theorem dX3_calm_43 : decode cX3_calm 43 = .ok (.istore_n 3, 1) := by decide +kernel
theorem dX3_calm_44 : decode cX3_calm 44 = .ok (.iconst 0, 1) := by decide +kernel
theorem dX3_calm_45 : decode cX3_calm 45 = .ok (.istore 4, 2) := by decide +kernel
theorem dX3_calm_47 : decode cX3_calm 47 = .ok (.iload 4, 2) := by decide +kernel
theorem dX3_calm_49 : decode cX3_calm 49 = .ok (.bipush 100, 2) := by decide +kernel
theorem dX3_calm_51 : decode cX3_calm 51 = .ok (.if_icmp .ge 58, 3) := by decide +kernel
theorem dX3_calm_54 : decode cX3_calm 54 = .ok (.iload_n 3, 1) := by decide +kernel
theorem dX3_calm_55 : decode cX3_calm 55 = .ok (.ifCond .ge 54, 3) := by decide +kernel
theorem dX3_calm_58 : decode cX3_calm 58 = .ok (.aload_n 0, 1) := by decide +kernel
theorem dX3_calm_59 : decode cX3_calm 59 = .ok (.iload 4, 2) := by decide +kernel
theorem dX3_calm_61 : decode cX3_calm 61 = .ok (.putfield 130, 3) := by decide +kernel
theorem dX3_calm_64 : decode cX3_calm 64 = .ok (.iconst 0, 1) := by decide +kernel
theorem dX3_calm_65 : decode cX3_calm 65 = .ok (.istore 5, 2) := by decide +kernel
theorem dX3_calm_67 : decode cX3_calm 67 = .ok (.iload 5, 2) := by decide +kernel
theorem dX3_calm_69 : decode cX3_calm 69 = .ok (.iload_n 1, 1) := by decide +kernel
theorem dX3_calm_70 : decode cX3_calm 70 = .ok (.if_icmp .ge 13, 3) := by decide +kernel
theorem dX3_calm_73 : decode cX3_calm 73 = .ok (.aload_n 0, 1) := by decide +kernel
theorem dX3_calm_74 : decode cX3_calm 74 = .ok (.invokevirtual 160, 3) := by decide +kernel
theorem dX3_calm_77 : decode cX3_calm 77 = .ok (.iinc 5 1, 3) := by decide +kernel
theorem dX3_calm_80 : decode cX3_calm 80 = .ok (.goto (-13), 3) := by decide +kernel
theorem dX3_calm_83 : decode cX3_calm 83 = .ok (.aload_n 0, 1) := by decide +kernel
theorem dX3_calm_84 : decode cX3_calm 84 = .ok (.invokevirtual 203, 3) := by decide +kernel
theorem dX3_calm_87 : decode cX3_calm 87 = .ok (.iload_n 2, 1) := by decide +kernel
theorem dX3_calm_88 : decode cX3_calm 88 = .ok (.if_icmp .gt 8, 3) := by decide +kernel
theorem dX3_calm_91 : decode cX3_calm 91 = .ok (.iload 4, 2) := by decide +kernel
theorem dX3_calm_93 : decode cX3_calm 93 = .ok (.goto 5, 3) := by decide +kernel
theorem dX3_calm_96 : decode cX3_calm 96 = .ok (.bipush (-9), 2) := by decide +kernel
theorem dX3_calm_98 : decode cX3_calm 98 = .ok (.istore_n 3, 1) := by decide +kernel
theorem dX3_calm_99 : decode cX3_calm 99 = .ok (.aload_n 0, 1) := by decide +kernel
theorem dX3_calm_100 : decode cX3_calm 100 = .ok (.invokevirtual 198, 3) := by decide +kernel
theorem dX3_calm_103 : decode cX3_calm 103 = .ok (.iinc 4 1, 3) := by decide +kernel
theorem dX3_calm_106 : decode cX3_calm 106 = .ok (.goto (-59), 3) := by decide +kernel
theorem dX3_calm_109 : decode cX3_calm 109 = .ok (.iload_n 3, 1) := by decide +kernel
theorem dX3_calm_110 : decode cX3_calm 110 = .ok (.ireturn, 1) := by decide +kernel
theorem dX3_wonder_0 : decode cX3_wonder 0 = .ok (.aload_n 0, 1) := by decide +kernel
theorem dX3_wonder_1 : decode cX3_wonder 1 = .ok (.getfield 74, 3) := by decide +kernel
theorem dX3_wonder_4 : decode cX3_wonder 4 = .ok (.ifCond .ne 6, 3) := by decide +kernel
theorem dX3_wonder_7 : decode cX3_wonder 7 = .ok (.bipush (-3), 2) := by decide +kernel
theorem dX3_wonder_9 : decode cX3_wonder 9 = .ok (.ireturn, 1) := by decide +kernel
theorem dX3_wonder_10 : decode cX3_wonder 10 = .ok (.iload_n 1, 1) := by decide +kernel
theorem dX3_wonder_11 : decode cX3_wonder 11 = .ok (.i2l, 1) := by decide +kernel
theorem dX3_wonder_12 : decode cX3_wonder 12 = .ok (.lconst 0, 1) := by decide +kernel
theorem dX3_wonder_13 : decode cX3_wonder 13 = .ok (.lconst 1, 1) := by decide +kernel
theorem dX3_wonder_14 : decode cX3_wonder 14 = .ok (.invokestatic 77, 3) := by decide +kernel
theorem dX3_wonder_17 : decode cX3_wonder 17 = .ok (.ifCond .ne 6, 3) := by decide +kernel
theorem dX3_wonder_20 : decode cX3_wonder 20 = .ok (.bipush (-2), 2) := by decide +kernel
theorem dX3_wonder_22 : decode cX3_wonder 22 = .ok (.ireturn, 1) := by decide +kernel
theorem dX3_wonder_23 : decode cX3_wonder 23 = .ok (.bipush (-9), 2) := by decide +kernel
theorem dX3_wonder_25 : decode cX3_wonder 25 = .ok (.istore_n 2, 1) := by decide +kernel
theorem dX3_wonder_26 : decode cX3_wonder 26 = .ok (.bipush (-9), 2) := by decide +kernel
theorem dX3_wonder_28 : decode cX3_wonder 28 = .ok (.istore_n 3, 1) := by decide +kernel
theorem dX3_wonder_29 : decode cX3_wonder 29 = .ok (.aload_n 0, 1) := by decide +kernel
theorem dX3_wonder_30 : decode cX3_wonder 30 = .ok (.getfield 130, 3) := by decide +kernel
theorem dX3_wonder_33 : decode cX3_wonder 33 = .ok (.istore 4, 2) := by decide +kernel
theorem dX3_wonder_35 : decode cX3_wonder 35 = .ok (.iload 4, 2) := by decide +kernel
theorem dX3_wonder_37 : decode cX3_wonder 37 = .ok (.bipush 99, 2) := by decide +kernel
theorem dX3_wonder_39 : decode cX3_wonder 39 = .ok (.if_icmp .ge 72, 3) := by decide +kernel
theorem dX3_wonder_42 : decode cX3_wonder 42 = .ok (.iload_n 2, 1) := by decide +kernel
theorem dX3_wonder_43 : decode cX3_wonder 43 = .ok (.ifCond .ge 68, 3) := by decide +kernel
theorem dX3_wonder_46 : decode cX3_wonder 46 = .ok (.aload_n 0, 1) := by decide +kernel
theorem dX3_wonder_47 : decode cX3_wonder 47 = .ok (.getfield 74, 3) := by decide +kernel
theorem dX3_wonder_50 : decode cX3_wonder 50 = .ok (.iconst 1, 1) := by decide +kernel
theorem dX3_wonder_51 : decode cX3_wonder 51 = .ok (.isub, 1) := by decide +kernel
theorem dX3_wonder_52 : decode cX3_wonder 52 = .ok (.istore 5, 2) := by decide +kernel
theorem dX3_wonder_54 : decode cX3_wonder 54 = .ok (.iload 5, 2) := by decide +kernel
theorem dX3_wonder_56 : decode cX3_wonder 56 = .ok (.ifCond .lt 37, 3) := by decide +kernel
theorem dX3_wonder_59 : decode cX3_wonder 59 = .ok (.aload_n 0, 1) := by decide +kernel
theorem dX3_wonder_60 : decode cX3_wonder 60 = .ok (.iload 5, 2) := by decide +kernel
theorem dX3_wonder_62 : decode cX3_wonder 62 = .ok (.iload 4, 2) := by decide +kernel
theorem dX3_wonder_64 : decode cX3_wonder 64 = .ok (.invokevirtual 152, 3) := by decide +kernel
theorem dX3_wonder_67 : decode cX3_wonder 67 = .ok (.aload_n 0, 1) := by decide +kernel
theorem dX3_wonder_68 : decode cX3_wonder 68 = .ok (.iload 5, 2) := by decide +kernel
theorem dX3_wonder_70 : decode cX3_wonder 70 = .ok (.iload 4, 2) := by decide +kernel
theorem dX3_wonder_72 : decode cX3_wonder 72 = .ok (.iconst 1, 1) := by decide +kernel
theorem dX3_wonder_73 : decode cX3_wonder 73 = .ok (.iadd, 1) := by decide +kernel
theorem dX3_wonder_74 : decode cX3_wonder 74 = .ok (.invokevirtual 152, 3) := by decide +kernel
theorem dX3_wonder_77 : decode cX3_wonder 77 = .ok (.if_icmp .le 8, 3) := by decide +kernel
theorem dX3_wonder_80 : decode cX3_wonder 80 = .ok (.iload 5, 2) := by decide +kernel
theorem dX3_wonder_82 : decode cX3_wonder 82 = .ok (.goto 4, 3) := by decide +kernel
theorem dX3_wonder_85 : decode cX3_wonder 85 = .ok (.iload_n 3, 1) := by decide +kernel
theorem dX3_wonder_86 : decode cX3_wonder 86 = .ok (.istore_n 3, 1) := by decide +kernel
theorem dX3_wonder_87 : decode cX3_wonder 87 = .ok (.iinc 5 (-1), 3) := by decide +kernel
theorem dX3_wonder_90 : decode cX3_wonder 90 = .ok (.goto (-36), 3) := by decide +kernel
theorem dX3_wonder_93 : decode cX3_wonder 93 = .ok (.iload_n 3, 1) := by decide +kernel
theorem dX3_wonder_94 : decode cX3_wonder 94 = .ok (.ifCond .lt 8, 3) := by decide +kernel
theorem dX3_wonder_97 : decode cX3_wonder 97 = .ok (.iload 4, 2) := by decide +kernel
theorem dX3_wonder_99 : decode cX3_wonder 99 = .ok (.goto 5, 3) := by decide +kernel
theorem dX3_wonder_102 : decode cX3_wonder 102 = .ok (.bipush (-9), 2) := by decide +kernel
theorem dX3_wonder_104 : decode cX3_wonder 104 = .ok (.istore_n 2, 1) := by decide +kernel
theorem dX3_wonder_105 : decode cX3_wonder 105 = .ok (.iinc 4 1, 3) := by decide +kernel
theorem dX3_wonder_108 : decode cX3_wonder 108 = .ok (.goto (-73), 3) := by decide +kernel
theorem dX3_wonder_111 : decode cX3_wonder 111 = .ok (.iload_n 1, 1) := by decide +kernel
theorem dX3_wonder_112 : decode cX3_wonder 112 = .ok (.ifCond .ne 7, 3) := by decide +kernel
theorem dX3_wonder_115 : decode cX3_wonder 115 = .ok (.iload_n 2, 1) := by decide +kernel
theorem dX3_wonder_116 : decode cX3_wonder 116 = .ok (.goto 4, 3) := by decide +kernel
theorem dX3_wonder_119 : decode cX3_wonder 119 = .ok (.iload_n 3, 1) := by decide +kernel
theorem dX3_wonder_120 : decode cX3_wonder 120 = .ok (.ireturn, 1) := by decide +kernel
theorem dX3_nextOne_0 : decode cX3_nextOne 0 = .ok (.bipush (-9), 2) := by decide +kernel
theorem dX3_nextOne_2 : decode cX3_nextOne 2 = .ok (.istore_n 1, 1) := by decide +kernel
theorem dX3_nextOne_3 : decode cX3_nextOne 3 = .ok (.iconst 0, 1) := by decide +kernel
theorem dX3_nextOne_4 : decode cX3_nextOne 4 = .ok (.istore_n 2, 1) := by decide +kernel
theorem dX3_nextOne_5 : decode cX3_nextOne 5 = .ok (.iload_n 2, 1) := by decide +kernel
theorem dX3_nextOne_6 : decode cX3_nextOne 6 = .ok (.aload_n 0, 1) := by decide +kernel
theorem dX3_nextOne_7 : decode cX3_nextOne 7 = .ok (.getfield 74, 3) := by decide +kernel
theorem dX3_nextOne_10 : decode cX3_nextOne 10 = .ok (.if_icmp .ge 68, 3) := by decide +kernel
theorem dX3_nextOne_13 : decode cX3_nextOne 13 = .ok (.iload_n 1, 1) := by decide +kernel
theorem dX3_nextOne_14 : decode cX3_nextOne 14 = .ok (.ifCond .lt 34, 3) := by decide +kernel
theorem dX3_nextOne_17 : decode cX3_nextOne 17 = .ok (.aload_n 0, 1) := by decide +kernel
theorem dX3_nextOne_18 : decode cX3_nextOne 18 = .ok (.iload_n 2, 1) := by decide +kernel
theorem dX3_nextOne_19 : decode cX3_nextOne 19 = .ok (.invokevirtual 139, 3) := by decide +kernel
theorem dX3_nextOne_22 : decode cX3_nextOne 22 = .ok (.aload_n 0, 1) := by decide +kernel
theorem dX3_nextOne_23 : decode cX3_nextOne 23 = .ok (.getfield 43, 3) := by decide +kernel
theorem dX3_nextOne_26 : decode cX3_nextOne 26 = .ok (.iload_n 1, 1) := by decide +kernel
theorem dX3_nextOne_27 : decode cX3_nextOne 27 = .ok (.iaload, 1) := by decide +kernel
theorem dX3_nextOne_28 : decode cX3_nextOne 28 = .ok (.iconst 1, 1) := by decide +kernel
theorem dX3_nextOne_29 : decode cX3_nextOne 29 = .ok (.iadd, 1) := by decide +kernel
theorem dX3_nextOne_30 : decode cX3_nextOne 30 = .ok (.imul, 1) := by decide +kernel
theorem dX3_nextOne_31 : decode cX3_nextOne 31 = .ok (.aload_n 0, 1) := by decide +kernel
theorem dX3_nextOne_32 : decode cX3_nextOne 32 = .ok (.iload_n 1, 1) := by decide +kernel
theorem dX3_nextOne_33 : decode cX3_nextOne 33 = .ok (.invokevirtual 139, 3) := by decide +kernel
theorem dX3_nextOne_36 : decode cX3_nextOne 36 = .ok (.aload_n 0, 1) := by decide +kernel
theorem dX3_nextOne_37 : decode cX3_nextOne 37 = .ok (.getfield 43, 3) := by decide +kernel
theorem dX3_nextOne_40 : decode cX3_nextOne 40 = .ok (.iload_n 2, 1) := by decide +kernel
theorem dX3_nextOne_41 : decode cX3_nextOne 41 = .ok (.iaload, 1) := by decide +kernel
theorem dX3_nextOne_42 : decode cX3_nextOne 42 = .ok (.iconst 1, 1) := by decide +kernel
theorem dX3_nextOne_43 : decode cX3_nextOne 43 = .ok (.iadd, 1) := by decide +kernel
theorem dX3_nextOne_44 : decode cX3_nextOne 44 = .ok (.imul, 1) := by decide +kernel
theorem dX3_nextOne_45 : decode cX3_nextOne 45 = .ok (.if_icmp .le 7, 3) := by decide +kernel
theorem dX3_nextOne_48 : decode cX3_nextOne 48 = .ok (.iconst 1, 1) := by decide +kernel
theorem dX3_nextOne_49 : decode cX3_nextOne 49 = .ok (.goto 4, 3) := by decide +kernel
theorem dX3_nextOne_52 : decode cX3_nextOne 52 = .ok (.iconst 0, 1) := by decide +kernel
theorem dX3_nextOne_53 : decode cX3_nextOne 53 = .ok (.istore_n 3, 1) := by decide +kernel
theorem dX3_nextOne_54 : decode cX3_nextOne 54 = .ok (.aload_n 0, 1) := by decide +kernel
theorem dX3_nextOne_55 : decode cX3_nextOne 55 = .ok (.iload_n 2, 1) := by decide +kernel
theorem dX3_nextOne_56 : decode cX3_nextOne 56 = .ok (.invokevirtual 139, 3) := by decide +kernel
theorem dX3_nextOne_59 : decode cX3_nextOne 59 = .ok (.ifCond .le 11, 3) := by decide +kernel
theorem dX3_nextOne_62 : decode cX3_nextOne 62 = .ok (.iload_n 3, 1) := by decide +kernel
theorem dX3_nextOne_63 : decode cX3_nextOne 63 = .ok (.ifCond .eq 7, 3) := by decide +kernel
theorem dX3_nextOne_66 : decode cX3_nextOne 66 = .ok (.iload_n 2, 1) := by decide +kernel
theorem dX3_nextOne_67 : decode cX3_nextOne 67 = .ok (.goto 4, 3) := by decide +kernel
theorem dX3_nextOne_70 : decode cX3_nextOne 70 = .ok (.iload_n 1, 1) := by decide +kernel
theorem dX3_nextOne_71 : decode cX3_nextOne 71 = .ok (.istore_n 1, 1) := by decide +kernel
theorem dX3_nextOne_72 : decode cX3_nextOne 72 = .ok (.iinc 2 1, 3) := by decide +kernel
theorem dX3_nextOne_75 : decode cX3_nextOne 75 = .ok (.goto (-70), 3) := by decide +kernel
theorem dX3_nextOne_78 : decode cX3_nextOne 78 = .ok (.iload_n 1, 1) := by decide +kernel
theorem dX3_nextOne_79 : decode cX3_nextOne 79 = .ok (.ireturn, 1) := by decide +kernel
theorem dX3_otherwise_0 : decode cX3_otherwise 0 = .ok (.aload_n 0, 1) := by decide +kernel
theorem dX3_otherwise_1 : decode cX3_otherwise 1 = .ok (.iload_n 1, 1) := by decide +kernel
theorem dX3_otherwise_2 : decode cX3_otherwise 2 = .ok (.invokevirtual 149, 3) := by decide +kernel
theorem dX3_otherwise_5 : decode cX3_otherwise 5 = .ok (.ifCond .eq 5, 3) := by decide +kernel
theorem dX3_otherwise_8 : decode cX3_otherwise 8 = .ok (.iconst (-1), 1) := by decide +kernel
theorem dX3_otherwise_9 : decode cX3_otherwise 9 = .ok (.ireturn, 1) := by decide +kernel
theorem dX3_otherwise_10 : decode cX3_otherwise 10 = .ok (.iconst 0, 1) := by decide +kernel
theorem dX3_otherwise_11 : decode cX3_otherwise 11 = .ok (.istore_n 2, 1) := by decide +kernel
theorem dX3_otherwise_12 : decode cX3_otherwise 12 = .ok (.iload_n 2, 1) := by decide +kernel
theorem dX3_otherwise_13 : decode cX3_otherwise 13 = .ok (.aload_n 0, 1) := by decide +kernel
theorem dX3_otherwise_14 : decode cX3_otherwise 14 = .ok (.getfield 74, 3) := by decide +kernel
theorem dX3_otherwise_17 : decode cX3_otherwise 17 = .ok (.if_icmp .ge 16, 3) := by decide +kernel
theorem dX3_otherwise_20 : decode cX3_otherwise 20 = .ok (.aload_n 0, 1) := by decide +kernel
theorem dX3_otherwise_21 : decode cX3_otherwise 21 = .ok (.getfield 43, 3) := by decide +kernel
theorem dX3_otherwise_24 : decode cX3_otherwise 24 = .ok (.iload_n 2, 1) := by decide +kernel
theorem dX3_otherwise_25 : decode cX3_otherwise 25 = .ok (.iconst 0, 1) := by decide +kernel
theorem dX3_otherwise_26 : decode cX3_otherwise 26 = .ok (.iastore, 1) := by decide +kernel
theorem dX3_otherwise_27 : decode cX3_otherwise 27 = .ok (.iinc 2 1, 3) := by decide +kernel
theorem dX3_otherwise_30 : decode cX3_otherwise 30 = .ok (.goto (-18), 3) := by decide +kernel
theorem dX3_otherwise_33 : decode cX3_otherwise 33 = .ok (.iconst 0, 1) := by decide +kernel
theorem dX3_otherwise_34 : decode cX3_otherwise 34 = .ok (.istore_n 2, 1) := by decide +kernel
theorem dX3_otherwise_35 : decode cX3_otherwise 35 = .ok (.iload_n 2, 1) := by decide +kernel
theorem dX3_otherwise_36 : decode cX3_otherwise 36 = .ok (.aload_n 0, 1) := by decide +kernel
theorem dX3_otherwise_37 : decode cX3_otherwise 37 = .ok (.getfield 130, 3) := by decide +kernel
theorem dX3_otherwise_40 : decode cX3_otherwise 40 = .ok (.if_icmp .ge 28, 3) := by decide +kernel
theorem dX3_otherwise_43 : decode cX3_otherwise 43 = .ok (.aload_n 0, 1) := by decide +kernel
theorem dX3_otherwise_44 : decode cX3_otherwise 44 = .ok (.invokevirtual 206, 3) := by decide +kernel
theorem dX3_otherwise_47 : decode cX3_otherwise 47 = .ok (.istore_n 3, 1) := by decide +kernel
theorem dX3_otherwise_48 : decode cX3_otherwise 48 = .ok (.iload_n 3, 1) := by decide +kernel
theorem dX3_otherwise_49 : decode cX3_otherwise 49 = .ok (.ifCond .lt 13, 3) := by decide +kernel
theorem dX3_otherwise_52 : decode cX3_otherwise 52 = .ok (.aload_n 0, 1) := by decide +kernel
theorem dX3_otherwise_53 : decode cX3_otherwise 53 = .ok (.getfield 43, 3) := by decide +kernel
theorem dX3_otherwise_56 : decode cX3_otherwise 56 = .ok (.iload_n 3, 1) := by decide +kernel
theorem dX3_otherwise_57 : decode cX3_otherwise 57 = .ok (.dup2, 1) := by decide +kernel
theorem dX3_otherwise_58 : decode cX3_otherwise 58 = .ok (.iaload, 1) := by decide +kernel
theorem dX3_otherwise_59 : decode cX3_otherwise 59 = .ok (.iconst 1, 1) := by decide +kernel
theorem dX3_otherwise_60 : decode cX3_otherwise 60 = .ok (.iadd, 1) := by decide +kernel
theorem dX3_otherwise_61 : decode cX3_otherwise 61 = .ok (.iastore, 1) := by decide +kernel
theorem dX3_otherwise_62 : decode cX3_otherwise 62 = .ok (.iinc 2 1, 3) := by decide +kernel
theorem dX3_otherwise_65 : decode cX3_otherwise 65 = .ok (.goto (-30), 3) := by decide +kernel
theorem dX3_otherwise_68 : decode cX3_otherwise 68 = .ok (.aload_n 0, 1) := by decide +kernel
theorem dX3_otherwise_69 : decode cX3_otherwise 69 = .ok (.getfield 43, 3) := by decide +kernel
theorem dX3_otherwise_72 : decode cX3_otherwise 72 = .ok (.iload_n 1, 1) := by decide +kernel
theorem dX3_otherwise_73 : decode cX3_otherwise 73 = .ok (.iaload, 1) := by decide +kernel
theorem dX3_otherwise_74 : decode cX3_otherwise 74 = .ok (.ireturn, 1) := by decide +kernel
theorem dX3_apart_0 : decode cX3_apart 0 = .ok (.iconst 0, 1) := by decide +kernel
theorem dX3_apart_1 : decode cX3_apart 1 = .ok (.istore_n 2, 1) := by decide +kernel
theorem dX3_apart_2 : decode cX3_apart 2 = .ok (.iconst 0, 1) := by decide +kernel
theorem dX3_apart_3 : decode cX3_apart 3 = .ok (.istore_n 3, 1) := by decide +kernel
theorem dX3_apart_4 : decode cX3_apart 4 = .ok (.iload_n 3, 1) := by decide +kernel
theorem dX3_apart_5 : decode cX3_apart 5 = .ok (.aload_n 0, 1) := by decide +kernel
theorem dX3_apart_6 : decode cX3_apart 6 = .ok (.getfield 74, 3) := by decide +kernel
theorem dX3_apart_9 : decode cX3_apart 9 = .ok (.if_icmp .ge 34, 3) := by decide +kernel
theorem dX3_apart_12 : decode cX3_apart 12 = .ok (.iload_n 2, 1) := by decide +kernel
theorem dX3_apart_13 : decode cX3_apart 13 = .ok (.iload_n 1, 1) := by decide +kernel
theorem dX3_apart_14 : decode cX3_apart 14 = .ok (.iload_n 3, 1) := by decide +kernel
theorem dX3_apart_15 : decode cX3_apart 15 = .ok (.invokestatic 209, 3) := by decide +kernel
theorem dX3_apart_18 : decode cX3_apart 18 = .ok (.ifCond .eq 11, 3) := by decide +kernel
theorem dX3_apart_21 : decode cX3_apart 21 = .ok (.aload_n 0, 1) := by decide +kernel
theorem dX3_apart_22 : decode cX3_apart 22 = .ok (.iload_n 3, 1) := by decide +kernel
theorem dX3_apart_23 : decode cX3_apart 23 = .ok (.invokevirtual 139, 3) := by decide +kernel
theorem dX3_apart_26 : decode cX3_apart 26 = .ok (.goto 9, 3) := by decide +kernel
theorem dX3_apart_29 : decode cX3_apart 29 = .ok (.aload_n 0, 1) := by decide +kernel
theorem dX3_apart_30 : decode cX3_apart 30 = .ok (.iload_n 3, 1) := by decide +kernel
theorem dX3_apart_31 : decode cX3_apart 31 = .ok (.invokevirtual 139, 3) := by decide +kernel
theorem dX3_apart_34 : decode cX3_apart 34 = .ok (.ineg, 1) := by decide +kernel
theorem dX3_apart_35 : decode cX3_apart 35 = .ok (.iadd, 1) := by decide +kernel
theorem dX3_apart_36 : decode cX3_apart 36 = .ok (.istore_n 2, 1) := by decide +kernel
theorem dX3_apart_37 : decode cX3_apart 37 = .ok (.iinc 3 1, 3) := by decide +kernel
theorem dX3_apart_40 : decode cX3_apart 40 = .ok (.goto (-36), 3) := by decide +kernel
theorem dX3_apart_43 : decode cX3_apart 43 = .ok (.iload_n 2, 1) := by decide +kernel
theorem dX3_apart_44 : decode cX3_apart 44 = .ok (.ifCond .ge 8, 3) := by decide +kernel
theorem dX3_apart_47 : decode cX3_apart 47 = .ok (.iload_n 2, 1) := by decide +kernel
theorem dX3_apart_48 : decode cX3_apart 48 = .ok (.ineg, 1) := by decide +kernel
theorem dX3_apart_49 : decode cX3_apart 49 = .ok (.goto 4, 3) := by decide +kernel
theorem dX3_apart_52 : decode cX3_apart 52 = .ok (.iload_n 2, 1) := by decide +kernel
theorem dX3_apart_53 : decode cX3_apart 53 = .ok (.ireturn, 1) := by decide +kernel
theorem dX3_halves_0 : decode cX3_halves 0 = .ok (.aload_n 0, 1) := by decide +kernel
theorem dX3_halves_1 : decode cX3_halves 1 = .ok (.getfield 74, 3) := by decide +kernel
theorem dX3_halves_4 : decode cX3_halves 4 = .ok (.ifCond .ne 6, 3) := by decide +kernel
theorem dX3_halves_7 : decode cX3_halves 7 = .ok (.bipush (-3), 2) := by decide +kernel
theorem dX3_halves_9 : decode cX3_halves 9 = .ok (.ireturn, 1) := by decide +kernel
theorem dX3_halves_10 : decode cX3_halves 10 = .ok (.iload_n 1, 1) := by decide +kernel
theorem dX3_halves_11 : decode cX3_halves 11 = .ok (.i2l, 1) := by decide +kernel
theorem dX3_halves_12 : decode cX3_halves 12 = .ok (.lconst 0, 1) := by decide +kernel
theorem dX3_halves_13 : decode cX3_halves 13 = .ok (.lconst 1, 1) := by decide +kernel
theorem dX3_halves_14 : decode cX3_halves 14 = .ok (.invokestatic 77, 3) := by decide +kernel
theorem dX3_halves_17 : decode cX3_halves 17 = .ok (.ifCond .ne 6, 3) := by decide +kernel
theorem dX3_halves_20 : decode cX3_halves 20 = .ok (.bipush (-2), 2) := by decide +kernel
theorem dX3_halves_22 : decode cX3_halves 22 = .ok (.ireturn, 1) := by decide +kernel
theorem dX3_halves_23 : decode cX3_halves 23 = .ok (.iconst 1, 1) := by decide +kernel
theorem dX3_halves_24 : decode cX3_halves 24 = .ok (.istore_n 2, 1) := by decide +kernel
theorem dX3_halves_25 : decode cX3_halves 25 = .ok (.iconst 1, 1) := by decide +kernel
theorem dX3_halves_26 : decode cX3_halves 26 = .ok (.istore_n 3, 1) := by decide +kernel
theorem dX3_halves_27 : decode cX3_halves 27 = .ok (.iload_n 3, 1) := by decide +kernel
theorem dX3_halves_28 : decode cX3_halves 28 = .ok (.iconst 1, 1) := by decide +kernel
theorem dX3_halves_29 : decode cX3_halves 29 = .ok (.aload_n 0, 1) := by decide +kernel
theorem dX3_halves_30 : decode cX3_halves 30 = .ok (.getfield 74, 3) := by decide +kernel
theorem dX3_halves_33 : decode cX3_halves 33 = .ok (.ishl, 1) := by decide +kernel
theorem dX3_halves_34 : decode cX3_halves 34 = .ok (.if_icmp .ge 28, 3) := by decide +kernel
theorem dX3_halves_37 : decode cX3_halves 37 = .ok (.aload_n 0, 1) := by decide +kernel
theorem dX3_halves_38 : decode cX3_halves 38 = .ok (.iload_n 3, 1) := by decide +kernel
theorem dX3_halves_39 : decode cX3_halves 39 = .ok (.invokevirtual 212, 3) := by decide +kernel
theorem dX3_halves_42 : decode cX3_halves 42 = .ok (.aload_n 0, 1) := by decide +kernel
theorem dX3_halves_43 : decode cX3_halves 43 = .ok (.iload_n 2, 1) := by decide +kernel
theorem dX3_halves_44 : decode cX3_halves 44 = .ok (.invokevirtual 212, 3) := by decide +kernel
theorem dX3_halves_47 : decode cX3_halves 47 = .ok (.if_icmp .ge 7, 3) := by decide +kernel
theorem dX3_halves_50 : decode cX3_halves 50 = .ok (.iload_n 3, 1) := by decide +kernel
theorem dX3_halves_51 : decode cX3_halves 51 = .ok (.goto 4, 3) := by decide +kernel
theorem dX3_halves_54 : decode cX3_halves 54 = .ok (.iload_n 2, 1) := by decide +kernel
theorem dX3_halves_55 : decode cX3_halves 55 = .ok (.istore_n 2, 1) := by decide +kernel
theorem dX3_halves_56 : decode cX3_halves 56 = .ok (.iinc 3 2, 3) := by decide +kernel
theorem dX3_halves_59 : decode cX3_halves 59 = .ok (.goto (-32), 3) := by decide +kernel
theorem dX3_halves_62 : decode cX3_halves 62 = .ok (.iload_n 1, 1) := by decide +kernel
theorem dX3_halves_63 : decode cX3_halves 63 = .ok (.ifCond .ne 7, 3) := by decide +kernel
theorem dX3_halves_66 : decode cX3_halves 66 = .ok (.iload_n 2, 1) := by decide +kernel
theorem dX3_halves_67 : decode cX3_halves 67 = .ok (.goto 8, 3) := by decide +kernel
theorem dX3_halves_70 : decode cX3_halves 70 = .ok (.aload_n 0, 1) := by decide +kernel
theorem dX3_halves_71 : decode cX3_halves 71 = .ok (.iload_n 2, 1) := by decide +kernel
theorem dX3_halves_72 : decode cX3_halves 72 = .ok (.invokevirtual 212, 3) := by decide +kernel
theorem dX3_halves_75 : decode cX3_halves 75 = .ok (.ireturn, 1) := by decide +kernel
theorem dX3_reading_0 : decode cX3_reading 0 = .ok (.aload_n 0, 1) := by decide +kernel
theorem dX3_reading_1 : decode cX3_reading 1 = .ok (.iload_n 1, 1) := by decide +kernel
theorem dX3_reading_2 : decode cX3_reading 2 = .ok (.invokevirtual 149, 3) := by decide +kernel
theorem dX3_reading_5 : decode cX3_reading 5 = .ok (.ifCond .eq 5, 3) := by decide +kernel
theorem dX3_reading_8 : decode cX3_reading 8 = .ok (.iconst (-1), 1) := by decide +kernel
theorem dX3_reading_9 : decode cX3_reading 9 = .ok (.ireturn, 1) := by decide +kernel
theorem dX3_reading_10 : decode cX3_reading 10 = .ok (.iload_n 2, 1) := by decide +kernel
theorem dX3_reading_11 : decode cX3_reading 11 = .ok (.invokestatic 155, 3) := by decide +kernel
theorem dX3_reading_14 : decode cX3_reading 14 = .ok (.ifCond .ne 6, 3) := by decide +kernel
theorem dX3_reading_17 : decode cX3_reading 17 = .ok (.bipush (-2), 2) := by decide +kernel
theorem dX3_reading_19 : decode cX3_reading 19 = .ok (.ireturn, 1) := by decide +kernel
theorem dX3_reading_20 : decode cX3_reading 20 = .ok (.aload_n 0, 1) := by decide +kernel
theorem dX3_reading_21 : decode cX3_reading 21 = .ok (.getfield 136, 3) := by decide +kernel
theorem dX3_reading_24 : decode cX3_reading 24 = .ok (.bipush 8, 2) := by decide +kernel
theorem dX3_reading_26 : decode cX3_reading 26 = .ok (.if_icmp .ne 6, 3) := by decide +kernel
theorem dX3_reading_29 : decode cX3_reading 29 = .ok (.bipush (-4), 2) := by decide +kernel
theorem dX3_reading_31 : decode cX3_reading 31 = .ok (.ireturn, 1) := by decide +kernel
theorem dX3_reading_32 : decode cX3_reading 32 = .ok (.aload_n 0, 1) := by decide +kernel
theorem dX3_reading_33 : decode cX3_reading 33 = .ok (.getfield 46, 3) := by decide +kernel
theorem dX3_reading_36 : decode cX3_reading 36 = .ok (.aload_n 0, 1) := by decide +kernel
theorem dX3_reading_37 : decode cX3_reading 37 = .ok (.getfield 136, 3) := by decide +kernel
theorem dX3_reading_40 : decode cX3_reading 40 = .ok (.iload_n 1, 1) := by decide +kernel
theorem dX3_reading_41 : decode cX3_reading 41 = .ok (.iastore, 1) := by decide +kernel
theorem dX3_reading_42 : decode cX3_reading 42 = .ok (.aload_n 0, 1) := by decide +kernel
theorem dX3_reading_43 : decode cX3_reading 43 = .ok (.getfield 49, 3) := by decide +kernel
theorem dX3_reading_46 : decode cX3_reading 46 = .ok (.aload_n 0, 1) := by decide +kernel
theorem dX3_reading_47 : decode cX3_reading 47 = .ok (.getfield 136, 3) := by decide +kernel
theorem dX3_reading_50 : decode cX3_reading 50 = .ok (.iload_n 2, 1) := by decide +kernel
theorem dX3_reading_51 : decode cX3_reading 51 = .ok (.iastore, 1) := by decide +kernel
theorem dX3_reading_52 : decode cX3_reading 52 = .ok (.aload_n 0, 1) := by decide +kernel
theorem dX3_reading_53 : decode cX3_reading 53 = .ok (.dup, 1) := by decide +kernel
theorem dX3_reading_54 : decode cX3_reading 54 = .ok (.getfield 136, 3) := by decide +kernel
theorem dX3_reading_57 : decode cX3_reading 57 = .ok (.iconst 1, 1) := by decide +kernel
theorem dX3_reading_58 : decode cX3_reading 58 = .ok (.iadd, 1) := by decide +kernel
theorem dX3_reading_59 : decode cX3_reading 59 = .ok (.putfield 136, 3) := by decide +kernel
theorem dX3_reading_62 : decode cX3_reading 62 = .ok (.aload_n 0, 1) := by decide +kernel
theorem dX3_reading_63 : decode cX3_reading 63 = .ok (.getfield 136, 3) := by decide +kernel
theorem dX3_reading_66 : decode cX3_reading 66 = .ok (.iconst 1, 1) := by decide +kernel
theorem dX3_reading_67 : decode cX3_reading 67 = .ok (.isub, 1) := by decide +kernel
theorem dX3_reading_68 : decode cX3_reading 68 = .ok (.ireturn, 1) := by decide +kernel
theorem dX3_back_0 : decode cX3_back 0 = .ok (.iload_n 1, 1) := by decide +kernel
theorem dX3_back_1 : decode cX3_back 1 = .ok (.i2l, 1) := by decide +kernel
theorem dX3_back_2 : decode cX3_back 2 = .ok (.lconst 0, 1) := by decide +kernel
theorem dX3_back_3 : decode cX3_back 3 = .ok (.aload_n 0, 1) := by decide +kernel
theorem dX3_back_4 : decode cX3_back 4 = .ok (.getfield 136, 3) := by decide +kernel
theorem dX3_back_7 : decode cX3_back 7 = .ok (.i2l, 1) := by decide +kernel
theorem dX3_back_8 : decode cX3_back 8 = .ok (.invokestatic 77, 3) := by decide +kernel
theorem dX3_back_11 : decode cX3_back 11 = .ok (.ifCond .ne 6, 3) := by decide +kernel
theorem dX3_back_14 : decode cX3_back 14 = .ok (.bipush (-2), 2) := by decide +kernel
theorem dX3_back_16 : decode cX3_back 16 = .ok (.ireturn, 1) := by decide +kernel
theorem dX3_back_17 : decode cX3_back 17 = .ok (.aload_n 0, 1) := by decide +kernel
theorem dX3_back_18 : decode cX3_back 18 = .ok (.dup, 1) := by decide +kernel
theorem dX3_back_19 : decode cX3_back 19 = .ok (.getfield 136, 3) := by decide +kernel
theorem dX3_back_22 : decode cX3_back 22 = .ok (.iload_n 1, 1) := by decide +kernel
theorem dX3_back_23 : decode cX3_back 23 = .ok (.isub, 1) := by decide +kernel
theorem dX3_back_24 : decode cX3_back 24 = .ok (.putfield 136, 3) := by decide +kernel
theorem dX3_back_27 : decode cX3_back 27 = .ok (.aload_n 0, 1) := by decide +kernel
theorem dX3_back_28 : decode cX3_back 28 = .ok (.getfield 136, 3) := by decide +kernel
theorem dX3_back_31 : decode cX3_back 31 = .ok (.ireturn, 1) := by decide +kernel
theorem dX3_areSo_0 : decode cX3_areSo 0 = .ok (.iconst 1, 1) := by decide +kernel
theorem dX3_areSo_1 : decode cX3_areSo 1 = .ok (.istore_n 1, 1) := by decide +kernel
theorem dX3_areSo_2 : decode cX3_areSo 2 = .ok (.iconst 0, 1) := by decide +kernel
theorem dX3_areSo_3 : decode cX3_areSo 3 = .ok (.istore_n 2, 1) := by decide +kernel
theorem dX3_areSo_4 : decode cX3_areSo 4 = .ok (.iload_n 2, 1) := by decide +kernel
theorem dX3_areSo_5 : decode cX3_areSo 5 = .ok (.aload_n 0, 1) := by decide +kernel
theorem dX3_areSo_6 : decode cX3_areSo 6 = .ok (.getfield 136, 3) := by decide +kernel
theorem dX3_areSo_9 : decode cX3_areSo 9 = .ok (.if_icmp .ge 42, 3) := by decide +kernel
theorem dX3_areSo_12 : decode cX3_areSo 12 = .ok (.iload_n 1, 1) := by decide +kernel
theorem dX3_areSo_13 : decode cX3_areSo 13 = .ok (.ifCond .eq 30, 3) := by decide +kernel
theorem dX3_areSo_16 : decode cX3_areSo 16 = .ok (.aload_n 0, 1) := by decide +kernel
theorem dX3_areSo_17 : decode cX3_areSo 17 = .ok (.aload_n 0, 1) := by decide +kernel
theorem dX3_areSo_18 : decode cX3_areSo 18 = .ok (.getfield 46, 3) := by decide +kernel
theorem dX3_areSo_21 : decode cX3_areSo 21 = .ok (.iload_n 2, 1) := by decide +kernel
theorem dX3_areSo_22 : decode cX3_areSo 22 = .ok (.iaload, 1) := by decide +kernel
theorem dX3_areSo_23 : decode cX3_areSo 23 = .ok (.aload_n 0, 1) := by decide +kernel
theorem dX3_areSo_24 : decode cX3_areSo 24 = .ok (.getfield 130, 3) := by decide +kernel
theorem dX3_areSo_27 : decode cX3_areSo 27 = .ok (.invokevirtual 152, 3) := by decide +kernel
theorem dX3_areSo_30 : decode cX3_areSo 30 = .ok (.aload_n 0, 1) := by decide +kernel
theorem dX3_areSo_31 : decode cX3_areSo 31 = .ok (.getfield 49, 3) := by decide +kernel
theorem dX3_areSo_34 : decode cX3_areSo 34 = .ok (.iload_n 2, 1) := by decide +kernel
theorem dX3_areSo_35 : decode cX3_areSo 35 = .ok (.iaload, 1) := by decide +kernel
theorem dX3_areSo_36 : decode cX3_areSo 36 = .ok (.if_icmp .ne 7, 3) := by decide +kernel
theorem dX3_areSo_39 : decode cX3_areSo 39 = .ok (.iconst 1, 1) := by decide +kernel
theorem dX3_areSo_40 : decode cX3_areSo 40 = .ok (.goto 4, 3) := by decide +kernel
theorem dX3_areSo_43 : decode cX3_areSo 43 = .ok (.iconst 0, 1) := by decide +kernel
theorem dX3_areSo_44 : decode cX3_areSo 44 = .ok (.istore_n 1, 1) := by decide +kernel
theorem dX3_areSo_45 : decode cX3_areSo 45 = .ok (.iinc 2 1, 3) := by decide +kernel
theorem dX3_areSo_48 : decode cX3_areSo 48 = .ok (.goto (-44), 3) := by decide +kernel
theorem dX3_areSo_51 : decode cX3_areSo 51 = .ok (.iload_n 1, 1) := by decide +kernel
theorem dX3_areSo_52 : decode cX3_areSo 52 = .ok (.ireturn, 1) := by decide +kernel
theorem dX3_tempers_0 : decode cX3_tempers 0 = .ok (.aload_n 0, 1) := by decide +kernel
theorem dX3_tempers_1 : decode cX3_tempers 1 = .ok (.iload_n 1, 1) := by decide +kernel
theorem dX3_tempers_2 : decode cX3_tempers 2 = .ok (.invokevirtual 149, 3) := by decide +kernel
theorem dX3_tempers_5 : decode cX3_tempers 5 = .ok (.ifCond .eq 5, 3) := by decide +kernel
theorem dX3_tempers_8 : decode cX3_tempers 8 = .ok (.iconst (-1), 1) := by decide +kernel
theorem dX3_tempers_9 : decode cX3_tempers 9 = .ok (.ireturn, 1) := by decide +kernel
theorem dX3_tempers_10 : decode cX3_tempers 10 = .ok (.aload_n 0, 1) := by decide +kernel
theorem dX3_tempers_11 : decode cX3_tempers 11 = .ok (.getfield 13, 3) := by decide +kernel
theorem dX3_tempers_14 : decode cX3_tempers 14 = .ok (.iload_n 1, 1) := by decide +kernel
theorem dX3_tempers_15 : decode cX3_tempers 15 = .ok (.iaload, 1) := by decide +kernel
theorem dX3_tempers_16 : decode cX3_tempers 16 = .ok (.istore_n 2, 1) := by decide +kernel
theorem dX3_tempers_17 : decode cX3_tempers 17 = .ok (.iconst 0, 1) := by decide +kernel
theorem dX3_tempers_18 : decode cX3_tempers 18 = .ok (.istore_n 3, 1) := by decide +kernel
theorem dX3_tempers_19 : decode cX3_tempers 19 = .ok (.iconst 0, 1) := by decide +kernel
theorem dX3_tempers_20 : decode cX3_tempers 20 = .ok (.istore 4, 2) := by decide +kernel
theorem dX3_tempers_22 : decode cX3_tempers 22 = .ok (.iload 4, 2) := by decide +kernel
theorem dX3_tempers_24 : decode cX3_tempers 24 = .ok (.bipush 10, 2) := by decide +kernel
theorem dX3_tempers_26 : decode cX3_tempers 26 = .ok (.if_icmp .ge 35, 3) := by decide +kernel
theorem dX3_tempers_29 : decode cX3_tempers 29 = .ok (.aload_n 0, 1) := by decide +kernel
theorem dX3_tempers_30 : decode cX3_tempers 30 = .ok (.getfield 13, 3) := by decide +kernel
theorem dX3_tempers_33 : decode cX3_tempers 33 = .ok (.iload_n 1, 1) := by decide +kernel
theorem dX3_tempers_34 : decode cX3_tempers 34 = .ok (.iload 4, 2) := by decide +kernel
theorem dX3_tempers_36 : decode cX3_tempers 36 = .ok (.iastore, 1) := by decide +kernel
theorem dX3_tempers_37 : decode cX3_tempers 37 = .ok (.iload_n 3, 1) := by decide +kernel
theorem dX3_tempers_38 : decode cX3_tempers 38 = .ok (.aload_n 0, 1) := by decide +kernel
theorem dX3_tempers_39 : decode cX3_tempers 39 = .ok (.invokevirtual 215, 3) := by decide +kernel
theorem dX3_tempers_42 : decode cX3_tempers 42 = .ok (.ifCond .eq 10, 3) := by decide +kernel
theorem dX3_tempers_45 : decode cX3_tempers 45 = .ok (.iconst 1, 1) := by decide +kernel
theorem dX3_tempers_46 : decode cX3_tempers 46 = .ok (.iload 4, 2) := by decide +kernel
theorem dX3_tempers_48 : decode cX3_tempers 48 = .ok (.ishl, 1) := by decide +kernel
theorem dX3_tempers_49 : decode cX3_tempers 49 = .ok (.goto 4, 3) := by decide +kernel
theorem dX3_tempers_52 : decode cX3_tempers 52 = .ok (.iconst 0, 1) := by decide +kernel
theorem dX3_tempers_53 : decode cX3_tempers 53 = .ok (.ior, 1) := by decide +kernel
theorem dX3_tempers_54 : decode cX3_tempers 54 = .ok (.istore_n 3, 1) := by decide +kernel
theorem dX3_tempers_55 : decode cX3_tempers 55 = .ok (.iinc 4 1, 3) := by decide +kernel
theorem dX3_tempers_58 : decode cX3_tempers 58 = .ok (.goto (-36), 3) := by decide +kernel
theorem dX3_tempers_61 : decode cX3_tempers 61 = .ok (.aload_n 0, 1) := by decide +kernel
theorem dX3_tempers_62 : decode cX3_tempers 62 = .ok (.getfield 13, 3) := by decide +kernel
theorem dX3_tempers_65 : decode cX3_tempers 65 = .ok (.iload_n 1, 1) := by decide +kernel
theorem dX3_tempers_66 : decode cX3_tempers 66 = .ok (.iload_n 2, 1) := by decide +kernel
theorem dX3_tempers_67 : decode cX3_tempers 67 = .ok (.iastore, 1) := by decide +kernel
theorem dX3_tempers_68 : decode cX3_tempers 68 = .ok (.iload_n 3, 1) := by decide +kernel
theorem dX3_tempers_69 : decode cX3_tempers 69 = .ok (.ireturn, 1) := by decide +kernel
theorem dX3_kinds_0 : decode cX3_kinds 0 = .ok (.aload_n 0, 1) := by decide +kernel
theorem dX3_kinds_1 : decode cX3_kinds 1 = .ok (.iload_n 1, 1) := by decide +kernel
theorem dX3_kinds_2 : decode cX3_kinds 2 = .ok (.invokevirtual 149, 3) := by decide +kernel
theorem dX3_kinds_5 : decode cX3_kinds 5 = .ok (.ifCond .eq 5, 3) := by decide +kernel
theorem dX3_kinds_8 : decode cX3_kinds 8 = .ok (.iconst (-1), 1) := by decide +kernel
theorem dX3_kinds_9 : decode cX3_kinds 9 = .ok (.ireturn, 1) := by decide +kernel
theorem dX3_kinds_10 : decode cX3_kinds 10 = .ok (.aload_n 0, 1) := by decide +kernel
theorem dX3_kinds_11 : decode cX3_kinds 11 = .ok (.getfield 7, 3) := by decide +kernel
theorem dX3_kinds_14 : decode cX3_kinds 14 = .ok (.iload_n 1, 1) := by decide +kernel
theorem dX3_kinds_15 : decode cX3_kinds 15 = .ok (.iaload, 1) := by decide +kernel
theorem dX3_kinds_16 : decode cX3_kinds 16 = .ok (.istore_n 2, 1) := by decide +kernel
theorem dX3_kinds_17 : decode cX3_kinds 17 = .ok (.iconst 0, 1) := by decide +kernel
theorem dX3_kinds_18 : decode cX3_kinds 18 = .ok (.istore_n 3, 1) := by decide +kernel
theorem dX3_kinds_19 : decode cX3_kinds 19 = .ok (.iconst 0, 1) := by decide +kernel
theorem dX3_kinds_20 : decode cX3_kinds 20 = .ok (.istore 4, 2) := by decide +kernel
theorem dX3_kinds_22 : decode cX3_kinds 22 = .ok (.iload 4, 2) := by decide +kernel
theorem dX3_kinds_24 : decode cX3_kinds 24 = .ok (.iconst 3, 1) := by decide +kernel
theorem dX3_kinds_25 : decode cX3_kinds 25 = .ok (.if_icmp .ge 35, 3) := by decide +kernel
theorem dX3_kinds_28 : decode cX3_kinds 28 = .ok (.aload_n 0, 1) := by decide +kernel
theorem dX3_kinds_29 : decode cX3_kinds 29 = .ok (.getfield 7, 3) := by decide +kernel
theorem dX3_kinds_32 : decode cX3_kinds 32 = .ok (.iload_n 1, 1) := by decide +kernel
theorem dX3_kinds_33 : decode cX3_kinds 33 = .ok (.iload 4, 2) := by decide +kernel
theorem dX3_kinds_35 : decode cX3_kinds 35 = .ok (.iastore, 1) := by decide +kernel
theorem dX3_kinds_36 : decode cX3_kinds 36 = .ok (.iload_n 3, 1) := by decide +kernel
theorem dX3_kinds_37 : decode cX3_kinds 37 = .ok (.aload_n 0, 1) := by decide +kernel
theorem dX3_kinds_38 : decode cX3_kinds 38 = .ok (.invokevirtual 215, 3) := by decide +kernel
theorem dX3_kinds_41 : decode cX3_kinds 41 = .ok (.ifCond .eq 10, 3) := by decide +kernel
theorem dX3_kinds_44 : decode cX3_kinds 44 = .ok (.iconst 1, 1) := by decide +kernel
theorem dX3_kinds_45 : decode cX3_kinds 45 = .ok (.iload 4, 2) := by decide +kernel
theorem dX3_kinds_47 : decode cX3_kinds 47 = .ok (.ishl, 1) := by decide +kernel
theorem dX3_kinds_48 : decode cX3_kinds 48 = .ok (.goto 4, 3) := by decide +kernel
theorem dX3_kinds_51 : decode cX3_kinds 51 = .ok (.iconst 0, 1) := by decide +kernel
theorem dX3_kinds_52 : decode cX3_kinds 52 = .ok (.ior, 1) := by decide +kernel
theorem dX3_kinds_53 : decode cX3_kinds 53 = .ok (.istore_n 3, 1) := by decide +kernel
theorem dX3_kinds_54 : decode cX3_kinds 54 = .ok (.iinc 4 1, 3) := by decide +kernel
theorem dX3_kinds_57 : decode cX3_kinds 57 = .ok (.goto (-35), 3) := by decide +kernel
theorem dX3_kinds_60 : decode cX3_kinds 60 = .ok (.aload_n 0, 1) := by decide +kernel
theorem dX3_kinds_61 : decode cX3_kinds 61 = .ok (.getfield 7, 3) := by decide +kernel
theorem dX3_kinds_64 : decode cX3_kinds 64 = .ok (.iload_n 1, 1) := by decide +kernel
theorem dX3_kinds_65 : decode cX3_kinds 65 = .ok (.iload_n 2, 1) := by decide +kernel
theorem dX3_kinds_66 : decode cX3_kinds 66 = .ok (.iastore, 1) := by decide +kernel
theorem dX3_kinds_67 : decode cX3_kinds 67 = .ok (.iload_n 3, 1) := by decide +kernel
theorem dX3_kinds_68 : decode cX3_kinds 68 = .ok (.ireturn, 1) := by decide +kernel
theorem dX3_crates_0 : decode cX3_crates 0 = .ok (.aload_n 0, 1) := by decide +kernel
theorem dX3_crates_1 : decode cX3_crates 1 = .ok (.getfield 74, 3) := by decide +kernel
theorem dX3_crates_4 : decode cX3_crates 4 = .ok (.ifCond .ne 6, 3) := by decide +kernel
theorem dX3_crates_7 : decode cX3_crates 7 = .ok (.bipush (-3), 2) := by decide +kernel
theorem dX3_crates_9 : decode cX3_crates 9 = .ok (.ireturn, 1) := by decide +kernel
theorem dX3_crates_10 : decode cX3_crates 10 = .ok (.iload_n 1, 1) := by decide +kernel
theorem dX3_crates_11 : decode cX3_crates 11 = .ok (.i2l, 1) := by decide +kernel
theorem dX3_crates_12 : decode cX3_crates 12 = .ok (.lconst 0, 1) := by decide +kernel
theorem dX3_crates_13 : decode cX3_crates 13 = .ok (.ldc2_w 121, 3) := by decide +kernel
theorem dX3_crates_16 : decode cX3_crates 16 = .ok (.invokestatic 77, 3) := by decide +kernel
theorem dX3_crates_19 : decode cX3_crates 19 = .ok (.ifCond .ne 6, 3) := by decide +kernel
theorem dX3_crates_22 : decode cX3_crates 22 = .ok (.bipush (-2), 2) := by decide +kernel
theorem dX3_crates_24 : decode cX3_crates 24 = .ok (.ireturn, 1) := by decide +kernel
theorem dX3_crates_25 : decode cX3_crates 25 = .ok (.aload_n 0, 1) := by decide +kernel
theorem dX3_crates_26 : decode cX3_crates 26 = .ok (.getfield 130, 3) := by decide +kernel
theorem dX3_crates_29 : decode cX3_crates 29 = .ok (.istore_n 2, 1) := by decide +kernel
theorem dX3_crates_30 : decode cX3_crates 30 = .ok (.iconst 0, 1) := by decide +kernel
theorem dX3_crates_31 : decode cX3_crates 31 = .ok (.istore_n 3, 1) := by decide +kernel
theorem dX3_crates_32 : decode cX3_crates 32 = .ok (.bipush (-9), 2) := by decide +kernel
theorem dX3_crates_34 : decode cX3_crates 34 = .ok (.istore 4, 2) := by decide +kernel
theorem dX3_crates_36 : decode cX3_crates 36 = .ok (.bipush (-9), 2) := by decide +kernel
theorem dX3_crates_38 : decode cX3_crates 38 = .ok (.istore 5, 2) := by decide +kernel
theorem dX3_crates_40 : decode cX3_crates 40 = .ok (.iconst 0, 1) := by decide +kernel
theorem dX3_crates_41 : decode cX3_crates 41 = .ok (.istore 6, 2) := by decide +kernel
theorem dX3_crates_43 : decode cX3_crates 43 = .ok (.iload 6, 2) := by decide +kernel
theorem dX3_crates_45 : decode cX3_crates 45 = .ok (.bipush 100, 2) := by decide +kernel
theorem dX3_crates_47 : decode cX3_crates 47 = .ok (.if_icmp .ge 67, 3) := by decide +kernel
theorem dX3_crates_50 : decode cX3_crates 50 = .ok (.aload_n 0, 1) := by decide +kernel
theorem dX3_crates_51 : decode cX3_crates 51 = .ok (.iload 6, 2) := by decide +kernel
theorem dX3_crates_53 : decode cX3_crates 53 = .ok (.putfield 130, 3) := by decide +kernel
theorem dX3_crates_56 : decode cX3_crates 56 = .ok (.aload_n 0, 1) := by decide +kernel
theorem dX3_crates_57 : decode cX3_crates 57 = .ok (.invokevirtual 215, 3) := by decide +kernel
theorem dX3_crates_60 : decode cX3_crates 60 = .ok (.istore 7, 2) := by decide +kernel
theorem dX3_crates_62 : decode cX3_crates 62 = .ok (.iload_n 3, 1) := by decide +kernel
theorem dX3_crates_63 : decode cX3_crates 63 = .ok (.iload 7, 2) := by decide +kernel
theorem dX3_crates_65 : decode cX3_crates 65 = .ok (.ifCond .eq 7, 3) := by decide +kernel
theorem dX3_crates_68 : decode cX3_crates 68 = .ok (.iconst 1, 1) := by decide +kernel
theorem dX3_crates_69 : decode cX3_crates 69 = .ok (.goto 4, 3) := by decide +kernel
theorem dX3_crates_72 : decode cX3_crates 72 = .ok (.iconst 0, 1) := by decide +kernel
theorem dX3_crates_73 : decode cX3_crates 73 = .ok (.iadd, 1) := by decide +kernel
theorem dX3_crates_74 : decode cX3_crates 74 = .ok (.istore_n 3, 1) := by decide +kernel
theorem dX3_crates_75 : decode cX3_crates 75 = .ok (.iload 7, 2) := by decide +kernel
theorem dX3_crates_77 : decode cX3_crates 77 = .ok (.ifCond .eq 13, 3) := by decide +kernel
theorem dX3_crates_80 : decode cX3_crates 80 = .ok (.iload 4, 2) := by decide +kernel
theorem dX3_crates_82 : decode cX3_crates 82 = .ok (.ifCond .ge 8, 3) := by decide +kernel
theorem dX3_crates_85 : decode cX3_crates 85 = .ok (.iload 6, 2) := by decide +kernel
theorem dX3_crates_87 : decode cX3_crates 87 = .ok (.goto 5, 3) := by decide +kernel
theorem dX3_crates_90 : decode cX3_crates 90 = .ok (.iload 4, 2) := by decide +kernel
theorem dX3_crates_92 : decode cX3_crates 92 = .ok (.istore 4, 2) := by decide +kernel
theorem dX3_crates_94 : decode cX3_crates 94 = .ok (.iload 7, 2) := by decide +kernel
theorem dX3_crates_96 : decode cX3_crates 96 = .ok (.ifCond .eq 8, 3) := by decide +kernel
theorem dX3_crates_99 : decode cX3_crates 99 = .ok (.iload 6, 2) := by decide +kernel
theorem dX3_crates_101 : decode cX3_crates 101 = .ok (.goto 5, 3) := by decide +kernel
theorem dX3_crates_104 : decode cX3_crates 104 = .ok (.iload 5, 2) := by decide +kernel
theorem dX3_crates_106 : decode cX3_crates 106 = .ok (.istore 5, 2) := by decide +kernel
theorem dX3_crates_108 : decode cX3_crates 108 = .ok (.iinc 6 1, 3) := by decide +kernel
theorem dX3_crates_111 : decode cX3_crates 111 = .ok (.goto (-68), 3) := by decide +kernel
theorem dX3_crates_114 : decode cX3_crates 114 = .ok (.aload_n 0, 1) := by decide +kernel
theorem dX3_crates_115 : decode cX3_crates 115 = .ok (.iload_n 2, 1) := by decide +kernel
theorem dX3_crates_116 : decode cX3_crates 116 = .ok (.putfield 130, 3) := by decide +kernel
theorem dX3_crates_119 : decode cX3_crates 119 = .ok (.iload_n 1, 1) := by decide +kernel
theorem dX3_crates_120 : decode cX3_crates 120 = .ok (.ifCond .ne 7, 3) := by decide +kernel
theorem dX3_crates_123 : decode cX3_crates 123 = .ok (.iload_n 3, 1) := by decide +kernel
theorem dX3_crates_124 : decode cX3_crates 124 = .ok (.goto 15, 3) := by decide +kernel
theorem dX3_crates_127 : decode cX3_crates 127 = .ok (.iload_n 1, 1) := by decide +kernel
theorem dX3_crates_128 : decode cX3_crates 128 = .ok (.iconst 1, 1) := by decide +kernel
theorem dX3_crates_129 : decode cX3_crates 129 = .ok (.if_icmp .ne 8, 3) := by decide +kernel
theorem dX3_crates_132 : decode cX3_crates 132 = .ok (.iload 4, 2) := by decide +kernel
theorem dX3_crates_134 : decode cX3_crates 134 = .ok (.goto 5, 3) := by decide +kernel
theorem dX3_crates_137 : decode cX3_crates 137 = .ok (.iload 5, 2) := by decide +kernel
theorem dX3_crates_139 : decode cX3_crates 139 = .ok (.ireturn, 1) := by decide +kernel
theorem dX3_odds_0 : decode cX3_odds 0 = .ok (.aload_n 0, 1) := by decide +kernel
theorem dX3_odds_1 : decode cX3_odds 1 = .ok (.iload_n 1, 1) := by decide +kernel
theorem dX3_odds_2 : decode cX3_odds 2 = .ok (.invokevirtual 149, 3) := by decide +kernel
theorem dX3_odds_5 : decode cX3_odds 5 = .ok (.ifCond .ne 20, 3) := by decide +kernel
theorem dX3_odds_8 : decode cX3_odds 8 = .ok (.iload_n 2, 1) := by decide +kernel
theorem dX3_odds_9 : decode cX3_odds 9 = .ok (.invokestatic 155, 3) := by decide +kernel
theorem dX3_odds_12 : decode cX3_odds 12 = .ok (.ifCond .eq 13, 3) := by decide +kernel
theorem dX3_odds_15 : decode cX3_odds 15 = .ok (.iload_n 3, 1) := by decide +kernel
theorem dX3_odds_16 : decode cX3_odds 16 = .ok (.i2l, 1) := by decide +kernel
theorem dX3_odds_17 : decode cX3_odds 17 = .ok (.lconst 0, 1) := by decide +kernel
theorem dX3_odds_18 : decode cX3_odds 18 = .ok (.lconst 1, 1) := by decide +kernel
theorem dX3_odds_19 : decode cX3_odds 19 = .ok (.invokestatic 77, 3) := by decide +kernel
theorem dX3_odds_22 : decode cX3_odds 22 = .ok (.ifCond .ne 7, 3) := by decide +kernel
theorem dX3_odds_25 : decode cX3_odds 25 = .ok (.invokestatic 70, 3) := by decide +kernel
theorem dX3_odds_28 : decode cX3_odds 28 = .ok (.lreturn, 1) := by decide +kernel
theorem dX3_odds_29 : decode cX3_odds 29 = .ok (.lconst 0, 1) := by decide +kernel
theorem dX3_odds_30 : decode cX3_odds 30 = .ok (.lstore 4, 2) := by decide +kernel
theorem dX3_odds_32 : decode cX3_odds 32 = .ok (.iconst 0, 1) := by decide +kernel
theorem dX3_odds_33 : decode cX3_odds 33 = .ok (.istore 6, 2) := by decide +kernel
theorem dX3_odds_35 : decode cX3_odds 35 = .ok (.iload 6, 2) := by decide +kernel
theorem dX3_odds_37 : decode cX3_odds 37 = .ok (.bipush 100, 2) := by decide +kernel
theorem dX3_odds_39 : decode cX3_odds 39 = .ok (.if_icmp .ge 30, 3) := by decide +kernel
theorem dX3_odds_42 : decode cX3_odds 42 = .ok (.lload 4, 2) := by decide +kernel
theorem dX3_odds_44 : decode cX3_odds 44 = .ok (.aload_n 0, 1) := by decide +kernel
theorem dX3_odds_45 : decode cX3_odds 45 = .ok (.iload_n 1, 1) := by decide +kernel
theorem dX3_odds_46 : decode cX3_odds 46 = .ok (.iload 6, 2) := by decide +kernel
theorem dX3_odds_48 : decode cX3_odds 48 = .ok (.invokevirtual 152, 3) := by decide +kernel
theorem dX3_odds_51 : decode cX3_odds 51 = .ok (.iload_n 2, 1) := by decide +kernel
theorem dX3_odds_52 : decode cX3_odds 52 = .ok (.if_icmp .lt 7, 3) := by decide +kernel
theorem dX3_odds_55 : decode cX3_odds 55 = .ok (.lconst 1, 1) := by decide +kernel
theorem dX3_odds_56 : decode cX3_odds 56 = .ok (.goto 4, 3) := by decide +kernel
theorem dX3_odds_59 : decode cX3_odds 59 = .ok (.lconst 0, 1) := by decide +kernel
theorem dX3_odds_60 : decode cX3_odds 60 = .ok (.ladd, 1) := by decide +kernel
theorem dX3_odds_61 : decode cX3_odds 61 = .ok (.lstore 4, 2) := by decide +kernel
theorem dX3_odds_63 : decode cX3_odds 63 = .ok (.iinc 6 1, 3) := by decide +kernel
theorem dX3_odds_66 : decode cX3_odds 66 = .ok (.goto (-31), 3) := by decide +kernel
theorem dX3_odds_69 : decode cX3_odds 69 = .ok (.lload 4, 2) := by decide +kernel
theorem dX3_odds_71 : decode cX3_odds 71 = .ok (.ldc2_w 219, 3) := by decide +kernel
theorem dX3_odds_74 : decode cX3_odds 74 = .ok (.iload_n 3, 1) := by decide +kernel
theorem dX3_odds_75 : decode cX3_odds 75 = .ok (.invokestatic 221, 3) := by decide +kernel
theorem dX3_odds_78 : decode cX3_odds 78 = .ok (.lreturn, 1) := by decide +kernel
theorem dX3_noSheet_0 : decode cX3_noSheet 0 = .ok (.iload_n 0, 1) := by decide +kernel
theorem dX3_noSheet_1 : decode cX3_noSheet 1 = .ok (.i2l, 1) := by decide +kernel
theorem dX3_noSheet_2 : decode cX3_noSheet 2 = .ok (.lconst 0, 1) := by decide +kernel
theorem dX3_noSheet_3 : decode cX3_noSheet 3 = .ok (.ldc2_w 225, 3) := by decide +kernel
theorem dX3_noSheet_6 : decode cX3_noSheet 6 = .ok (.invokestatic 77, 3) := by decide +kernel
theorem dX3_noSheet_9 : decode cX3_noSheet 9 = .ok (.ifCond .ne 7, 3) := by decide +kernel
theorem dX3_noSheet_12 : decode cX3_noSheet 12 = .ok (.iconst 1, 1) := by decide +kernel
theorem dX3_noSheet_13 : decode cX3_noSheet 13 = .ok (.goto 4, 3) := by decide +kernel
theorem dX3_noSheet_16 : decode cX3_noSheet 16 = .ok (.iconst 0, 1) := by decide +kernel
theorem dX3_noSheet_17 : decode cX3_noSheet 17 = .ok (.ireturn, 1) := by decide +kernel
theorem dX3_sheet_0 : decode cX3_sheet 0 = .ok (.iload_n 1, 1) := by decide +kernel
theorem dX3_sheet_1 : decode cX3_sheet 1 = .ok (.invokestatic 114, 3) := by decide +kernel
theorem dX3_sheet_4 : decode cX3_sheet 4 = .ok (.ifCond .eq 9, 3) := by decide +kernel
theorem dX3_sheet_7 : decode cX3_sheet 7 = .ok (.aload_n 0, 1) := by decide +kernel
theorem dX3_sheet_8 : decode cX3_sheet 8 = .ok (.iconst (-1), 1) := by decide +kernel
theorem dX3_sheet_9 : decode cX3_sheet 9 = .ok (.invokevirtual 118, 3) := by decide +kernel
theorem dX3_sheet_12 : decode cX3_sheet 12 = .ok (.ireturn, 1) := by decide +kernel
theorem dX3_sheet_13 : decode cX3_sheet 13 = .ok (.iload_n 2, 1) := by decide +kernel
theorem dX3_sheet_14 : decode cX3_sheet 14 = .ok (.i2l, 1) := by decide +kernel
theorem dX3_sheet_15 : decode cX3_sheet 15 = .ok (.lconst 0, 1) := by decide +kernel
theorem dX3_sheet_16 : decode cX3_sheet 16 = .ok (.ldc2_w 121, 3) := by decide +kernel
theorem dX3_sheet_19 : decode cX3_sheet 19 = .ok (.invokestatic 77, 3) := by decide +kernel
theorem dX3_sheet_22 : decode cX3_sheet 22 = .ok (.ifCond .eq 9, 3) := by decide +kernel
theorem dX3_sheet_25 : decode cX3_sheet 25 = .ok (.iload_n 3, 1) := by decide +kernel
theorem dX3_sheet_26 : decode cX3_sheet 26 = .ok (.bipush 60, 2) := by decide +kernel
theorem dX3_sheet_28 : decode cX3_sheet 28 = .ok (.if_icmp .le 10, 3) := by decide +kernel
theorem dX3_sheet_31 : decode cX3_sheet 31 = .ok (.aload_n 0, 1) := by decide +kernel
theorem dX3_sheet_32 : decode cX3_sheet 32 = .ok (.bipush (-2), 2) := by decide +kernel
theorem dX3_sheet_34 : decode cX3_sheet 34 = .ok (.invokevirtual 118, 3) := by decide +kernel
theorem dX3_sheet_37 : decode cX3_sheet 37 = .ok (.ireturn, 1) := by decide +kernel
theorem dX3_sheet_38 : decode cX3_sheet 38 = .ok (.iload_n 3, 1) := by decide +kernel
theorem dX3_sheet_39 : decode cX3_sheet 39 = .ok (.ifCond .ge 9, 3) := by decide +kernel
theorem dX3_sheet_42 : decode cX3_sheet 42 = .ok (.aload_n 0, 1) := by decide +kernel
theorem dX3_sheet_43 : decode cX3_sheet 43 = .ok (.iconst 4, 1) := by decide +kernel
theorem dX3_sheet_44 : decode cX3_sheet 44 = .ok (.invokevirtual 106, 3) := by decide +kernel
theorem dX3_sheet_47 : decode cX3_sheet 47 = .ok (.ireturn, 1) := by decide +kernel
theorem dX3_sheet_48 : decode cX3_sheet 48 = .ok (.aload_n 0, 1) := by decide +kernel
theorem dX3_sheet_49 : decode cX3_sheet 49 = .ok (.getfield 52, 3) := by decide +kernel
theorem dX3_sheet_52 : decode cX3_sheet 52 = .ok (.iload_n 1, 1) := by decide +kernel
theorem dX3_sheet_53 : decode cX3_sheet 53 = .ok (.iload_n 3, 1) := by decide +kernel
theorem dX3_sheet_54 : decode cX3_sheet 54 = .ok (.iastore, 1) := by decide +kernel
theorem dX3_sheet_55 : decode cX3_sheet 55 = .ok (.aload_n 0, 1) := by decide +kernel
theorem dX3_sheet_56 : decode cX3_sheet 56 = .ok (.getfield 55, 3) := by decide +kernel
theorem dX3_sheet_59 : decode cX3_sheet 59 = .ok (.iload_n 1, 1) := by decide +kernel
theorem dX3_sheet_60 : decode cX3_sheet 60 = .ok (.iload_n 2, 1) := by decide +kernel
theorem dX3_sheet_61 : decode cX3_sheet 61 = .ok (.iastore, 1) := by decide +kernel
theorem dX3_sheet_62 : decode cX3_sheet 62 = .ok (.iconst 0, 1) := by decide +kernel
theorem dX3_sheet_63 : decode cX3_sheet 63 = .ok (.istore 4, 2) := by decide +kernel
theorem dX3_sheet_65 : decode cX3_sheet 65 = .ok (.iload 4, 2) := by decide +kernel
theorem dX3_sheet_67 : decode cX3_sheet 67 = .ok (.iload_n 3, 1) := by decide +kernel
theorem dX3_sheet_68 : decode cX3_sheet 68 = .ok (.if_icmp .ge 22, 3) := by decide +kernel
theorem dX3_sheet_71 : decode cX3_sheet 71 = .ok (.aload_n 0, 1) := by decide +kernel
theorem dX3_sheet_72 : decode cX3_sheet 72 = .ok (.getfield 58, 3) := by decide +kernel
theorem dX3_sheet_75 : decode cX3_sheet 75 = .ok (.bipush 60, 2) := by decide +kernel
theorem dX3_sheet_77 : decode cX3_sheet 77 = .ok (.iload_n 1, 1) := by decide +kernel
theorem dX3_sheet_78 : decode cX3_sheet 78 = .ok (.imul, 1) := by decide +kernel
theorem dX3_sheet_79 : decode cX3_sheet 79 = .ok (.iload 4, 2) := by decide +kernel
theorem dX3_sheet_81 : decode cX3_sheet 81 = .ok (.iadd, 1) := by decide +kernel
theorem dX3_sheet_82 : decode cX3_sheet 82 = .ok (.iconst 0, 1) := by decide +kernel
theorem dX3_sheet_83 : decode cX3_sheet 83 = .ok (.iastore, 1) := by decide +kernel
theorem dX3_sheet_84 : decode cX3_sheet 84 = .ok (.iinc 4 1, 3) := by decide +kernel
theorem dX3_sheet_87 : decode cX3_sheet 87 = .ok (.goto (-22), 3) := by decide +kernel
theorem dX3_sheet_90 : decode cX3_sheet 90 = .ok (.aload_n 0, 1) := by decide +kernel
theorem dX3_sheet_91 : decode cX3_sheet 91 = .ok (.iconst 1, 1) := by decide +kernel
theorem dX3_sheet_92 : decode cX3_sheet 92 = .ok (.invokevirtual 118, 3) := by decide +kernel
theorem dX3_sheet_95 : decode cX3_sheet 95 = .ok (.ireturn, 1) := by decide +kernel
theorem dX3_lose_0 : decode cX3_lose 0 = .ok (.iload_n 1, 1) := by decide +kernel
theorem dX3_lose_1 : decode cX3_lose 1 = .ok (.invokestatic 114, 3) := by decide +kernel
theorem dX3_lose_4 : decode cX3_lose 4 = .ok (.ifCond .eq 5, 3) := by decide +kernel
theorem dX3_lose_7 : decode cX3_lose 7 = .ok (.iconst (-1), 1) := by decide +kernel
theorem dX3_lose_8 : decode cX3_lose 8 = .ok (.ireturn, 1) := by decide +kernel
theorem dX3_lose_9 : decode cX3_lose 9 = .ok (.aload_n 0, 1) := by decide +kernel
theorem dX3_lose_10 : decode cX3_lose 10 = .ok (.getfield 52, 3) := by decide +kernel
theorem dX3_lose_13 : decode cX3_lose 13 = .ok (.iload_n 1, 1) := by decide +kernel
theorem dX3_lose_14 : decode cX3_lose 14 = .ok (.iaload, 1) := by decide +kernel
theorem dX3_lose_15 : decode cX3_lose 15 = .ok (.ifCond .ge 7, 3) := by decide +kernel
theorem dX3_lose_18 : decode cX3_lose 18 = .ok (.iconst 0, 1) := by decide +kernel
theorem dX3_lose_19 : decode cX3_lose 19 = .ok (.goto 4, 3) := by decide +kernel
theorem dX3_lose_22 : decode cX3_lose 22 = .ok (.iconst 1, 1) := by decide +kernel
theorem dX3_lose_23 : decode cX3_lose 23 = .ok (.istore_n 2, 1) := by decide +kernel
theorem dX3_lose_24 : decode cX3_lose 24 = .ok (.aload_n 0, 1) := by decide +kernel
theorem dX3_lose_25 : decode cX3_lose 25 = .ok (.getfield 52, 3) := by decide +kernel
theorem dX3_lose_28 : decode cX3_lose 28 = .ok (.iload_n 1, 1) := by decide +kernel
theorem dX3_lose_29 : decode cX3_lose 29 = .ok (.iconst (-1), 1) := by decide +kernel
theorem dX3_lose_30 : decode cX3_lose 30 = .ok (.iastore, 1) := by decide +kernel
theorem dX3_lose_31 : decode cX3_lose 31 = .ok (.iload_n 2, 1) := by decide +kernel
theorem dX3_lose_32 : decode cX3_lose 32 = .ok (.ireturn, 1) := by decide +kernel
theorem dX3_noCell_0 : decode cX3_noCell 0 = .ok (.aload_n 0, 1) := by decide +kernel
theorem dX3_noCell_1 : decode cX3_noCell 1 = .ok (.getfield 52, 3) := by decide +kernel
theorem dX3_noCell_4 : decode cX3_noCell 4 = .ok (.iload_n 1, 1) := by decide +kernel
theorem dX3_noCell_5 : decode cX3_noCell 5 = .ok (.iaload, 1) := by decide +kernel
theorem dX3_noCell_6 : decode cX3_noCell 6 = .ok (.ifCond .ge 7, 3) := by decide +kernel
theorem dX3_noCell_9 : decode cX3_noCell 9 = .ok (.iconst 1, 1) := by decide +kernel
theorem dX3_noCell_10 : decode cX3_noCell 10 = .ok (.goto 26, 3) := by decide +kernel
theorem dX3_noCell_13 : decode cX3_noCell 13 = .ok (.iload_n 2, 1) := by decide +kernel
theorem dX3_noCell_14 : decode cX3_noCell 14 = .ok (.i2l, 1) := by decide +kernel
theorem dX3_noCell_15 : decode cX3_noCell 15 = .ok (.lconst 0, 1) := by decide +kernel
theorem dX3_noCell_16 : decode cX3_noCell 16 = .ok (.aload_n 0, 1) := by decide +kernel
theorem dX3_noCell_17 : decode cX3_noCell 17 = .ok (.getfield 52, 3) := by decide +kernel
theorem dX3_noCell_20 : decode cX3_noCell 20 = .ok (.iload_n 1, 1) := by decide +kernel
theorem dX3_noCell_21 : decode cX3_noCell 21 = .ok (.iaload, 1) := by decide +kernel
theorem dX3_noCell_22 : decode cX3_noCell 22 = .ok (.i2l, 1) := by decide +kernel
theorem dX3_noCell_23 : decode cX3_noCell 23 = .ok (.lconst 1, 1) := by decide +kernel
theorem dX3_noCell_24 : decode cX3_noCell 24 = .ok (.lsub, 1) := by decide +kernel
theorem dX3_noCell_25 : decode cX3_noCell 25 = .ok (.invokestatic 77, 3) := by decide +kernel
theorem dX3_noCell_28 : decode cX3_noCell 28 = .ok (.ifCond .eq 7, 3) := by decide +kernel
theorem dX3_noCell_31 : decode cX3_noCell 31 = .ok (.iconst 0, 1) := by decide +kernel
theorem dX3_noCell_32 : decode cX3_noCell 32 = .ok (.goto 4, 3) := by decide +kernel
theorem dX3_noCell_35 : decode cX3_noCell 35 = .ok (.iconst 3, 1) := by decide +kernel
theorem dX3_noCell_36 : decode cX3_noCell 36 = .ok (.ireturn, 1) := by decide +kernel
theorem dX3_put_0 : decode cX3_put 0 = .ok (.iload_n 1, 1) := by decide +kernel
theorem dX3_put_1 : decode cX3_put 1 = .ok (.invokestatic 114, 3) := by decide +kernel
theorem dX3_put_4 : decode cX3_put 4 = .ok (.ifCond .eq 9, 3) := by decide +kernel
theorem dX3_put_7 : decode cX3_put 7 = .ok (.aload_n 0, 1) := by decide +kernel
theorem dX3_put_8 : decode cX3_put 8 = .ok (.iconst (-1), 1) := by decide +kernel
theorem dX3_put_9 : decode cX3_put 9 = .ok (.invokevirtual 118, 3) := by decide +kernel
theorem dX3_put_12 : decode cX3_put 12 = .ok (.ireturn, 1) := by decide +kernel
theorem dX3_put_13 : decode cX3_put 13 = .ok (.aload_n 0, 1) := by decide +kernel
theorem dX3_put_14 : decode cX3_put 14 = .ok (.iload_n 1, 1) := by decide +kernel
theorem dX3_put_15 : decode cX3_put 15 = .ok (.iload_n 2, 1) := by decide +kernel
theorem dX3_put_16 : decode cX3_put 16 = .ok (.invokevirtual 227, 3) := by decide +kernel
theorem dX3_put_19 : decode cX3_put 19 = .ok (.ifCond .le 14, 3) := by decide +kernel
theorem dX3_put_22 : decode cX3_put 22 = .ok (.aload_n 0, 1) := by decide +kernel
theorem dX3_put_23 : decode cX3_put 23 = .ok (.aload_n 0, 1) := by decide +kernel
theorem dX3_put_24 : decode cX3_put 24 = .ok (.iload_n 1, 1) := by decide +kernel
theorem dX3_put_25 : decode cX3_put 25 = .ok (.iload_n 2, 1) := by decide +kernel
theorem dX3_put_26 : decode cX3_put 26 = .ok (.invokevirtual 227, 3) := by decide +kernel
theorem dX3_put_29 : decode cX3_put 29 = .ok (.invokevirtual 106, 3) := by decide +kernel
theorem dX3_put_32 : decode cX3_put 32 = .ok (.ireturn, 1) := by decide +kernel
theorem dX3_put_33 : decode cX3_put 33 = .ok (.aload_n 0, 1) := by decide +kernel
theorem dX3_put_34 : decode cX3_put 34 = .ok (.getfield 58, 3) := by decide +kernel
theorem dX3_put_37 : decode cX3_put 37 = .ok (.bipush 60, 2) := by decide +kernel
theorem dX3_put_39 : decode cX3_put 39 = .ok (.iload_n 1, 1) := by decide +kernel
theorem dX3_put_40 : decode cX3_put 40 = .ok (.imul, 1) := by decide +kernel
theorem dX3_put_41 : decode cX3_put 41 = .ok (.iload_n 2, 1) := by decide +kernel
theorem dX3_put_42 : decode cX3_put 42 = .ok (.iadd, 1) := by decide +kernel
theorem dX3_put_43 : decode cX3_put 43 = .ok (.aload_n 0, 1) := by decide +kernel
theorem dX3_put_44 : decode cX3_put 44 = .ok (.getfield 55, 3) := by decide +kernel
theorem dX3_put_47 : decode cX3_put 47 = .ok (.iload_n 1, 1) := by decide +kernel
theorem dX3_put_48 : decode cX3_put 48 = .ok (.iaload, 1) := by decide +kernel
theorem dX3_put_49 : decode cX3_put 49 = .ok (.ifCond .ne 8, 3) := by decide +kernel
theorem dX3_put_52 : decode cX3_put 52 = .ok (.iload_n 3, 1) := by decide +kernel
theorem dX3_put_53 : decode cX3_put 53 = .ok (.i2b, 1) := by decide +kernel
theorem dX3_put_54 : decode cX3_put 54 = .ok (.goto 19, 3) := by decide +kernel
theorem dX3_put_57 : decode cX3_put 57 = .ok (.aload_n 0, 1) := by decide +kernel
theorem dX3_put_58 : decode cX3_put 58 = .ok (.getfield 55, 3) := by decide +kernel
theorem dX3_put_61 : decode cX3_put 61 = .ok (.iload_n 1, 1) := by decide +kernel
theorem dX3_put_62 : decode cX3_put 62 = .ok (.iaload, 1) := by decide +kernel
theorem dX3_put_63 : decode cX3_put 63 = .ok (.iconst 1, 1) := by decide +kernel
theorem dX3_put_64 : decode cX3_put 64 = .ok (.if_icmp .ne 8, 3) := by decide +kernel
theorem dX3_put_67 : decode cX3_put 67 = .ok (.iload_n 3, 1) := by decide +kernel
theorem dX3_put_68 : decode cX3_put 68 = .ok (.i2s, 1) := by decide +kernel
theorem dX3_put_69 : decode cX3_put 69 = .ok (.goto 4, 3) := by decide +kernel
theorem dX3_put_72 : decode cX3_put 72 = .ok (.iload_n 3, 1) := by decide +kernel
theorem dX3_put_73 : decode cX3_put 73 = .ok (.iastore, 1) := by decide +kernel
theorem dX3_put_74 : decode cX3_put 74 = .ok (.aload_n 0, 1) := by decide +kernel
theorem dX3_put_75 : decode cX3_put 75 = .ok (.iconst 1, 1) := by decide +kernel
theorem dX3_put_76 : decode cX3_put 76 = .ok (.invokevirtual 118, 3) := by decide +kernel
theorem dX3_put_79 : decode cX3_put 79 = .ok (.ireturn, 1) := by decide +kernel
theorem dX3_cell_0 : decode cX3_cell 0 = .ok (.aload_n 0, 1) := by decide +kernel
theorem dX3_cell_1 : decode cX3_cell 1 = .ok (.iconst 0, 1) := by decide +kernel
theorem dX3_cell_2 : decode cX3_cell 2 = .ok (.putfield 66, 3) := by decide +kernel
theorem dX3_cell_5 : decode cX3_cell 5 = .ok (.iload_n 1, 1) := by decide +kernel
theorem dX3_cell_6 : decode cX3_cell 6 = .ok (.invokestatic 114, 3) := by decide +kernel
theorem dX3_cell_9 : decode cX3_cell 9 = .ok (.ifCond .ne 15, 3) := by decide +kernel
theorem dX3_cell_12 : decode cX3_cell 12 = .ok (.iload_n 3, 1) := by decide +kernel
theorem dX3_cell_13 : decode cX3_cell 13 = .ok (.i2l, 1) := by decide +kernel
theorem dX3_cell_14 : decode cX3_cell 14 = .ok (.lconst 0, 1) := by decide +kernel
theorem dX3_cell_15 : decode cX3_cell 15 = .ok (.ldc2_w 121, 3) := by decide +kernel
theorem dX3_cell_18 : decode cX3_cell 18 = .ok (.invokestatic 77, 3) := by decide +kernel
theorem dX3_cell_21 : decode cX3_cell 21 = .ok (.ifCond .ne 7, 3) := by decide +kernel
theorem dX3_cell_24 : decode cX3_cell 24 = .ok (.invokestatic 70, 3) := by decide +kernel
theorem dX3_cell_27 : decode cX3_cell 27 = .ok (.lreturn, 1) := by decide +kernel
theorem dX3_cell_28 : decode cX3_cell 28 = .ok (.aload_n 0, 1) := by decide +kernel
theorem dX3_cell_29 : decode cX3_cell 29 = .ok (.getfield 52, 3) := by decide +kernel
theorem dX3_cell_32 : decode cX3_cell 32 = .ok (.iload_n 1, 1) := by decide +kernel
theorem dX3_cell_33 : decode cX3_cell 33 = .ok (.iaload, 1) := by decide +kernel
theorem dX3_cell_34 : decode cX3_cell 34 = .ok (.ifCond .lt 19, 3) := by decide +kernel
theorem dX3_cell_37 : decode cX3_cell 37 = .ok (.aload_n 0, 1) := by decide +kernel
theorem dX3_cell_38 : decode cX3_cell 38 = .ok (.getfield 55, 3) := by decide +kernel
theorem dX3_cell_41 : decode cX3_cell 41 = .ok (.iload_n 1, 1) := by decide +kernel
theorem dX3_cell_42 : decode cX3_cell 42 = .ok (.iaload, 1) := by decide +kernel
theorem dX3_cell_43 : decode cX3_cell 43 = .ok (.iload_n 3, 1) := by decide +kernel
theorem dX3_cell_44 : decode cX3_cell 44 = .ok (.if_icmp .eq 9, 3) := by decide +kernel
theorem dX3_cell_47 : decode cX3_cell 47 = .ok (.aload_n 0, 1) := by decide +kernel
theorem dX3_cell_48 : decode cX3_cell 48 = .ok (.iconst 2, 1) := by decide +kernel
theorem dX3_cell_49 : decode cX3_cell 49 = .ok (.invokevirtual 230, 3) := by decide +kernel
theorem dX3_cell_52 : decode cX3_cell 52 = .ok (.lreturn, 1) := by decide +kernel
theorem dX3_cell_53 : decode cX3_cell 53 = .ok (.aload_n 0, 1) := by decide +kernel
theorem dX3_cell_54 : decode cX3_cell 54 = .ok (.iload_n 1, 1) := by decide +kernel
theorem dX3_cell_55 : decode cX3_cell 55 = .ok (.iload_n 2, 1) := by decide +kernel
theorem dX3_cell_56 : decode cX3_cell 56 = .ok (.invokevirtual 227, 3) := by decide +kernel
theorem dX3_cell_59 : decode cX3_cell 59 = .ok (.ifCond .le 16, 3) := by decide +kernel
theorem dX3_cell_62 : decode cX3_cell 62 = .ok (.aload_n 0, 1) := by decide +kernel
theorem dX3_cell_63 : decode cX3_cell 63 = .ok (.aload_n 0, 1) := by decide +kernel
theorem dX3_cell_64 : decode cX3_cell 64 = .ok (.iload_n 1, 1) := by decide +kernel
theorem dX3_cell_65 : decode cX3_cell 65 = .ok (.iload_n 2, 1) := by decide +kernel
theorem dX3_cell_66 : decode cX3_cell 66 = .ok (.invokevirtual 227, 3) := by decide +kernel
theorem dX3_cell_69 : decode cX3_cell 69 = .ok (.invokevirtual 230, 3) := by decide +kernel
theorem dX3_cell_72 : decode cX3_cell 72 = .ok (.goto 15, 3) := by decide +kernel
theorem dX3_cell_75 : decode cX3_cell 75 = .ok (.aload_n 0, 1) := by decide +kernel
theorem dX3_cell_76 : decode cX3_cell 76 = .ok (.getfield 58, 3) := by decide +kernel
theorem dX3_cell_79 : decode cX3_cell 79 = .ok (.bipush 60, 2) := by decide +kernel
theorem dX3_cell_81 : decode cX3_cell 81 = .ok (.iload_n 1, 1) := by decide +kernel
theorem dX3_cell_82 : decode cX3_cell 82 = .ok (.imul, 1) := by decide +kernel
theorem dX3_cell_83 : decode cX3_cell 83 = .ok (.iload_n 2, 1) := by decide +kernel
theorem dX3_cell_84 : decode cX3_cell 84 = .ok (.iadd, 1) := by decide +kernel
theorem dX3_cell_85 : decode cX3_cell 85 = .ok (.iaload, 1) := by decide +kernel
theorem dX3_cell_86 : decode cX3_cell 86 = .ok (.i2l, 1) := by decide +kernel
theorem dX3_cell_87 : decode cX3_cell 87 = .ok (.lreturn, 1) := by decide +kernel
theorem dX3_isBeyond_0 : decode cX3_isBeyond 0 = .ok (.iload_n 0, 1) := by decide +kernel
theorem dX3_isBeyond_1 : decode cX3_isBeyond 1 = .ok (.ifCond .lt 19, 3) := by decide +kernel
theorem dX3_isBeyond_4 : decode cX3_isBeyond 4 = .ok (.lload_n 1, 1) := by decide +kernel
theorem dX3_isBeyond_5 : decode cX3_isBeyond 5 = .ok (.lconst 0, 1) := by decide +kernel
theorem dX3_isBeyond_6 : decode cX3_isBeyond 6 = .ok (.lcmp, 1) := by decide +kernel
theorem dX3_isBeyond_7 : decode cX3_isBeyond 7 = .ok (.ifCond .lt 13, 3) := by decide +kernel
theorem dX3_isBeyond_10 : decode cX3_isBeyond 10 = .ok (.iload_n 0, 1) := by decide +kernel
theorem dX3_isBeyond_11 : decode cX3_isBeyond 11 = .ok (.i2l, 1) := by decide +kernel
theorem dX3_isBeyond_12 : decode cX3_isBeyond 12 = .ok (.lload_n 1, 1) := by decide +kernel
theorem dX3_isBeyond_13 : decode cX3_isBeyond 13 = .ok (.ladd, 1) := by decide +kernel
theorem dX3_isBeyond_14 : decode cX3_isBeyond 14 = .ok (.iload_n 3, 1) := by decide +kernel
theorem dX3_isBeyond_15 : decode cX3_isBeyond 15 = .ok (.i2l, 1) := by decide +kernel
theorem dX3_isBeyond_16 : decode cX3_isBeyond 16 = .ok (.lcmp, 1) := by decide +kernel
theorem dX3_isBeyond_17 : decode cX3_isBeyond 17 = .ok (.ifCond .le 7, 3) := by decide +kernel
theorem dX3_isBeyond_20 : decode cX3_isBeyond 20 = .ok (.iconst 1, 1) := by decide +kernel
theorem dX3_isBeyond_21 : decode cX3_isBeyond 21 = .ok (.goto 4, 3) := by decide +kernel
theorem dX3_isBeyond_24 : decode cX3_isBeyond 24 = .ok (.iconst 0, 1) := by decide +kernel
theorem dX3_isBeyond_25 : decode cX3_isBeyond 25 = .ok (.ireturn, 1) := by decide +kernel
theorem dX3_copy_0 : decode cX3_copy 0 = .ok (.iload_n 1, 1) := by decide +kernel
theorem dX3_copy_1 : decode cX3_copy 1 = .ok (.invokestatic 114, 3) := by decide +kernel
theorem dX3_copy_4 : decode cX3_copy 4 = .ok (.ifCond .ne 10, 3) := by decide +kernel
theorem dX3_copy_7 : decode cX3_copy 7 = .ok (.iload_n 3, 1) := by decide +kernel
theorem dX3_copy_8 : decode cX3_copy 8 = .ok (.invokestatic 114, 3) := by decide +kernel
theorem dX3_copy_11 : decode cX3_copy 11 = .ok (.ifCond .eq 9, 3) := by decide +kernel
theorem dX3_copy_14 : decode cX3_copy 14 = .ok (.aload_n 0, 1) := by decide +kernel
theorem dX3_copy_15 : decode cX3_copy 15 = .ok (.iconst (-1), 1) := by decide +kernel
theorem dX3_copy_16 : decode cX3_copy 16 = .ok (.invokevirtual 118, 3) := by decide +kernel
theorem dX3_copy_19 : decode cX3_copy 19 = .ok (.ireturn, 1) := by decide +kernel
theorem dX3_copy_20 : decode cX3_copy 20 = .ok (.aload_n 0, 1) := by decide +kernel
theorem dX3_copy_21 : decode cX3_copy 21 = .ok (.getfield 52, 3) := by decide +kernel
theorem dX3_copy_24 : decode cX3_copy 24 = .ok (.iload_n 1, 1) := by decide +kernel
theorem dX3_copy_25 : decode cX3_copy 25 = .ok (.iaload, 1) := by decide +kernel
theorem dX3_copy_26 : decode cX3_copy 26 = .ok (.ifCond .lt 12, 3) := by decide +kernel
theorem dX3_copy_29 : decode cX3_copy 29 = .ok (.aload_n 0, 1) := by decide +kernel
theorem dX3_copy_30 : decode cX3_copy 30 = .ok (.getfield 52, 3) := by decide +kernel
theorem dX3_copy_33 : decode cX3_copy 33 = .ok (.iload_n 3, 1) := by decide +kernel
theorem dX3_copy_34 : decode cX3_copy 34 = .ok (.iaload, 1) := by decide +kernel
theorem dX3_copy_35 : decode cX3_copy 35 = .ok (.ifCond .ge 9, 3) := by decide +kernel
theorem dX3_copy_38 : decode cX3_copy 38 = .ok (.aload_n 0, 1) := by decide +kernel
theorem dX3_copy_39 : decode cX3_copy 39 = .ok (.iconst 1, 1) := by decide +kernel
theorem dX3_copy_40 : decode cX3_copy 40 = .ok (.invokevirtual 106, 3) := by decide +kernel
theorem dX3_copy_43 : decode cX3_copy 43 = .ok (.ireturn, 1) := by decide +kernel
theorem dX3_copy_44 : decode cX3_copy 44 = .ok (.aload_n 0, 1) := by decide +kernel
theorem dX3_copy_45 : decode cX3_copy 45 = .ok (.getfield 55, 3) := by decide +kernel
theorem dX3_copy_48 : decode cX3_copy 48 = .ok (.iload_n 1, 1) := by decide +kernel
theorem dX3_copy_49 : decode cX3_copy 49 = .ok (.iaload, 1) := by decide +kernel
theorem dX3_copy_50 : decode cX3_copy 50 = .ok (.aload_n 0, 1) := by decide +kernel
theorem dX3_copy_51 : decode cX3_copy 51 = .ok (.getfield 55, 3) := by decide +kernel
theorem dX3_copy_54 : decode cX3_copy 54 = .ok (.iload_n 3, 1) := by decide +kernel
theorem dX3_copy_55 : decode cX3_copy 55 = .ok (.iaload, 1) := by decide +kernel
theorem dX3_copy_56 : decode cX3_copy 56 = .ok (.if_icmp .eq 9, 3) := by decide +kernel
theorem dX3_copy_59 : decode cX3_copy 59 = .ok (.aload_n 0, 1) := by decide +kernel
theorem dX3_copy_60 : decode cX3_copy 60 = .ok (.iconst 2, 1) := by decide +kernel
theorem dX3_copy_61 : decode cX3_copy 61 = .ok (.invokevirtual 106, 3) := by decide +kernel
theorem dX3_copy_64 : decode cX3_copy 64 = .ok (.ireturn, 1) := by decide +kernel
theorem dX3_copy_65 : decode cX3_copy 65 = .ok (.iload_n 2, 1) := by decide +kernel
theorem dX3_copy_66 : decode cX3_copy 66 = .ok (.iload 5, 2) := by decide +kernel
theorem dX3_copy_68 : decode cX3_copy 68 = .ok (.i2l, 1) := by decide +kernel
theorem dX3_copy_69 : decode cX3_copy 69 = .ok (.aload_n 0, 1) := by decide +kernel
theorem dX3_copy_70 : decode cX3_copy 70 = .ok (.getfield 52, 3) := by decide +kernel
theorem dX3_copy_73 : decode cX3_copy 73 = .ok (.iload_n 1, 1) := by decide +kernel
theorem dX3_copy_74 : decode cX3_copy 74 = .ok (.iaload, 1) := by decide +kernel
theorem dX3_copy_75 : decode cX3_copy 75 = .ok (.invokestatic 110, 3) := by decide +kernel
theorem dX3_copy_78 : decode cX3_copy 78 = .ok (.ifCond .ne 20, 3) := by decide +kernel
theorem dX3_copy_81 : decode cX3_copy 81 = .ok (.iload 4, 2) := by decide +kernel
theorem dX3_copy_83 : decode cX3_copy 83 = .ok (.iload 5, 2) := by decide +kernel
theorem dX3_copy_85 : decode cX3_copy 85 = .ok (.i2l, 1) := by decide +kernel
theorem dX3_copy_86 : decode cX3_copy 86 = .ok (.aload_n 0, 1) := by decide +kernel
theorem dX3_copy_87 : decode cX3_copy 87 = .ok (.getfield 52, 3) := by decide +kernel
theorem dX3_copy_90 : decode cX3_copy 90 = .ok (.iload_n 3, 1) := by decide +kernel
theorem dX3_copy_91 : decode cX3_copy 91 = .ok (.iaload, 1) := by decide +kernel
theorem dX3_copy_92 : decode cX3_copy 92 = .ok (.invokestatic 110, 3) := by decide +kernel
theorem dX3_copy_95 : decode cX3_copy 95 = .ok (.ifCond .eq 9, 3) := by decide +kernel
theorem dX3_copy_98 : decode cX3_copy 98 = .ok (.aload_n 0, 1) := by decide +kernel
theorem dX3_copy_99 : decode cX3_copy 99 = .ok (.iconst 3, 1) := by decide +kernel
theorem dX3_copy_100 : decode cX3_copy 100 = .ok (.invokevirtual 106, 3) := by decide +kernel
theorem dX3_copy_103 : decode cX3_copy 103 = .ok (.ireturn, 1) := by decide +kernel
theorem dX3_copy_104 : decode cX3_copy 104 = .ok (.iconst 0, 1) := by decide +kernel
theorem dX3_copy_105 : decode cX3_copy 105 = .ok (.istore 6, 2) := by decide +kernel
theorem dX3_copy_107 : decode cX3_copy 107 = .ok (.iload 6, 2) := by decide +kernel
theorem dX3_copy_109 : decode cX3_copy 109 = .ok (.iload 5, 2) := by decide +kernel
theorem dX3_copy_111 : decode cX3_copy 111 = .ok (.if_icmp .ge 30, 3) := by decide +kernel
theorem dX3_copy_114 : decode cX3_copy 114 = .ok (.aload_n 0, 1) := by decide +kernel
theorem dX3_copy_115 : decode cX3_copy 115 = .ok (.getfield 61, 3) := by decide +kernel
theorem dX3_copy_118 : decode cX3_copy 118 = .ok (.iload 6, 2) := by decide +kernel
theorem dX3_copy_120 : decode cX3_copy 120 = .ok (.aload_n 0, 1) := by decide +kernel
theorem dX3_copy_121 : decode cX3_copy 121 = .ok (.getfield 58, 3) := by decide +kernel
theorem dX3_copy_124 : decode cX3_copy 124 = .ok (.bipush 60, 2) := by decide +kernel
theorem dX3_copy_126 : decode cX3_copy 126 = .ok (.iload_n 1, 1) := by decide +kernel
theorem dX3_copy_127 : decode cX3_copy 127 = .ok (.imul, 1) := by decide +kernel
theorem dX3_copy_128 : decode cX3_copy 128 = .ok (.iload_n 2, 1) := by decide +kernel
theorem dX3_copy_129 : decode cX3_copy 129 = .ok (.iadd, 1) := by decide +kernel
theorem dX3_copy_130 : decode cX3_copy 130 = .ok (.iload 6, 2) := by decide +kernel
theorem dX3_copy_132 : decode cX3_copy 132 = .ok (.iadd, 1) := by decide +kernel
theorem dX3_copy_133 : decode cX3_copy 133 = .ok (.iaload, 1) := by decide +kernel
theorem dX3_copy_134 : decode cX3_copy 134 = .ok (.iastore, 1) := by decide +kernel
theorem dX3_copy_135 : decode cX3_copy 135 = .ok (.iinc 6 1, 3) := by decide +kernel
theorem dX3_copy_138 : decode cX3_copy 138 = .ok (.goto (-31), 3) := by decide +kernel
theorem dX3_copy_141 : decode cX3_copy 141 = .ok (.iconst 0, 1) := by decide +kernel
theorem dX3_copy_142 : decode cX3_copy 142 = .ok (.istore 6, 2) := by decide +kernel
theorem dX3_copy_144 : decode cX3_copy 144 = .ok (.iload 6, 2) := by decide +kernel
theorem dX3_copy_146 : decode cX3_copy 146 = .ok (.iload 5, 2) := by decide +kernel
theorem dX3_copy_148 : decode cX3_copy 148 = .ok (.if_icmp .ge 31, 3) := by decide +kernel
theorem dX3_copy_151 : decode cX3_copy 151 = .ok (.aload_n 0, 1) := by decide +kernel
theorem dX3_copy_152 : decode cX3_copy 152 = .ok (.getfield 58, 3) := by decide +kernel
theorem dX3_copy_155 : decode cX3_copy 155 = .ok (.bipush 60, 2) := by decide +kernel
theorem dX3_copy_157 : decode cX3_copy 157 = .ok (.iload_n 3, 1) := by decide +kernel
theorem dX3_copy_158 : decode cX3_copy 158 = .ok (.imul, 1) := by decide +kernel
theorem dX3_copy_159 : decode cX3_copy 159 = .ok (.iload 4, 2) := by decide +kernel
theorem dX3_copy_161 : decode cX3_copy 161 = .ok (.iadd, 1) := by decide +kernel
theorem dX3_copy_162 : decode cX3_copy 162 = .ok (.iload 6, 2) := by decide +kernel
theorem dX3_copy_164 : decode cX3_copy 164 = .ok (.iadd, 1) := by decide +kernel
theorem dX3_copy_165 : decode cX3_copy 165 = .ok (.aload_n 0, 1) := by decide +kernel
theorem dX3_copy_166 : decode cX3_copy 166 = .ok (.getfield 61, 3) := by decide +kernel
theorem dX3_copy_169 : decode cX3_copy 169 = .ok (.iload 6, 2) := by decide +kernel
theorem dX3_copy_171 : decode cX3_copy 171 = .ok (.iaload, 1) := by decide +kernel
theorem dX3_copy_172 : decode cX3_copy 172 = .ok (.iastore, 1) := by decide +kernel
theorem dX3_copy_173 : decode cX3_copy 173 = .ok (.iinc 6 1, 3) := by decide +kernel
theorem dX3_copy_176 : decode cX3_copy 176 = .ok (.goto (-32), 3) := by decide +kernel
theorem dX3_copy_179 : decode cX3_copy 179 = .ok (.aload_n 0, 1) := by decide +kernel
theorem dX3_copy_180 : decode cX3_copy 180 = .ok (.iload 5, 2) := by decide +kernel
theorem dX3_copy_182 : decode cX3_copy 182 = .ok (.invokevirtual 118, 3) := by decide +kernel
theorem dX3_copy_185 : decode cX3_copy 185 = .ok (.ireturn, 1) := by decide +kernel
theorem dX3_traced_0 : decode cX3_traced 0 = .ok (.aload_n 0, 1) := by decide +kernel
theorem dX3_traced_1 : decode cX3_traced 1 = .ok (.bipush 31, 2) := by decide +kernel
theorem dX3_traced_3 : decode cX3_traced 3 = .ok (.aload_n 0, 1) := by decide +kernel
theorem dX3_traced_4 : decode cX3_traced 4 = .ok (.getfield 234, 3) := by decide +kernel
theorem dX3_traced_7 : decode cX3_traced 7 = .ok (.imul, 1) := by decide +kernel
theorem dX3_traced_8 : decode cX3_traced 8 = .ok (.iload_n 1, 1) := by decide +kernel
theorem dX3_traced_9 : decode cX3_traced 9 = .ok (.iadd, 1) := by decide +kernel
theorem dX3_traced_10 : decode cX3_traced 10 = .ok (.putfield 234, 3) := by decide +kernel
theorem dX3_traced_13 : decode cX3_traced 13 = .ok (.return_, 1) := by decide +kernel
theorem dX3_tell_0 : decode cX3_tell 0 = .ok (.aload_n 0, 1) := by decide +kernel
theorem dX3_tell_1 : decode cX3_tell 1 = .ok (.iload_n 1, 1) := by decide +kernel
theorem dX3_tell_2 : decode cX3_tell 2 = .ok (.invokevirtual 149, 3) := by decide +kernel
theorem dX3_tell_5 : decode cX3_tell 5 = .ok (.ifCond .eq 5, 3) := by decide +kernel
theorem dX3_tell_8 : decode cX3_tell 8 = .ok (.iconst (-1), 1) := by decide +kernel
theorem dX3_tell_9 : decode cX3_tell 9 = .ok (.ireturn, 1) := by decide +kernel
theorem dX3_tell_10 : decode cX3_tell 10 = .ok (.aload_n 0, 1) := by decide +kernel
theorem dX3_tell_11 : decode cX3_tell 11 = .ok (.getfield 7, 3) := by decide +kernel
theorem dX3_tell_14 : decode cX3_tell 14 = .ok (.iload_n 1, 1) := by decide +kernel
theorem dX3_tell_15 : decode cX3_tell 15 = .ok (.iaload, 1) := by decide +kernel
theorem dX3_tell_16 : decode cX3_tell 16 = .ok (.istore_n 2, 1) := by decide +kernel
theorem dX3_tell_17 : decode cX3_tell 17 = .ok (.iload_n 2, 1) := by decide +kernel
theorem dX3_tell_18 : decode cX3_tell 18 = .ok (.iconst 2, 1) := by decide +kernel
theorem dX3_tell_19 : decode cX3_tell 19 = .ok (.if_icmp .ne 8, 3) := by decide +kernel
theorem dX3_tell_22 : decode cX3_tell 22 = .ok (.aload_n 0, 1) := by decide +kernel
theorem dX3_tell_23 : decode cX3_tell 23 = .ok (.iconst 3, 1) := by decide +kernel
theorem dX3_tell_24 : decode cX3_tell 24 = .ok (.invokevirtual 237, 3) := by decide +kernel
theorem dX3_tell_27 : decode cX3_tell 27 = .ok (.iload_n 2, 1) := by decide +kernel
theorem dX3_tell_28 : decode cX3_tell 28 = .ok (.ifCond .le 8, 3) := by decide +kernel
theorem dX3_tell_31 : decode cX3_tell 31 = .ok (.aload_n 0, 1) := by decide +kernel
theorem dX3_tell_32 : decode cX3_tell 32 = .ok (.iconst 2, 1) := by decide +kernel
theorem dX3_tell_33 : decode cX3_tell 33 = .ok (.invokevirtual 237, 3) := by decide +kernel
theorem dX3_tell_36 : decode cX3_tell 36 = .ok (.aload_n 0, 1) := by decide +kernel
theorem dX3_tell_37 : decode cX3_tell 37 = .ok (.iconst 1, 1) := by decide +kernel
theorem dX3_tell_38 : decode cX3_tell 38 = .ok (.invokevirtual 237, 3) := by decide +kernel
theorem dX3_tell_41 : decode cX3_tell 41 = .ok (.iload_n 2, 1) := by decide +kernel
theorem dX3_tell_42 : decode cX3_tell 42 = .ok (.iconst 2, 1) := by decide +kernel
theorem dX3_tell_43 : decode cX3_tell 43 = .ok (.if_icmp .ne 8, 3) := by decide +kernel
theorem dX3_tell_46 : decode cX3_tell 46 = .ok (.aload_n 0, 1) := by decide +kernel
theorem dX3_tell_47 : decode cX3_tell 47 = .ok (.iconst 1, 1) := by decide +kernel
theorem dX3_tell_48 : decode cX3_tell 48 = .ok (.invokevirtual 237, 3) := by decide +kernel
theorem dX3_tell_51 : decode cX3_tell 51 = .ok (.aload_n 0, 1) := by decide +kernel
theorem dX3_tell_52 : decode cX3_tell 52 = .ok (.getfield 13, 3) := by decide +kernel
theorem dX3_tell_55 : decode cX3_tell 55 = .ok (.iload_n 1, 1) := by decide +kernel
theorem dX3_tell_56 : decode cX3_tell 56 = .ok (.iaload, 1) := by decide +kernel
theorem dX3_tell_57 : decode cX3_tell 57 = .ok (.istore_n 3, 1) := by decide +kernel
theorem dX3_tell_58 : decode cX3_tell 58 = .ok (.iload_n 2, 1) := by decide +kernel
theorem dX3_tell_59 : decode cX3_tell 59 = .ok (.ifCond .ne 7, 3) := by decide +kernel
theorem dX3_tell_62 : decode cX3_tell 62 = .ok (.iload_n 3, 1) := by decide +kernel
theorem dX3_tell_63 : decode cX3_tell 63 = .ok (.goto 21, 3) := by decide +kernel
theorem dX3_tell_66 : decode cX3_tell 66 = .ok (.iload_n 2, 1) := by decide +kernel
theorem dX3_tell_67 : decode cX3_tell 67 = .ok (.iconst 1, 1) := by decide +kernel
theorem dX3_tell_68 : decode cX3_tell 68 = .ok (.if_icmp .ne 10, 3) := by decide +kernel
theorem dX3_tell_71 : decode cX3_tell 71 = .ok (.iload_n 3, 1) := by decide +kernel
theorem dX3_tell_72 : decode cX3_tell 72 = .ok (.bipush 100, 2) := by decide +kernel
theorem dX3_tell_74 : decode cX3_tell 74 = .ok (.iadd, 1) := by decide +kernel
theorem dX3_tell_75 : decode cX3_tell 75 = .ok (.goto 9, 3) := by decide +kernel
theorem dX3_tell_78 : decode cX3_tell 78 = .ok (.iconst 2, 1) := by decide +kernel
theorem dX3_tell_79 : decode cX3_tell 79 = .ok (.iload_n 3, 1) := by decide +kernel
theorem dX3_tell_80 : decode cX3_tell 80 = .ok (.imul, 1) := by decide +kernel
theorem dX3_tell_81 : decode cX3_tell 81 = .ok (.bipush 100, 2) := by decide +kernel
theorem dX3_tell_83 : decode cX3_tell 83 = .ok (.iadd, 1) := by decide +kernel
theorem dX3_tell_84 : decode cX3_tell 84 = .ok (.ireturn, 1) := by decide +kernel
theorem dX3_knock_0 : decode cX3_knock 0 = .ok (.aload_n 0, 1) := by decide +kernel
theorem dX3_knock_1 : decode cX3_knock 1 = .ok (.iload_n 1, 1) := by decide +kernel
theorem dX3_knock_2 : decode cX3_knock 2 = .ok (.invokevirtual 149, 3) := by decide +kernel
theorem dX3_knock_5 : decode cX3_knock 5 = .ok (.ifCond .eq 5, 3) := by decide +kernel
theorem dX3_knock_8 : decode cX3_knock 8 = .ok (.iconst (-1), 1) := by decide +kernel
theorem dX3_knock_9 : decode cX3_knock 9 = .ok (.ireturn, 1) := by decide +kernel
theorem dX3_knock_10 : decode cX3_knock 10 = .ok (.aload_n 0, 1) := by decide +kernel
theorem dX3_knock_11 : decode cX3_knock 11 = .ok (.aload_n 0, 1) := by decide +kernel
theorem dX3_knock_12 : decode cX3_knock 12 = .ok (.getfield 7, 3) := by decide +kernel
theorem dX3_knock_15 : decode cX3_knock 15 = .ok (.iload_n 1, 1) := by decide +kernel
theorem dX3_knock_16 : decode cX3_knock 16 = .ok (.iaload, 1) := by decide +kernel
theorem dX3_knock_17 : decode cX3_knock 17 = .ok (.iconst 2, 1) := by decide +kernel
theorem dX3_knock_18 : decode cX3_knock 18 = .ok (.if_icmp .ne 7, 3) := by decide +kernel
theorem dX3_knock_21 : decode cX3_knock 21 = .ok (.iconst 5, 1) := by decide +kernel
theorem dX3_knock_22 : decode cX3_knock 22 = .ok (.goto 4, 3) := by decide +kernel
theorem dX3_knock_25 : decode cX3_knock 25 = .ok (.iconst 4, 1) := by decide +kernel
theorem dX3_knock_26 : decode cX3_knock 26 = .ok (.invokevirtual 237, 3) := by decide +kernel
theorem dX3_knock_29 : decode cX3_knock 29 = .ok (.aload_n 0, 1) := by decide +kernel
theorem dX3_knock_30 : decode cX3_knock 30 = .ok (.getfield 7, 3) := by decide +kernel
theorem dX3_knock_33 : decode cX3_knock 33 = .ok (.iload_n 1, 1) := by decide +kernel
theorem dX3_knock_34 : decode cX3_knock 34 = .ok (.iaload, 1) := by decide +kernel
theorem dX3_knock_35 : decode cX3_knock 35 = .ok (.iconst 2, 1) := by decide +kernel
theorem dX3_knock_36 : decode cX3_knock 36 = .ok (.if_icmp .ne 8, 3) := by decide +kernel
theorem dX3_knock_39 : decode cX3_knock 39 = .ok (.bipush 30, 2) := by decide +kernel
theorem dX3_knock_41 : decode cX3_knock 41 = .ok (.goto 4, 3) := by decide +kernel
theorem dX3_knock_44 : decode cX3_knock 44 = .ok (.iload_n 1, 1) := by decide +kernel
theorem dX3_knock_45 : decode cX3_knock 45 = .ok (.ireturn, 1) := by decide +kernel
theorem dX3_as_0 : decode cX3_as 0 = .ok (.aload_n 0, 1) := by decide +kernel
theorem dX3_as_1 : decode cX3_as 1 = .ok (.iload_n 1, 1) := by decide +kernel
theorem dX3_as_2 : decode cX3_as 2 = .ok (.invokevirtual 149, 3) := by decide +kernel
theorem dX3_as_5 : decode cX3_as 5 = .ok (.ifCond .eq 9, 3) := by decide +kernel
theorem dX3_as_8 : decode cX3_as 8 = .ok (.aload_n 0, 1) := by decide +kernel
theorem dX3_as_9 : decode cX3_as 9 = .ok (.iconst (-1), 1) := by decide +kernel
theorem dX3_as_10 : decode cX3_as 10 = .ok (.invokevirtual 118, 3) := by decide +kernel
theorem dX3_as_13 : decode cX3_as 13 = .ok (.ireturn, 1) := by decide +kernel
theorem dX3_as_14 : decode cX3_as 14 = .ok (.iload_n 2, 1) := by decide +kernel
theorem dX3_as_15 : decode cX3_as 15 = .ok (.i2l, 1) := by decide +kernel
theorem dX3_as_16 : decode cX3_as 16 = .ok (.lconst 0, 1) := by decide +kernel
theorem dX3_as_17 : decode cX3_as 17 = .ok (.ldc2_w 121, 3) := by decide +kernel
theorem dX3_as_20 : decode cX3_as 20 = .ok (.invokestatic 77, 3) := by decide +kernel
theorem dX3_as_23 : decode cX3_as 23 = .ok (.ifCond .ne 10, 3) := by decide +kernel
theorem dX3_as_26 : decode cX3_as 26 = .ok (.aload_n 0, 1) := by decide +kernel
theorem dX3_as_27 : decode cX3_as 27 = .ok (.bipush (-2), 2) := by decide +kernel
theorem dX3_as_29 : decode cX3_as 29 = .ok (.invokevirtual 118, 3) := by decide +kernel
theorem dX3_as_32 : decode cX3_as 32 = .ok (.ireturn, 1) := by decide +kernel
theorem dX3_as_33 : decode cX3_as 33 = .ok (.aload_n 0, 1) := by decide +kernel
theorem dX3_as_34 : decode cX3_as 34 = .ok (.getfield 7, 3) := by decide +kernel
theorem dX3_as_37 : decode cX3_as 37 = .ok (.iload_n 1, 1) := by decide +kernel
theorem dX3_as_38 : decode cX3_as 38 = .ok (.iaload, 1) := by decide +kernel
theorem dX3_as_39 : decode cX3_as 39 = .ok (.iload_n 2, 1) := by decide +kernel
theorem dX3_as_40 : decode cX3_as 40 = .ok (.if_icmp .lt 11, 3) := by decide +kernel
theorem dX3_as_43 : decode cX3_as 43 = .ok (.aload_n 0, 1) := by decide +kernel
theorem dX3_as_44 : decode cX3_as 44 = .ok (.iconst 1, 1) := by decide +kernel
theorem dX3_as_45 : decode cX3_as 45 = .ok (.invokevirtual 118, 3) := by decide +kernel
theorem dX3_as_48 : decode cX3_as 48 = .ok (.goto 8, 3) := by decide +kernel
theorem dX3_as_51 : decode cX3_as 51 = .ok (.aload_n 0, 1) := by decide +kernel
theorem dX3_as_52 : decode cX3_as 52 = .ok (.iconst 2, 1) := by decide +kernel
theorem dX3_as_53 : decode cX3_as 53 = .ok (.invokevirtual 106, 3) := by decide +kernel
theorem dX3_as_56 : decode cX3_as 56 = .ok (.ireturn, 1) := by decide +kernel
theorem dX3_trace_0 : decode cX3_trace 0 = .ok (.aload_n 0, 1) := by decide +kernel
theorem dX3_trace_1 : decode cX3_trace 1 = .ok (.getfield 234, 3) := by decide +kernel
theorem dX3_trace_4 : decode cX3_trace 4 = .ok (.ireturn, 1) := by decide +kernel
theorem dX3_fault_0 : decode cX3_fault 0 = .ok (.aload_n 0, 1) := by decide +kernel
theorem dX3_fault_1 : decode cX3_fault 1 = .ok (.getfield 66, 3) := by decide +kernel
theorem dX3_fault_4 : decode cX3_fault 4 = .ok (.ireturn, 1) := by decide +kernel
theorem dX3_many_0 : decode cX3_many 0 = .ok (.iload_n 1, 1) := by decide +kernel
theorem dX3_many_1 : decode cX3_many 1 = .ok (.tableswitch 60 0 4 #[35, 40, 45, 50, 55], 35) := by decide +kernel
theorem dX3_many_36 : decode cX3_many 36 = .ok (.aload_n 0, 1) := by decide +kernel
theorem dX3_many_37 : decode cX3_many 37 = .ok (.getfield 74, 3) := by decide +kernel
theorem dX3_many_40 : decode cX3_many 40 = .ok (.ireturn, 1) := by decide +kernel
theorem dX3_many_41 : decode cX3_many 41 = .ok (.aload_n 0, 1) := by decide +kernel
theorem dX3_many_42 : decode cX3_many 42 = .ok (.getfield 130, 3) := by decide +kernel
theorem dX3_many_45 : decode cX3_many 45 = .ok (.ireturn, 1) := by decide +kernel
theorem dX3_many_46 : decode cX3_many 46 = .ok (.aload_n 0, 1) := by decide +kernel
theorem dX3_many_47 : decode cX3_many 47 = .ok (.getfield 133, 3) := by decide +kernel
theorem dX3_many_50 : decode cX3_many 50 = .ok (.ireturn, 1) := by decide +kernel
theorem dX3_many_51 : decode cX3_many 51 = .ok (.aload_n 0, 1) := by decide +kernel
theorem dX3_many_52 : decode cX3_many 52 = .ok (.invokevirtual 163, 3) := by decide +kernel
theorem dX3_many_55 : decode cX3_many 55 = .ok (.ireturn, 1) := by decide +kernel
theorem dX3_many_56 : decode cX3_many 56 = .ok (.aload_n 0, 1) := by decide +kernel
theorem dX3_many_57 : decode cX3_many 57 = .ok (.getfield 136, 3) := by decide +kernel
theorem dX3_many_60 : decode cX3_many 60 = .ok (.ireturn, 1) := by decide +kernel
theorem dX3_many_61 : decode cX3_many 61 = .ok (.bipush (-2), 2) := by decide +kernel
theorem dX3_many_63 : decode cX3_many 63 = .ok (.ireturn, 1) := by decide +kernel
end
section
theorem dL_law_0 : decode cL_law 0 = .ok (.new 7, 3) := by decide +kernel
theorem dL_law_3 : decode cL_law 3 = .ok (.dup, 1) := by decide +kernel
theorem dL_law_4 : decode cL_law 4 = .ok (.invokespecial 9, 3) := by decide +kernel
theorem dL_law_7 : decode cL_law 7 = .ok (.astore_n 1, 1) := by decide +kernel
theorem dL_law_8 : decode cL_law 8 = .ok (.new 10, 3) := by decide +kernel
theorem dL_law_11 : decode cL_law 11 = .ok (.dup, 1) := by decide +kernel
theorem dL_law_12 : decode cL_law 12 = .ok (.invokespecial 12, 3) := by decide +kernel
theorem dL_law_15 : decode cL_law 15 = .ok (.astore_n 2, 1) := by decide +kernel
theorem dL_law_16 : decode cL_law 16 = .ok (.iconst 0, 1) := by decide +kernel
theorem dL_law_17 : decode cL_law 17 = .ok (.istore_n 3, 1) := by decide +kernel
theorem dL_law_18 : decode cL_law 18 = .ok (.iload_n 3, 1) := by decide +kernel
theorem dL_law_19 : decode cL_law 19 = .ok (.aload_n 0, 1) := by decide +kernel
theorem dL_law_20 : decode cL_law 20 = .ok (.arraylength, 1) := by decide +kernel
theorem dL_law_21 : decode cL_law 21 = .ok (.bipush 6, 2) := by decide +kernel
theorem dL_law_23 : decode cL_law 23 = .ok (.isub, 1) := by decide +kernel
theorem dL_law_24 : decode cL_law 24 = .ok (.if_icmp .gt 1045, 3) := by decide +kernel
theorem dL_law_27 : decode cL_law 27 = .ok (.aload_n 0, 1) := by decide +kernel
theorem dL_law_28 : decode cL_law 28 = .ok (.iload_n 3, 1) := by decide +kernel
theorem dL_law_29 : decode cL_law 29 = .ok (.iaload, 1) := by decide +kernel
theorem dL_law_30 : decode cL_law 30 = .ok (.bipush 31, 2) := by decide +kernel
theorem dL_law_32 : decode cL_law 32 = .ok (.iand, 1) := by decide +kernel
theorem dL_law_33 : decode cL_law 33 = .ok (.tableswitch 1030 0 28 #[131, 184, 217, 250, 273, 306, 329, 352, 415, 448, 471, 494, 517, 550, 573, 596, 619, 642, 686, 729, 752, 795, 839, 902, 925, 948, 981, 994, 1007], 131) := by decide +kernel
theorem dL_law_164 : decode cL_law 164 = .ok (.aload_n 1, 1) := by decide +kernel
theorem dL_law_165 : decode cL_law 165 = .ok (.aload_n 0, 1) := by decide +kernel
theorem dL_law_166 : decode cL_law 166 = .ok (.iload_n 3, 1) := by decide +kernel
theorem dL_law_167 : decode cL_law 167 = .ok (.iconst 1, 1) := by decide +kernel
theorem dL_law_168 : decode cL_law 168 = .ok (.iadd, 1) := by decide +kernel
theorem dL_law_169 : decode cL_law 169 = .ok (.iaload, 1) := by decide +kernel
theorem dL_law_170 : decode cL_law 170 = .ok (.aload_n 0, 1) := by decide +kernel
theorem dL_law_171 : decode cL_law 171 = .ok (.iload_n 3, 1) := by decide +kernel
theorem dL_law_172 : decode cL_law 172 = .ok (.iconst 2, 1) := by decide +kernel
theorem dL_law_173 : decode cL_law 173 = .ok (.iadd, 1) := by decide +kernel
theorem dL_law_174 : decode cL_law 174 = .ok (.iaload, 1) := by decide +kernel
theorem dL_law_175 : decode cL_law 175 = .ok (.aload_n 0, 1) := by decide +kernel
theorem dL_law_176 : decode cL_law 176 = .ok (.iload_n 3, 1) := by decide +kernel
theorem dL_law_177 : decode cL_law 177 = .ok (.iconst 3, 1) := by decide +kernel
theorem dL_law_178 : decode cL_law 178 = .ok (.iadd, 1) := by decide +kernel
theorem dL_law_179 : decode cL_law 179 = .ok (.iaload, 1) := by decide +kernel
theorem dL_law_180 : decode cL_law 180 = .ok (.aload_n 0, 1) := by decide +kernel
theorem dL_law_181 : decode cL_law 181 = .ok (.iload_n 3, 1) := by decide +kernel
theorem dL_law_182 : decode cL_law 182 = .ok (.iconst 4, 1) := by decide +kernel
theorem dL_law_183 : decode cL_law 183 = .ok (.iadd, 1) := by decide +kernel
theorem dL_law_184 : decode cL_law 184 = .ok (.iaload, 1) := by decide +kernel
theorem dL_law_185 : decode cL_law 185 = .ok (.invokevirtual 13, 3) := by decide +kernel
theorem dL_law_188 : decode cL_law 188 = .ok (.aload_n 2, 1) := by decide +kernel
theorem dL_law_189 : decode cL_law 189 = .ok (.aload_n 0, 1) := by decide +kernel
theorem dL_law_190 : decode cL_law 190 = .ok (.iload_n 3, 1) := by decide +kernel
theorem dL_law_191 : decode cL_law 191 = .ok (.iconst 1, 1) := by decide +kernel
theorem dL_law_192 : decode cL_law 192 = .ok (.iadd, 1) := by decide +kernel
theorem dL_law_193 : decode cL_law 193 = .ok (.iaload, 1) := by decide +kernel
theorem dL_law_194 : decode cL_law 194 = .ok (.aload_n 0, 1) := by decide +kernel
theorem dL_law_195 : decode cL_law 195 = .ok (.iload_n 3, 1) := by decide +kernel
theorem dL_law_196 : decode cL_law 196 = .ok (.iconst 2, 1) := by decide +kernel
theorem dL_law_197 : decode cL_law 197 = .ok (.iadd, 1) := by decide +kernel
theorem dL_law_198 : decode cL_law 198 = .ok (.iaload, 1) := by decide +kernel
theorem dL_law_199 : decode cL_law 199 = .ok (.aload_n 0, 1) := by decide +kernel
theorem dL_law_200 : decode cL_law 200 = .ok (.iload_n 3, 1) := by decide +kernel
theorem dL_law_201 : decode cL_law 201 = .ok (.iconst 3, 1) := by decide +kernel
theorem dL_law_202 : decode cL_law 202 = .ok (.iadd, 1) := by decide +kernel
theorem dL_law_203 : decode cL_law 203 = .ok (.iaload, 1) := by decide +kernel
theorem dL_law_204 : decode cL_law 204 = .ok (.aload_n 0, 1) := by decide +kernel
theorem dL_law_205 : decode cL_law 205 = .ok (.iload_n 3, 1) := by decide +kernel
theorem dL_law_206 : decode cL_law 206 = .ok (.iconst 4, 1) := by decide +kernel
theorem dL_law_207 : decode cL_law 207 = .ok (.iadd, 1) := by decide +kernel
theorem dL_law_208 : decode cL_law 208 = .ok (.iaload, 1) := by decide +kernel
theorem dL_law_209 : decode cL_law 209 = .ok (.invokevirtual 17, 3) := by decide +kernel
theorem dL_law_212 : decode cL_law 212 = .ok (.if_icmp .eq 851, 3) := by decide +kernel
theorem dL_law_215 : decode cL_law 215 = .ok (.iconst 0, 1) := by decide +kernel
theorem dL_law_216 : decode cL_law 216 = .ok (.ireturn, 1) := by decide +kernel
theorem dL_law_217 : decode cL_law 217 = .ok (.aload_n 1, 1) := by decide +kernel
theorem dL_law_218 : decode cL_law 218 = .ok (.aload_n 0, 1) := by decide +kernel
theorem dL_law_219 : decode cL_law 219 = .ok (.iload_n 3, 1) := by decide +kernel
theorem dL_law_220 : decode cL_law 220 = .ok (.iconst 1, 1) := by decide +kernel
theorem dL_law_221 : decode cL_law 221 = .ok (.iadd, 1) := by decide +kernel
theorem dL_law_222 : decode cL_law 222 = .ok (.iaload, 1) := by decide +kernel
theorem dL_law_223 : decode cL_law 223 = .ok (.aload_n 0, 1) := by decide +kernel
theorem dL_law_224 : decode cL_law 224 = .ok (.iload_n 3, 1) := by decide +kernel
theorem dL_law_225 : decode cL_law 225 = .ok (.iconst 2, 1) := by decide +kernel
theorem dL_law_226 : decode cL_law 226 = .ok (.iadd, 1) := by decide +kernel
theorem dL_law_227 : decode cL_law 227 = .ok (.iaload, 1) := by decide +kernel
theorem dL_law_228 : decode cL_law 228 = .ok (.invokevirtual 18, 3) := by decide +kernel
theorem dL_law_231 : decode cL_law 231 = .ok (.aload_n 2, 1) := by decide +kernel
theorem dL_law_232 : decode cL_law 232 = .ok (.aload_n 0, 1) := by decide +kernel
theorem dL_law_233 : decode cL_law 233 = .ok (.iload_n 3, 1) := by decide +kernel
theorem dL_law_234 : decode cL_law 234 = .ok (.iconst 1, 1) := by decide +kernel
theorem dL_law_235 : decode cL_law 235 = .ok (.iadd, 1) := by decide +kernel
theorem dL_law_236 : decode cL_law 236 = .ok (.iaload, 1) := by decide +kernel
theorem dL_law_237 : decode cL_law 237 = .ok (.aload_n 0, 1) := by decide +kernel
theorem dL_law_238 : decode cL_law 238 = .ok (.iload_n 3, 1) := by decide +kernel
theorem dL_law_239 : decode cL_law 239 = .ok (.iconst 2, 1) := by decide +kernel
theorem dL_law_240 : decode cL_law 240 = .ok (.iadd, 1) := by decide +kernel
theorem dL_law_241 : decode cL_law 241 = .ok (.iaload, 1) := by decide +kernel
theorem dL_law_242 : decode cL_law 242 = .ok (.invokevirtual 22, 3) := by decide +kernel
theorem dL_law_245 : decode cL_law 245 = .ok (.if_icmp .eq 818, 3) := by decide +kernel
theorem dL_law_248 : decode cL_law 248 = .ok (.iconst 0, 1) := by decide +kernel
theorem dL_law_249 : decode cL_law 249 = .ok (.ireturn, 1) := by decide +kernel
theorem dL_law_250 : decode cL_law 250 = .ok (.aload_n 1, 1) := by decide +kernel
theorem dL_law_251 : decode cL_law 251 = .ok (.aload_n 0, 1) := by decide +kernel
theorem dL_law_252 : decode cL_law 252 = .ok (.iload_n 3, 1) := by decide +kernel
theorem dL_law_253 : decode cL_law 253 = .ok (.iconst 1, 1) := by decide +kernel
theorem dL_law_254 : decode cL_law 254 = .ok (.iadd, 1) := by decide +kernel
theorem dL_law_255 : decode cL_law 255 = .ok (.iaload, 1) := by decide +kernel
theorem dL_law_256 : decode cL_law 256 = .ok (.aload_n 0, 1) := by decide +kernel
theorem dL_law_257 : decode cL_law 257 = .ok (.iload_n 3, 1) := by decide +kernel
theorem dL_law_258 : decode cL_law 258 = .ok (.iconst 2, 1) := by decide +kernel
theorem dL_law_259 : decode cL_law 259 = .ok (.iadd, 1) := by decide +kernel
theorem dL_law_260 : decode cL_law 260 = .ok (.iaload, 1) := by decide +kernel
theorem dL_law_261 : decode cL_law 261 = .ok (.invokevirtual 23, 3) := by decide +kernel
theorem dL_law_264 : decode cL_law 264 = .ok (.aload_n 2, 1) := by decide +kernel
theorem dL_law_265 : decode cL_law 265 = .ok (.aload_n 0, 1) := by decide +kernel
theorem dL_law_266 : decode cL_law 266 = .ok (.iload_n 3, 1) := by decide +kernel
theorem dL_law_267 : decode cL_law 267 = .ok (.iconst 1, 1) := by decide +kernel
theorem dL_law_268 : decode cL_law 268 = .ok (.iadd, 1) := by decide +kernel
theorem dL_law_269 : decode cL_law 269 = .ok (.iaload, 1) := by decide +kernel
theorem dL_law_270 : decode cL_law 270 = .ok (.aload_n 0, 1) := by decide +kernel
theorem dL_law_271 : decode cL_law 271 = .ok (.iload_n 3, 1) := by decide +kernel
theorem dL_law_272 : decode cL_law 272 = .ok (.iconst 2, 1) := by decide +kernel
theorem dL_law_273 : decode cL_law 273 = .ok (.iadd, 1) := by decide +kernel
theorem dL_law_274 : decode cL_law 274 = .ok (.iaload, 1) := by decide +kernel
theorem dL_law_275 : decode cL_law 275 = .ok (.invokevirtual 26, 3) := by decide +kernel
theorem dL_law_278 : decode cL_law 278 = .ok (.if_icmp .eq 785, 3) := by decide +kernel
theorem dL_law_281 : decode cL_law 281 = .ok (.iconst 0, 1) := by decide +kernel
theorem dL_law_282 : decode cL_law 282 = .ok (.ireturn, 1) := by decide +kernel
theorem dL_law_283 : decode cL_law 283 = .ok (.aload_n 1, 1) := by decide +kernel
theorem dL_law_284 : decode cL_law 284 = .ok (.aload_n 0, 1) := by decide +kernel
theorem dL_law_285 : decode cL_law 285 = .ok (.iload_n 3, 1) := by decide +kernel
theorem dL_law_286 : decode cL_law 286 = .ok (.iconst 1, 1) := by decide +kernel
theorem dL_law_287 : decode cL_law 287 = .ok (.iadd, 1) := by decide +kernel
theorem dL_law_288 : decode cL_law 288 = .ok (.iaload, 1) := by decide +kernel
theorem dL_law_289 : decode cL_law 289 = .ok (.invokevirtual 27, 3) := by decide +kernel
theorem dL_law_292 : decode cL_law 292 = .ok (.aload_n 2, 1) := by decide +kernel
theorem dL_law_293 : decode cL_law 293 = .ok (.aload_n 0, 1) := by decide +kernel
theorem dL_law_294 : decode cL_law 294 = .ok (.iload_n 3, 1) := by decide +kernel
theorem dL_law_295 : decode cL_law 295 = .ok (.iconst 1, 1) := by decide +kernel
theorem dL_law_296 : decode cL_law 296 = .ok (.iadd, 1) := by decide +kernel
theorem dL_law_297 : decode cL_law 297 = .ok (.iaload, 1) := by decide +kernel
theorem dL_law_298 : decode cL_law 298 = .ok (.invokevirtual 31, 3) := by decide +kernel
theorem dL_law_301 : decode cL_law 301 = .ok (.if_icmp .eq 762, 3) := by decide +kernel
theorem dL_law_304 : decode cL_law 304 = .ok (.iconst 0, 1) := by decide +kernel
theorem dL_law_305 : decode cL_law 305 = .ok (.ireturn, 1) := by decide +kernel
theorem dL_law_306 : decode cL_law 306 = .ok (.aload_n 1, 1) := by decide +kernel
theorem dL_law_307 : decode cL_law 307 = .ok (.aload_n 0, 1) := by decide +kernel
theorem dL_law_308 : decode cL_law 308 = .ok (.iload_n 3, 1) := by decide +kernel
theorem dL_law_309 : decode cL_law 309 = .ok (.iconst 1, 1) := by decide +kernel
theorem dL_law_310 : decode cL_law 310 = .ok (.iadd, 1) := by decide +kernel
theorem dL_law_311 : decode cL_law 311 = .ok (.iaload, 1) := by decide +kernel
theorem dL_law_312 : decode cL_law 312 = .ok (.aload_n 0, 1) := by decide +kernel
theorem dL_law_313 : decode cL_law 313 = .ok (.iload_n 3, 1) := by decide +kernel
theorem dL_law_314 : decode cL_law 314 = .ok (.iconst 2, 1) := by decide +kernel
theorem dL_law_315 : decode cL_law 315 = .ok (.iadd, 1) := by decide +kernel
theorem dL_law_316 : decode cL_law 316 = .ok (.iaload, 1) := by decide +kernel
theorem dL_law_317 : decode cL_law 317 = .ok (.invokevirtual 32, 3) := by decide +kernel
theorem dL_law_320 : decode cL_law 320 = .ok (.aload_n 2, 1) := by decide +kernel
theorem dL_law_321 : decode cL_law 321 = .ok (.aload_n 0, 1) := by decide +kernel
theorem dL_law_322 : decode cL_law 322 = .ok (.iload_n 3, 1) := by decide +kernel
theorem dL_law_323 : decode cL_law 323 = .ok (.iconst 1, 1) := by decide +kernel
theorem dL_law_324 : decode cL_law 324 = .ok (.iadd, 1) := by decide +kernel
theorem dL_law_325 : decode cL_law 325 = .ok (.iaload, 1) := by decide +kernel
theorem dL_law_326 : decode cL_law 326 = .ok (.aload_n 0, 1) := by decide +kernel
theorem dL_law_327 : decode cL_law 327 = .ok (.iload_n 3, 1) := by decide +kernel
theorem dL_law_328 : decode cL_law 328 = .ok (.iconst 2, 1) := by decide +kernel
theorem dL_law_329 : decode cL_law 329 = .ok (.iadd, 1) := by decide +kernel
theorem dL_law_330 : decode cL_law 330 = .ok (.iaload, 1) := by decide +kernel
theorem dL_law_331 : decode cL_law 331 = .ok (.invokevirtual 35, 3) := by decide +kernel
theorem dL_law_334 : decode cL_law 334 = .ok (.if_icmp .eq 729, 3) := by decide +kernel
theorem dL_law_337 : decode cL_law 337 = .ok (.iconst 0, 1) := by decide +kernel
theorem dL_law_338 : decode cL_law 338 = .ok (.ireturn, 1) := by decide +kernel
theorem dL_law_339 : decode cL_law 339 = .ok (.aload_n 1, 1) := by decide +kernel
theorem dL_law_340 : decode cL_law 340 = .ok (.aload_n 0, 1) := by decide +kernel
theorem dL_law_341 : decode cL_law 341 = .ok (.iload_n 3, 1) := by decide +kernel
theorem dL_law_342 : decode cL_law 342 = .ok (.iconst 1, 1) := by decide +kernel
theorem dL_law_343 : decode cL_law 343 = .ok (.iadd, 1) := by decide +kernel
theorem dL_law_344 : decode cL_law 344 = .ok (.iaload, 1) := by decide +kernel
theorem dL_law_345 : decode cL_law 345 = .ok (.invokevirtual 36, 3) := by decide +kernel
theorem dL_law_348 : decode cL_law 348 = .ok (.aload_n 2, 1) := by decide +kernel
theorem dL_law_349 : decode cL_law 349 = .ok (.aload_n 0, 1) := by decide +kernel
theorem dL_law_350 : decode cL_law 350 = .ok (.iload_n 3, 1) := by decide +kernel
theorem dL_law_351 : decode cL_law 351 = .ok (.iconst 1, 1) := by decide +kernel
theorem dL_law_352 : decode cL_law 352 = .ok (.iadd, 1) := by decide +kernel
theorem dL_law_353 : decode cL_law 353 = .ok (.iaload, 1) := by decide +kernel
theorem dL_law_354 : decode cL_law 354 = .ok (.invokevirtual 39, 3) := by decide +kernel
theorem dL_law_357 : decode cL_law 357 = .ok (.if_icmp .eq 706, 3) := by decide +kernel
theorem dL_law_360 : decode cL_law 360 = .ok (.iconst 0, 1) := by decide +kernel
theorem dL_law_361 : decode cL_law 361 = .ok (.ireturn, 1) := by decide +kernel
theorem dL_law_362 : decode cL_law 362 = .ok (.aload_n 1, 1) := by decide +kernel
theorem dL_law_363 : decode cL_law 363 = .ok (.aload_n 0, 1) := by decide +kernel
theorem dL_law_364 : decode cL_law 364 = .ok (.iload_n 3, 1) := by decide +kernel
theorem dL_law_365 : decode cL_law 365 = .ok (.iconst 1, 1) := by decide +kernel
theorem dL_law_366 : decode cL_law 366 = .ok (.iadd, 1) := by decide +kernel
theorem dL_law_367 : decode cL_law 367 = .ok (.iaload, 1) := by decide +kernel
theorem dL_law_368 : decode cL_law 368 = .ok (.invokevirtual 40, 3) := by decide +kernel
theorem dL_law_371 : decode cL_law 371 = .ok (.aload_n 2, 1) := by decide +kernel
theorem dL_law_372 : decode cL_law 372 = .ok (.aload_n 0, 1) := by decide +kernel
theorem dL_law_373 : decode cL_law 373 = .ok (.iload_n 3, 1) := by decide +kernel
theorem dL_law_374 : decode cL_law 374 = .ok (.iconst 1, 1) := by decide +kernel
theorem dL_law_375 : decode cL_law 375 = .ok (.iadd, 1) := by decide +kernel
theorem dL_law_376 : decode cL_law 376 = .ok (.iaload, 1) := by decide +kernel
theorem dL_law_377 : decode cL_law 377 = .ok (.invokevirtual 43, 3) := by decide +kernel
theorem dL_law_380 : decode cL_law 380 = .ok (.if_icmp .eq 683, 3) := by decide +kernel
theorem dL_law_383 : decode cL_law 383 = .ok (.iconst 0, 1) := by decide +kernel
theorem dL_law_384 : decode cL_law 384 = .ok (.ireturn, 1) := by decide +kernel
theorem dL_law_385 : decode cL_law 385 = .ok (.aload_n 1, 1) := by decide +kernel
theorem dL_law_386 : decode cL_law 386 = .ok (.aload_n 0, 1) := by decide +kernel
theorem dL_law_387 : decode cL_law 387 = .ok (.iload_n 3, 1) := by decide +kernel
theorem dL_law_388 : decode cL_law 388 = .ok (.iconst 1, 1) := by decide +kernel
theorem dL_law_389 : decode cL_law 389 = .ok (.iadd, 1) := by decide +kernel
theorem dL_law_390 : decode cL_law 390 = .ok (.iaload, 1) := by decide +kernel
theorem dL_law_391 : decode cL_law 391 = .ok (.aload_n 0, 1) := by decide +kernel
theorem dL_law_392 : decode cL_law 392 = .ok (.iload_n 3, 1) := by decide +kernel
theorem dL_law_393 : decode cL_law 393 = .ok (.iconst 2, 1) := by decide +kernel
theorem dL_law_394 : decode cL_law 394 = .ok (.iadd, 1) := by decide +kernel
theorem dL_law_395 : decode cL_law 395 = .ok (.iaload, 1) := by decide +kernel
theorem dL_law_396 : decode cL_law 396 = .ok (.aload_n 0, 1) := by decide +kernel
theorem dL_law_397 : decode cL_law 397 = .ok (.iload_n 3, 1) := by decide +kernel
theorem dL_law_398 : decode cL_law 398 = .ok (.iconst 3, 1) := by decide +kernel
theorem dL_law_399 : decode cL_law 399 = .ok (.iadd, 1) := by decide +kernel
theorem dL_law_400 : decode cL_law 400 = .ok (.iaload, 1) := by decide +kernel
theorem dL_law_401 : decode cL_law 401 = .ok (.aload_n 0, 1) := by decide +kernel
theorem dL_law_402 : decode cL_law 402 = .ok (.iload_n 3, 1) := by decide +kernel
theorem dL_law_403 : decode cL_law 403 = .ok (.iconst 4, 1) := by decide +kernel
theorem dL_law_404 : decode cL_law 404 = .ok (.iadd, 1) := by decide +kernel
theorem dL_law_405 : decode cL_law 405 = .ok (.iaload, 1) := by decide +kernel
theorem dL_law_406 : decode cL_law 406 = .ok (.aload_n 0, 1) := by decide +kernel
theorem dL_law_407 : decode cL_law 407 = .ok (.iload_n 3, 1) := by decide +kernel
theorem dL_law_408 : decode cL_law 408 = .ok (.iconst 5, 1) := by decide +kernel
theorem dL_law_409 : decode cL_law 409 = .ok (.iadd, 1) := by decide +kernel
theorem dL_law_410 : decode cL_law 410 = .ok (.iaload, 1) := by decide +kernel
theorem dL_law_411 : decode cL_law 411 = .ok (.invokevirtual 44, 3) := by decide +kernel
theorem dL_law_414 : decode cL_law 414 = .ok (.aload_n 2, 1) := by decide +kernel
theorem dL_law_415 : decode cL_law 415 = .ok (.aload_n 0, 1) := by decide +kernel
theorem dL_law_416 : decode cL_law 416 = .ok (.iload_n 3, 1) := by decide +kernel
theorem dL_law_417 : decode cL_law 417 = .ok (.iconst 1, 1) := by decide +kernel
theorem dL_law_418 : decode cL_law 418 = .ok (.iadd, 1) := by decide +kernel
theorem dL_law_419 : decode cL_law 419 = .ok (.iaload, 1) := by decide +kernel
theorem dL_law_420 : decode cL_law 420 = .ok (.aload_n 0, 1) := by decide +kernel
theorem dL_law_421 : decode cL_law 421 = .ok (.iload_n 3, 1) := by decide +kernel
theorem dL_law_422 : decode cL_law 422 = .ok (.iconst 2, 1) := by decide +kernel
theorem dL_law_423 : decode cL_law 423 = .ok (.iadd, 1) := by decide +kernel
theorem dL_law_424 : decode cL_law 424 = .ok (.iaload, 1) := by decide +kernel
theorem dL_law_425 : decode cL_law 425 = .ok (.aload_n 0, 1) := by decide +kernel
theorem dL_law_426 : decode cL_law 426 = .ok (.iload_n 3, 1) := by decide +kernel
theorem dL_law_427 : decode cL_law 427 = .ok (.iconst 3, 1) := by decide +kernel
theorem dL_law_428 : decode cL_law 428 = .ok (.iadd, 1) := by decide +kernel
theorem dL_law_429 : decode cL_law 429 = .ok (.iaload, 1) := by decide +kernel
theorem dL_law_430 : decode cL_law 430 = .ok (.aload_n 0, 1) := by decide +kernel
theorem dL_law_431 : decode cL_law 431 = .ok (.iload_n 3, 1) := by decide +kernel
theorem dL_law_432 : decode cL_law 432 = .ok (.iconst 4, 1) := by decide +kernel
theorem dL_law_433 : decode cL_law 433 = .ok (.iadd, 1) := by decide +kernel
theorem dL_law_434 : decode cL_law 434 = .ok (.iaload, 1) := by decide +kernel
theorem dL_law_435 : decode cL_law 435 = .ok (.aload_n 0, 1) := by decide +kernel
theorem dL_law_436 : decode cL_law 436 = .ok (.iload_n 3, 1) := by decide +kernel
theorem dL_law_437 : decode cL_law 437 = .ok (.iconst 5, 1) := by decide +kernel
theorem dL_law_438 : decode cL_law 438 = .ok (.iadd, 1) := by decide +kernel
theorem dL_law_439 : decode cL_law 439 = .ok (.iaload, 1) := by decide +kernel
theorem dL_law_440 : decode cL_law 440 = .ok (.invokevirtual 48, 3) := by decide +kernel
theorem dL_law_443 : decode cL_law 443 = .ok (.if_icmp .eq 620, 3) := by decide +kernel
theorem dL_law_446 : decode cL_law 446 = .ok (.iconst 0, 1) := by decide +kernel
theorem dL_law_447 : decode cL_law 447 = .ok (.ireturn, 1) := by decide +kernel
theorem dL_law_448 : decode cL_law 448 = .ok (.aload_n 1, 1) := by decide +kernel
theorem dL_law_449 : decode cL_law 449 = .ok (.aload_n 0, 1) := by decide +kernel
theorem dL_law_450 : decode cL_law 450 = .ok (.iload_n 3, 1) := by decide +kernel
theorem dL_law_451 : decode cL_law 451 = .ok (.iconst 1, 1) := by decide +kernel
theorem dL_law_452 : decode cL_law 452 = .ok (.iadd, 1) := by decide +kernel
theorem dL_law_453 : decode cL_law 453 = .ok (.iaload, 1) := by decide +kernel
theorem dL_law_454 : decode cL_law 454 = .ok (.aload_n 0, 1) := by decide +kernel
theorem dL_law_455 : decode cL_law 455 = .ok (.iload_n 3, 1) := by decide +kernel
theorem dL_law_456 : decode cL_law 456 = .ok (.iconst 2, 1) := by decide +kernel
theorem dL_law_457 : decode cL_law 457 = .ok (.iadd, 1) := by decide +kernel
theorem dL_law_458 : decode cL_law 458 = .ok (.iaload, 1) := by decide +kernel
theorem dL_law_459 : decode cL_law 459 = .ok (.invokevirtual 49, 3) := by decide +kernel
theorem dL_law_462 : decode cL_law 462 = .ok (.aload_n 2, 1) := by decide +kernel
theorem dL_law_463 : decode cL_law 463 = .ok (.aload_n 0, 1) := by decide +kernel
theorem dL_law_464 : decode cL_law 464 = .ok (.iload_n 3, 1) := by decide +kernel
theorem dL_law_465 : decode cL_law 465 = .ok (.iconst 1, 1) := by decide +kernel
theorem dL_law_466 : decode cL_law 466 = .ok (.iadd, 1) := by decide +kernel
theorem dL_law_467 : decode cL_law 467 = .ok (.iaload, 1) := by decide +kernel
theorem dL_law_468 : decode cL_law 468 = .ok (.aload_n 0, 1) := by decide +kernel
theorem dL_law_469 : decode cL_law 469 = .ok (.iload_n 3, 1) := by decide +kernel
theorem dL_law_470 : decode cL_law 470 = .ok (.iconst 2, 1) := by decide +kernel
theorem dL_law_471 : decode cL_law 471 = .ok (.iadd, 1) := by decide +kernel
theorem dL_law_472 : decode cL_law 472 = .ok (.iaload, 1) := by decide +kernel
theorem dL_law_473 : decode cL_law 473 = .ok (.invokevirtual 52, 3) := by decide +kernel
theorem dL_law_476 : decode cL_law 476 = .ok (.if_icmp .eq 587, 3) := by decide +kernel
theorem dL_law_479 : decode cL_law 479 = .ok (.iconst 0, 1) := by decide +kernel
theorem dL_law_480 : decode cL_law 480 = .ok (.ireturn, 1) := by decide +kernel
theorem dL_law_481 : decode cL_law 481 = .ok (.aload_n 1, 1) := by decide +kernel
theorem dL_law_482 : decode cL_law 482 = .ok (.aload_n 0, 1) := by decide +kernel
theorem dL_law_483 : decode cL_law 483 = .ok (.iload_n 3, 1) := by decide +kernel
theorem dL_law_484 : decode cL_law 484 = .ok (.iconst 1, 1) := by decide +kernel
theorem dL_law_485 : decode cL_law 485 = .ok (.iadd, 1) := by decide +kernel
theorem dL_law_486 : decode cL_law 486 = .ok (.iaload, 1) := by decide +kernel
theorem dL_law_487 : decode cL_law 487 = .ok (.invokevirtual 53, 3) := by decide +kernel
theorem dL_law_490 : decode cL_law 490 = .ok (.aload_n 2, 1) := by decide +kernel
theorem dL_law_491 : decode cL_law 491 = .ok (.aload_n 0, 1) := by decide +kernel
theorem dL_law_492 : decode cL_law 492 = .ok (.iload_n 3, 1) := by decide +kernel
theorem dL_law_493 : decode cL_law 493 = .ok (.iconst 1, 1) := by decide +kernel
theorem dL_law_494 : decode cL_law 494 = .ok (.iadd, 1) := by decide +kernel
theorem dL_law_495 : decode cL_law 495 = .ok (.iaload, 1) := by decide +kernel
theorem dL_law_496 : decode cL_law 496 = .ok (.invokevirtual 56, 3) := by decide +kernel
theorem dL_law_499 : decode cL_law 499 = .ok (.if_icmp .eq 564, 3) := by decide +kernel
theorem dL_law_502 : decode cL_law 502 = .ok (.iconst 0, 1) := by decide +kernel
theorem dL_law_503 : decode cL_law 503 = .ok (.ireturn, 1) := by decide +kernel
theorem dL_law_504 : decode cL_law 504 = .ok (.aload_n 1, 1) := by decide +kernel
theorem dL_law_505 : decode cL_law 505 = .ok (.aload_n 0, 1) := by decide +kernel
theorem dL_law_506 : decode cL_law 506 = .ok (.iload_n 3, 1) := by decide +kernel
theorem dL_law_507 : decode cL_law 507 = .ok (.iconst 1, 1) := by decide +kernel
theorem dL_law_508 : decode cL_law 508 = .ok (.iadd, 1) := by decide +kernel
theorem dL_law_509 : decode cL_law 509 = .ok (.iaload, 1) := by decide +kernel
theorem dL_law_510 : decode cL_law 510 = .ok (.invokevirtual 57, 3) := by decide +kernel
theorem dL_law_513 : decode cL_law 513 = .ok (.aload_n 2, 1) := by decide +kernel
theorem dL_law_514 : decode cL_law 514 = .ok (.aload_n 0, 1) := by decide +kernel
theorem dL_law_515 : decode cL_law 515 = .ok (.iload_n 3, 1) := by decide +kernel
theorem dL_law_516 : decode cL_law 516 = .ok (.iconst 1, 1) := by decide +kernel
theorem dL_law_517 : decode cL_law 517 = .ok (.iadd, 1) := by decide +kernel
theorem dL_law_518 : decode cL_law 518 = .ok (.iaload, 1) := by decide +kernel
theorem dL_law_519 : decode cL_law 519 = .ok (.invokevirtual 60, 3) := by decide +kernel
theorem dL_law_522 : decode cL_law 522 = .ok (.if_icmp .eq 541, 3) := by decide +kernel
theorem dL_law_525 : decode cL_law 525 = .ok (.iconst 0, 1) := by decide +kernel
theorem dL_law_526 : decode cL_law 526 = .ok (.ireturn, 1) := by decide +kernel
theorem dL_law_527 : decode cL_law 527 = .ok (.aload_n 1, 1) := by decide +kernel
theorem dL_law_528 : decode cL_law 528 = .ok (.aload_n 0, 1) := by decide +kernel
theorem dL_law_529 : decode cL_law 529 = .ok (.iload_n 3, 1) := by decide +kernel
theorem dL_law_530 : decode cL_law 530 = .ok (.iconst 1, 1) := by decide +kernel
theorem dL_law_531 : decode cL_law 531 = .ok (.iadd, 1) := by decide +kernel
theorem dL_law_532 : decode cL_law 532 = .ok (.iaload, 1) := by decide +kernel
theorem dL_law_533 : decode cL_law 533 = .ok (.invokevirtual 61, 3) := by decide +kernel
theorem dL_law_536 : decode cL_law 536 = .ok (.aload_n 2, 1) := by decide +kernel
theorem dL_law_537 : decode cL_law 537 = .ok (.aload_n 0, 1) := by decide +kernel
theorem dL_law_538 : decode cL_law 538 = .ok (.iload_n 3, 1) := by decide +kernel
theorem dL_law_539 : decode cL_law 539 = .ok (.iconst 1, 1) := by decide +kernel
theorem dL_law_540 : decode cL_law 540 = .ok (.iadd, 1) := by decide +kernel
theorem dL_law_541 : decode cL_law 541 = .ok (.iaload, 1) := by decide +kernel
theorem dL_law_542 : decode cL_law 542 = .ok (.invokevirtual 64, 3) := by decide +kernel
theorem dL_law_545 : decode cL_law 545 = .ok (.if_icmp .eq 518, 3) := by decide +kernel
theorem dL_law_548 : decode cL_law 548 = .ok (.iconst 0, 1) := by decide +kernel
theorem dL_law_549 : decode cL_law 549 = .ok (.ireturn, 1) := by decide +kernel
theorem dL_law_550 : decode cL_law 550 = .ok (.aload_n 1, 1) := by decide +kernel
theorem dL_law_551 : decode cL_law 551 = .ok (.aload_n 0, 1) := by decide +kernel
theorem dL_law_552 : decode cL_law 552 = .ok (.iload_n 3, 1) := by decide +kernel
theorem dL_law_553 : decode cL_law 553 = .ok (.iconst 1, 1) := by decide +kernel
theorem dL_law_554 : decode cL_law 554 = .ok (.iadd, 1) := by decide +kernel
theorem dL_law_555 : decode cL_law 555 = .ok (.iaload, 1) := by decide +kernel
theorem dL_law_556 : decode cL_law 556 = .ok (.aload_n 0, 1) := by decide +kernel
theorem dL_law_557 : decode cL_law 557 = .ok (.iload_n 3, 1) := by decide +kernel
theorem dL_law_558 : decode cL_law 558 = .ok (.iconst 2, 1) := by decide +kernel
theorem dL_law_559 : decode cL_law 559 = .ok (.iadd, 1) := by decide +kernel
theorem dL_law_560 : decode cL_law 560 = .ok (.iaload, 1) := by decide +kernel
theorem dL_law_561 : decode cL_law 561 = .ok (.invokevirtual 65, 3) := by decide +kernel
theorem dL_law_564 : decode cL_law 564 = .ok (.aload_n 2, 1) := by decide +kernel
theorem dL_law_565 : decode cL_law 565 = .ok (.aload_n 0, 1) := by decide +kernel
theorem dL_law_566 : decode cL_law 566 = .ok (.iload_n 3, 1) := by decide +kernel
theorem dL_law_567 : decode cL_law 567 = .ok (.iconst 1, 1) := by decide +kernel
theorem dL_law_568 : decode cL_law 568 = .ok (.iadd, 1) := by decide +kernel
theorem dL_law_569 : decode cL_law 569 = .ok (.iaload, 1) := by decide +kernel
theorem dL_law_570 : decode cL_law 570 = .ok (.aload_n 0, 1) := by decide +kernel
theorem dL_law_571 : decode cL_law 571 = .ok (.iload_n 3, 1) := by decide +kernel
theorem dL_law_572 : decode cL_law 572 = .ok (.iconst 2, 1) := by decide +kernel
theorem dL_law_573 : decode cL_law 573 = .ok (.iadd, 1) := by decide +kernel
theorem dL_law_574 : decode cL_law 574 = .ok (.iaload, 1) := by decide +kernel
theorem dL_law_575 : decode cL_law 575 = .ok (.invokevirtual 68, 3) := by decide +kernel
theorem dL_law_578 : decode cL_law 578 = .ok (.if_icmp .eq 485, 3) := by decide +kernel
theorem dL_law_581 : decode cL_law 581 = .ok (.iconst 0, 1) := by decide +kernel
theorem dL_law_582 : decode cL_law 582 = .ok (.ireturn, 1) := by decide +kernel
theorem dL_law_583 : decode cL_law 583 = .ok (.aload_n 1, 1) := by decide +kernel
theorem dL_law_584 : decode cL_law 584 = .ok (.aload_n 0, 1) := by decide +kernel
theorem dL_law_585 : decode cL_law 585 = .ok (.iload_n 3, 1) := by decide +kernel
theorem dL_law_586 : decode cL_law 586 = .ok (.iconst 1, 1) := by decide +kernel
theorem dL_law_587 : decode cL_law 587 = .ok (.iadd, 1) := by decide +kernel
theorem dL_law_588 : decode cL_law 588 = .ok (.iaload, 1) := by decide +kernel
theorem dL_law_589 : decode cL_law 589 = .ok (.invokevirtual 69, 3) := by decide +kernel
theorem dL_law_592 : decode cL_law 592 = .ok (.aload_n 2, 1) := by decide +kernel
theorem dL_law_593 : decode cL_law 593 = .ok (.aload_n 0, 1) := by decide +kernel
theorem dL_law_594 : decode cL_law 594 = .ok (.iload_n 3, 1) := by decide +kernel
theorem dL_law_595 : decode cL_law 595 = .ok (.iconst 1, 1) := by decide +kernel
theorem dL_law_596 : decode cL_law 596 = .ok (.iadd, 1) := by decide +kernel
theorem dL_law_597 : decode cL_law 597 = .ok (.iaload, 1) := by decide +kernel
theorem dL_law_598 : decode cL_law 598 = .ok (.invokevirtual 72, 3) := by decide +kernel
theorem dL_law_601 : decode cL_law 601 = .ok (.if_icmp .eq 462, 3) := by decide +kernel
theorem dL_law_604 : decode cL_law 604 = .ok (.iconst 0, 1) := by decide +kernel
theorem dL_law_605 : decode cL_law 605 = .ok (.ireturn, 1) := by decide +kernel
theorem dL_law_606 : decode cL_law 606 = .ok (.aload_n 1, 1) := by decide +kernel
theorem dL_law_607 : decode cL_law 607 = .ok (.aload_n 0, 1) := by decide +kernel
theorem dL_law_608 : decode cL_law 608 = .ok (.iload_n 3, 1) := by decide +kernel
theorem dL_law_609 : decode cL_law 609 = .ok (.iconst 1, 1) := by decide +kernel
theorem dL_law_610 : decode cL_law 610 = .ok (.iadd, 1) := by decide +kernel
theorem dL_law_611 : decode cL_law 611 = .ok (.iaload, 1) := by decide +kernel
theorem dL_law_612 : decode cL_law 612 = .ok (.invokevirtual 73, 3) := by decide +kernel
theorem dL_law_615 : decode cL_law 615 = .ok (.aload_n 2, 1) := by decide +kernel
theorem dL_law_616 : decode cL_law 616 = .ok (.aload_n 0, 1) := by decide +kernel
theorem dL_law_617 : decode cL_law 617 = .ok (.iload_n 3, 1) := by decide +kernel
theorem dL_law_618 : decode cL_law 618 = .ok (.iconst 1, 1) := by decide +kernel
theorem dL_law_619 : decode cL_law 619 = .ok (.iadd, 1) := by decide +kernel
theorem dL_law_620 : decode cL_law 620 = .ok (.iaload, 1) := by decide +kernel
theorem dL_law_621 : decode cL_law 621 = .ok (.invokevirtual 76, 3) := by decide +kernel
theorem dL_law_624 : decode cL_law 624 = .ok (.if_icmp .eq 439, 3) := by decide +kernel
theorem dL_law_627 : decode cL_law 627 = .ok (.iconst 0, 1) := by decide +kernel
theorem dL_law_628 : decode cL_law 628 = .ok (.ireturn, 1) := by decide +kernel
theorem dL_law_629 : decode cL_law 629 = .ok (.aload_n 1, 1) := by decide +kernel
theorem dL_law_630 : decode cL_law 630 = .ok (.aload_n 0, 1) := by decide +kernel
theorem dL_law_631 : decode cL_law 631 = .ok (.iload_n 3, 1) := by decide +kernel
theorem dL_law_632 : decode cL_law 632 = .ok (.iconst 1, 1) := by decide +kernel
theorem dL_law_633 : decode cL_law 633 = .ok (.iadd, 1) := by decide +kernel
theorem dL_law_634 : decode cL_law 634 = .ok (.iaload, 1) := by decide +kernel
theorem dL_law_635 : decode cL_law 635 = .ok (.invokevirtual 77, 3) := by decide +kernel
theorem dL_law_638 : decode cL_law 638 = .ok (.aload_n 2, 1) := by decide +kernel
theorem dL_law_639 : decode cL_law 639 = .ok (.aload_n 0, 1) := by decide +kernel
theorem dL_law_640 : decode cL_law 640 = .ok (.iload_n 3, 1) := by decide +kernel
theorem dL_law_641 : decode cL_law 641 = .ok (.iconst 1, 1) := by decide +kernel
theorem dL_law_642 : decode cL_law 642 = .ok (.iadd, 1) := by decide +kernel
theorem dL_law_643 : decode cL_law 643 = .ok (.iaload, 1) := by decide +kernel
theorem dL_law_644 : decode cL_law 644 = .ok (.invokevirtual 80, 3) := by decide +kernel
theorem dL_law_647 : decode cL_law 647 = .ok (.if_icmp .eq 416, 3) := by decide +kernel
theorem dL_law_650 : decode cL_law 650 = .ok (.iconst 0, 1) := by decide +kernel
theorem dL_law_651 : decode cL_law 651 = .ok (.ireturn, 1) := by decide +kernel
theorem dL_law_652 : decode cL_law 652 = .ok (.aload_n 1, 1) := by decide +kernel
theorem dL_law_653 : decode cL_law 653 = .ok (.aload_n 0, 1) := by decide +kernel
theorem dL_law_654 : decode cL_law 654 = .ok (.iload_n 3, 1) := by decide +kernel
theorem dL_law_655 : decode cL_law 655 = .ok (.iconst 1, 1) := by decide +kernel
theorem dL_law_656 : decode cL_law 656 = .ok (.iadd, 1) := by decide +kernel
theorem dL_law_657 : decode cL_law 657 = .ok (.iaload, 1) := by decide +kernel
theorem dL_law_658 : decode cL_law 658 = .ok (.invokevirtual 81, 3) := by decide +kernel
theorem dL_law_661 : decode cL_law 661 = .ok (.aload_n 2, 1) := by decide +kernel
theorem dL_law_662 : decode cL_law 662 = .ok (.aload_n 0, 1) := by decide +kernel
theorem dL_law_663 : decode cL_law 663 = .ok (.iload_n 3, 1) := by decide +kernel
theorem dL_law_664 : decode cL_law 664 = .ok (.iconst 1, 1) := by decide +kernel
theorem dL_law_665 : decode cL_law 665 = .ok (.iadd, 1) := by decide +kernel
theorem dL_law_666 : decode cL_law 666 = .ok (.iaload, 1) := by decide +kernel
theorem dL_law_667 : decode cL_law 667 = .ok (.invokevirtual 84, 3) := by decide +kernel
theorem dL_law_670 : decode cL_law 670 = .ok (.if_icmp .eq 393, 3) := by decide +kernel
theorem dL_law_673 : decode cL_law 673 = .ok (.iconst 0, 1) := by decide +kernel
theorem dL_law_674 : decode cL_law 674 = .ok (.ireturn, 1) := by decide +kernel
theorem dL_law_675 : decode cL_law 675 = .ok (.aload_n 1, 1) := by decide +kernel
theorem dL_law_676 : decode cL_law 676 = .ok (.aload_n 0, 1) := by decide +kernel
theorem dL_law_677 : decode cL_law 677 = .ok (.iload_n 3, 1) := by decide +kernel
theorem dL_law_678 : decode cL_law 678 = .ok (.iconst 1, 1) := by decide +kernel
theorem dL_law_679 : decode cL_law 679 = .ok (.iadd, 1) := by decide +kernel
theorem dL_law_680 : decode cL_law 680 = .ok (.iaload, 1) := by decide +kernel
theorem dL_law_681 : decode cL_law 681 = .ok (.aload_n 0, 1) := by decide +kernel
theorem dL_law_682 : decode cL_law 682 = .ok (.iload_n 3, 1) := by decide +kernel
theorem dL_law_683 : decode cL_law 683 = .ok (.iconst 2, 1) := by decide +kernel
theorem dL_law_684 : decode cL_law 684 = .ok (.iadd, 1) := by decide +kernel
theorem dL_law_685 : decode cL_law 685 = .ok (.iaload, 1) := by decide +kernel
theorem dL_law_686 : decode cL_law 686 = .ok (.aload_n 0, 1) := by decide +kernel
theorem dL_law_687 : decode cL_law 687 = .ok (.iload_n 3, 1) := by decide +kernel
theorem dL_law_688 : decode cL_law 688 = .ok (.iconst 3, 1) := by decide +kernel
theorem dL_law_689 : decode cL_law 689 = .ok (.iadd, 1) := by decide +kernel
theorem dL_law_690 : decode cL_law 690 = .ok (.iaload, 1) := by decide +kernel
theorem dL_law_691 : decode cL_law 691 = .ok (.invokevirtual 85, 3) := by decide +kernel
theorem dL_law_694 : decode cL_law 694 = .ok (.aload_n 2, 1) := by decide +kernel
theorem dL_law_695 : decode cL_law 695 = .ok (.aload_n 0, 1) := by decide +kernel
theorem dL_law_696 : decode cL_law 696 = .ok (.iload_n 3, 1) := by decide +kernel
theorem dL_law_697 : decode cL_law 697 = .ok (.iconst 1, 1) := by decide +kernel
theorem dL_law_698 : decode cL_law 698 = .ok (.iadd, 1) := by decide +kernel
theorem dL_law_699 : decode cL_law 699 = .ok (.iaload, 1) := by decide +kernel
theorem dL_law_700 : decode cL_law 700 = .ok (.aload_n 0, 1) := by decide +kernel
theorem dL_law_701 : decode cL_law 701 = .ok (.iload_n 3, 1) := by decide +kernel
theorem dL_law_702 : decode cL_law 702 = .ok (.iconst 2, 1) := by decide +kernel
theorem dL_law_703 : decode cL_law 703 = .ok (.iadd, 1) := by decide +kernel
theorem dL_law_704 : decode cL_law 704 = .ok (.iaload, 1) := by decide +kernel
theorem dL_law_705 : decode cL_law 705 = .ok (.aload_n 0, 1) := by decide +kernel
theorem dL_law_706 : decode cL_law 706 = .ok (.iload_n 3, 1) := by decide +kernel
theorem dL_law_707 : decode cL_law 707 = .ok (.iconst 3, 1) := by decide +kernel
theorem dL_law_708 : decode cL_law 708 = .ok (.iadd, 1) := by decide +kernel
theorem dL_law_709 : decode cL_law 709 = .ok (.iaload, 1) := by decide +kernel
theorem dL_law_710 : decode cL_law 710 = .ok (.invokevirtual 89, 3) := by decide +kernel
theorem dL_law_713 : decode cL_law 713 = .ok (.lcmp, 1) := by decide +kernel
theorem dL_law_714 : decode cL_law 714 = .ok (.ifCond .eq 349, 3) := by decide +kernel
theorem dL_law_717 : decode cL_law 717 = .ok (.iconst 0, 1) := by decide +kernel
theorem dL_law_718 : decode cL_law 718 = .ok (.ireturn, 1) := by decide +kernel
theorem dL_law_719 : decode cL_law 719 = .ok (.aload_n 1, 1) := by decide +kernel
theorem dL_law_720 : decode cL_law 720 = .ok (.aload_n 0, 1) := by decide +kernel
theorem dL_law_721 : decode cL_law 721 = .ok (.iload_n 3, 1) := by decide +kernel
theorem dL_law_722 : decode cL_law 722 = .ok (.iconst 1, 1) := by decide +kernel
theorem dL_law_723 : decode cL_law 723 = .ok (.iadd, 1) := by decide +kernel
theorem dL_law_724 : decode cL_law 724 = .ok (.iaload, 1) := by decide +kernel
theorem dL_law_725 : decode cL_law 725 = .ok (.aload_n 0, 1) := by decide +kernel
theorem dL_law_726 : decode cL_law 726 = .ok (.iload_n 3, 1) := by decide +kernel
theorem dL_law_727 : decode cL_law 727 = .ok (.iconst 2, 1) := by decide +kernel
theorem dL_law_728 : decode cL_law 728 = .ok (.iadd, 1) := by decide +kernel
theorem dL_law_729 : decode cL_law 729 = .ok (.iaload, 1) := by decide +kernel
theorem dL_law_730 : decode cL_law 730 = .ok (.aload_n 0, 1) := by decide +kernel
theorem dL_law_731 : decode cL_law 731 = .ok (.iload_n 3, 1) := by decide +kernel
theorem dL_law_732 : decode cL_law 732 = .ok (.iconst 3, 1) := by decide +kernel
theorem dL_law_733 : decode cL_law 733 = .ok (.iadd, 1) := by decide +kernel
theorem dL_law_734 : decode cL_law 734 = .ok (.iaload, 1) := by decide +kernel
theorem dL_law_735 : decode cL_law 735 = .ok (.invokevirtual 90, 3) := by decide +kernel
theorem dL_law_738 : decode cL_law 738 = .ok (.aload_n 2, 1) := by decide +kernel
theorem dL_law_739 : decode cL_law 739 = .ok (.aload_n 0, 1) := by decide +kernel
theorem dL_law_740 : decode cL_law 740 = .ok (.iload_n 3, 1) := by decide +kernel
theorem dL_law_741 : decode cL_law 741 = .ok (.iconst 1, 1) := by decide +kernel
theorem dL_law_742 : decode cL_law 742 = .ok (.iadd, 1) := by decide +kernel
theorem dL_law_743 : decode cL_law 743 = .ok (.iaload, 1) := by decide +kernel
theorem dL_law_744 : decode cL_law 744 = .ok (.aload_n 0, 1) := by decide +kernel
theorem dL_law_745 : decode cL_law 745 = .ok (.iload_n 3, 1) := by decide +kernel
theorem dL_law_746 : decode cL_law 746 = .ok (.iconst 2, 1) := by decide +kernel
theorem dL_law_747 : decode cL_law 747 = .ok (.iadd, 1) := by decide +kernel
theorem dL_law_748 : decode cL_law 748 = .ok (.iaload, 1) := by decide +kernel
theorem dL_law_749 : decode cL_law 749 = .ok (.aload_n 0, 1) := by decide +kernel
theorem dL_law_750 : decode cL_law 750 = .ok (.iload_n 3, 1) := by decide +kernel
theorem dL_law_751 : decode cL_law 751 = .ok (.iconst 3, 1) := by decide +kernel
theorem dL_law_752 : decode cL_law 752 = .ok (.iadd, 1) := by decide +kernel
theorem dL_law_753 : decode cL_law 753 = .ok (.iaload, 1) := by decide +kernel
theorem dL_law_754 : decode cL_law 754 = .ok (.invokevirtual 94, 3) := by decide +kernel
theorem dL_law_757 : decode cL_law 757 = .ok (.if_icmp .eq 306, 3) := by decide +kernel
theorem dL_law_760 : decode cL_law 760 = .ok (.iconst 0, 1) := by decide +kernel
theorem dL_law_761 : decode cL_law 761 = .ok (.ireturn, 1) := by decide +kernel
theorem dL_law_762 : decode cL_law 762 = .ok (.aload_n 1, 1) := by decide +kernel
theorem dL_law_763 : decode cL_law 763 = .ok (.aload_n 0, 1) := by decide +kernel
theorem dL_law_764 : decode cL_law 764 = .ok (.iload_n 3, 1) := by decide +kernel
theorem dL_law_765 : decode cL_law 765 = .ok (.iconst 1, 1) := by decide +kernel
theorem dL_law_766 : decode cL_law 766 = .ok (.iadd, 1) := by decide +kernel
theorem dL_law_767 : decode cL_law 767 = .ok (.iaload, 1) := by decide +kernel
theorem dL_law_768 : decode cL_law 768 = .ok (.invokevirtual 95, 3) := by decide +kernel
theorem dL_law_771 : decode cL_law 771 = .ok (.aload_n 2, 1) := by decide +kernel
theorem dL_law_772 : decode cL_law 772 = .ok (.aload_n 0, 1) := by decide +kernel
theorem dL_law_773 : decode cL_law 773 = .ok (.iload_n 3, 1) := by decide +kernel
theorem dL_law_774 : decode cL_law 774 = .ok (.iconst 1, 1) := by decide +kernel
theorem dL_law_775 : decode cL_law 775 = .ok (.iadd, 1) := by decide +kernel
theorem dL_law_776 : decode cL_law 776 = .ok (.iaload, 1) := by decide +kernel
theorem dL_law_777 : decode cL_law 777 = .ok (.invokevirtual 98, 3) := by decide +kernel
theorem dL_law_780 : decode cL_law 780 = .ok (.if_icmp .eq 283, 3) := by decide +kernel
theorem dL_law_783 : decode cL_law 783 = .ok (.iconst 0, 1) := by decide +kernel
theorem dL_law_784 : decode cL_law 784 = .ok (.ireturn, 1) := by decide +kernel
theorem dL_law_785 : decode cL_law 785 = .ok (.aload_n 1, 1) := by decide +kernel
theorem dL_law_786 : decode cL_law 786 = .ok (.aload_n 0, 1) := by decide +kernel
theorem dL_law_787 : decode cL_law 787 = .ok (.iload_n 3, 1) := by decide +kernel
theorem dL_law_788 : decode cL_law 788 = .ok (.iconst 1, 1) := by decide +kernel
theorem dL_law_789 : decode cL_law 789 = .ok (.iadd, 1) := by decide +kernel
theorem dL_law_790 : decode cL_law 790 = .ok (.iaload, 1) := by decide +kernel
theorem dL_law_791 : decode cL_law 791 = .ok (.aload_n 0, 1) := by decide +kernel
theorem dL_law_792 : decode cL_law 792 = .ok (.iload_n 3, 1) := by decide +kernel
theorem dL_law_793 : decode cL_law 793 = .ok (.iconst 2, 1) := by decide +kernel
theorem dL_law_794 : decode cL_law 794 = .ok (.iadd, 1) := by decide +kernel
theorem dL_law_795 : decode cL_law 795 = .ok (.iaload, 1) := by decide +kernel
theorem dL_law_796 : decode cL_law 796 = .ok (.aload_n 0, 1) := by decide +kernel
theorem dL_law_797 : decode cL_law 797 = .ok (.iload_n 3, 1) := by decide +kernel
theorem dL_law_798 : decode cL_law 798 = .ok (.iconst 3, 1) := by decide +kernel
theorem dL_law_799 : decode cL_law 799 = .ok (.iadd, 1) := by decide +kernel
theorem dL_law_800 : decode cL_law 800 = .ok (.iaload, 1) := by decide +kernel
theorem dL_law_801 : decode cL_law 801 = .ok (.invokevirtual 99, 3) := by decide +kernel
theorem dL_law_804 : decode cL_law 804 = .ok (.aload_n 2, 1) := by decide +kernel
theorem dL_law_805 : decode cL_law 805 = .ok (.aload_n 0, 1) := by decide +kernel
theorem dL_law_806 : decode cL_law 806 = .ok (.iload_n 3, 1) := by decide +kernel
theorem dL_law_807 : decode cL_law 807 = .ok (.iconst 1, 1) := by decide +kernel
theorem dL_law_808 : decode cL_law 808 = .ok (.iadd, 1) := by decide +kernel
theorem dL_law_809 : decode cL_law 809 = .ok (.iaload, 1) := by decide +kernel
theorem dL_law_810 : decode cL_law 810 = .ok (.aload_n 0, 1) := by decide +kernel
theorem dL_law_811 : decode cL_law 811 = .ok (.iload_n 3, 1) := by decide +kernel
theorem dL_law_812 : decode cL_law 812 = .ok (.iconst 2, 1) := by decide +kernel
theorem dL_law_813 : decode cL_law 813 = .ok (.iadd, 1) := by decide +kernel
theorem dL_law_814 : decode cL_law 814 = .ok (.iaload, 1) := by decide +kernel
theorem dL_law_815 : decode cL_law 815 = .ok (.aload_n 0, 1) := by decide +kernel
theorem dL_law_816 : decode cL_law 816 = .ok (.iload_n 3, 1) := by decide +kernel
theorem dL_law_817 : decode cL_law 817 = .ok (.iconst 3, 1) := by decide +kernel
theorem dL_law_818 : decode cL_law 818 = .ok (.iadd, 1) := by decide +kernel
theorem dL_law_819 : decode cL_law 819 = .ok (.iaload, 1) := by decide +kernel
theorem dL_law_820 : decode cL_law 820 = .ok (.invokevirtual 102, 3) := by decide +kernel
theorem dL_law_823 : decode cL_law 823 = .ok (.if_icmp .eq 240, 3) := by decide +kernel
theorem dL_law_826 : decode cL_law 826 = .ok (.iconst 0, 1) := by decide +kernel
theorem dL_law_827 : decode cL_law 827 = .ok (.ireturn, 1) := by decide +kernel
theorem dL_law_828 : decode cL_law 828 = .ok (.aload_n 1, 1) := by decide +kernel
theorem dL_law_829 : decode cL_law 829 = .ok (.aload_n 0, 1) := by decide +kernel
theorem dL_law_830 : decode cL_law 830 = .ok (.iload_n 3, 1) := by decide +kernel
theorem dL_law_831 : decode cL_law 831 = .ok (.iconst 1, 1) := by decide +kernel
theorem dL_law_832 : decode cL_law 832 = .ok (.iadd, 1) := by decide +kernel
theorem dL_law_833 : decode cL_law 833 = .ok (.iaload, 1) := by decide +kernel
theorem dL_law_834 : decode cL_law 834 = .ok (.aload_n 0, 1) := by decide +kernel
theorem dL_law_835 : decode cL_law 835 = .ok (.iload_n 3, 1) := by decide +kernel
theorem dL_law_836 : decode cL_law 836 = .ok (.iconst 2, 1) := by decide +kernel
theorem dL_law_837 : decode cL_law 837 = .ok (.iadd, 1) := by decide +kernel
theorem dL_law_838 : decode cL_law 838 = .ok (.iaload, 1) := by decide +kernel
theorem dL_law_839 : decode cL_law 839 = .ok (.aload_n 0, 1) := by decide +kernel
theorem dL_law_840 : decode cL_law 840 = .ok (.iload_n 3, 1) := by decide +kernel
theorem dL_law_841 : decode cL_law 841 = .ok (.iconst 3, 1) := by decide +kernel
theorem dL_law_842 : decode cL_law 842 = .ok (.iadd, 1) := by decide +kernel
theorem dL_law_843 : decode cL_law 843 = .ok (.iaload, 1) := by decide +kernel
theorem dL_law_844 : decode cL_law 844 = .ok (.invokevirtual 103, 3) := by decide +kernel
theorem dL_law_847 : decode cL_law 847 = .ok (.aload_n 2, 1) := by decide +kernel
theorem dL_law_848 : decode cL_law 848 = .ok (.aload_n 0, 1) := by decide +kernel
theorem dL_law_849 : decode cL_law 849 = .ok (.iload_n 3, 1) := by decide +kernel
theorem dL_law_850 : decode cL_law 850 = .ok (.iconst 1, 1) := by decide +kernel
theorem dL_law_851 : decode cL_law 851 = .ok (.iadd, 1) := by decide +kernel
theorem dL_law_852 : decode cL_law 852 = .ok (.iaload, 1) := by decide +kernel
theorem dL_law_853 : decode cL_law 853 = .ok (.aload_n 0, 1) := by decide +kernel
theorem dL_law_854 : decode cL_law 854 = .ok (.iload_n 3, 1) := by decide +kernel
theorem dL_law_855 : decode cL_law 855 = .ok (.iconst 2, 1) := by decide +kernel
theorem dL_law_856 : decode cL_law 856 = .ok (.iadd, 1) := by decide +kernel
theorem dL_law_857 : decode cL_law 857 = .ok (.iaload, 1) := by decide +kernel
theorem dL_law_858 : decode cL_law 858 = .ok (.aload_n 0, 1) := by decide +kernel
theorem dL_law_859 : decode cL_law 859 = .ok (.iload_n 3, 1) := by decide +kernel
theorem dL_law_860 : decode cL_law 860 = .ok (.iconst 3, 1) := by decide +kernel
theorem dL_law_861 : decode cL_law 861 = .ok (.iadd, 1) := by decide +kernel
theorem dL_law_862 : decode cL_law 862 = .ok (.iaload, 1) := by decide +kernel
theorem dL_law_863 : decode cL_law 863 = .ok (.invokevirtual 106, 3) := by decide +kernel
theorem dL_law_866 : decode cL_law 866 = .ok (.lcmp, 1) := by decide +kernel
theorem dL_law_867 : decode cL_law 867 = .ok (.ifCond .eq 196, 3) := by decide +kernel
theorem dL_law_870 : decode cL_law 870 = .ok (.iconst 0, 1) := by decide +kernel
theorem dL_law_871 : decode cL_law 871 = .ok (.ireturn, 1) := by decide +kernel
theorem dL_law_872 : decode cL_law 872 = .ok (.aload_n 1, 1) := by decide +kernel
theorem dL_law_873 : decode cL_law 873 = .ok (.aload_n 0, 1) := by decide +kernel
theorem dL_law_874 : decode cL_law 874 = .ok (.iload_n 3, 1) := by decide +kernel
theorem dL_law_875 : decode cL_law 875 = .ok (.iconst 1, 1) := by decide +kernel
theorem dL_law_876 : decode cL_law 876 = .ok (.iadd, 1) := by decide +kernel
theorem dL_law_877 : decode cL_law 877 = .ok (.iaload, 1) := by decide +kernel
theorem dL_law_878 : decode cL_law 878 = .ok (.aload_n 0, 1) := by decide +kernel
theorem dL_law_879 : decode cL_law 879 = .ok (.iload_n 3, 1) := by decide +kernel
theorem dL_law_880 : decode cL_law 880 = .ok (.iconst 2, 1) := by decide +kernel
theorem dL_law_881 : decode cL_law 881 = .ok (.iadd, 1) := by decide +kernel
theorem dL_law_882 : decode cL_law 882 = .ok (.iaload, 1) := by decide +kernel
theorem dL_law_883 : decode cL_law 883 = .ok (.aload_n 0, 1) := by decide +kernel
theorem dL_law_884 : decode cL_law 884 = .ok (.iload_n 3, 1) := by decide +kernel
theorem dL_law_885 : decode cL_law 885 = .ok (.iconst 3, 1) := by decide +kernel
theorem dL_law_886 : decode cL_law 886 = .ok (.iadd, 1) := by decide +kernel
theorem dL_law_887 : decode cL_law 887 = .ok (.iaload, 1) := by decide +kernel
theorem dL_law_888 : decode cL_law 888 = .ok (.aload_n 0, 1) := by decide +kernel
theorem dL_law_889 : decode cL_law 889 = .ok (.iload_n 3, 1) := by decide +kernel
theorem dL_law_890 : decode cL_law 890 = .ok (.iconst 4, 1) := by decide +kernel
theorem dL_law_891 : decode cL_law 891 = .ok (.iadd, 1) := by decide +kernel
theorem dL_law_892 : decode cL_law 892 = .ok (.iaload, 1) := by decide +kernel
theorem dL_law_893 : decode cL_law 893 = .ok (.aload_n 0, 1) := by decide +kernel
theorem dL_law_894 : decode cL_law 894 = .ok (.iload_n 3, 1) := by decide +kernel
theorem dL_law_895 : decode cL_law 895 = .ok (.iconst 5, 1) := by decide +kernel
theorem dL_law_896 : decode cL_law 896 = .ok (.iadd, 1) := by decide +kernel
theorem dL_law_897 : decode cL_law 897 = .ok (.iaload, 1) := by decide +kernel
theorem dL_law_898 : decode cL_law 898 = .ok (.invokevirtual 107, 3) := by decide +kernel
theorem dL_law_901 : decode cL_law 901 = .ok (.aload_n 2, 1) := by decide +kernel
theorem dL_law_902 : decode cL_law 902 = .ok (.aload_n 0, 1) := by decide +kernel
theorem dL_law_903 : decode cL_law 903 = .ok (.iload_n 3, 1) := by decide +kernel
theorem dL_law_904 : decode cL_law 904 = .ok (.iconst 1, 1) := by decide +kernel
theorem dL_law_905 : decode cL_law 905 = .ok (.iadd, 1) := by decide +kernel
theorem dL_law_906 : decode cL_law 906 = .ok (.iaload, 1) := by decide +kernel
theorem dL_law_907 : decode cL_law 907 = .ok (.aload_n 0, 1) := by decide +kernel
theorem dL_law_908 : decode cL_law 908 = .ok (.iload_n 3, 1) := by decide +kernel
theorem dL_law_909 : decode cL_law 909 = .ok (.iconst 2, 1) := by decide +kernel
theorem dL_law_910 : decode cL_law 910 = .ok (.iadd, 1) := by decide +kernel
theorem dL_law_911 : decode cL_law 911 = .ok (.iaload, 1) := by decide +kernel
theorem dL_law_912 : decode cL_law 912 = .ok (.aload_n 0, 1) := by decide +kernel
theorem dL_law_913 : decode cL_law 913 = .ok (.iload_n 3, 1) := by decide +kernel
theorem dL_law_914 : decode cL_law 914 = .ok (.iconst 3, 1) := by decide +kernel
theorem dL_law_915 : decode cL_law 915 = .ok (.iadd, 1) := by decide +kernel
theorem dL_law_916 : decode cL_law 916 = .ok (.iaload, 1) := by decide +kernel
theorem dL_law_917 : decode cL_law 917 = .ok (.aload_n 0, 1) := by decide +kernel
theorem dL_law_918 : decode cL_law 918 = .ok (.iload_n 3, 1) := by decide +kernel
theorem dL_law_919 : decode cL_law 919 = .ok (.iconst 4, 1) := by decide +kernel
theorem dL_law_920 : decode cL_law 920 = .ok (.iadd, 1) := by decide +kernel
theorem dL_law_921 : decode cL_law 921 = .ok (.iaload, 1) := by decide +kernel
theorem dL_law_922 : decode cL_law 922 = .ok (.aload_n 0, 1) := by decide +kernel
theorem dL_law_923 : decode cL_law 923 = .ok (.iload_n 3, 1) := by decide +kernel
theorem dL_law_924 : decode cL_law 924 = .ok (.iconst 5, 1) := by decide +kernel
theorem dL_law_925 : decode cL_law 925 = .ok (.iadd, 1) := by decide +kernel
theorem dL_law_926 : decode cL_law 926 = .ok (.iaload, 1) := by decide +kernel
theorem dL_law_927 : decode cL_law 927 = .ok (.invokevirtual 110, 3) := by decide +kernel
theorem dL_law_930 : decode cL_law 930 = .ok (.if_icmp .eq 133, 3) := by decide +kernel
theorem dL_law_933 : decode cL_law 933 = .ok (.iconst 0, 1) := by decide +kernel
theorem dL_law_934 : decode cL_law 934 = .ok (.ireturn, 1) := by decide +kernel
theorem dL_law_935 : decode cL_law 935 = .ok (.aload_n 1, 1) := by decide +kernel
theorem dL_law_936 : decode cL_law 936 = .ok (.aload_n 0, 1) := by decide +kernel
theorem dL_law_937 : decode cL_law 937 = .ok (.iload_n 3, 1) := by decide +kernel
theorem dL_law_938 : decode cL_law 938 = .ok (.iconst 1, 1) := by decide +kernel
theorem dL_law_939 : decode cL_law 939 = .ok (.iadd, 1) := by decide +kernel
theorem dL_law_940 : decode cL_law 940 = .ok (.iaload, 1) := by decide +kernel
theorem dL_law_941 : decode cL_law 941 = .ok (.invokevirtual 111, 3) := by decide +kernel
theorem dL_law_944 : decode cL_law 944 = .ok (.aload_n 2, 1) := by decide +kernel
theorem dL_law_945 : decode cL_law 945 = .ok (.aload_n 0, 1) := by decide +kernel
theorem dL_law_946 : decode cL_law 946 = .ok (.iload_n 3, 1) := by decide +kernel
theorem dL_law_947 : decode cL_law 947 = .ok (.iconst 1, 1) := by decide +kernel
theorem dL_law_948 : decode cL_law 948 = .ok (.iadd, 1) := by decide +kernel
theorem dL_law_949 : decode cL_law 949 = .ok (.iaload, 1) := by decide +kernel
theorem dL_law_950 : decode cL_law 950 = .ok (.invokevirtual 114, 3) := by decide +kernel
theorem dL_law_953 : decode cL_law 953 = .ok (.if_icmp .eq 110, 3) := by decide +kernel
theorem dL_law_956 : decode cL_law 956 = .ok (.iconst 0, 1) := by decide +kernel
theorem dL_law_957 : decode cL_law 957 = .ok (.ireturn, 1) := by decide +kernel
theorem dL_law_958 : decode cL_law 958 = .ok (.aload_n 1, 1) := by decide +kernel
theorem dL_law_959 : decode cL_law 959 = .ok (.aload_n 0, 1) := by decide +kernel
theorem dL_law_960 : decode cL_law 960 = .ok (.iload_n 3, 1) := by decide +kernel
theorem dL_law_961 : decode cL_law 961 = .ok (.iconst 1, 1) := by decide +kernel
theorem dL_law_962 : decode cL_law 962 = .ok (.iadd, 1) := by decide +kernel
theorem dL_law_963 : decode cL_law 963 = .ok (.iaload, 1) := by decide +kernel
theorem dL_law_964 : decode cL_law 964 = .ok (.invokevirtual 115, 3) := by decide +kernel
theorem dL_law_967 : decode cL_law 967 = .ok (.aload_n 2, 1) := by decide +kernel
theorem dL_law_968 : decode cL_law 968 = .ok (.aload_n 0, 1) := by decide +kernel
theorem dL_law_969 : decode cL_law 969 = .ok (.iload_n 3, 1) := by decide +kernel
theorem dL_law_970 : decode cL_law 970 = .ok (.iconst 1, 1) := by decide +kernel
theorem dL_law_971 : decode cL_law 971 = .ok (.iadd, 1) := by decide +kernel
theorem dL_law_972 : decode cL_law 972 = .ok (.iaload, 1) := by decide +kernel
theorem dL_law_973 : decode cL_law 973 = .ok (.invokevirtual 118, 3) := by decide +kernel
theorem dL_law_976 : decode cL_law 976 = .ok (.if_icmp .eq 87, 3) := by decide +kernel
theorem dL_law_979 : decode cL_law 979 = .ok (.iconst 0, 1) := by decide +kernel
theorem dL_law_980 : decode cL_law 980 = .ok (.ireturn, 1) := by decide +kernel
theorem dL_law_981 : decode cL_law 981 = .ok (.aload_n 1, 1) := by decide +kernel
theorem dL_law_982 : decode cL_law 982 = .ok (.aload_n 0, 1) := by decide +kernel
theorem dL_law_983 : decode cL_law 983 = .ok (.iload_n 3, 1) := by decide +kernel
theorem dL_law_984 : decode cL_law 984 = .ok (.iconst 1, 1) := by decide +kernel
theorem dL_law_985 : decode cL_law 985 = .ok (.iadd, 1) := by decide +kernel
theorem dL_law_986 : decode cL_law 986 = .ok (.iaload, 1) := by decide +kernel
theorem dL_law_987 : decode cL_law 987 = .ok (.aload_n 0, 1) := by decide +kernel
theorem dL_law_988 : decode cL_law 988 = .ok (.iload_n 3, 1) := by decide +kernel
theorem dL_law_989 : decode cL_law 989 = .ok (.iconst 2, 1) := by decide +kernel
theorem dL_law_990 : decode cL_law 990 = .ok (.iadd, 1) := by decide +kernel
theorem dL_law_991 : decode cL_law 991 = .ok (.iaload, 1) := by decide +kernel
theorem dL_law_992 : decode cL_law 992 = .ok (.invokevirtual 119, 3) := by decide +kernel
theorem dL_law_995 : decode cL_law 995 = .ok (.aload_n 2, 1) := by decide +kernel
theorem dL_law_996 : decode cL_law 996 = .ok (.aload_n 0, 1) := by decide +kernel
theorem dL_law_997 : decode cL_law 997 = .ok (.iload_n 3, 1) := by decide +kernel
theorem dL_law_998 : decode cL_law 998 = .ok (.iconst 1, 1) := by decide +kernel
theorem dL_law_999 : decode cL_law 999 = .ok (.iadd, 1) := by decide +kernel
theorem dL_law_1000 : decode cL_law 1000 = .ok (.iaload, 1) := by decide +kernel
theorem dL_law_1001 : decode cL_law 1001 = .ok (.aload_n 0, 1) := by decide +kernel
theorem dL_law_1002 : decode cL_law 1002 = .ok (.iload_n 3, 1) := by decide +kernel
theorem dL_law_1003 : decode cL_law 1003 = .ok (.iconst 2, 1) := by decide +kernel
theorem dL_law_1004 : decode cL_law 1004 = .ok (.iadd, 1) := by decide +kernel
theorem dL_law_1005 : decode cL_law 1005 = .ok (.iaload, 1) := by decide +kernel
theorem dL_law_1006 : decode cL_law 1006 = .ok (.invokevirtual 122, 3) := by decide +kernel
theorem dL_law_1009 : decode cL_law 1009 = .ok (.if_icmp .eq 54, 3) := by decide +kernel
theorem dL_law_1012 : decode cL_law 1012 = .ok (.iconst 0, 1) := by decide +kernel
theorem dL_law_1013 : decode cL_law 1013 = .ok (.ireturn, 1) := by decide +kernel
theorem dL_law_1014 : decode cL_law 1014 = .ok (.aload_n 1, 1) := by decide +kernel
theorem dL_law_1015 : decode cL_law 1015 = .ok (.invokevirtual 123, 3) := by decide +kernel
theorem dL_law_1018 : decode cL_law 1018 = .ok (.aload_n 2, 1) := by decide +kernel
theorem dL_law_1019 : decode cL_law 1019 = .ok (.invokevirtual 127, 3) := by decide +kernel
theorem dL_law_1022 : decode cL_law 1022 = .ok (.if_icmp .eq 41, 3) := by decide +kernel
theorem dL_law_1025 : decode cL_law 1025 = .ok (.iconst 0, 1) := by decide +kernel
theorem dL_law_1026 : decode cL_law 1026 = .ok (.ireturn, 1) := by decide +kernel
theorem dL_law_1027 : decode cL_law 1027 = .ok (.aload_n 1, 1) := by decide +kernel
theorem dL_law_1028 : decode cL_law 1028 = .ok (.invokevirtual 128, 3) := by decide +kernel
theorem dL_law_1031 : decode cL_law 1031 = .ok (.aload_n 2, 1) := by decide +kernel
theorem dL_law_1032 : decode cL_law 1032 = .ok (.invokevirtual 131, 3) := by decide +kernel
theorem dL_law_1035 : decode cL_law 1035 = .ok (.if_icmp .eq 28, 3) := by decide +kernel
theorem dL_law_1038 : decode cL_law 1038 = .ok (.iconst 0, 1) := by decide +kernel
theorem dL_law_1039 : decode cL_law 1039 = .ok (.ireturn, 1) := by decide +kernel
theorem dL_law_1040 : decode cL_law 1040 = .ok (.aload_n 1, 1) := by decide +kernel
theorem dL_law_1041 : decode cL_law 1041 = .ok (.aload_n 0, 1) := by decide +kernel
theorem dL_law_1042 : decode cL_law 1042 = .ok (.iload_n 3, 1) := by decide +kernel
theorem dL_law_1043 : decode cL_law 1043 = .ok (.iconst 1, 1) := by decide +kernel
theorem dL_law_1044 : decode cL_law 1044 = .ok (.iadd, 1) := by decide +kernel
theorem dL_law_1045 : decode cL_law 1045 = .ok (.iaload, 1) := by decide +kernel
theorem dL_law_1046 : decode cL_law 1046 = .ok (.invokevirtual 132, 3) := by decide +kernel
theorem dL_law_1049 : decode cL_law 1049 = .ok (.aload_n 2, 1) := by decide +kernel
theorem dL_law_1050 : decode cL_law 1050 = .ok (.aload_n 0, 1) := by decide +kernel
theorem dL_law_1051 : decode cL_law 1051 = .ok (.iload_n 3, 1) := by decide +kernel
theorem dL_law_1052 : decode cL_law 1052 = .ok (.iconst 1, 1) := by decide +kernel
theorem dL_law_1053 : decode cL_law 1053 = .ok (.iadd, 1) := by decide +kernel
theorem dL_law_1054 : decode cL_law 1054 = .ok (.iaload, 1) := by decide +kernel
theorem dL_law_1055 : decode cL_law 1055 = .ok (.invokevirtual 135, 3) := by decide +kernel
theorem dL_law_1058 : decode cL_law 1058 = .ok (.if_icmp .eq 5, 3) := by decide +kernel
theorem dL_law_1061 : decode cL_law 1061 = .ok (.iconst 0, 1) := by decide +kernel
theorem dL_law_1062 : decode cL_law 1062 = .ok (.ireturn, 1) := by decide +kernel
theorem dL_law_1063 : decode cL_law 1063 = .ok (.iinc 3 6, 3) := by decide +kernel
theorem dL_law_1066 : decode cL_law 1066 = .ok (.goto (-1048), 3) := by decide +kernel
theorem dL_law_1069 : decode cL_law 1069 = .ok (.iconst 1, 1) := by decide +kernel
theorem dL_law_1070 : decode cL_law 1070 = .ok (.ireturn, 1) := by decide +kernel
end
section
theorem ld_in_1 : ∀ w ∈ wsL_law_r1, w ∈ wsL_law := fun _ h => List.mem_append_left _ (List.mem_append_left _ (List.mem_append_left _ (List.mem_append_left _ (List.mem_append_left _ (List.mem_append_left _ h)))))
theorem ld_in_2 : ∀ w ∈ wsL_law_r2, w ∈ wsL_law := fun _ h => List.mem_append_left _ (List.mem_append_left _ (List.mem_append_left _ (List.mem_append_left _ (List.mem_append_left _ (List.mem_append_right _ (List.mem_append_left _ h))))))
theorem ld_in_3 : ∀ w ∈ wsL_law_r3, w ∈ wsL_law := fun _ h => List.mem_append_left _ (List.mem_append_left _ (List.mem_append_left _ (List.mem_append_left _ (List.mem_append_left _ (List.mem_append_right _ (List.mem_append_right _ (List.mem_append_left _ h)))))))
theorem ld_in_4 : ∀ w ∈ wsL_law_r4, w ∈ wsL_law := fun _ h => List.mem_append_left _ (List.mem_append_left _ (List.mem_append_left _ (List.mem_append_left _ (List.mem_append_left _ (List.mem_append_right _ (List.mem_append_right _ (List.mem_append_right _ (List.mem_append_left _ h))))))))
theorem ld_in_5 : ∀ w ∈ wsL_law_r5, w ∈ wsL_law := fun _ h => List.mem_append_left _ (List.mem_append_left _ (List.mem_append_left _ (List.mem_append_left _ (List.mem_append_left _ (List.mem_append_right _ (List.mem_append_right _ (List.mem_append_right _ (List.mem_append_right _ (List.mem_append_left _ h)))))))))
theorem ld_in_6 : ∀ w ∈ wsL_law_r6, w ∈ wsL_law := fun _ h => List.mem_append_left _ (List.mem_append_left _ (List.mem_append_left _ (List.mem_append_left _ (List.mem_append_left _ (List.mem_append_right _ (List.mem_append_right _ (List.mem_append_right _ (List.mem_append_right _ (List.mem_append_right _ (List.mem_append_left _ h))))))))))
theorem ld_in_7 : ∀ w ∈ wsL_law_r7, w ∈ wsL_law := fun _ h => List.mem_append_left _ (List.mem_append_left _ (List.mem_append_left _ (List.mem_append_left _ (List.mem_append_left _ (List.mem_append_right _ (List.mem_append_right _ (List.mem_append_right _ (List.mem_append_right _ (List.mem_append_right _ (List.mem_append_right _ (List.mem_append_left _ h)))))))))))
theorem ld_in_8 : ∀ w ∈ wsL_law_r8, w ∈ wsL_law := fun _ h => List.mem_append_left _ (List.mem_append_left _ (List.mem_append_left _ (List.mem_append_left _ (List.mem_append_left _ (List.mem_append_right _ (List.mem_append_right _ (List.mem_append_right _ (List.mem_append_right _ (List.mem_append_right _ (List.mem_append_right _ (List.mem_append_right _ (List.mem_append_left _ h))))))))))))
theorem ld_in_9 : ∀ w ∈ wsL_law_r9, w ∈ wsL_law := fun _ h => List.mem_append_left _ (List.mem_append_left _ (List.mem_append_left _ (List.mem_append_left _ (List.mem_append_left _ (List.mem_append_right _ (List.mem_append_right _ (List.mem_append_right _ (List.mem_append_right _ (List.mem_append_right _ (List.mem_append_right _ (List.mem_append_right _ (List.mem_append_right _ (List.mem_append_left _ h)))))))))))))
theorem ld_in_10 : ∀ w ∈ wsL_law_r10, w ∈ wsL_law := fun _ h => List.mem_append_left _ (List.mem_append_left _ (List.mem_append_left _ (List.mem_append_left _ (List.mem_append_left _ (List.mem_append_right _ (List.mem_append_right _ (List.mem_append_right _ (List.mem_append_right _ (List.mem_append_right _ (List.mem_append_right _ (List.mem_append_right _ (List.mem_append_right _ (List.mem_append_right _ (List.mem_append_left _ h))))))))))))))
theorem ld_in_11 : ∀ w ∈ wsL_law_r11, w ∈ wsL_law := fun _ h => List.mem_append_left _ (List.mem_append_left _ (List.mem_append_left _ (List.mem_append_left _ (List.mem_append_left _ (List.mem_append_right _ (List.mem_append_right _ (List.mem_append_right _ (List.mem_append_right _ (List.mem_append_right _ (List.mem_append_right _ (List.mem_append_right _ (List.mem_append_right _ (List.mem_append_right _ (List.mem_append_right _ (List.mem_append_left _ h)))))))))))))))
theorem ld_in_12 : ∀ w ∈ wsL_law_r12, w ∈ wsL_law := fun _ h => List.mem_append_left _ (List.mem_append_left _ (List.mem_append_left _ (List.mem_append_left _ (List.mem_append_left _ (List.mem_append_right _ (List.mem_append_right _ (List.mem_append_right _ (List.mem_append_right _ (List.mem_append_right _ (List.mem_append_right _ (List.mem_append_right _ (List.mem_append_right _ (List.mem_append_right _ (List.mem_append_right _ (List.mem_append_right _ (List.mem_append_left _ h))))))))))))))))
theorem ld_in_13 : ∀ w ∈ wsL_law_r13, w ∈ wsL_law := fun _ h => List.mem_append_left _ (List.mem_append_left _ (List.mem_append_left _ (List.mem_append_left _ (List.mem_append_left _ (List.mem_append_right _ (List.mem_append_right _ (List.mem_append_right _ (List.mem_append_right _ (List.mem_append_right _ (List.mem_append_right _ (List.mem_append_right _ (List.mem_append_right _ (List.mem_append_right _ (List.mem_append_right _ (List.mem_append_right _ (List.mem_append_right _ (List.mem_append_left _ h)))))))))))))))))
theorem ld_in_14 : ∀ w ∈ wsL_law_r14, w ∈ wsL_law := fun _ h => List.mem_append_left _ (List.mem_append_left _ (List.mem_append_left _ (List.mem_append_left _ (List.mem_append_left _ (List.mem_append_right _ (List.mem_append_right _ (List.mem_append_right _ (List.mem_append_right _ (List.mem_append_right _ (List.mem_append_right _ (List.mem_append_right _ (List.mem_append_right _ (List.mem_append_right _ (List.mem_append_right _ (List.mem_append_right _ (List.mem_append_right _ (List.mem_append_right _ (List.mem_append_left _ h))))))))))))))))))
theorem ld_in_15 : ∀ w ∈ wsL_law_r15, w ∈ wsL_law := fun _ h => List.mem_append_left _ (List.mem_append_left _ (List.mem_append_left _ (List.mem_append_left _ (List.mem_append_left _ (List.mem_append_right _ (List.mem_append_right _ (List.mem_append_right _ (List.mem_append_right _ (List.mem_append_right _ (List.mem_append_right _ (List.mem_append_right _ (List.mem_append_right _ (List.mem_append_right _ (List.mem_append_right _ (List.mem_append_right _ (List.mem_append_right _ (List.mem_append_right _ (List.mem_append_right _ (List.mem_append_left _ h)))))))))))))))))))
theorem ld_in_16 : ∀ w ∈ wsL_law_r16, w ∈ wsL_law := fun _ h => List.mem_append_left _ (List.mem_append_left _ (List.mem_append_left _ (List.mem_append_left _ (List.mem_append_left _ (List.mem_append_right _ (List.mem_append_right _ (List.mem_append_right _ (List.mem_append_right _ (List.mem_append_right _ (List.mem_append_right _ (List.mem_append_right _ (List.mem_append_right _ (List.mem_append_right _ (List.mem_append_right _ (List.mem_append_right _ (List.mem_append_right _ (List.mem_append_right _ (List.mem_append_right _ (List.mem_append_right _ (List.mem_append_left _ h))))))))))))))))))))
theorem ld_in_17 : ∀ w ∈ wsL_law_r17, w ∈ wsL_law := fun _ h => List.mem_append_left _ (List.mem_append_left _ (List.mem_append_left _ (List.mem_append_left _ (List.mem_append_left _ (List.mem_append_right _ (List.mem_append_right _ (List.mem_append_right _ (List.mem_append_right _ (List.mem_append_right _ (List.mem_append_right _ (List.mem_append_right _ (List.mem_append_right _ (List.mem_append_right _ (List.mem_append_right _ (List.mem_append_right _ (List.mem_append_right _ (List.mem_append_right _ (List.mem_append_right _ (List.mem_append_right _ (List.mem_append_right _ (List.mem_append_left _ h)))))))))))))))))))))
theorem ld_in_18 : ∀ w ∈ wsL_law_r18, w ∈ wsL_law := fun _ h => List.mem_append_left _ (List.mem_append_left _ (List.mem_append_left _ (List.mem_append_left _ (List.mem_append_left _ (List.mem_append_right _ (List.mem_append_right _ (List.mem_append_right _ (List.mem_append_right _ (List.mem_append_right _ (List.mem_append_right _ (List.mem_append_right _ (List.mem_append_right _ (List.mem_append_right _ (List.mem_append_right _ (List.mem_append_right _ (List.mem_append_right _ (List.mem_append_right _ (List.mem_append_right _ (List.mem_append_right _ (List.mem_append_right _ (List.mem_append_right _ (List.mem_append_left _ h))))))))))))))))))))))
theorem ld_in_19 : ∀ w ∈ wsL_law_r19, w ∈ wsL_law := fun _ h => List.mem_append_left _ (List.mem_append_left _ (List.mem_append_left _ (List.mem_append_left _ (List.mem_append_left _ (List.mem_append_right _ (List.mem_append_right _ (List.mem_append_right _ (List.mem_append_right _ (List.mem_append_right _ (List.mem_append_right _ (List.mem_append_right _ (List.mem_append_right _ (List.mem_append_right _ (List.mem_append_right _ (List.mem_append_right _ (List.mem_append_right _ (List.mem_append_right _ (List.mem_append_right _ (List.mem_append_right _ (List.mem_append_right _ (List.mem_append_right _ (List.mem_append_right _ (List.mem_append_left _ h)))))))))))))))))))))))
theorem ld_in_20 : ∀ w ∈ wsL_law_r20, w ∈ wsL_law := fun _ h => List.mem_append_left _ (List.mem_append_left _ (List.mem_append_left _ (List.mem_append_left _ (List.mem_append_left _ (List.mem_append_right _ (List.mem_append_right _ (List.mem_append_right _ (List.mem_append_right _ (List.mem_append_right _ (List.mem_append_right _ (List.mem_append_right _ (List.mem_append_right _ (List.mem_append_right _ (List.mem_append_right _ (List.mem_append_right _ (List.mem_append_right _ (List.mem_append_right _ (List.mem_append_right _ (List.mem_append_right _ (List.mem_append_right _ (List.mem_append_right _ (List.mem_append_right _ (List.mem_append_right _ (List.mem_append_left _ h))))))))))))))))))))))))
theorem ld_in_21 : ∀ w ∈ wsL_law_r21, w ∈ wsL_law := fun _ h => List.mem_append_left _ (List.mem_append_left _ (List.mem_append_left _ (List.mem_append_left _ (List.mem_append_left _ (List.mem_append_right _ (List.mem_append_right _ (List.mem_append_right _ (List.mem_append_right _ (List.mem_append_right _ (List.mem_append_right _ (List.mem_append_right _ (List.mem_append_right _ (List.mem_append_right _ (List.mem_append_right _ (List.mem_append_right _ (List.mem_append_right _ (List.mem_append_right _ (List.mem_append_right _ (List.mem_append_right _ (List.mem_append_right _ (List.mem_append_right _ (List.mem_append_right _ (List.mem_append_right _ (List.mem_append_right _ (List.mem_append_left _ h)))))))))))))))))))))))))
theorem ld_in_22 : ∀ w ∈ wsL_law_r22, w ∈ wsL_law := fun _ h => List.mem_append_left _ (List.mem_append_left _ (List.mem_append_left _ (List.mem_append_left _ (List.mem_append_left _ (List.mem_append_right _ (List.mem_append_right _ (List.mem_append_right _ (List.mem_append_right _ (List.mem_append_right _ (List.mem_append_right _ (List.mem_append_right _ (List.mem_append_right _ (List.mem_append_right _ (List.mem_append_right _ (List.mem_append_right _ (List.mem_append_right _ (List.mem_append_right _ (List.mem_append_right _ (List.mem_append_right _ (List.mem_append_right _ (List.mem_append_right _ (List.mem_append_right _ (List.mem_append_right _ (List.mem_append_right _ (List.mem_append_right _ (List.mem_append_left _ h))))))))))))))))))))))))))
theorem ld_in_23 : ∀ w ∈ wsL_law_r23, w ∈ wsL_law := fun _ h => List.mem_append_left _ (List.mem_append_left _ (List.mem_append_left _ (List.mem_append_left _ (List.mem_append_left _ (List.mem_append_right _ (List.mem_append_right _ (List.mem_append_right _ (List.mem_append_right _ (List.mem_append_right _ (List.mem_append_right _ (List.mem_append_right _ (List.mem_append_right _ (List.mem_append_right _ (List.mem_append_right _ (List.mem_append_right _ (List.mem_append_right _ (List.mem_append_right _ (List.mem_append_right _ (List.mem_append_right _ (List.mem_append_right _ (List.mem_append_right _ (List.mem_append_right _ (List.mem_append_right _ (List.mem_append_right _ (List.mem_append_right _ (List.mem_append_right _ (List.mem_append_left _ h)))))))))))))))))))))))))))
theorem ld_in_24 : ∀ w ∈ wsL_law_r24, w ∈ wsL_law := fun _ h => List.mem_append_left _ (List.mem_append_left _ (List.mem_append_left _ (List.mem_append_left _ (List.mem_append_left _ (List.mem_append_right _ (List.mem_append_right _ (List.mem_append_right _ (List.mem_append_right _ (List.mem_append_right _ (List.mem_append_right _ (List.mem_append_right _ (List.mem_append_right _ (List.mem_append_right _ (List.mem_append_right _ (List.mem_append_right _ (List.mem_append_right _ (List.mem_append_right _ (List.mem_append_right _ (List.mem_append_right _ (List.mem_append_right _ (List.mem_append_right _ (List.mem_append_right _ (List.mem_append_right _ (List.mem_append_right _ (List.mem_append_right _ (List.mem_append_right _ (List.mem_append_right _ (List.mem_append_left _ h))))))))))))))))))))))))))))
theorem ld_in_25 : ∀ w ∈ wsL_law_r25, w ∈ wsL_law := fun _ h => List.mem_append_left _ (List.mem_append_left _ (List.mem_append_left _ (List.mem_append_left _ (List.mem_append_left _ (List.mem_append_right _ (List.mem_append_right _ (List.mem_append_right _ (List.mem_append_right _ (List.mem_append_right _ (List.mem_append_right _ (List.mem_append_right _ (List.mem_append_right _ (List.mem_append_right _ (List.mem_append_right _ (List.mem_append_right _ (List.mem_append_right _ (List.mem_append_right _ (List.mem_append_right _ (List.mem_append_right _ (List.mem_append_right _ (List.mem_append_right _ (List.mem_append_right _ (List.mem_append_right _ (List.mem_append_right _ (List.mem_append_right _ (List.mem_append_right _ (List.mem_append_right _ (List.mem_append_right _ (List.mem_append_left _ h)))))))))))))))))))))))))))))
theorem ld_in_26 : ∀ w ∈ wsL_law_r26, w ∈ wsL_law := fun _ h => List.mem_append_left _ (List.mem_append_left _ (List.mem_append_left _ (List.mem_append_left _ (List.mem_append_left _ (List.mem_append_right _ (List.mem_append_right _ (List.mem_append_right _ (List.mem_append_right _ (List.mem_append_right _ (List.mem_append_right _ (List.mem_append_right _ (List.mem_append_right _ (List.mem_append_right _ (List.mem_append_right _ (List.mem_append_right _ (List.mem_append_right _ (List.mem_append_right _ (List.mem_append_right _ (List.mem_append_right _ (List.mem_append_right _ (List.mem_append_right _ (List.mem_append_right _ (List.mem_append_right _ (List.mem_append_right _ (List.mem_append_right _ (List.mem_append_right _ (List.mem_append_right _ (List.mem_append_right _ (List.mem_append_right _ (List.mem_append_left _ h))))))))))))))))))))))))))))))
theorem ld_in_27 : ∀ w ∈ wsL_law_r27, w ∈ wsL_law := fun _ h => List.mem_append_left _ (List.mem_append_left _ (List.mem_append_left _ (List.mem_append_left _ (List.mem_append_left _ (List.mem_append_right _ (List.mem_append_right _ (List.mem_append_right _ (List.mem_append_right _ (List.mem_append_right _ (List.mem_append_right _ (List.mem_append_right _ (List.mem_append_right _ (List.mem_append_right _ (List.mem_append_right _ (List.mem_append_right _ (List.mem_append_right _ (List.mem_append_right _ (List.mem_append_right _ (List.mem_append_right _ (List.mem_append_right _ (List.mem_append_right _ (List.mem_append_right _ (List.mem_append_right _ (List.mem_append_right _ (List.mem_append_right _ (List.mem_append_right _ (List.mem_append_right _ (List.mem_append_right _ (List.mem_append_right _ (List.mem_append_right _ (h)))))))))))))))))))))))))))))))
theorem ld_w0 : Cond.classLink RL 7 RX2 ∈ wsL_law := ld_in_1 _ (List.mem_of_getElem? (i := 0) rfl)
theorem ld_w1 : Cond.instantiable RX2 8 ∈ wsL_law := ld_in_1 _ (List.mem_of_getElem? (i := 1) rfl)
theorem ld_w2 : Cond.initialized RX2 ∈ wsL_law := ld_in_1 _ (List.mem_of_getElem? (i := 2) rfl)
theorem ld_w3 : Cond.classLink RL 10 RX3 ∈ wsL_law := ld_in_1 _ (List.mem_of_getElem? (i := 3) rfl)
theorem ld_w4 : Cond.instantiable RX3 30 ∈ wsL_law := ld_in_1 _ (List.mem_of_getElem? (i := 4) rfl)
theorem ld_w5 : Cond.initialized RX3 ∈ wsL_law := ld_in_1 _ (List.mem_of_getElem? (i := 5) rfl)
theorem ld_w6 : Cond.methodLink RL 9 yX2_init ∈ wsL_law := ld_in_1 _ (List.mem_of_getElem? (i := 6) rfl)
theorem ld_w7 : Cond.instanceMethod yX2_init ∈ wsL_law := ld_in_1 _ (List.mem_of_getElem? (i := 7) rfl)
theorem ld_w8 : Cond.code yX2_init cX2_init 2 none ∈ wsL_law := ld_in_1 _ (List.mem_of_getElem? (i := 8) rfl)
theorem ld_w9 : Cond.methodLink RX2 5 objectInit ∈ wsL_law := ld_in_1 _ (List.mem_of_getElem? (i := 9) rfl)
theorem ld_w10 : Cond.instanceMethod objectInit ∈ wsL_law := ld_in_1 _ (List.mem_of_getElem? (i := 10) rfl)
theorem ld_w11 : Cond.code objectInit ⟨#[0xb1]⟩ 1 none ∈ wsL_law := ld_in_1 _ (List.mem_of_getElem? (i := 11) rfl)
theorem ld_w12 : Cond.classLink RX2 11 RX1 ∈ wsL_law := ld_in_1 _ (List.mem_of_getElem? (i := 12) rfl)
theorem ld_w13 : Cond.instantiable RX1 11 ∈ wsL_law := ld_in_1 _ (List.mem_of_getElem? (i := 13) rfl)
theorem ld_w14 : Cond.initialized RX1 ∈ wsL_law := ld_in_1 _ (List.mem_of_getElem? (i := 14) rfl)
theorem ld_w15 : Cond.fieldLink RX2 14 "LemonDeals" "now" "LLemonDeals$Street;" ∈ wsL_law := ld_in_1 _ (List.mem_of_getElem? (i := 15) rfl)
theorem ld_w16 : Cond.fieldLink RX2 18 "LemonDeals" "trial" "LLemonDeals$Street;" ∈ wsL_law := ld_in_1 _ (List.mem_of_getElem? (i := 16) rfl)
theorem ld_w17 : Cond.classLink RX2 21 RX0 ∈ wsL_law := ld_in_1 _ (List.mem_of_getElem? (i := 17) rfl)
theorem ld_w18 : Cond.fieldLink RX2 23 "LemonDeals" "sheets" "[LLemonDeals$Sheet;" ∈ wsL_law := ld_in_1 _ (List.mem_of_getElem? (i := 18) rfl)
theorem ld_w19 : Cond.arrayClass .int ∈ wsL_law := ld_in_1 _ (List.mem_of_getElem? (i := 19) rfl)
theorem ld_w20 : Cond.fieldLink RX2 27 "LemonDeals" "readHouse" "[I" ∈ wsL_law := ld_in_1 _ (List.mem_of_getElem? (i := 20) rfl)
theorem ld_w21 : Cond.fieldLink RX2 31 "LemonDeals" "readDealt" "[I" ∈ wsL_law := ld_in_1 _ (List.mem_of_getElem? (i := 21) rfl)
theorem ld_w22 : Cond.fieldLink RX2 34 "LemonDeals" "readings" "I" ∈ wsL_law := ld_in_1 _ (List.mem_of_getElem? (i := 22) rfl)
theorem ld_w23 : Cond.fieldLink RX2 38 "LemonDeals" "traced" "I" ∈ wsL_law := ld_in_1 _ (List.mem_of_getElem? (i := 23) rfl)
theorem ld_w24 : Cond.fieldLink RX2 41 "LemonDeals" "lastFault" "I" ∈ wsL_law := ld_in_2 _ (List.mem_of_getElem? (i := 0) rfl)
theorem ld_w25 : Cond.instantiable RX0 3 ∈ wsL_law := ld_in_2 _ (List.mem_of_getElem? (i := 1) rfl)
theorem ld_w26 : Cond.initialized RX0 ∈ wsL_law := ld_in_2 _ (List.mem_of_getElem? (i := 2) rfl)
theorem ld_w27 : Cond.instanceMethod yX1_init ∈ wsL_law := ld_in_2 _ (List.mem_of_getElem? (i := 3) rfl)
theorem ld_w28 : Cond.code yX1_init cX1_init 1 none ∈ wsL_law := ld_in_2 _ (List.mem_of_getElem? (i := 4) rfl)
theorem ld_w29 : Cond.methodLink RX1 3 objectInit ∈ wsL_law := ld_in_2 _ (List.mem_of_getElem? (i := 5) rfl)
theorem ld_w30 : Cond.fieldLink RX1 9 "LemonDeals$Street" "houses" "I" ∈ wsL_law := ld_in_2 _ (List.mem_of_getElem? (i := 6) rfl)
theorem ld_w31 : Cond.fieldLink RX1 15 "LemonDeals$Street" "crate" "I" ∈ wsL_law := ld_in_2 _ (List.mem_of_getElem? (i := 7) rfl)
theorem ld_w32 : Cond.fieldLink RX1 18 "LemonDeals$Street" "week" "I" ∈ wsL_law := ld_in_2 _ (List.mem_of_getElem? (i := 8) rfl)
theorem ld_w33 : Cond.fieldLink RX1 21 "LemonDeals$Street" "leanWeeks" "I" ∈ wsL_law := ld_in_2 _ (List.mem_of_getElem? (i := 9) rfl)
theorem ld_w34 : Cond.fieldLink RX1 24 "LemonDeals$Street" "kind" "[I" ∈ wsL_law := ld_in_2 _ (List.mem_of_getElem? (i := 10) rfl)
theorem ld_w35 : Cond.fieldLink RX1 28 "LemonDeals$Street" "temper" "[I" ∈ wsL_law := ld_in_2 _ (List.mem_of_getElem? (i := 11) rfl)
theorem ld_w36 : Cond.fieldLink RX1 31 "LemonDeals$Street" "stock" "[I" ∈ wsL_law := ld_in_2 _ (List.mem_of_getElem? (i := 12) rfl)
theorem ld_w37 : Cond.fieldLink RX1 34 "LemonDeals$Street" "pips" "[I" ∈ wsL_law := ld_in_2 _ (List.mem_of_getElem? (i := 13) rfl)
theorem ld_w38 : Cond.fieldLink RX1 37 "LemonDeals$Street" "sour" "[I" ∈ wsL_law := ld_in_2 _ (List.mem_of_getElem? (i := 14) rfl)
theorem ld_w39 : Cond.fieldLink RX1 40 "LemonDeals$Street" "dealt" "[I" ∈ wsL_law := ld_in_2 _ (List.mem_of_getElem? (i := 15) rfl)
theorem ld_w40 : Cond.fieldLink RX1 43 "LemonDeals$Street" "remainder" "[I" ∈ wsL_law := ld_in_2 _ (List.mem_of_getElem? (i := 16) rfl)
theorem ld_w41 : Cond.instanceMethod yX0_init ∈ wsL_law := ld_in_2 _ (List.mem_of_getElem? (i := 17) rfl)
theorem ld_w42 : Cond.code yX0_init cX0_init 1 none ∈ wsL_law := ld_in_2 _ (List.mem_of_getElem? (i := 18) rfl)
theorem ld_w43 : Cond.methodLink RX0 3 objectInit ∈ wsL_law := ld_in_2 _ (List.mem_of_getElem? (i := 19) rfl)
theorem ld_w44 : Cond.fieldLink RX0 9 "LemonDeals$Sheet" "cells" "[I" ∈ wsL_law := ld_in_2 _ (List.mem_of_getElem? (i := 20) rfl)
theorem ld_w45 : Cond.fieldLink RX0 15 "LemonDeals$Sheet" "lane" "I" ∈ wsL_law := ld_in_2 _ (List.mem_of_getElem? (i := 21) rfl)
theorem ld_w46 : Cond.fieldLink RX0 19 "LemonDeals$Sheet" "length" "I" ∈ wsL_law := ld_in_2 _ (List.mem_of_getElem? (i := 22) rfl)
theorem ld_w47 : Cond.methodLink RL 12 yX3_init ∈ wsL_law := ld_in_2 _ (List.mem_of_getElem? (i := 23) rfl)
theorem ld_w48 : Cond.instanceMethod yX3_init ∈ wsL_law := ld_in_3 _ (List.mem_of_getElem? (i := 0) rfl)
theorem ld_w49 : Cond.code yX3_init cX3_init 2 none ∈ wsL_law := ld_in_3 _ (List.mem_of_getElem? (i := 1) rfl)
theorem ld_w50 : Cond.methodLink RX3 1 objectInit ∈ wsL_law := ld_in_3 _ (List.mem_of_getElem? (i := 2) rfl)
theorem ld_w51 : Cond.fieldLink RX3 7 "LemonDealsModel" "kindOf" "[I" ∈ wsL_law := ld_in_3 _ (List.mem_of_getElem? (i := 3) rfl)
theorem ld_w52 : Cond.fieldLink RX3 13 "LemonDealsModel" "temperOf" "[I" ∈ wsL_law := ld_in_3 _ (List.mem_of_getElem? (i := 4) rfl)
theorem ld_w53 : Cond.fieldLink RX3 16 "LemonDealsModel" "stockOf" "[I" ∈ wsL_law := ld_in_3 _ (List.mem_of_getElem? (i := 5) rfl)
theorem ld_w54 : Cond.fieldLink RX3 19 "LemonDealsModel" "pipsOf" "[I" ∈ wsL_law := ld_in_3 _ (List.mem_of_getElem? (i := 6) rfl)
theorem ld_w55 : Cond.fieldLink RX3 22 "LemonDealsModel" "readKind" "[I" ∈ wsL_law := ld_in_3 _ (List.mem_of_getElem? (i := 7) rfl)
theorem ld_w56 : Cond.fieldLink RX3 25 "LemonDealsModel" "readTemper" "[I" ∈ wsL_law := ld_in_3 _ (List.mem_of_getElem? (i := 8) rfl)
theorem ld_w57 : Cond.fieldLink RX3 28 "LemonDealsModel" "readStock" "[I" ∈ wsL_law := ld_in_3 _ (List.mem_of_getElem? (i := 9) rfl)
theorem ld_w58 : Cond.fieldLink RX3 31 "LemonDealsModel" "dealtNow" "[I" ∈ wsL_law := ld_in_3 _ (List.mem_of_getElem? (i := 10) rfl)
theorem ld_w59 : Cond.fieldLink RX3 34 "LemonDealsModel" "temperKept" "[I" ∈ wsL_law := ld_in_3 _ (List.mem_of_getElem? (i := 11) rfl)
theorem ld_w60 : Cond.fieldLink RX3 37 "LemonDealsModel" "stockKept" "[I" ∈ wsL_law := ld_in_3 _ (List.mem_of_getElem? (i := 12) rfl)
theorem ld_w61 : Cond.fieldLink RX3 40 "LemonDealsModel" "pipsKept" "[I" ∈ wsL_law := ld_in_3 _ (List.mem_of_getElem? (i := 13) rfl)
theorem ld_w62 : Cond.fieldLink RX3 43 "LemonDealsModel" "gotSoFar" "[I" ∈ wsL_law := ld_in_3 _ (List.mem_of_getElem? (i := 14) rfl)
theorem ld_w63 : Cond.fieldLink RX3 46 "LemonDealsModel" "readingOf" "[I" ∈ wsL_law := ld_in_3 _ (List.mem_of_getElem? (i := 15) rfl)
theorem ld_w64 : Cond.fieldLink RX3 49 "LemonDealsModel" "readingWas" "[I" ∈ wsL_law := ld_in_3 _ (List.mem_of_getElem? (i := 16) rfl)
theorem ld_w65 : Cond.fieldLink RX3 52 "LemonDealsModel" "sheetSize" "[I" ∈ wsL_law := ld_in_3 _ (List.mem_of_getElem? (i := 17) rfl)
theorem ld_w66 : Cond.fieldLink RX3 55 "LemonDealsModel" "sheetLane" "[I" ∈ wsL_law := ld_in_3 _ (List.mem_of_getElem? (i := 18) rfl)
theorem ld_w67 : Cond.fieldLink RX3 58 "LemonDealsModel" "sheet" "[I" ∈ wsL_law := ld_in_3 _ (List.mem_of_getElem? (i := 19) rfl)
theorem ld_w68 : Cond.fieldLink RX3 61 "LemonDealsModel" "hands" "[I" ∈ wsL_law := ld_in_3 _ (List.mem_of_getElem? (i := 20) rfl)
theorem ld_w69 : Cond.methodLink RL 13 yX2_street ∈ wsL_law := ld_in_3 _ (List.mem_of_getElem? (i := 21) rfl)
theorem ld_w70 : Cond.instanceMethod yX2_street ∈ wsL_law := ld_in_3 _ (List.mem_of_getElem? (i := 22) rfl)
theorem ld_w71 : Cond.selects RX2 yX2_street yX2_street ∈ wsL_law := ld_in_3 _ (List.mem_of_getElem? (i := 23) rfl)
theorem ld_w72 : Cond.code yX2_street cX2_street 8 (some .int) ∈ wsL_law := ld_in_4 _ (List.mem_of_getElem? (i := 0) rfl)
theorem ld_w73 : Cond.methodLink RX2 45 yX2_isSheet ∈ wsL_law := ld_in_4 _ (List.mem_of_getElem? (i := 1) rfl)
theorem ld_w74 : Cond.static yX2_isSheet ∈ wsL_law := ld_in_4 _ (List.mem_of_getElem? (i := 2) rfl)
theorem ld_w75 : Cond.code yX2_isSheet cX2_isSheet 1 (some .boolean) ∈ wsL_law := ld_in_4 _ (List.mem_of_getElem? (i := 3) rfl)
theorem ld_w76 : Cond.methodLink RX2 49 yX2_isLane ∈ wsL_law := ld_in_4 _ (List.mem_of_getElem? (i := 4) rfl)
theorem ld_w77 : Cond.static yX2_isLane ∈ wsL_law := ld_in_4 _ (List.mem_of_getElem? (i := 5) rfl)
theorem ld_w78 : Cond.code yX2_isLane cX2_isLane 1 (some .boolean) ∈ wsL_law := ld_in_4 _ (List.mem_of_getElem? (i := 6) rfl)
theorem ld_w79 : Cond.instanceMethod yX0_faultAs ∈ wsL_law := ld_in_4 _ (List.mem_of_getElem? (i := 7) rfl)
theorem ld_w80 : Cond.selects RX0 yX0_faultAs yX0_faultAs ∈ wsL_law := ld_in_4 _ (List.mem_of_getElem? (i := 8) rfl)
theorem ld_w81 : Cond.code yX0_faultAs cX0_faultAs 2 (some .int) ∈ wsL_law := ld_in_4 _ (List.mem_of_getElem? (i := 9) rfl)
theorem ld_w82 : Cond.methodLink RX0 22 yX0_isThere ∈ wsL_law := ld_in_4 _ (List.mem_of_getElem? (i := 10) rfl)
theorem ld_w83 : Cond.instanceMethod yX0_isThere ∈ wsL_law := ld_in_4 _ (List.mem_of_getElem? (i := 11) rfl)
theorem ld_w84 : Cond.selects RX0 yX0_isThere yX0_isThere ∈ wsL_law := ld_in_4 _ (List.mem_of_getElem? (i := 12) rfl)
theorem ld_w85 : Cond.code yX0_isThere cX0_isThere 1 (some .boolean) ∈ wsL_law := ld_in_4 _ (List.mem_of_getElem? (i := 13) rfl)
theorem ld_w86 : Cond.instanceMethod yX0_lacks ∈ wsL_law := ld_in_4 _ (List.mem_of_getElem? (i := 14) rfl)
theorem ld_w87 : Cond.selects RX0 yX0_lacks yX0_lacks ∈ wsL_law := ld_in_4 _ (List.mem_of_getElem? (i := 15) rfl)
theorem ld_w88 : Cond.code yX0_lacks cX0_lacks 3 (some .boolean) ∈ wsL_law := ld_in_4 _ (List.mem_of_getElem? (i := 16) rfl)
theorem ld_w89 : Cond.methodLink RX2 60 yX2_fails ∈ wsL_law := ld_in_4 _ (List.mem_of_getElem? (i := 17) rfl)
theorem ld_w90 : Cond.instanceMethod yX2_fails ∈ wsL_law := ld_in_4 _ (List.mem_of_getElem? (i := 18) rfl)
theorem ld_w91 : Cond.selects RX2 yX2_fails yX2_fails ∈ wsL_law := ld_in_4 _ (List.mem_of_getElem? (i := 19) rfl)
theorem ld_w92 : Cond.code yX2_fails cX2_fails 2 (some .int) ∈ wsL_law := ld_in_4 _ (List.mem_of_getElem? (i := 20) rfl)
theorem ld_w93 : Cond.methodLink RX2 66 yX2_firstTextFault ∈ wsL_law := ld_in_4 _ (List.mem_of_getElem? (i := 21) rfl)
theorem ld_w94 : Cond.static yX2_firstTextFault ∈ wsL_law := ld_in_4 _ (List.mem_of_getElem? (i := 22) rfl)
theorem ld_w95 : Cond.code yX2_firstTextFault cX2_firstTextFault 4 (some .int) ∈ wsL_law := ld_in_4 _ (List.mem_of_getElem? (i := 23) rfl)
theorem ld_w96 : Cond.methodLink RX2 202 yX2_goesOn ∈ wsL_law := ld_in_5 _ (List.mem_of_getElem? (i := 0) rfl)
theorem ld_w97 : Cond.static yX2_goesOn ∈ wsL_law := ld_in_5 _ (List.mem_of_getElem? (i := 1) rfl)
theorem ld_w98 : Cond.code yX2_goesOn cX2_goesOn 2 (some .boolean) ∈ wsL_law := ld_in_5 _ (List.mem_of_getElem? (i := 2) rfl)
theorem ld_w99 : Cond.methodLink RX2 205 yX2_isDigit ∈ wsL_law := ld_in_5 _ (List.mem_of_getElem? (i := 3) rfl)
theorem ld_w100 : Cond.static yX2_isDigit ∈ wsL_law := ld_in_5 _ (List.mem_of_getElem? (i := 4) rfl)
theorem ld_w101 : Cond.code yX2_isDigit cX2_isDigit 1 (some .boolean) ∈ wsL_law := ld_in_5 _ (List.mem_of_getElem? (i := 5) rfl)
theorem ld_w102 : Cond.methodLink RX2 208 yX2_kindByLetter ∈ wsL_law := ld_in_5 _ (List.mem_of_getElem? (i := 6) rfl)
theorem ld_w103 : Cond.static yX2_kindByLetter ∈ wsL_law := ld_in_5 _ (List.mem_of_getElem? (i := 7) rfl)
theorem ld_w104 : Cond.code yX2_kindByLetter cX2_kindByLetter 1 (some .int) ∈ wsL_law := ld_in_5 _ (List.mem_of_getElem? (i := 8) rfl)
theorem ld_w105 : Cond.instanceMethod yX1_beginByText ∈ wsL_law := ld_in_5 _ (List.mem_of_getElem? (i := 9) rfl)
theorem ld_w106 : Cond.selects RX1 yX1_beginByText yX1_beginByText ∈ wsL_law := ld_in_5 _ (List.mem_of_getElem? (i := 10) rfl)
theorem ld_w107 : Cond.code yX1_beginByText cX1_beginByText 6 none ∈ wsL_law := ld_in_5 _ (List.mem_of_getElem? (i := 11) rfl)
theorem ld_w108 : Cond.methodLink RX1 46 Lib.Math.min.name ∈ wsL_law := ld_in_5 _ (List.mem_of_getElem? (i := 12) rfl)
theorem ld_w109 : Cond.static Lib.Math.min.name ∈ wsL_law := ld_in_5 _ (List.mem_of_getElem? (i := 13) rfl)
theorem ld_w110 : Cond.initialized "java/lang/Math" ∈ wsL_law := ld_in_5 _ (List.mem_of_getElem? (i := 14) rfl)
theorem ld_w111 : Cond.code Lib.Math.min.name Lib.Math.min.code 2 (some .int) ∈ wsL_law := ld_in_5 _ (List.mem_of_getElem? (i := 15) rfl)
theorem ld_w112 : Cond.methodLink RL 17 yX3_street ∈ wsL_law := ld_in_5 _ (List.mem_of_getElem? (i := 16) rfl)
theorem ld_w113 : Cond.instanceMethod yX3_street ∈ wsL_law := ld_in_5 _ (List.mem_of_getElem? (i := 17) rfl)
theorem ld_w114 : Cond.selects RX3 yX3_street yX3_street ∈ wsL_law := ld_in_5 _ (List.mem_of_getElem? (i := 18) rfl)
theorem ld_w115 : Cond.code yX3_street cX3_street 7 (some .int) ∈ wsL_law := ld_in_5 _ (List.mem_of_getElem? (i := 19) rfl)
theorem ld_w116 : Cond.constantLong RX3 121 (2) ∈ wsL_law := ld_in_5 _ (List.mem_of_getElem? (i := 20) rfl)
theorem ld_w117 : Cond.fieldLink RX3 83 "LemonDealsModel" "readAt" "I" ∈ wsL_law := ld_in_5 _ (List.mem_of_getElem? (i := 21) rfl)
theorem ld_w118 : Cond.fieldLink RX3 92 "LemonDealsModel" "readHouses" "I" ∈ wsL_law := ld_in_5 _ (List.mem_of_getElem? (i := 22) rfl)
theorem ld_w119 : Cond.fieldLink RX3 74 "LemonDealsModel" "houses" "I" ∈ wsL_law := ld_in_5 _ (List.mem_of_getElem? (i := 23) rfl)
theorem ld_w120 : Cond.fieldLink RX3 99 "LemonDealsModel" "readCrate" "I" ∈ wsL_law := ld_in_6 _ (List.mem_of_getElem? (i := 0) rfl)
theorem ld_w121 : Cond.fieldLink RX3 130 "LemonDealsModel" "crateNow" "I" ∈ wsL_law := ld_in_6 _ (List.mem_of_getElem? (i := 1) rfl)
theorem ld_w122 : Cond.fieldLink RX3 133 "LemonDealsModel" "weekNow" "I" ∈ wsL_law := ld_in_6 _ (List.mem_of_getElem? (i := 2) rfl)
theorem ld_w123 : Cond.fieldLink RX3 136 "LemonDealsModel" "readings" "I" ∈ wsL_law := ld_in_6 _ (List.mem_of_getElem? (i := 3) rfl)
theorem ld_w124 : Cond.methodLink RX3 114 yX3_noSheet ∈ wsL_law := ld_in_6 _ (List.mem_of_getElem? (i := 4) rfl)
theorem ld_w125 : Cond.static yX3_noSheet ∈ wsL_law := ld_in_6 _ (List.mem_of_getElem? (i := 5) rfl)
theorem ld_w126 : Cond.code yX3_noSheet cX3_noSheet 1 (some .boolean) ∈ wsL_law := ld_in_6 _ (List.mem_of_getElem? (i := 6) rfl)
theorem ld_w127 : Cond.constantLong RX3 225 (3) ∈ wsL_law := ld_in_6 _ (List.mem_of_getElem? (i := 7) rfl)
theorem ld_w128 : Cond.methodLink RX3 77 yX3_in ∈ wsL_law := ld_in_6 _ (List.mem_of_getElem? (i := 8) rfl)
theorem ld_w129 : Cond.static yX3_in ∈ wsL_law := ld_in_6 _ (List.mem_of_getElem? (i := 9) rfl)
theorem ld_w130 : Cond.code yX3_in cX3_in 6 (some .boolean) ∈ wsL_law := ld_in_6 _ (List.mem_of_getElem? (i := 10) rfl)
theorem ld_w131 : Cond.methodLink RX3 118 yX3_refused ∈ wsL_law := ld_in_6 _ (List.mem_of_getElem? (i := 11) rfl)
theorem ld_w132 : Cond.instanceMethod yX3_refused ∈ wsL_law := ld_in_6 _ (List.mem_of_getElem? (i := 12) rfl)
theorem ld_w133 : Cond.selects RX3 yX3_refused yX3_refused ∈ wsL_law := ld_in_6 _ (List.mem_of_getElem? (i := 13) rfl)
theorem ld_w134 : Cond.code yX3_refused cX3_refused 2 (some .int) ∈ wsL_law := ld_in_6 _ (List.mem_of_getElem? (i := 14) rfl)
theorem ld_w135 : Cond.fieldLink RX3 66 "LemonDealsModel" "fault" "I" ∈ wsL_law := ld_in_6 _ (List.mem_of_getElem? (i := 15) rfl)
theorem ld_w136 : Cond.methodLink RX3 123 yX3_cellsBarred ∈ wsL_law := ld_in_6 _ (List.mem_of_getElem? (i := 16) rfl)
theorem ld_w137 : Cond.instanceMethod yX3_cellsBarred ∈ wsL_law := ld_in_6 _ (List.mem_of_getElem? (i := 17) rfl)
theorem ld_w138 : Cond.selects RX3 yX3_cellsBarred yX3_cellsBarred ∈ wsL_law := ld_in_6 _ (List.mem_of_getElem? (i := 18) rfl)
theorem ld_w139 : Cond.code yX3_cellsBarred cX3_cellsBarred 6 (some .int) ∈ wsL_law := ld_in_6 _ (List.mem_of_getElem? (i := 19) rfl)
theorem ld_w140 : Cond.methodLink RX3 106 yX3_failed ∈ wsL_law := ld_in_6 _ (List.mem_of_getElem? (i := 20) rfl)
theorem ld_w141 : Cond.instanceMethod yX3_failed ∈ wsL_law := ld_in_6 _ (List.mem_of_getElem? (i := 21) rfl)
theorem ld_w142 : Cond.selects RX3 yX3_failed yX3_failed ∈ wsL_law := ld_in_6 _ (List.mem_of_getElem? (i := 22) rfl)
theorem ld_w143 : Cond.code yX3_failed cX3_failed 2 (some .int) ∈ wsL_law := ld_in_6 _ (List.mem_of_getElem? (i := 23) rfl)
theorem ld_w144 : Cond.methodLink RX3 110 yX3_isBeyond ∈ wsL_law := ld_in_7 _ (List.mem_of_getElem? (i := 0) rfl)
theorem ld_w145 : Cond.static yX3_isBeyond ∈ wsL_law := ld_in_7 _ (List.mem_of_getElem? (i := 1) rfl)
theorem ld_w146 : Cond.code yX3_isBeyond cX3_isBeyond 4 (some .boolean) ∈ wsL_law := ld_in_7 _ (List.mem_of_getElem? (i := 2) rfl)
theorem ld_w147 : Cond.methodLink RX3 127 yX3_readsStreet ∈ wsL_law := ld_in_7 _ (List.mem_of_getElem? (i := 3) rfl)
theorem ld_w148 : Cond.instanceMethod yX3_readsStreet ∈ wsL_law := ld_in_7 _ (List.mem_of_getElem? (i := 4) rfl)
theorem ld_w149 : Cond.selects RX3 yX3_readsStreet yX3_readsStreet ∈ wsL_law := ld_in_7 _ (List.mem_of_getElem? (i := 5) rfl)
theorem ld_w150 : Cond.code yX3_readsStreet cX3_readsStreet 6 (some .boolean) ∈ wsL_law := ld_in_7 _ (List.mem_of_getElem? (i := 6) rfl)
theorem ld_w151 : Cond.methodLink RX3 86 yX3_codeAt ∈ wsL_law := ld_in_7 _ (List.mem_of_getElem? (i := 7) rfl)
theorem ld_w152 : Cond.instanceMethod yX3_codeAt ∈ wsL_law := ld_in_7 _ (List.mem_of_getElem? (i := 8) rfl)
theorem ld_w153 : Cond.selects RX3 yX3_codeAt yX3_codeAt ∈ wsL_law := ld_in_7 _ (List.mem_of_getElem? (i := 9) rfl)
theorem ld_w154 : Cond.code yX3_codeAt cX3_codeAt 3 (some .int) ∈ wsL_law := ld_in_7 _ (List.mem_of_getElem? (i := 10) rfl)
theorem ld_w155 : Cond.methodLink RX3 95 yX3_figure ∈ wsL_law := ld_in_7 _ (List.mem_of_getElem? (i := 11) rfl)
theorem ld_w156 : Cond.instanceMethod yX3_figure ∈ wsL_law := ld_in_7 _ (List.mem_of_getElem? (i := 12) rfl)
theorem ld_w157 : Cond.selects RX3 yX3_figure yX3_figure ∈ wsL_law := ld_in_7 _ (List.mem_of_getElem? (i := 13) rfl)
theorem ld_w158 : Cond.code yX3_figure cX3_figure 6 (some .int) ∈ wsL_law := ld_in_7 _ (List.mem_of_getElem? (i := 14) rfl)
theorem ld_w159 : Cond.constantLong RX3 90 (9) ∈ wsL_law := ld_in_7 _ (List.mem_of_getElem? (i := 15) rfl)
theorem ld_w160 : Cond.methodLink RX3 102 yX3_readsHouse ∈ wsL_law := ld_in_7 _ (List.mem_of_getElem? (i := 16) rfl)
theorem ld_w161 : Cond.instanceMethod yX3_readsHouse ∈ wsL_law := ld_in_7 _ (List.mem_of_getElem? (i := 17) rfl)
theorem ld_w162 : Cond.selects RX3 yX3_readsHouse yX3_readsHouse ∈ wsL_law := ld_in_7 _ (List.mem_of_getElem? (i := 18) rfl)
theorem ld_w163 : Cond.code yX3_readsHouse cX3_readsHouse 6 (some .boolean) ∈ wsL_law := ld_in_7 _ (List.mem_of_getElem? (i := 19) rfl)
theorem ld_w164 : Cond.methodLink RL 18 yX2_ofHouse ∈ wsL_law := ld_in_7 _ (List.mem_of_getElem? (i := 20) rfl)
theorem ld_w165 : Cond.instanceMethod yX2_ofHouse ∈ wsL_law := ld_in_7 _ (List.mem_of_getElem? (i := 21) rfl)
theorem ld_w166 : Cond.selects RX2 yX2_ofHouse yX2_ofHouse ∈ wsL_law := ld_in_7 _ (List.mem_of_getElem? (i := 22) rfl)
theorem ld_w167 : Cond.code yX2_ofHouse cX2_ofHouse 3 (some .int) ∈ wsL_law := ld_in_7 _ (List.mem_of_getElem? (i := 23) rfl)
theorem ld_w168 : Cond.methodLink RX2 77 yX2_isHouse ∈ wsL_law := ld_in_8 _ (List.mem_of_getElem? (i := 0) rfl)
theorem ld_w169 : Cond.instanceMethod yX2_isHouse ∈ wsL_law := ld_in_8 _ (List.mem_of_getElem? (i := 1) rfl)
theorem ld_w170 : Cond.selects RX2 yX2_isHouse yX2_isHouse ∈ wsL_law := ld_in_8 _ (List.mem_of_getElem? (i := 2) rfl)
theorem ld_w171 : Cond.code yX2_isHouse cX2_isHouse 2 (some .boolean) ∈ wsL_law := ld_in_8 _ (List.mem_of_getElem? (i := 3) rfl)
theorem ld_w172 : Cond.instanceMethod yX1_treesOf ∈ wsL_law := ld_in_8 _ (List.mem_of_getElem? (i := 4) rfl)
theorem ld_w173 : Cond.selects RX1 yX1_treesOf yX1_treesOf ∈ wsL_law := ld_in_8 _ (List.mem_of_getElem? (i := 5) rfl)
theorem ld_w174 : Cond.code yX1_treesOf cX1_treesOf 2 (some .int) ∈ wsL_law := ld_in_8 _ (List.mem_of_getElem? (i := 6) rfl)
theorem ld_w175 : Cond.instanceMethod yX1_sourOf ∈ wsL_law := ld_in_8 _ (List.mem_of_getElem? (i := 7) rfl)
theorem ld_w176 : Cond.selects RX1 yX1_sourOf yX1_sourOf ∈ wsL_law := ld_in_8 _ (List.mem_of_getElem? (i := 8) rfl)
theorem ld_w177 : Cond.code yX1_sourOf cX1_sourOf 2 (some .int) ∈ wsL_law := ld_in_8 _ (List.mem_of_getElem? (i := 9) rfl)
theorem ld_w178 : Cond.instanceMethod yX1_dealtTo ∈ wsL_law := ld_in_8 _ (List.mem_of_getElem? (i := 10) rfl)
theorem ld_w179 : Cond.selects RX1 yX1_dealtTo yX1_dealtTo ∈ wsL_law := ld_in_8 _ (List.mem_of_getElem? (i := 11) rfl)
theorem ld_w180 : Cond.code yX1_dealtTo cX1_dealtTo 3 (some .int) ∈ wsL_law := ld_in_8 _ (List.mem_of_getElem? (i := 12) rfl)
theorem ld_w181 : Cond.methodLink RX1 56 yX1_dealOut ∈ wsL_law := ld_in_8 _ (List.mem_of_getElem? (i := 13) rfl)
theorem ld_w182 : Cond.instanceMethod yX1_dealOut ∈ wsL_law := ld_in_8 _ (List.mem_of_getElem? (i := 14) rfl)
theorem ld_w183 : Cond.selects RX1 yX1_dealOut yX1_dealOut ∈ wsL_law := ld_in_8 _ (List.mem_of_getElem? (i := 15) rfl)
theorem ld_w184 : Cond.code yX1_dealOut cX1_dealOut 5 none ∈ wsL_law := ld_in_8 _ (List.mem_of_getElem? (i := 16) rfl)
theorem ld_w185 : Cond.methodLink RX1 60 yX1_sourOf ∈ wsL_law := ld_in_8 _ (List.mem_of_getElem? (i := 17) rfl)
theorem ld_w186 : Cond.methodLink RX1 63 yX1_aheadByRemainder ∈ wsL_law := ld_in_8 _ (List.mem_of_getElem? (i := 18) rfl)
theorem ld_w187 : Cond.instanceMethod yX1_aheadByRemainder ∈ wsL_law := ld_in_8 _ (List.mem_of_getElem? (i := 19) rfl)
theorem ld_w188 : Cond.selects RX1 yX1_aheadByRemainder yX1_aheadByRemainder ∈ wsL_law := ld_in_8 _ (List.mem_of_getElem? (i := 20) rfl)
theorem ld_w189 : Cond.code yX1_aheadByRemainder cX1_aheadByRemainder 4 (some .int) ∈ wsL_law := ld_in_8 _ (List.mem_of_getElem? (i := 21) rfl)
theorem ld_w190 : Cond.methodLink RL 22 yX3_ofHouse ∈ wsL_law := ld_in_8 _ (List.mem_of_getElem? (i := 22) rfl)
theorem ld_w191 : Cond.instanceMethod yX3_ofHouse ∈ wsL_law := ld_in_8 _ (List.mem_of_getElem? (i := 23) rfl)
theorem ld_w192 : Cond.selects RX3 yX3_ofHouse yX3_ofHouse ∈ wsL_law := ld_in_9 _ (List.mem_of_getElem? (i := 0) rfl)
theorem ld_w193 : Cond.code yX3_ofHouse cX3_ofHouse 3 (some .int) ∈ wsL_law := ld_in_9 _ (List.mem_of_getElem? (i := 1) rfl)
theorem ld_w194 : Cond.methodLink RX3 149 yX3_noHouse ∈ wsL_law := ld_in_9 _ (List.mem_of_getElem? (i := 2) rfl)
theorem ld_w195 : Cond.instanceMethod yX3_noHouse ∈ wsL_law := ld_in_9 _ (List.mem_of_getElem? (i := 3) rfl)
theorem ld_w196 : Cond.selects RX3 yX3_noHouse yX3_noHouse ∈ wsL_law := ld_in_9 _ (List.mem_of_getElem? (i := 4) rfl)
theorem ld_w197 : Cond.code yX3_noHouse cX3_noHouse 2 (some .boolean) ∈ wsL_law := ld_in_9 _ (List.mem_of_getElem? (i := 5) rfl)
theorem ld_w198 : Cond.methodLink RX3 139 yX3_sourOf ∈ wsL_law := ld_in_9 _ (List.mem_of_getElem? (i := 6) rfl)
theorem ld_w199 : Cond.instanceMethod yX3_sourOf ∈ wsL_law := ld_in_9 _ (List.mem_of_getElem? (i := 7) rfl)
theorem ld_w200 : Cond.selects RX3 yX3_sourOf yX3_sourOf ∈ wsL_law := ld_in_9 _ (List.mem_of_getElem? (i := 8) rfl)
theorem ld_w201 : Cond.code yX3_sourOf cX3_sourOf 3 (some .int) ∈ wsL_law := ld_in_9 _ (List.mem_of_getElem? (i := 9) rfl)
theorem ld_w202 : Cond.methodLink RX3 152 yX3_dealtTo ∈ wsL_law := ld_in_9 _ (List.mem_of_getElem? (i := 10) rfl)
theorem ld_w203 : Cond.instanceMethod yX3_dealtTo ∈ wsL_law := ld_in_9 _ (List.mem_of_getElem? (i := 11) rfl)
theorem ld_w204 : Cond.selects RX3 yX3_dealtTo yX3_dealtTo ∈ wsL_law := ld_in_9 _ (List.mem_of_getElem? (i := 12) rfl)
theorem ld_w205 : Cond.code yX3_dealtTo cX3_dealtTo 6 (some .int) ∈ wsL_law := ld_in_9 _ (List.mem_of_getElem? (i := 13) rfl)
theorem ld_w206 : Cond.methodLink RX3 142 yX3_sourOfAll ∈ wsL_law := ld_in_9 _ (List.mem_of_getElem? (i := 14) rfl)
theorem ld_w207 : Cond.instanceMethod yX3_sourOfAll ∈ wsL_law := ld_in_9 _ (List.mem_of_getElem? (i := 15) rfl)
theorem ld_w208 : Cond.selects RX3 yX3_sourOfAll yX3_sourOfAll ∈ wsL_law := ld_in_9 _ (List.mem_of_getElem? (i := 16) rfl)
theorem ld_w209 : Cond.code yX3_sourOfAll cX3_sourOfAll 3 (some .int) ∈ wsL_law := ld_in_9 _ (List.mem_of_getElem? (i := 17) rfl)
theorem ld_w210 : Cond.methodLink RX3 146 yX3_aheadOf ∈ wsL_law := ld_in_9 _ (List.mem_of_getElem? (i := 18) rfl)
theorem ld_w211 : Cond.instanceMethod yX3_aheadOf ∈ wsL_law := ld_in_9 _ (List.mem_of_getElem? (i := 19) rfl)
theorem ld_w212 : Cond.selects RX3 yX3_aheadOf yX3_aheadOf ∈ wsL_law := ld_in_9 _ (List.mem_of_getElem? (i := 20) rfl)
theorem ld_w213 : Cond.code yX3_aheadOf cX3_aheadOf 8 (some .int) ∈ wsL_law := ld_in_9 _ (List.mem_of_getElem? (i := 21) rfl)
theorem ld_w214 : Cond.methodLink RL 23 yX2_anger ∈ wsL_law := ld_in_9 _ (List.mem_of_getElem? (i := 22) rfl)
theorem ld_w215 : Cond.instanceMethod yX2_anger ∈ wsL_law := ld_in_9 _ (List.mem_of_getElem? (i := 23) rfl)
theorem ld_w216 : Cond.selects RX2 yX2_anger yX2_anger ∈ wsL_law := ld_in_10 _ (List.mem_of_getElem? (i := 0) rfl)
theorem ld_w217 : Cond.code yX2_anger cX2_anger 4 (some .int) ∈ wsL_law := ld_in_10 _ (List.mem_of_getElem? (i := 1) rfl)
theorem ld_w218 : Cond.methodLink RX2 105 yX2_isTemper ∈ wsL_law := ld_in_10 _ (List.mem_of_getElem? (i := 2) rfl)
theorem ld_w219 : Cond.static yX2_isTemper ∈ wsL_law := ld_in_10 _ (List.mem_of_getElem? (i := 3) rfl)
theorem ld_w220 : Cond.code yX2_isTemper cX2_isTemper 1 (some .boolean) ∈ wsL_law := ld_in_10 _ (List.mem_of_getElem? (i := 4) rfl)
theorem ld_w221 : Cond.methodLink RL 26 yX3_anger ∈ wsL_law := ld_in_10 _ (List.mem_of_getElem? (i := 5) rfl)
theorem ld_w222 : Cond.instanceMethod yX3_anger ∈ wsL_law := ld_in_10 _ (List.mem_of_getElem? (i := 6) rfl)
theorem ld_w223 : Cond.selects RX3 yX3_anger yX3_anger ∈ wsL_law := ld_in_10 _ (List.mem_of_getElem? (i := 7) rfl)
theorem ld_w224 : Cond.code yX3_anger cX3_anger 4 (some .int) ∈ wsL_law := ld_in_10 _ (List.mem_of_getElem? (i := 8) rfl)
theorem ld_w225 : Cond.methodLink RL 27 yX2_crate ∈ wsL_law := ld_in_10 _ (List.mem_of_getElem? (i := 9) rfl)
theorem ld_w226 : Cond.instanceMethod yX2_crate ∈ wsL_law := ld_in_10 _ (List.mem_of_getElem? (i := 10) rfl)
theorem ld_w227 : Cond.selects RX2 yX2_crate yX2_crate ∈ wsL_law := ld_in_10 _ (List.mem_of_getElem? (i := 11) rfl)
theorem ld_w228 : Cond.code yX2_crate cX2_crate 3 (some .int) ∈ wsL_law := ld_in_10 _ (List.mem_of_getElem? (i := 12) rfl)
theorem ld_w229 : Cond.methodLink RX2 108 yX2_hasStreet ∈ wsL_law := ld_in_10 _ (List.mem_of_getElem? (i := 13) rfl)
theorem ld_w230 : Cond.instanceMethod yX2_hasStreet ∈ wsL_law := ld_in_10 _ (List.mem_of_getElem? (i := 14) rfl)
theorem ld_w231 : Cond.selects RX2 yX2_hasStreet yX2_hasStreet ∈ wsL_law := ld_in_10 _ (List.mem_of_getElem? (i := 15) rfl)
theorem ld_w232 : Cond.code yX2_hasStreet cX2_hasStreet 1 (some .boolean) ∈ wsL_law := ld_in_10 _ (List.mem_of_getElem? (i := 16) rfl)
theorem ld_w233 : Cond.methodLink RX2 112 yX2_isCrate ∈ wsL_law := ld_in_10 _ (List.mem_of_getElem? (i := 17) rfl)
theorem ld_w234 : Cond.static yX2_isCrate ∈ wsL_law := ld_in_10 _ (List.mem_of_getElem? (i := 18) rfl)
theorem ld_w235 : Cond.code yX2_isCrate cX2_isCrate 1 (some .boolean) ∈ wsL_law := ld_in_10 _ (List.mem_of_getElem? (i := 19) rfl)
theorem ld_w236 : Cond.methodLink RL 31 yX3_crate ∈ wsL_law := ld_in_10 _ (List.mem_of_getElem? (i := 20) rfl)
theorem ld_w237 : Cond.instanceMethod yX3_crate ∈ wsL_law := ld_in_10 _ (List.mem_of_getElem? (i := 21) rfl)
theorem ld_w238 : Cond.selects RX3 yX3_crate yX3_crate ∈ wsL_law := ld_in_10 _ (List.mem_of_getElem? (i := 22) rfl)
theorem ld_w239 : Cond.code yX3_crate cX3_crate 3 (some .int) ∈ wsL_law := ld_in_10 _ (List.mem_of_getElem? (i := 23) rfl)
theorem ld_w240 : Cond.methodLink RX3 155 yX3_isCrate ∈ wsL_law := ld_in_11 _ (List.mem_of_getElem? (i := 0) rfl)
theorem ld_w241 : Cond.static yX3_isCrate ∈ wsL_law := ld_in_11 _ (List.mem_of_getElem? (i := 1) rfl)
theorem ld_w242 : Cond.code yX3_isCrate cX3_isCrate 1 (some .boolean) ∈ wsL_law := ld_in_11 _ (List.mem_of_getElem? (i := 2) rfl)
theorem ld_w243 : Cond.constantLong RX3 81 (99) ∈ wsL_law := ld_in_11 _ (List.mem_of_getElem? (i := 3) rfl)
theorem ld_w244 : Cond.methodLink RL 32 yX2_deal ∈ wsL_law := ld_in_11 _ (List.mem_of_getElem? (i := 4) rfl)
theorem ld_w245 : Cond.instanceMethod yX2_deal ∈ wsL_law := ld_in_11 _ (List.mem_of_getElem? (i := 5) rfl)
theorem ld_w246 : Cond.selects RX2 yX2_deal yX2_deal ∈ wsL_law := ld_in_11 _ (List.mem_of_getElem? (i := 6) rfl)
theorem ld_w247 : Cond.code yX2_deal cX2_deal 3 (some .int) ∈ wsL_law := ld_in_11 _ (List.mem_of_getElem? (i := 7) rfl)
theorem ld_w248 : Cond.methodLink RL 35 yX3_deal ∈ wsL_law := ld_in_11 _ (List.mem_of_getElem? (i := 8) rfl)
theorem ld_w249 : Cond.instanceMethod yX3_deal ∈ wsL_law := ld_in_11 _ (List.mem_of_getElem? (i := 9) rfl)
theorem ld_w250 : Cond.selects RX3 yX3_deal yX3_deal ∈ wsL_law := ld_in_11 _ (List.mem_of_getElem? (i := 10) rfl)
theorem ld_w251 : Cond.code yX3_deal cX3_deal 3 (some .int) ∈ wsL_law := ld_in_11 _ (List.mem_of_getElem? (i := 11) rfl)
theorem ld_w252 : Cond.methodLink RL 36 yX2_weeks ∈ wsL_law := ld_in_11 _ (List.mem_of_getElem? (i := 12) rfl)
theorem ld_w253 : Cond.instanceMethod yX2_weeks ∈ wsL_law := ld_in_11 _ (List.mem_of_getElem? (i := 13) rfl)
theorem ld_w254 : Cond.selects RX2 yX2_weeks yX2_weeks ∈ wsL_law := ld_in_11 _ (List.mem_of_getElem? (i := 14) rfl)
theorem ld_w255 : Cond.code yX2_weeks cX2_weeks 2 (some .int) ∈ wsL_law := ld_in_11 _ (List.mem_of_getElem? (i := 15) rfl)
theorem ld_w256 : Cond.instanceMethod yX1_passWeeks ∈ wsL_law := ld_in_11 _ (List.mem_of_getElem? (i := 16) rfl)
theorem ld_w257 : Cond.selects RX1 yX1_passWeeks yX1_passWeeks ∈ wsL_law := ld_in_11 _ (List.mem_of_getElem? (i := 17) rfl)
theorem ld_w258 : Cond.code yX1_passWeeks cX1_passWeeks 3 none ∈ wsL_law := ld_in_11 _ (List.mem_of_getElem? (i := 18) rfl)
theorem ld_w259 : Cond.methodLink RX1 74 yX1_passWeek ∈ wsL_law := ld_in_11 _ (List.mem_of_getElem? (i := 19) rfl)
theorem ld_w260 : Cond.instanceMethod yX1_passWeek ∈ wsL_law := ld_in_11 _ (List.mem_of_getElem? (i := 20) rfl)
theorem ld_w261 : Cond.selects RX1 yX1_passWeek yX1_passWeek ∈ wsL_law := ld_in_11 _ (List.mem_of_getElem? (i := 21) rfl)
theorem ld_w262 : Cond.code yX1_passWeek cX1_passWeek 2 none ∈ wsL_law := ld_in_11 _ (List.mem_of_getElem? (i := 22) rfl)
theorem ld_w263 : Cond.methodLink RX1 77 yX1_treesOf ∈ wsL_law := ld_in_11 _ (List.mem_of_getElem? (i := 23) rfl)
theorem ld_w264 : Cond.methodLink RX1 80 yX1_suck ∈ wsL_law := ld_in_12 _ (List.mem_of_getElem? (i := 0) rfl)
theorem ld_w265 : Cond.instanceMethod yX1_suck ∈ wsL_law := ld_in_12 _ (List.mem_of_getElem? (i := 1) rfl)
theorem ld_w266 : Cond.selects RX1 yX1_suck yX1_suck ∈ wsL_law := ld_in_12 _ (List.mem_of_getElem? (i := 2) rfl)
theorem ld_w267 : Cond.code yX1_suck cX1_suck 2 none ∈ wsL_law := ld_in_12 _ (List.mem_of_getElem? (i := 3) rfl)
theorem ld_w268 : Cond.methodLink RX1 86 Lib.Math.max.name ∈ wsL_law := ld_in_12 _ (List.mem_of_getElem? (i := 4) rfl)
theorem ld_w269 : Cond.static Lib.Math.max.name ∈ wsL_law := ld_in_12 _ (List.mem_of_getElem? (i := 5) rfl)
theorem ld_w270 : Cond.code Lib.Math.max.name Lib.Math.max.code 2 (some .int) ∈ wsL_law := ld_in_12 _ (List.mem_of_getElem? (i := 6) rfl)
theorem ld_w271 : Cond.methodLink RX1 83 yX1_withoutStock ∈ wsL_law := ld_in_12 _ (List.mem_of_getElem? (i := 7) rfl)
theorem ld_w272 : Cond.instanceMethod yX1_withoutStock ∈ wsL_law := ld_in_12 _ (List.mem_of_getElem? (i := 8) rfl)
theorem ld_w273 : Cond.selects RX1 yX1_withoutStock yX1_withoutStock ∈ wsL_law := ld_in_12 _ (List.mem_of_getElem? (i := 9) rfl)
theorem ld_w274 : Cond.code yX1_withoutStock cX1_withoutStock 3 (some .int) ∈ wsL_law := ld_in_12 _ (List.mem_of_getElem? (i := 10) rfl)
theorem ld_w275 : Cond.methodLink RL 39 yX3_weeks ∈ wsL_law := ld_in_12 _ (List.mem_of_getElem? (i := 11) rfl)
theorem ld_w276 : Cond.instanceMethod yX3_weeks ∈ wsL_law := ld_in_12 _ (List.mem_of_getElem? (i := 12) rfl)
theorem ld_w277 : Cond.selects RX3 yX3_weeks yX3_weeks ∈ wsL_law := ld_in_12 _ (List.mem_of_getElem? (i := 13) rfl)
theorem ld_w278 : Cond.code yX3_weeks cX3_weeks 3 (some .int) ∈ wsL_law := ld_in_12 _ (List.mem_of_getElem? (i := 14) rfl)
theorem ld_w279 : Cond.constantLong RX3 158 (60) ∈ wsL_law := ld_in_12 _ (List.mem_of_getElem? (i := 15) rfl)
theorem ld_w280 : Cond.methodLink RX3 160 yX3_passes ∈ wsL_law := ld_in_12 _ (List.mem_of_getElem? (i := 16) rfl)
theorem ld_w281 : Cond.instanceMethod yX3_passes ∈ wsL_law := ld_in_12 _ (List.mem_of_getElem? (i := 17) rfl)
theorem ld_w282 : Cond.selects RX3 yX3_passes yX3_passes ∈ wsL_law := ld_in_12 _ (List.mem_of_getElem? (i := 18) rfl)
theorem ld_w283 : Cond.code yX3_passes cX3_passes 4 none ∈ wsL_law := ld_in_12 _ (List.mem_of_getElem? (i := 19) rfl)
theorem ld_w284 : Cond.methodLink RX3 163 yX3_without ∈ wsL_law := ld_in_12 _ (List.mem_of_getElem? (i := 20) rfl)
theorem ld_w285 : Cond.instanceMethod yX3_without ∈ wsL_law := ld_in_12 _ (List.mem_of_getElem? (i := 21) rfl)
theorem ld_w286 : Cond.selects RX3 yX3_without yX3_without ∈ wsL_law := ld_in_12 _ (List.mem_of_getElem? (i := 22) rfl)
theorem ld_w287 : Cond.code yX3_without cX3_without 3 (some .int) ∈ wsL_law := ld_in_12 _ (List.mem_of_getElem? (i := 23) rfl)
theorem ld_w288 : Cond.methodLink RL 40 yX2_gift ∈ wsL_law := ld_in_13 _ (List.mem_of_getElem? (i := 0) rfl)
theorem ld_w289 : Cond.instanceMethod yX2_gift ∈ wsL_law := ld_in_13 _ (List.mem_of_getElem? (i := 1) rfl)
theorem ld_w290 : Cond.selects RX2 yX2_gift yX2_gift ∈ wsL_law := ld_in_13 _ (List.mem_of_getElem? (i := 2) rfl)
theorem ld_w291 : Cond.code yX2_gift cX2_gift 2 (some .int) ∈ wsL_law := ld_in_13 _ (List.mem_of_getElem? (i := 3) rfl)
theorem ld_w292 : Cond.instanceMethod yX1_giveOneFrom ∈ wsL_law := ld_in_13 _ (List.mem_of_getElem? (i := 4) rfl)
theorem ld_w293 : Cond.selects RX1 yX1_giveOneFrom yX1_giveOneFrom ∈ wsL_law := ld_in_13 _ (List.mem_of_getElem? (i := 5) rfl)
theorem ld_w294 : Cond.code yX1_giveOneFrom cX1_giveOneFrom 2 (some .boolean) ∈ wsL_law := ld_in_13 _ (List.mem_of_getElem? (i := 6) rfl)
theorem ld_w295 : Cond.methodLink RL 43 yX3_gift ∈ wsL_law := ld_in_13 _ (List.mem_of_getElem? (i := 7) rfl)
theorem ld_w296 : Cond.instanceMethod yX3_gift ∈ wsL_law := ld_in_13 _ (List.mem_of_getElem? (i := 8) rfl)
theorem ld_w297 : Cond.selects RX3 yX3_gift yX3_gift ∈ wsL_law := ld_in_13 _ (List.mem_of_getElem? (i := 9) rfl)
theorem ld_w298 : Cond.code yX3_gift cX3_gift 2 (some .int) ∈ wsL_law := ld_in_13 _ (List.mem_of_getElem? (i := 10) rfl)
theorem ld_w299 : Cond.methodLink RX3 166 yX3_gave ∈ wsL_law := ld_in_13 _ (List.mem_of_getElem? (i := 11) rfl)
theorem ld_w300 : Cond.instanceMethod yX3_gave ∈ wsL_law := ld_in_13 _ (List.mem_of_getElem? (i := 12) rfl)
theorem ld_w301 : Cond.selects RX3 yX3_gave yX3_gave ∈ wsL_law := ld_in_13 _ (List.mem_of_getElem? (i := 13) rfl)
theorem ld_w302 : Cond.code yX3_gave cX3_gave 4 (some .boolean) ∈ wsL_law := ld_in_13 _ (List.mem_of_getElem? (i := 14) rfl)
theorem ld_w303 : Cond.methodLink RL 44 yX2_season ∈ wsL_law := ld_in_13 _ (List.mem_of_getElem? (i := 15) rfl)
theorem ld_w304 : Cond.instanceMethod yX2_season ∈ wsL_law := ld_in_13 _ (List.mem_of_getElem? (i := 16) rfl)
theorem ld_w305 : Cond.selects RX2 yX2_season yX2_season ∈ wsL_law := ld_in_13 _ (List.mem_of_getElem? (i := 17) rfl)
theorem ld_w306 : Cond.code yX2_season cX2_season 10 (some .int) ∈ wsL_law := ld_in_13 _ (List.mem_of_getElem? (i := 18) rfl)
theorem ld_w307 : Cond.methodLink RX2 126 yX2_isAskedOfSeason ∈ wsL_law := ld_in_13 _ (List.mem_of_getElem? (i := 19) rfl)
theorem ld_w308 : Cond.static yX2_isAskedOfSeason ∈ wsL_law := ld_in_13 _ (List.mem_of_getElem? (i := 20) rfl)
theorem ld_w309 : Cond.code yX2_isAskedOfSeason cX2_isAskedOfSeason 1 (some .boolean) ∈ wsL_law := ld_in_13 _ (List.mem_of_getElem? (i := 21) rfl)
theorem ld_w310 : Cond.methodLink RX2 129 yX2_refusalOfPairs ∈ wsL_law := ld_in_13 _ (List.mem_of_getElem? (i := 22) rfl)
theorem ld_w311 : Cond.instanceMethod yX2_refusalOfPairs ∈ wsL_law := ld_in_13 _ (List.mem_of_getElem? (i := 23) rfl)
theorem ld_w312 : Cond.selects RX2 yX2_refusalOfPairs yX2_refusalOfPairs ∈ wsL_law := ld_in_14 _ (List.mem_of_getElem? (i := 0) rfl)
theorem ld_w313 : Cond.code yX2_refusalOfPairs cX2_refusalOfPairs 6 (some .int) ∈ wsL_law := ld_in_14 _ (List.mem_of_getElem? (i := 1) rfl)
theorem ld_w314 : Cond.methodLink RX2 211 yX2_refusalOfPair ∈ wsL_law := ld_in_14 _ (List.mem_of_getElem? (i := 2) rfl)
theorem ld_w315 : Cond.instanceMethod yX2_refusalOfPair ∈ wsL_law := ld_in_14 _ (List.mem_of_getElem? (i := 3) rfl)
theorem ld_w316 : Cond.selects RX2 yX2_refusalOfPair yX2_refusalOfPair ∈ wsL_law := ld_in_14 _ (List.mem_of_getElem? (i := 4) rfl)
theorem ld_w317 : Cond.code yX2_refusalOfPair cX2_refusalOfPair 3 (some .int) ∈ wsL_law := ld_in_14 _ (List.mem_of_getElem? (i := 5) rfl)
theorem ld_w318 : Cond.instanceMethod yX1_becomeLike ∈ wsL_law := ld_in_14 _ (List.mem_of_getElem? (i := 6) rfl)
theorem ld_w319 : Cond.selects RX1 yX1_becomeLike yX1_becomeLike ∈ wsL_law := ld_in_14 _ (List.mem_of_getElem? (i := 7) rfl)
theorem ld_w320 : Cond.code yX1_becomeLike cX1_becomeLike 3 none ∈ wsL_law := ld_in_14 _ (List.mem_of_getElem? (i := 8) rfl)
theorem ld_w321 : Cond.methodLink RX2 136 yX2_actPairs ∈ wsL_law := ld_in_14 _ (List.mem_of_getElem? (i := 9) rfl)
theorem ld_w322 : Cond.instanceMethod yX2_actPairs ∈ wsL_law := ld_in_14 _ (List.mem_of_getElem? (i := 10) rfl)
theorem ld_w323 : Cond.selects RX2 yX2_actPairs yX2_actPairs ∈ wsL_law := ld_in_14 _ (List.mem_of_getElem? (i := 11) rfl)
theorem ld_w324 : Cond.code yX2_actPairs cX2_actPairs 5 (some .int) ∈ wsL_law := ld_in_14 _ (List.mem_of_getElem? (i := 12) rfl)
theorem ld_w325 : Cond.methodLink RX2 214 yX2_actPair ∈ wsL_law := ld_in_14 _ (List.mem_of_getElem? (i := 13) rfl)
theorem ld_w326 : Cond.instanceMethod yX2_actPair ∈ wsL_law := ld_in_14 _ (List.mem_of_getElem? (i := 14) rfl)
theorem ld_w327 : Cond.selects RX2 yX2_actPair yX2_actPair ∈ wsL_law := ld_in_14 _ (List.mem_of_getElem? (i := 15) rfl)
theorem ld_w328 : Cond.code yX2_actPair cX2_actPair 3 (some .boolean) ∈ wsL_law := ld_in_14 _ (List.mem_of_getElem? (i := 16) rfl)
theorem ld_w329 : Cond.methodLink RX2 139 yX2_answerOfSeason ∈ wsL_law := ld_in_14 _ (List.mem_of_getElem? (i := 17) rfl)
theorem ld_w330 : Cond.instanceMethod yX2_answerOfSeason ∈ wsL_law := ld_in_14 _ (List.mem_of_getElem? (i := 18) rfl)
theorem ld_w331 : Cond.selects RX2 yX2_answerOfSeason yX2_answerOfSeason ∈ wsL_law := ld_in_14 _ (List.mem_of_getElem? (i := 19) rfl)
theorem ld_w332 : Cond.code yX2_answerOfSeason cX2_answerOfSeason 3 (some .int) ∈ wsL_law := ld_in_14 _ (List.mem_of_getElem? (i := 20) rfl)
theorem ld_w333 : Cond.instanceMethod yX1_sumOf ∈ wsL_law := ld_in_14 _ (List.mem_of_getElem? (i := 21) rfl)
theorem ld_w334 : Cond.selects RX1 yX1_sumOf yX1_sumOf ∈ wsL_law := ld_in_14 _ (List.mem_of_getElem? (i := 22) rfl)
theorem ld_w335 : Cond.code yX1_sumOf cX1_sumOf 4 (some .int) ∈ wsL_law := ld_in_14 _ (List.mem_of_getElem? (i := 23) rfl)
theorem ld_w336 : Cond.methodLink RL 48 yX3_season ∈ wsL_law := ld_in_15 _ (List.mem_of_getElem? (i := 0) rfl)
theorem ld_w337 : Cond.instanceMethod yX3_season ∈ wsL_law := ld_in_15 _ (List.mem_of_getElem? (i := 1) rfl)
theorem ld_w338 : Cond.selects RX3 yX3_season yX3_season ∈ wsL_law := ld_in_15 _ (List.mem_of_getElem? (i := 2) rfl)
theorem ld_w339 : Cond.code yX3_season cX3_season 8 (some .int) ∈ wsL_law := ld_in_15 _ (List.mem_of_getElem? (i := 3) rfl)
theorem ld_w340 : Cond.constantLong RX3 181 (20) ∈ wsL_law := ld_in_15 _ (List.mem_of_getElem? (i := 4) rfl)
theorem ld_w341 : Cond.constantLong RX3 183 (4) ∈ wsL_law := ld_in_15 _ (List.mem_of_getElem? (i := 5) rfl)
theorem ld_w342 : Cond.constantLong RX3 185 (10) ∈ wsL_law := ld_in_15 _ (List.mem_of_getElem? (i := 6) rfl)
theorem ld_w343 : Cond.constantLong RX3 187 (17) ∈ wsL_law := ld_in_15 _ (List.mem_of_getElem? (i := 7) rfl)
theorem ld_w344 : Cond.methodLink RX3 189 yX3_pairsBarred ∈ wsL_law := ld_in_15 _ (List.mem_of_getElem? (i := 8) rfl)
theorem ld_w345 : Cond.instanceMethod yX3_pairsBarred ∈ wsL_law := ld_in_15 _ (List.mem_of_getElem? (i := 9) rfl)
theorem ld_w346 : Cond.selects RX3 yX3_pairsBarred yX3_pairsBarred ∈ wsL_law := ld_in_15 _ (List.mem_of_getElem? (i := 10) rfl)
theorem ld_w347 : Cond.code yX3_pairsBarred cX3_pairsBarred 6 (some .int) ∈ wsL_law := ld_in_15 _ (List.mem_of_getElem? (i := 11) rfl)
theorem ld_w348 : Cond.methodLink RX3 192 yX3_keepAll ∈ wsL_law := ld_in_15 _ (List.mem_of_getElem? (i := 12) rfl)
theorem ld_w349 : Cond.instanceMethod yX3_keepAll ∈ wsL_law := ld_in_15 _ (List.mem_of_getElem? (i := 13) rfl)
theorem ld_w350 : Cond.selects RX3 yX3_keepAll yX3_keepAll ∈ wsL_law := ld_in_15 _ (List.mem_of_getElem? (i := 14) rfl)
theorem ld_w351 : Cond.code yX3_keepAll cX3_keepAll 2 none ∈ wsL_law := ld_in_15 _ (List.mem_of_getElem? (i := 15) rfl)
theorem ld_w352 : Cond.fieldLink RX3 169 "LemonDealsModel" "crateKept" "I" ∈ wsL_law := ld_in_15 _ (List.mem_of_getElem? (i := 16) rfl)
theorem ld_w353 : Cond.fieldLink RX3 172 "LemonDealsModel" "weekKept" "I" ∈ wsL_law := ld_in_15 _ (List.mem_of_getElem? (i := 17) rfl)
theorem ld_w354 : Cond.methodLink RX3 195 yX3_seasonBy ∈ wsL_law := ld_in_15 _ (List.mem_of_getElem? (i := 18) rfl)
theorem ld_w355 : Cond.instanceMethod yX3_seasonBy ∈ wsL_law := ld_in_15 _ (List.mem_of_getElem? (i := 19) rfl)
theorem ld_w356 : Cond.selects RX3 yX3_seasonBy yX3_seasonBy ∈ wsL_law := ld_in_15 _ (List.mem_of_getElem? (i := 20) rfl)
theorem ld_w357 : Cond.code yX3_seasonBy cX3_seasonBy 9 (some .int) ∈ wsL_law := ld_in_15 _ (List.mem_of_getElem? (i := 21) rfl)
theorem ld_w358 : Cond.fieldLink RX3 175 "LemonDealsModel" "weeksWithout" "I" ∈ wsL_law := ld_in_15 _ (List.mem_of_getElem? (i := 22) rfl)
theorem ld_w359 : Cond.methodLink RX3 178 yX3_did ∈ wsL_law := ld_in_15 _ (List.mem_of_getElem? (i := 23) rfl)
theorem ld_w360 : Cond.instanceMethod yX3_did ∈ wsL_law := ld_in_16 _ (List.mem_of_getElem? (i := 0) rfl)
theorem ld_w361 : Cond.selects RX3 yX3_did yX3_did ∈ wsL_law := ld_in_16 _ (List.mem_of_getElem? (i := 1) rfl)
theorem ld_w362 : Cond.code yX3_did cX3_did 4 (some .boolean) ∈ wsL_law := ld_in_16 _ (List.mem_of_getElem? (i := 2) rfl)
theorem ld_w363 : Cond.methodLink RX3 198 yX3_bringBack ∈ wsL_law := ld_in_16 _ (List.mem_of_getElem? (i := 3) rfl)
theorem ld_w364 : Cond.instanceMethod yX3_bringBack ∈ wsL_law := ld_in_16 _ (List.mem_of_getElem? (i := 4) rfl)
theorem ld_w365 : Cond.selects RX3 yX3_bringBack yX3_bringBack ∈ wsL_law := ld_in_16 _ (List.mem_of_getElem? (i := 5) rfl)
theorem ld_w366 : Cond.code yX3_bringBack cX3_bringBack 2 none ∈ wsL_law := ld_in_16 _ (List.mem_of_getElem? (i := 6) rfl)
theorem ld_w367 : Cond.methodLink RL 49 yX2_calm ∈ wsL_law := ld_in_16 _ (List.mem_of_getElem? (i := 7) rfl)
theorem ld_w368 : Cond.instanceMethod yX2_calm ∈ wsL_law := ld_in_16 _ (List.mem_of_getElem? (i := 8) rfl)
theorem ld_w369 : Cond.selects RX2 yX2_calm yX2_calm ∈ wsL_law := ld_in_16 _ (List.mem_of_getElem? (i := 9) rfl)
theorem ld_w370 : Cond.code yX2_calm cX2_calm 4 (some .int) ∈ wsL_law := ld_in_16 _ (List.mem_of_getElem? (i := 10) rfl)
theorem ld_w371 : Cond.instanceMethod yX1_worstTemper ∈ wsL_law := ld_in_16 _ (List.mem_of_getElem? (i := 11) rfl)
theorem ld_w372 : Cond.selects RX1 yX1_worstTemper yX1_worstTemper ∈ wsL_law := ld_in_16 _ (List.mem_of_getElem? (i := 12) rfl)
theorem ld_w373 : Cond.code yX1_worstTemper cX1_worstTemper 3 (some .int) ∈ wsL_law := ld_in_16 _ (List.mem_of_getElem? (i := 13) rfl)
theorem ld_w374 : Cond.methodLink RL 52 yX3_calm ∈ wsL_law := ld_in_16 _ (List.mem_of_getElem? (i := 14) rfl)
theorem ld_w375 : Cond.instanceMethod yX3_calm ∈ wsL_law := ld_in_16 _ (List.mem_of_getElem? (i := 15) rfl)
theorem ld_w376 : Cond.selects RX3 yX3_calm yX3_calm ∈ wsL_law := ld_in_16 _ (List.mem_of_getElem? (i := 16) rfl)
theorem ld_w377 : Cond.code yX3_calm cX3_calm 6 (some .int) ∈ wsL_law := ld_in_16 _ (List.mem_of_getElem? (i := 17) rfl)
theorem ld_w378 : Cond.constantLong RX3 201 (12) ∈ wsL_law := ld_in_16 _ (List.mem_of_getElem? (i := 18) rfl)
theorem ld_w379 : Cond.methodLink RX3 203 yX3_worstTemper ∈ wsL_law := ld_in_16 _ (List.mem_of_getElem? (i := 19) rfl)
theorem ld_w380 : Cond.instanceMethod yX3_worstTemper ∈ wsL_law := ld_in_16 _ (List.mem_of_getElem? (i := 20) rfl)
theorem ld_w381 : Cond.selects RX3 yX3_worstTemper yX3_worstTemper ∈ wsL_law := ld_in_16 _ (List.mem_of_getElem? (i := 21) rfl)
theorem ld_w382 : Cond.code yX3_worstTemper cX3_worstTemper 3 (some .int) ∈ wsL_law := ld_in_16 _ (List.mem_of_getElem? (i := 22) rfl)
theorem ld_w383 : Cond.methodLink RL 53 yX2_wonder ∈ wsL_law := ld_in_16 _ (List.mem_of_getElem? (i := 23) rfl)
theorem ld_w384 : Cond.instanceMethod yX2_wonder ∈ wsL_law := ld_in_17 _ (List.mem_of_getElem? (i := 0) rfl)
theorem ld_w385 : Cond.selects RX2 yX2_wonder yX2_wonder ∈ wsL_law := ld_in_17 _ (List.mem_of_getElem? (i := 1) rfl)
theorem ld_w386 : Cond.code yX2_wonder cX2_wonder 4 (some .int) ∈ wsL_law := ld_in_17 _ (List.mem_of_getElem? (i := 2) rfl)
theorem ld_w387 : Cond.methodLink RX2 145 yX2_loserByOneMore ∈ wsL_law := ld_in_17 _ (List.mem_of_getElem? (i := 3) rfl)
theorem ld_w388 : Cond.instanceMethod yX2_loserByOneMore ∈ wsL_law := ld_in_17 _ (List.mem_of_getElem? (i := 4) rfl)
theorem ld_w389 : Cond.selects RX2 yX2_loserByOneMore yX2_loserByOneMore ∈ wsL_law := ld_in_17 _ (List.mem_of_getElem? (i := 5) rfl)
theorem ld_w390 : Cond.code yX2_loserByOneMore cX2_loserByOneMore 3 (some .int) ∈ wsL_law := ld_in_17 _ (List.mem_of_getElem? (i := 6) rfl)
theorem ld_w391 : Cond.methodLink RL 56 yX3_wonder ∈ wsL_law := ld_in_17 _ (List.mem_of_getElem? (i := 7) rfl)
theorem ld_w392 : Cond.instanceMethod yX3_wonder ∈ wsL_law := ld_in_17 _ (List.mem_of_getElem? (i := 8) rfl)
theorem ld_w393 : Cond.selects RX3 yX3_wonder yX3_wonder ∈ wsL_law := ld_in_17 _ (List.mem_of_getElem? (i := 9) rfl)
theorem ld_w394 : Cond.code yX3_wonder cX3_wonder 6 (some .int) ∈ wsL_law := ld_in_17 _ (List.mem_of_getElem? (i := 10) rfl)
theorem ld_w395 : Cond.methodLink RL 57 yX2_otherwise ∈ wsL_law := ld_in_17 _ (List.mem_of_getElem? (i := 11) rfl)
theorem ld_w396 : Cond.instanceMethod yX2_otherwise ∈ wsL_law := ld_in_17 _ (List.mem_of_getElem? (i := 12) rfl)
theorem ld_w397 : Cond.selects RX2 yX2_otherwise yX2_otherwise ∈ wsL_law := ld_in_17 _ (List.mem_of_getElem? (i := 13) rfl)
theorem ld_w398 : Cond.code yX2_otherwise cX2_otherwise 2 (some .int) ∈ wsL_law := ld_in_17 _ (List.mem_of_getElem? (i := 14) rfl)
theorem ld_w399 : Cond.instanceMethod yX1_dealOneByOne ∈ wsL_law := ld_in_17 _ (List.mem_of_getElem? (i := 15) rfl)
theorem ld_w400 : Cond.selects RX1 yX1_dealOneByOne yX1_dealOneByOne ∈ wsL_law := ld_in_17 _ (List.mem_of_getElem? (i := 16) rfl)
theorem ld_w401 : Cond.code yX1_dealOneByOne cX1_dealOneByOne 4 none ∈ wsL_law := ld_in_17 _ (List.mem_of_getElem? (i := 17) rfl)
theorem ld_w402 : Cond.methodLink RX1 66 yX1_nextOneByOne ∈ wsL_law := ld_in_17 _ (List.mem_of_getElem? (i := 18) rfl)
theorem ld_w403 : Cond.instanceMethod yX1_nextOneByOne ∈ wsL_law := ld_in_17 _ (List.mem_of_getElem? (i := 19) rfl)
theorem ld_w404 : Cond.selects RX1 yX1_nextOneByOne yX1_nextOneByOne ∈ wsL_law := ld_in_17 _ (List.mem_of_getElem? (i := 20) rfl)
theorem ld_w405 : Cond.code yX1_nextOneByOne cX1_nextOneByOne 3 (some .int) ∈ wsL_law := ld_in_17 _ (List.mem_of_getElem? (i := 21) rfl)
theorem ld_w406 : Cond.methodLink RX1 70 yX1_isAheadOneByOne ∈ wsL_law := ld_in_17 _ (List.mem_of_getElem? (i := 22) rfl)
theorem ld_w407 : Cond.instanceMethod yX1_isAheadOneByOne ∈ wsL_law := ld_in_17 _ (List.mem_of_getElem? (i := 23) rfl)
theorem ld_w408 : Cond.selects RX1 yX1_isAheadOneByOne yX1_isAheadOneByOne ∈ wsL_law := ld_in_18 _ (List.mem_of_getElem? (i := 0) rfl)
theorem ld_w409 : Cond.code yX1_isAheadOneByOne cX1_isAheadOneByOne 3 (some .boolean) ∈ wsL_law := ld_in_18 _ (List.mem_of_getElem? (i := 1) rfl)
theorem ld_w410 : Cond.methodLink RL 60 yX3_otherwise ∈ wsL_law := ld_in_18 _ (List.mem_of_getElem? (i := 2) rfl)
theorem ld_w411 : Cond.instanceMethod yX3_otherwise ∈ wsL_law := ld_in_18 _ (List.mem_of_getElem? (i := 3) rfl)
theorem ld_w412 : Cond.selects RX3 yX3_otherwise yX3_otherwise ∈ wsL_law := ld_in_18 _ (List.mem_of_getElem? (i := 4) rfl)
theorem ld_w413 : Cond.code yX3_otherwise cX3_otherwise 4 (some .int) ∈ wsL_law := ld_in_18 _ (List.mem_of_getElem? (i := 5) rfl)
theorem ld_w414 : Cond.methodLink RX3 206 yX3_nextOne ∈ wsL_law := ld_in_18 _ (List.mem_of_getElem? (i := 6) rfl)
theorem ld_w415 : Cond.instanceMethod yX3_nextOne ∈ wsL_law := ld_in_18 _ (List.mem_of_getElem? (i := 7) rfl)
theorem ld_w416 : Cond.selects RX3 yX3_nextOne yX3_nextOne ∈ wsL_law := ld_in_18 _ (List.mem_of_getElem? (i := 8) rfl)
theorem ld_w417 : Cond.code yX3_nextOne cX3_nextOne 4 (some .int) ∈ wsL_law := ld_in_18 _ (List.mem_of_getElem? (i := 9) rfl)
theorem ld_w418 : Cond.methodLink RL 61 yX2_halves ∈ wsL_law := ld_in_18 _ (List.mem_of_getElem? (i := 10) rfl)
theorem ld_w419 : Cond.instanceMethod yX2_halves ∈ wsL_law := ld_in_18 _ (List.mem_of_getElem? (i := 11) rfl)
theorem ld_w420 : Cond.selects RX2 yX2_halves yX2_halves ∈ wsL_law := ld_in_18 _ (List.mem_of_getElem? (i := 12) rfl)
theorem ld_w421 : Cond.code yX2_halves cX2_halves 6 (some .int) ∈ wsL_law := ld_in_18 _ (List.mem_of_getElem? (i := 13) rfl)
theorem ld_w422 : Cond.methodLink RX2 154 yX2_apartBy ∈ wsL_law := ld_in_18 _ (List.mem_of_getElem? (i := 14) rfl)
theorem ld_w423 : Cond.instanceMethod yX2_apartBy ∈ wsL_law := ld_in_18 _ (List.mem_of_getElem? (i := 15) rfl)
theorem ld_w424 : Cond.selects RX2 yX2_apartBy yX2_apartBy ∈ wsL_law := ld_in_18 _ (List.mem_of_getElem? (i := 16) rfl)
theorem ld_w425 : Cond.code yX2_apartBy cX2_apartBy 5 (some .int) ∈ wsL_law := ld_in_18 _ (List.mem_of_getElem? (i := 17) rfl)
theorem ld_w426 : Cond.methodLink RX2 227 Lib.Math.abs.name ∈ wsL_law := ld_in_18 _ (List.mem_of_getElem? (i := 18) rfl)
theorem ld_w427 : Cond.static Lib.Math.abs.name ∈ wsL_law := ld_in_18 _ (List.mem_of_getElem? (i := 19) rfl)
theorem ld_w428 : Cond.code Lib.Math.abs.name Lib.Math.abs.code 1 (some .int) ∈ wsL_law := ld_in_18 _ (List.mem_of_getElem? (i := 20) rfl)
theorem ld_w429 : Cond.methodLink RL 64 yX3_halves ∈ wsL_law := ld_in_18 _ (List.mem_of_getElem? (i := 21) rfl)
theorem ld_w430 : Cond.instanceMethod yX3_halves ∈ wsL_law := ld_in_18 _ (List.mem_of_getElem? (i := 22) rfl)
theorem ld_w431 : Cond.selects RX3 yX3_halves yX3_halves ∈ wsL_law := ld_in_18 _ (List.mem_of_getElem? (i := 23) rfl)
theorem ld_w432 : Cond.code yX3_halves cX3_halves 4 (some .int) ∈ wsL_law := ld_in_19 _ (List.mem_of_getElem? (i := 0) rfl)
theorem ld_w433 : Cond.methodLink RX3 212 yX3_apart ∈ wsL_law := ld_in_19 _ (List.mem_of_getElem? (i := 1) rfl)
theorem ld_w434 : Cond.instanceMethod yX3_apart ∈ wsL_law := ld_in_19 _ (List.mem_of_getElem? (i := 2) rfl)
theorem ld_w435 : Cond.selects RX3 yX3_apart yX3_apart ∈ wsL_law := ld_in_19 _ (List.mem_of_getElem? (i := 3) rfl)
theorem ld_w436 : Cond.code yX3_apart cX3_apart 4 (some .int) ∈ wsL_law := ld_in_19 _ (List.mem_of_getElem? (i := 4) rfl)
theorem ld_w437 : Cond.methodLink RX3 209 yX3_isIn ∈ wsL_law := ld_in_19 _ (List.mem_of_getElem? (i := 5) rfl)
theorem ld_w438 : Cond.static yX3_isIn ∈ wsL_law := ld_in_19 _ (List.mem_of_getElem? (i := 6) rfl)
theorem ld_w439 : Cond.code yX3_isIn cX3_isIn 2 (some .boolean) ∈ wsL_law := ld_in_19 _ (List.mem_of_getElem? (i := 7) rfl)
theorem ld_w440 : Cond.methodLink RL 65 yX2_reading ∈ wsL_law := ld_in_19 _ (List.mem_of_getElem? (i := 8) rfl)
theorem ld_w441 : Cond.instanceMethod yX2_reading ∈ wsL_law := ld_in_19 _ (List.mem_of_getElem? (i := 9) rfl)
theorem ld_w442 : Cond.selects RX2 yX2_reading yX2_reading ∈ wsL_law := ld_in_19 _ (List.mem_of_getElem? (i := 10) rfl)
theorem ld_w443 : Cond.code yX2_reading cX2_reading 3 (some .int) ∈ wsL_law := ld_in_19 _ (List.mem_of_getElem? (i := 11) rfl)
theorem ld_w444 : Cond.methodLink RL 68 yX3_reading ∈ wsL_law := ld_in_19 _ (List.mem_of_getElem? (i := 12) rfl)
theorem ld_w445 : Cond.instanceMethod yX3_reading ∈ wsL_law := ld_in_19 _ (List.mem_of_getElem? (i := 13) rfl)
theorem ld_w446 : Cond.selects RX3 yX3_reading yX3_reading ∈ wsL_law := ld_in_19 _ (List.mem_of_getElem? (i := 14) rfl)
theorem ld_w447 : Cond.code yX3_reading cX3_reading 3 (some .int) ∈ wsL_law := ld_in_19 _ (List.mem_of_getElem? (i := 15) rfl)
theorem ld_w448 : Cond.methodLink RL 69 yX2_back ∈ wsL_law := ld_in_19 _ (List.mem_of_getElem? (i := 16) rfl)
theorem ld_w449 : Cond.instanceMethod yX2_back ∈ wsL_law := ld_in_19 _ (List.mem_of_getElem? (i := 17) rfl)
theorem ld_w450 : Cond.selects RX2 yX2_back yX2_back ∈ wsL_law := ld_in_19 _ (List.mem_of_getElem? (i := 18) rfl)
theorem ld_w451 : Cond.code yX2_back cX2_back 2 (some .int) ∈ wsL_law := ld_in_19 _ (List.mem_of_getElem? (i := 19) rfl)
theorem ld_w452 : Cond.methodLink RL 72 yX3_back ∈ wsL_law := ld_in_19 _ (List.mem_of_getElem? (i := 20) rfl)
theorem ld_w453 : Cond.instanceMethod yX3_back ∈ wsL_law := ld_in_19 _ (List.mem_of_getElem? (i := 21) rfl)
theorem ld_w454 : Cond.selects RX3 yX3_back yX3_back ∈ wsL_law := ld_in_19 _ (List.mem_of_getElem? (i := 22) rfl)
theorem ld_w455 : Cond.code yX3_back cX3_back 2 (some .int) ∈ wsL_law := ld_in_19 _ (List.mem_of_getElem? (i := 23) rfl)
theorem ld_w456 : Cond.methodLink RL 73 yX2_tempers ∈ wsL_law := ld_in_20 _ (List.mem_of_getElem? (i := 0) rfl)
theorem ld_w457 : Cond.instanceMethod yX2_tempers ∈ wsL_law := ld_in_20 _ (List.mem_of_getElem? (i := 1) rfl)
theorem ld_w458 : Cond.selects RX2 yX2_tempers yX2_tempers ∈ wsL_law := ld_in_20 _ (List.mem_of_getElem? (i := 2) rfl)
theorem ld_w459 : Cond.code yX2_tempers cX2_tempers 4 (some .int) ∈ wsL_law := ld_in_20 _ (List.mem_of_getElem? (i := 3) rfl)
theorem ld_w460 : Cond.methodLink RX2 157 yX2_readingsHoldInTrial ∈ wsL_law := ld_in_20 _ (List.mem_of_getElem? (i := 4) rfl)
theorem ld_w461 : Cond.instanceMethod yX2_readingsHoldInTrial ∈ wsL_law := ld_in_20 _ (List.mem_of_getElem? (i := 5) rfl)
theorem ld_w462 : Cond.selects RX2 yX2_readingsHoldInTrial yX2_readingsHoldInTrial ∈ wsL_law := ld_in_20 _ (List.mem_of_getElem? (i := 6) rfl)
theorem ld_w463 : Cond.code yX2_readingsHoldInTrial cX2_readingsHoldInTrial 2 (some .boolean) ∈ wsL_law := ld_in_20 _ (List.mem_of_getElem? (i := 7) rfl)
theorem ld_w464 : Cond.methodLink RL 76 yX3_tempers ∈ wsL_law := ld_in_20 _ (List.mem_of_getElem? (i := 8) rfl)
theorem ld_w465 : Cond.instanceMethod yX3_tempers ∈ wsL_law := ld_in_20 _ (List.mem_of_getElem? (i := 9) rfl)
theorem ld_w466 : Cond.selects RX3 yX3_tempers yX3_tempers ∈ wsL_law := ld_in_20 _ (List.mem_of_getElem? (i := 10) rfl)
theorem ld_w467 : Cond.code yX3_tempers cX3_tempers 5 (some .int) ∈ wsL_law := ld_in_20 _ (List.mem_of_getElem? (i := 11) rfl)
theorem ld_w468 : Cond.methodLink RX3 215 yX3_areSo ∈ wsL_law := ld_in_20 _ (List.mem_of_getElem? (i := 12) rfl)
theorem ld_w469 : Cond.instanceMethod yX3_areSo ∈ wsL_law := ld_in_20 _ (List.mem_of_getElem? (i := 13) rfl)
theorem ld_w470 : Cond.selects RX3 yX3_areSo yX3_areSo ∈ wsL_law := ld_in_20 _ (List.mem_of_getElem? (i := 14) rfl)
theorem ld_w471 : Cond.code yX3_areSo cX3_areSo 3 (some .boolean) ∈ wsL_law := ld_in_20 _ (List.mem_of_getElem? (i := 15) rfl)
theorem ld_w472 : Cond.methodLink RL 77 yX2_kinds ∈ wsL_law := ld_in_20 _ (List.mem_of_getElem? (i := 16) rfl)
theorem ld_w473 : Cond.instanceMethod yX2_kinds ∈ wsL_law := ld_in_20 _ (List.mem_of_getElem? (i := 17) rfl)
theorem ld_w474 : Cond.selects RX2 yX2_kinds yX2_kinds ∈ wsL_law := ld_in_20 _ (List.mem_of_getElem? (i := 18) rfl)
theorem ld_w475 : Cond.code yX2_kinds cX2_kinds 4 (some .int) ∈ wsL_law := ld_in_20 _ (List.mem_of_getElem? (i := 19) rfl)
theorem ld_w476 : Cond.methodLink RL 80 yX3_kinds ∈ wsL_law := ld_in_20 _ (List.mem_of_getElem? (i := 20) rfl)
theorem ld_w477 : Cond.instanceMethod yX3_kinds ∈ wsL_law := ld_in_20 _ (List.mem_of_getElem? (i := 21) rfl)
theorem ld_w478 : Cond.selects RX3 yX3_kinds yX3_kinds ∈ wsL_law := ld_in_20 _ (List.mem_of_getElem? (i := 22) rfl)
theorem ld_w479 : Cond.code yX3_kinds cX3_kinds 5 (some .int) ∈ wsL_law := ld_in_20 _ (List.mem_of_getElem? (i := 23) rfl)
theorem ld_w480 : Cond.methodLink RL 81 yX2_crates ∈ wsL_law := ld_in_21 _ (List.mem_of_getElem? (i := 0) rfl)
theorem ld_w481 : Cond.instanceMethod yX2_crates ∈ wsL_law := ld_in_21 _ (List.mem_of_getElem? (i := 1) rfl)
theorem ld_w482 : Cond.selects RX2 yX2_crates yX2_crates ∈ wsL_law := ld_in_21 _ (List.mem_of_getElem? (i := 2) rfl)
theorem ld_w483 : Cond.code yX2_crates cX2_crates 6 (some .int) ∈ wsL_law := ld_in_21 _ (List.mem_of_getElem? (i := 3) rfl)
theorem ld_w484 : Cond.methodLink RL 84 yX3_crates ∈ wsL_law := ld_in_21 _ (List.mem_of_getElem? (i := 4) rfl)
theorem ld_w485 : Cond.instanceMethod yX3_crates ∈ wsL_law := ld_in_21 _ (List.mem_of_getElem? (i := 5) rfl)
theorem ld_w486 : Cond.selects RX3 yX3_crates yX3_crates ∈ wsL_law := ld_in_21 _ (List.mem_of_getElem? (i := 6) rfl)
theorem ld_w487 : Cond.code yX3_crates cX3_crates 8 (some .int) ∈ wsL_law := ld_in_21 _ (List.mem_of_getElem? (i := 7) rfl)
theorem ld_w488 : Cond.methodLink RL 85 yX2_odds ∈ wsL_law := ld_in_21 _ (List.mem_of_getElem? (i := 8) rfl)
theorem ld_w489 : Cond.instanceMethod yX2_odds ∈ wsL_law := ld_in_21 _ (List.mem_of_getElem? (i := 9) rfl)
theorem ld_w490 : Cond.selects RX2 yX2_odds yX2_odds ∈ wsL_law := ld_in_21 _ (List.mem_of_getElem? (i := 10) rfl)
theorem ld_w491 : Cond.code yX2_odds cX2_odds 6 (some .long) ∈ wsL_law := ld_in_21 _ (List.mem_of_getElem? (i := 11) rfl)
theorem ld_w492 : Cond.constantLong RX2 160 (-9223372036854775808) ∈ wsL_law := ld_in_21 _ (List.mem_of_getElem? (i := 12) rfl)
theorem ld_w493 : Cond.methodLink RL 89 yX3_odds ∈ wsL_law := ld_in_21 _ (List.mem_of_getElem? (i := 13) rfl)
theorem ld_w494 : Cond.instanceMethod yX3_odds ∈ wsL_law := ld_in_21 _ (List.mem_of_getElem? (i := 14) rfl)
theorem ld_w495 : Cond.selects RX3 yX3_odds yX3_odds ∈ wsL_law := ld_in_21 _ (List.mem_of_getElem? (i := 15) rfl)
theorem ld_w496 : Cond.code yX3_odds cX3_odds 7 (some .long) ∈ wsL_law := ld_in_21 _ (List.mem_of_getElem? (i := 16) rfl)
theorem ld_w497 : Cond.constantLong RX3 219 (100) ∈ wsL_law := ld_in_21 _ (List.mem_of_getElem? (i := 17) rfl)
theorem ld_w498 : Cond.methodLink RX3 70 yX3_lost ∈ wsL_law := ld_in_21 _ (List.mem_of_getElem? (i := 18) rfl)
theorem ld_w499 : Cond.static yX3_lost ∈ wsL_law := ld_in_21 _ (List.mem_of_getElem? (i := 19) rfl)
theorem ld_w500 : Cond.code yX3_lost cX3_lost 0 (some .long) ∈ wsL_law := ld_in_21 _ (List.mem_of_getElem? (i := 20) rfl)
theorem ld_w501 : Cond.constantLong RX3 64 (-9223372036854775808) ∈ wsL_law := ld_in_21 _ (List.mem_of_getElem? (i := 21) rfl)
theorem ld_w502 : Cond.methodLink RX3 221 yX3_share ∈ wsL_law := ld_in_21 _ (List.mem_of_getElem? (i := 22) rfl)
theorem ld_w503 : Cond.static yX3_share ∈ wsL_law := ld_in_21 _ (List.mem_of_getElem? (i := 23) rfl)
theorem ld_w504 : Cond.code yX3_share cX3_share 11 (some .long) ∈ wsL_law := ld_in_22 _ (List.mem_of_getElem? (i := 0) rfl)
theorem ld_w505 : Cond.methodLink RL 90 yX2_sheet ∈ wsL_law := ld_in_22 _ (List.mem_of_getElem? (i := 1) rfl)
theorem ld_w506 : Cond.instanceMethod yX2_sheet ∈ wsL_law := ld_in_22 _ (List.mem_of_getElem? (i := 2) rfl)
theorem ld_w507 : Cond.selects RX2 yX2_sheet yX2_sheet ∈ wsL_law := ld_in_22 _ (List.mem_of_getElem? (i := 3) rfl)
theorem ld_w508 : Cond.code yX2_sheet cX2_sheet 4 (some .int) ∈ wsL_law := ld_in_22 _ (List.mem_of_getElem? (i := 4) rfl)
theorem ld_w509 : Cond.instanceMethod yX0_begin ∈ wsL_law := ld_in_22 _ (List.mem_of_getElem? (i := 5) rfl)
theorem ld_w510 : Cond.selects RX0 yX0_begin yX0_begin ∈ wsL_law := ld_in_22 _ (List.mem_of_getElem? (i := 6) rfl)
theorem ld_w511 : Cond.code yX0_begin cX0_begin 4 none ∈ wsL_law := ld_in_22 _ (List.mem_of_getElem? (i := 7) rfl)
theorem ld_w512 : Cond.methodLink RL 94 yX3_sheet ∈ wsL_law := ld_in_22 _ (List.mem_of_getElem? (i := 8) rfl)
theorem ld_w513 : Cond.instanceMethod yX3_sheet ∈ wsL_law := ld_in_22 _ (List.mem_of_getElem? (i := 9) rfl)
theorem ld_w514 : Cond.selects RX3 yX3_sheet yX3_sheet ∈ wsL_law := ld_in_22 _ (List.mem_of_getElem? (i := 10) rfl)
theorem ld_w515 : Cond.code yX3_sheet cX3_sheet 5 (some .int) ∈ wsL_law := ld_in_22 _ (List.mem_of_getElem? (i := 11) rfl)
theorem ld_w516 : Cond.methodLink RL 95 yX2_lose ∈ wsL_law := ld_in_22 _ (List.mem_of_getElem? (i := 12) rfl)
theorem ld_w517 : Cond.instanceMethod yX2_lose ∈ wsL_law := ld_in_22 _ (List.mem_of_getElem? (i := 13) rfl)
theorem ld_w518 : Cond.selects RX2 yX2_lose yX2_lose ∈ wsL_law := ld_in_22 _ (List.mem_of_getElem? (i := 14) rfl)
theorem ld_w519 : Cond.code yX2_lose cX2_lose 3 (some .int) ∈ wsL_law := ld_in_22 _ (List.mem_of_getElem? (i := 15) rfl)
theorem ld_w520 : Cond.methodLink RL 98 yX3_lose ∈ wsL_law := ld_in_22 _ (List.mem_of_getElem? (i := 16) rfl)
theorem ld_w521 : Cond.instanceMethod yX3_lose ∈ wsL_law := ld_in_22 _ (List.mem_of_getElem? (i := 17) rfl)
theorem ld_w522 : Cond.selects RX3 yX3_lose yX3_lose ∈ wsL_law := ld_in_22 _ (List.mem_of_getElem? (i := 18) rfl)
theorem ld_w523 : Cond.code yX3_lose cX3_lose 3 (some .int) ∈ wsL_law := ld_in_22 _ (List.mem_of_getElem? (i := 19) rfl)
theorem ld_w524 : Cond.methodLink RL 99 yX2_put ∈ wsL_law := ld_in_22 _ (List.mem_of_getElem? (i := 20) rfl)
theorem ld_w525 : Cond.instanceMethod yX2_put ∈ wsL_law := ld_in_22 _ (List.mem_of_getElem? (i := 21) rfl)
theorem ld_w526 : Cond.selects RX2 yX2_put yX2_put ∈ wsL_law := ld_in_22 _ (List.mem_of_getElem? (i := 22) rfl)
theorem ld_w527 : Cond.code yX2_put cX2_put 5 (some .int) ∈ wsL_law := ld_in_22 _ (List.mem_of_getElem? (i := 23) rfl)
theorem ld_w528 : Cond.instanceMethod yX0_hasCell ∈ wsL_law := ld_in_23 _ (List.mem_of_getElem? (i := 0) rfl)
theorem ld_w529 : Cond.selects RX0 yX0_hasCell yX0_hasCell ∈ wsL_law := ld_in_23 _ (List.mem_of_getElem? (i := 1) rfl)
theorem ld_w530 : Cond.code yX0_hasCell cX0_hasCell 2 (some .boolean) ∈ wsL_law := ld_in_23 _ (List.mem_of_getElem? (i := 2) rfl)
theorem ld_w531 : Cond.instanceMethod yX0_cutToLane ∈ wsL_law := ld_in_23 _ (List.mem_of_getElem? (i := 3) rfl)
theorem ld_w532 : Cond.selects RX0 yX0_cutToLane yX0_cutToLane ∈ wsL_law := ld_in_23 _ (List.mem_of_getElem? (i := 4) rfl)
theorem ld_w533 : Cond.code yX0_cutToLane cX0_cutToLane 2 (some .int) ∈ wsL_law := ld_in_23 _ (List.mem_of_getElem? (i := 5) rfl)
theorem ld_w534 : Cond.methodLink RL 102 yX3_put ∈ wsL_law := ld_in_23 _ (List.mem_of_getElem? (i := 6) rfl)
theorem ld_w535 : Cond.instanceMethod yX3_put ∈ wsL_law := ld_in_23 _ (List.mem_of_getElem? (i := 7) rfl)
theorem ld_w536 : Cond.selects RX3 yX3_put yX3_put ∈ wsL_law := ld_in_23 _ (List.mem_of_getElem? (i := 8) rfl)
theorem ld_w537 : Cond.code yX3_put cX3_put 4 (some .int) ∈ wsL_law := ld_in_23 _ (List.mem_of_getElem? (i := 9) rfl)
theorem ld_w538 : Cond.methodLink RX3 227 yX3_noCell ∈ wsL_law := ld_in_23 _ (List.mem_of_getElem? (i := 10) rfl)
theorem ld_w539 : Cond.instanceMethod yX3_noCell ∈ wsL_law := ld_in_23 _ (List.mem_of_getElem? (i := 11) rfl)
theorem ld_w540 : Cond.selects RX3 yX3_noCell yX3_noCell ∈ wsL_law := ld_in_23 _ (List.mem_of_getElem? (i := 12) rfl)
theorem ld_w541 : Cond.code yX3_noCell cX3_noCell 3 (some .int) ∈ wsL_law := ld_in_23 _ (List.mem_of_getElem? (i := 13) rfl)
theorem ld_w542 : Cond.methodLink RL 103 yX2_cell ∈ wsL_law := ld_in_23 _ (List.mem_of_getElem? (i := 14) rfl)
theorem ld_w543 : Cond.instanceMethod yX2_cell ∈ wsL_law := ld_in_23 _ (List.mem_of_getElem? (i := 15) rfl)
theorem ld_w544 : Cond.selects RX2 yX2_cell yX2_cell ∈ wsL_law := ld_in_23 _ (List.mem_of_getElem? (i := 16) rfl)
theorem ld_w545 : Cond.code yX2_cell cX2_cell 6 (some .long) ∈ wsL_law := ld_in_23 _ (List.mem_of_getElem? (i := 17) rfl)
theorem ld_w546 : Cond.methodLink RL 106 yX3_cell ∈ wsL_law := ld_in_23 _ (List.mem_of_getElem? (i := 18) rfl)
theorem ld_w547 : Cond.instanceMethod yX3_cell ∈ wsL_law := ld_in_23 _ (List.mem_of_getElem? (i := 19) rfl)
theorem ld_w548 : Cond.selects RX3 yX3_cell yX3_cell ∈ wsL_law := ld_in_23 _ (List.mem_of_getElem? (i := 20) rfl)
theorem ld_w549 : Cond.code yX3_cell cX3_cell 4 (some .long) ∈ wsL_law := ld_in_23 _ (List.mem_of_getElem? (i := 21) rfl)
theorem ld_w550 : Cond.methodLink RX3 230 yX3_failedLong ∈ wsL_law := ld_in_23 _ (List.mem_of_getElem? (i := 22) rfl)
theorem ld_w551 : Cond.instanceMethod yX3_failedLong ∈ wsL_law := ld_in_23 _ (List.mem_of_getElem? (i := 23) rfl)
theorem ld_w552 : Cond.selects RX3 yX3_failedLong yX3_failedLong ∈ wsL_law := ld_in_24 _ (List.mem_of_getElem? (i := 0) rfl)
theorem ld_w553 : Cond.code yX3_failedLong cX3_failedLong 2 (some .long) ∈ wsL_law := ld_in_24 _ (List.mem_of_getElem? (i := 1) rfl)
theorem ld_w554 : Cond.methodLink RL 107 yX2_copy ∈ wsL_law := ld_in_24 _ (List.mem_of_getElem? (i := 2) rfl)
theorem ld_w555 : Cond.instanceMethod yX2_copy ∈ wsL_law := ld_in_24 _ (List.mem_of_getElem? (i := 3) rfl)
theorem ld_w556 : Cond.selects RX2 yX2_copy yX2_copy ∈ wsL_law := ld_in_24 _ (List.mem_of_getElem? (i := 4) rfl)
theorem ld_w557 : Cond.code yX2_copy cX2_copy 8 (some .int) ∈ wsL_law := ld_in_24 _ (List.mem_of_getElem? (i := 5) rfl)
theorem ld_w558 : Cond.methodLink RX2 181 arraycopyName ∈ wsL_law := ld_in_24 _ (List.mem_of_getElem? (i := 6) rfl)
theorem ld_w559 : Cond.native arraycopyName ∈ wsL_law := ld_in_24 _ (List.mem_of_getElem? (i := 7) rfl)
theorem ld_w560 : Cond.static arraycopyName ∈ wsL_law := ld_in_24 _ (List.mem_of_getElem? (i := 8) rfl)
theorem ld_w561 : Cond.initialized "java/lang/System" ∈ wsL_law := ld_in_24 _ (List.mem_of_getElem? (i := 9) rfl)
theorem ld_w562 : Cond.methodLink RL 110 yX3_copy ∈ wsL_law := ld_in_24 _ (List.mem_of_getElem? (i := 10) rfl)
theorem ld_w563 : Cond.instanceMethod yX3_copy ∈ wsL_law := ld_in_24 _ (List.mem_of_getElem? (i := 11) rfl)
theorem ld_w564 : Cond.selects RX3 yX3_copy yX3_copy ∈ wsL_law := ld_in_24 _ (List.mem_of_getElem? (i := 12) rfl)
theorem ld_w565 : Cond.code yX3_copy cX3_copy 7 (some .int) ∈ wsL_law := ld_in_24 _ (List.mem_of_getElem? (i := 13) rfl)
theorem ld_w566 : Cond.methodLink RL 111 yX2_tell ∈ wsL_law := ld_in_24 _ (List.mem_of_getElem? (i := 14) rfl)
theorem ld_w567 : Cond.instanceMethod yX2_tell ∈ wsL_law := ld_in_24 _ (List.mem_of_getElem? (i := 15) rfl)
theorem ld_w568 : Cond.selects RX2 yX2_tell yX2_tell ∈ wsL_law := ld_in_24 _ (List.mem_of_getElem? (i := 16) rfl)
theorem ld_w569 : Cond.code yX2_tell cX2_tell 2 (some .int) ∈ wsL_law := ld_in_24 _ (List.mem_of_getElem? (i := 17) rfl)
theorem ld_w570 : Cond.methodLink RX2 187 yX2_tellAsTart ∈ wsL_law := ld_in_24 _ (List.mem_of_getElem? (i := 18) rfl)
theorem ld_w571 : Cond.instanceMethod yX2_tellAsTart ∈ wsL_law := ld_in_24 _ (List.mem_of_getElem? (i := 19) rfl)
theorem ld_w572 : Cond.selects RX2 yX2_tellAsTart yX2_tellAsTart ∈ wsL_law := ld_in_24 _ (List.mem_of_getElem? (i := 20) rfl)
theorem ld_w573 : Cond.code yX2_tellAsTart cX2_tellAsTart 2 (some .int) ∈ wsL_law := ld_in_24 _ (List.mem_of_getElem? (i := 21) rfl)
theorem ld_w574 : Cond.methodLink RX2 196 yX2_leaveInTrace ∈ wsL_law := ld_in_24 _ (List.mem_of_getElem? (i := 22) rfl)
theorem ld_w575 : Cond.instanceMethod yX2_leaveInTrace ∈ wsL_law := ld_in_24 _ (List.mem_of_getElem? (i := 23) rfl)
theorem ld_w576 : Cond.selects RX2 yX2_leaveInTrace yX2_leaveInTrace ∈ wsL_law := ld_in_25 _ (List.mem_of_getElem? (i := 0) rfl)
theorem ld_w577 : Cond.code yX2_leaveInTrace cX2_leaveInTrace 2 none ∈ wsL_law := ld_in_25 _ (List.mem_of_getElem? (i := 1) rfl)
theorem ld_w578 : Cond.methodLink RX2 193 yX2_tellAsPlain ∈ wsL_law := ld_in_25 _ (List.mem_of_getElem? (i := 2) rfl)
theorem ld_w579 : Cond.instanceMethod yX2_tellAsPlain ∈ wsL_law := ld_in_25 _ (List.mem_of_getElem? (i := 3) rfl)
theorem ld_w580 : Cond.selects RX2 yX2_tellAsPlain yX2_tellAsPlain ∈ wsL_law := ld_in_25 _ (List.mem_of_getElem? (i := 4) rfl)
theorem ld_w581 : Cond.code yX2_tellAsPlain cX2_tellAsPlain 2 (some .int) ∈ wsL_law := ld_in_25 _ (List.mem_of_getElem? (i := 5) rfl)
theorem ld_w582 : Cond.methodLink RX2 190 yX2_tellAsBitter ∈ wsL_law := ld_in_25 _ (List.mem_of_getElem? (i := 6) rfl)
theorem ld_w583 : Cond.instanceMethod yX2_tellAsBitter ∈ wsL_law := ld_in_25 _ (List.mem_of_getElem? (i := 7) rfl)
theorem ld_w584 : Cond.selects RX2 yX2_tellAsBitter yX2_tellAsBitter ∈ wsL_law := ld_in_25 _ (List.mem_of_getElem? (i := 8) rfl)
theorem ld_w585 : Cond.code yX2_tellAsBitter cX2_tellAsBitter 3 (some .int) ∈ wsL_law := ld_in_25 _ (List.mem_of_getElem? (i := 9) rfl)
theorem ld_w586 : Cond.methodLink RL 114 yX3_tell ∈ wsL_law := ld_in_25 _ (List.mem_of_getElem? (i := 10) rfl)
theorem ld_w587 : Cond.instanceMethod yX3_tell ∈ wsL_law := ld_in_25 _ (List.mem_of_getElem? (i := 11) rfl)
theorem ld_w588 : Cond.selects RX3 yX3_tell yX3_tell ∈ wsL_law := ld_in_25 _ (List.mem_of_getElem? (i := 12) rfl)
theorem ld_w589 : Cond.code yX3_tell cX3_tell 4 (some .int) ∈ wsL_law := ld_in_25 _ (List.mem_of_getElem? (i := 13) rfl)
theorem ld_w590 : Cond.methodLink RX3 237 yX3_traced ∈ wsL_law := ld_in_25 _ (List.mem_of_getElem? (i := 14) rfl)
theorem ld_w591 : Cond.instanceMethod yX3_traced ∈ wsL_law := ld_in_25 _ (List.mem_of_getElem? (i := 15) rfl)
theorem ld_w592 : Cond.selects RX3 yX3_traced yX3_traced ∈ wsL_law := ld_in_25 _ (List.mem_of_getElem? (i := 16) rfl)
theorem ld_w593 : Cond.code yX3_traced cX3_traced 2 none ∈ wsL_law := ld_in_25 _ (List.mem_of_getElem? (i := 17) rfl)
theorem ld_w594 : Cond.fieldLink RX3 234 "LemonDealsModel" "traceNow" "I" ∈ wsL_law := ld_in_25 _ (List.mem_of_getElem? (i := 18) rfl)
theorem ld_w595 : Cond.methodLink RL 115 yX2_knock ∈ wsL_law := ld_in_25 _ (List.mem_of_getElem? (i := 19) rfl)
theorem ld_w596 : Cond.instanceMethod yX2_knock ∈ wsL_law := ld_in_25 _ (List.mem_of_getElem? (i := 20) rfl)
theorem ld_w597 : Cond.selects RX2 yX2_knock yX2_knock ∈ wsL_law := ld_in_25 _ (List.mem_of_getElem? (i := 21) rfl)
theorem ld_w598 : Cond.code yX2_knock cX2_knock 3 (some .int) ∈ wsL_law := ld_in_25 _ (List.mem_of_getElem? (i := 22) rfl)
theorem ld_w599 : Cond.methodLink RL 118 yX3_knock ∈ wsL_law := ld_in_25 _ (List.mem_of_getElem? (i := 23) rfl)
theorem ld_w600 : Cond.instanceMethod yX3_knock ∈ wsL_law := ld_in_26 _ (List.mem_of_getElem? (i := 0) rfl)
theorem ld_w601 : Cond.selects RX3 yX3_knock yX3_knock ∈ wsL_law := ld_in_26 _ (List.mem_of_getElem? (i := 1) rfl)
theorem ld_w602 : Cond.code yX3_knock cX3_knock 2 (some .int) ∈ wsL_law := ld_in_26 _ (List.mem_of_getElem? (i := 2) rfl)
theorem ld_w603 : Cond.methodLink RL 119 yX2_as ∈ wsL_law := ld_in_26 _ (List.mem_of_getElem? (i := 3) rfl)
theorem ld_w604 : Cond.instanceMethod yX2_as ∈ wsL_law := ld_in_26 _ (List.mem_of_getElem? (i := 4) rfl)
theorem ld_w605 : Cond.selects RX2 yX2_as yX2_as ∈ wsL_law := ld_in_26 _ (List.mem_of_getElem? (i := 5) rfl)
theorem ld_w606 : Cond.code yX2_as cX2_as 3 (some .int) ∈ wsL_law := ld_in_26 _ (List.mem_of_getElem? (i := 6) rfl)
theorem ld_w607 : Cond.methodLink RL 122 yX3_as ∈ wsL_law := ld_in_26 _ (List.mem_of_getElem? (i := 7) rfl)
theorem ld_w608 : Cond.instanceMethod yX3_as ∈ wsL_law := ld_in_26 _ (List.mem_of_getElem? (i := 8) rfl)
theorem ld_w609 : Cond.selects RX3 yX3_as yX3_as ∈ wsL_law := ld_in_26 _ (List.mem_of_getElem? (i := 9) rfl)
theorem ld_w610 : Cond.code yX3_as cX3_as 3 (some .int) ∈ wsL_law := ld_in_26 _ (List.mem_of_getElem? (i := 10) rfl)
theorem ld_w611 : Cond.methodLink RL 123 yX2_trace ∈ wsL_law := ld_in_26 _ (List.mem_of_getElem? (i := 11) rfl)
theorem ld_w612 : Cond.instanceMethod yX2_trace ∈ wsL_law := ld_in_26 _ (List.mem_of_getElem? (i := 12) rfl)
theorem ld_w613 : Cond.selects RX2 yX2_trace yX2_trace ∈ wsL_law := ld_in_26 _ (List.mem_of_getElem? (i := 13) rfl)
theorem ld_w614 : Cond.code yX2_trace cX2_trace 1 (some .int) ∈ wsL_law := ld_in_26 _ (List.mem_of_getElem? (i := 14) rfl)
theorem ld_w615 : Cond.methodLink RL 127 yX3_trace ∈ wsL_law := ld_in_26 _ (List.mem_of_getElem? (i := 15) rfl)
theorem ld_w616 : Cond.instanceMethod yX3_trace ∈ wsL_law := ld_in_26 _ (List.mem_of_getElem? (i := 16) rfl)
theorem ld_w617 : Cond.selects RX3 yX3_trace yX3_trace ∈ wsL_law := ld_in_26 _ (List.mem_of_getElem? (i := 17) rfl)
theorem ld_w618 : Cond.code yX3_trace cX3_trace 1 (some .int) ∈ wsL_law := ld_in_26 _ (List.mem_of_getElem? (i := 18) rfl)
theorem ld_w619 : Cond.methodLink RL 128 yX2_fault ∈ wsL_law := ld_in_26 _ (List.mem_of_getElem? (i := 19) rfl)
theorem ld_w620 : Cond.instanceMethod yX2_fault ∈ wsL_law := ld_in_26 _ (List.mem_of_getElem? (i := 20) rfl)
theorem ld_w621 : Cond.selects RX2 yX2_fault yX2_fault ∈ wsL_law := ld_in_26 _ (List.mem_of_getElem? (i := 21) rfl)
theorem ld_w622 : Cond.code yX2_fault cX2_fault 1 (some .int) ∈ wsL_law := ld_in_26 _ (List.mem_of_getElem? (i := 22) rfl)
theorem ld_w623 : Cond.methodLink RL 131 yX3_fault ∈ wsL_law := ld_in_26 _ (List.mem_of_getElem? (i := 23) rfl)
theorem ld_w624 : Cond.instanceMethod yX3_fault ∈ wsL_law := ld_in_27 _ (List.mem_of_getElem? (i := 0) rfl)
theorem ld_w625 : Cond.selects RX3 yX3_fault yX3_fault ∈ wsL_law := ld_in_27 _ (List.mem_of_getElem? (i := 1) rfl)
theorem ld_w626 : Cond.code yX3_fault cX3_fault 1 (some .int) ∈ wsL_law := ld_in_27 _ (List.mem_of_getElem? (i := 2) rfl)
theorem ld_w627 : Cond.methodLink RL 132 yX2_many ∈ wsL_law := ld_in_27 _ (List.mem_of_getElem? (i := 3) rfl)
theorem ld_w628 : Cond.instanceMethod yX2_many ∈ wsL_law := ld_in_27 _ (List.mem_of_getElem? (i := 4) rfl)
theorem ld_w629 : Cond.selects RX2 yX2_many yX2_many ∈ wsL_law := ld_in_27 _ (List.mem_of_getElem? (i := 5) rfl)
theorem ld_w630 : Cond.code yX2_many cX2_many 2 (some .int) ∈ wsL_law := ld_in_27 _ (List.mem_of_getElem? (i := 6) rfl)
theorem ld_w631 : Cond.methodLink RL 135 yX3_many ∈ wsL_law := ld_in_27 _ (List.mem_of_getElem? (i := 7) rfl)
theorem ld_w632 : Cond.instanceMethod yX3_many ∈ wsL_law := ld_in_27 _ (List.mem_of_getElem? (i := 8) rfl)
theorem ld_w633 : Cond.selects RX3 yX3_many yX3_many ∈ wsL_law := ld_in_27 _ (List.mem_of_getElem? (i := 9) rfl)
theorem ld_w634 : Cond.code yX3_many cX3_many 2 (some .int) ∈ wsL_law := ld_in_27 _ (List.mem_of_getElem? (i := 10) rfl)
set_option maxRecDepth 20000 in
theorem ld_good : GoodIn wsL_law wsL_law := goodIn_sub (fun _ h => h) (by decide +kernel)
end
section
/-! the world: one list of 47 cells, a function of one state σ (array id, place); int fields are arrays of ids from 100 on -/
abbrev ld_St : Type := Nat → Nat → Int32
abbrev ld_X : Type := va_G × ClassId × ClassId
abbrev ld_cl : List vw_C := [(RX0, TX0, 3), (RX1, TX1, 11), (RX2, TX2, 8), (RX3, TX3, 30)]
def ld_tys (X : ld_X) : List (ClassId × FieldType) := [(X.2.1, .int), (X.2.2, .object "LemonDeals$Sheet")]
def us (σ : ld_St) (a : Nat) (f : Nat → Int32) : ld_St := fun b => if b = a then f else σ b
theorem us_eq (σ : ld_St) (a : Nat) (f : Nat → Int32) : us σ a f a = f := if_pos rfl
theorem us_ne (σ : ld_St) {a b : Nat} (f : Nat → Int32) (h : b ≠ a) : us σ a f b = σ b := if_neg h
def ld_len (a : Nat) : Nat := if a < 16 then 8 else if a < 20 then 60 else if a < 34 then 8 else if a < 36 then 4 else if a = 36 then 240 else 60
def ld_ct (X : ld_X) (ad : Nat → Nat) (σ : ld_St) (i : Nat) : va_E :=
  if i = 0 then .inr (2, [.ref (ad 1), .ref (ad 2), .ref (ad 3), .ref (ad (9 + 14)), .ref (ad (9 + 15)), .int (σ 100 0), .int (σ 101 0), .int (σ 102 0)])
  else if i = 1 then .inr (1, [.int (σ 110 0), .int (σ 111 0), .int (σ 112 0), .int (σ 113 0), .ref (ad (9 + 0)), .ref (ad (9 + 1)), .ref (ad (9 + 2)), .ref (ad (9 + 3)), .ref (ad (9 + 4)), .ref (ad (9 + 5)), .ref (ad (9 + 6))])
  else if i = 2 then .inr (1, [.int (σ 120 0), .int (σ 121 0), .int (σ 122 0), .int (σ 123 0), .ref (ad (9 + 7)), .ref (ad (9 + 8)), .ref (ad (9 + 9)), .ref (ad (9 + 10)), .ref (ad (9 + 11)), .ref (ad (9 + 12)), .ref (ad (9 + 13))])
  else if i = 3 then .inl (X.2.2, 4, .inr (.inr (.inr (.inr (fun k => some (ad (4 + k)))))))
  else if i < 8 then .inr (0, [.ref (ad (9 + (16 + (i - 4)))), .int (σ 130 (i - 4)), .int (σ 131 (i - 4))])
  else if i = 8 then .inr (3, [.int (σ 140 0), .int (σ 141 0), .int (σ 142 0), .int (σ 143 0), .ref (ad (9 + 20)), .ref (ad (9 + 21)), .ref (ad (9 + 22)), .ref (ad (9 + 23)), .int (σ 144 0), .int (σ 145 0), .int (σ 146 0), .ref (ad (9 + 24)), .ref (ad (9 + 25)), .ref (ad (9 + 26)), .ref (ad (9 + 27)), .int (σ 147 0), .int (σ 148 0), .ref (ad (9 + 28)), .ref (ad (9 + 29)), .ref (ad (9 + 30)), .int (σ 149 0), .ref (ad (9 + 31)), .int (σ 150 0), .ref (ad (9 + 32)), .ref (ad (9 + 33)), .ref (ad (9 + 34)), .ref (ad (9 + 35)), .ref (ad (9 + 36)), .ref (ad (9 + 37)), .int (σ 151 0)])
  else .inl (X.2.1, ld_len (i - 9), .inl (σ (i - 9)))
def ld_G (X : ld_X) (ad : Nat → Nat) (σ : ld_St) : va_W := (List.range 47).map (fun i => (ad i, ld_ct X ad σ i))
theorem ld_at (X : ld_X) (ad : Nat → Nat) (σ : ld_St) {i : Nat} (hi : i < 47) : (ld_G X ad σ)[i]? = some (ad i, ld_ct X ad σ i) := by
  rw [ld_G, List.getElem?_map, List.getElem?_range hi]; rfl
theorem ld_at0 (X : ld_X) (ad : Nat → Nat) (σ : ld_St) : (ld_G X ad σ)[0]? = some (ad 0, .inr (2, [.ref (ad 1), .ref (ad 2), .ref (ad 3), .ref (ad (9 + 14)), .ref (ad (9 + 15)), .int (σ 100 0), .int (σ 101 0), .int (σ 102 0)])) := ld_at X ad σ (by decide)
theorem ld_at1 (X : ld_X) (ad : Nat → Nat) (σ : ld_St) : (ld_G X ad σ)[1]? = some (ad 1, .inr (1, [.int (σ 110 0), .int (σ 111 0), .int (σ 112 0), .int (σ 113 0), .ref (ad (9 + 0)), .ref (ad (9 + 1)), .ref (ad (9 + 2)), .ref (ad (9 + 3)), .ref (ad (9 + 4)), .ref (ad (9 + 5)), .ref (ad (9 + 6))])) := ld_at X ad σ (by decide)
theorem ld_at2 (X : ld_X) (ad : Nat → Nat) (σ : ld_St) : (ld_G X ad σ)[2]? = some (ad 2, .inr (1, [.int (σ 120 0), .int (σ 121 0), .int (σ 122 0), .int (σ 123 0), .ref (ad (9 + 7)), .ref (ad (9 + 8)), .ref (ad (9 + 9)), .ref (ad (9 + 10)), .ref (ad (9 + 11)), .ref (ad (9 + 12)), .ref (ad (9 + 13))])) := ld_at X ad σ (by decide)
theorem ld_at3 (X : ld_X) (ad : Nat → Nat) (σ : ld_St) : (ld_G X ad σ)[3]? = some (ad 3, .inl (X.2.2, 4, .inr (.inr (.inr (.inr (fun k => some (ad (4 + k)))))))) := ld_at X ad σ (by decide)
theorem ld_at8 (X : ld_X) (ad : Nat → Nat) (σ : ld_St) : (ld_G X ad σ)[8]? = some (ad 8, .inr (3, [.int (σ 140 0), .int (σ 141 0), .int (σ 142 0), .int (σ 143 0), .ref (ad (9 + 20)), .ref (ad (9 + 21)), .ref (ad (9 + 22)), .ref (ad (9 + 23)), .int (σ 144 0), .int (σ 145 0), .int (σ 146 0), .ref (ad (9 + 24)), .ref (ad (9 + 25)), .ref (ad (9 + 26)), .ref (ad (9 + 27)), .int (σ 147 0), .int (σ 148 0), .ref (ad (9 + 28)), .ref (ad (9 + 29)), .ref (ad (9 + 30)), .int (σ 149 0), .ref (ad (9 + 31)), .int (σ 150 0), .ref (ad (9 + 32)), .ref (ad (9 + 33)), .ref (ad (9 + 34)), .ref (ad (9 + 35)), .ref (ad (9 + 36)), .ref (ad (9 + 37)), .int (σ 151 0)])) := ld_at X ad σ (by decide)
theorem ld_atS (X : ld_X) (ad : Nat → Nat) (σ : ld_St) {k : Nat} (hk : k < 4) : (ld_G X ad σ)[4 + k]? = some (ad (4 + k), .inr (0, [.ref (ad (9 + (16 + k))), .int (σ 130 k), .int (σ 131 k)])) := by
  rw [ld_at X ad σ (show 4 + k < 47 by omega)]
  rcases (show k = 0 ∨ k = 1 ∨ k = 2 ∨ k = 3 by omega) with rfl | rfl | rfl | rfl <;> rfl
theorem ld_atA (X : ld_X) (ad : Nat → Nat) (σ : ld_St) {a : Nat} (ha : a < 38) : (ld_G X ad σ)[9 + a]? = some (ad (9 + a), .inl (X.2.1, ld_len a, .inl (σ a))) := by
  rw [ld_at X ad σ (show 9 + a < 47 by omega)]
  have h : 9 + a - 9 = a := by omega
  simp only [ld_ct, h, show ¬ 9 + a = 0 by omega, show ¬ 9 + a = 1 by omega, show ¬ 9 + a = 2 by omega, show ¬ 9 + a = 3 by omega, show ¬ 9 + a < 8 by omega, show ¬ 9 + a = 8 by omega, if_false]
theorem ld_set (X : ld_X) (ad : Nat → Nat) (σ σ2 : ld_St) {i : Nat} (hi : i < 47) {q : va_E} (h1 : ld_ct X ad σ2 i = q) (h2 : ∀ j, j < 47 → j ≠ i → ld_ct X ad σ2 j = ld_ct X ad σ j) : (ld_G X ad σ).set i (ad i, q) = ld_G X ad σ2 := by
  subst h1
  apply List.ext_getElem?
  intro j
  rw [List.getElem?_set]
  by_cases hj : j < 47
  · rw [ld_at X ad σ2 hj, ld_at X ad σ hj]
    by_cases hij : i = j
    · subst hij
      simp [ld_G, hi]
    · rw [if_neg hij, h2 j hj (fun h => hij h.symm)]
  · have n1 : (ld_G X ad σ)[j]? = none := by simp [ld_G]; omega
    have n2 : (ld_G X ad σ2)[j]? = none := by simp [ld_G]; omega
    rw [n1, n2, if_neg (by omega)]
/-- the contents depend on the ids alone -/
theorem ld_ct_A (X : ld_X) (ad : Nat → Nat) (σ : ld_St) (a : Nat) (f : Nat → Int32) (ha : a < 38) {j : Nat} (hj : j ≠ 9 + a) : ld_ct X ad (us σ a f) j = ld_ct X ad σ j := by
  have hn : ∀ b, 100 ≤ b → us σ a f b = σ b := fun b hb => us_ne σ f (by omega)
  have h9 : ¬ j < 9 → us σ a f (j - 9) = σ (j - 9) := fun h => us_ne σ f (by omega)
  unfold ld_ct
  by_cases h : j < 9
  · rw [hn 100 (by decide), hn 101 (by decide), hn 102 (by decide), hn 110 (by decide), hn 111 (by decide), hn 112 (by decide), hn 113 (by decide), hn 120 (by decide), hn 121 (by decide), hn 122 (by decide), hn 123 (by decide), hn 130 (by decide), hn 131 (by decide)]
    rw [hn 140 (by decide), hn 141 (by decide), hn 142 (by decide), hn 143 (by decide), hn 144 (by decide), hn 145 (by decide), hn 146 (by decide), hn 147 (by decide), hn 148 (by decide), hn 149 (by decide), hn 150 (by decide), hn 151 (by decide)]
    by_cases h0 : j = 0 <;> by_cases h1 : j = 1 <;> by_cases h2 : j = 2 <;> by_cases h3 : j = 3 <;> by_cases h4 : j < 8 <;> by_cases h8 : j = 8 <;> first | (exfalso; omega) | simp only [h0, h1, h2, h3, h4, h8, if_true, if_false]
  · simp only [show ¬ j = 0 by omega, show ¬ j = 1 by omega, show ¬ j = 2 by omega, show ¬ j = 3 by omega, show ¬ j < 8 by omega, show ¬ j = 8 by omega, if_false, h9 h]
theorem ld_setA (X : ld_X) (ad : Nat → Nat) (σ : ld_St) {a : Nat} (ha : a < 38) (f : Nat → Int32) : (ld_G X ad σ).set (9 + a) (ad (9 + a), .inl (X.2.1, ld_len a, .inl f)) = ld_G X ad (us σ a f) := by
  refine ld_set X ad σ _ (by omega) ?_ (fun j _ hj => ld_ct_A X ad σ a f ha hj)
  have h := (ld_at X ad (us σ a f) (show 9 + a < 47 by omega)).symm.trans (ld_atA X ad (us σ a f) ha)
  have h2 := congrArg Prod.snd (Option.some.inj h)
  rw [us_eq] at h2
  exact h2
theorem ld_ct_I (X : ld_X) (ad : Nat → Nat) (σ : ld_St) {a c : Nat} (f : Nat → Int32) (ha : 100 ≤ a) (hc : (a < 103 ∧ c = 0) ∨ (110 ≤ a ∧ a < 114 ∧ c = 1) ∨ (120 ≤ a ∧ a < 124 ∧ c = 2) ∨ (140 ≤ a ∧ c = 8)) {j : Nat} (hj47 : j < 47) (hj : j ≠ c) : ld_ct X ad (us σ a f) j = ld_ct X ad σ j := by
  have h9 : us σ a f (j - 9) = σ (j - 9) := us_ne σ f (by omega)
  have h0 : ∀ b, j = 0 → b < 103 → us σ a f b = σ b := fun b _ _ => us_ne σ f (by omega)
  have h1 : ∀ b, j = 1 → 110 ≤ b → b < 114 → us σ a f b = σ b := fun b _ _ _ => us_ne σ f (by omega)
  have h2 : ∀ b, j = 2 → 120 ≤ b → b < 124 → us σ a f b = σ b := fun b _ _ _ => us_ne σ f (by omega)
  have h8 : ∀ b, j = 8 → 140 ≤ b → us σ a f b = σ b := fun b _ _ => us_ne σ f (by omega)
  have h13 : ∀ b, 130 ≤ b → b < 132 → us σ a f b = σ b := fun b _ _ => us_ne σ f (by omega)
  unfold ld_ct
  rw [h13 130 (by decide) (by decide), h13 131 (by decide) (by decide)]
  by_cases e0 : j = 0
  · simp only [e0, if_true, h0 100 e0 (by decide), h0 101 e0 (by decide), h0 102 e0 (by decide)]
  by_cases e1 : j = 1
  · simp only [e1, if_true, if_false, h1 110 e1 (by decide) (by decide), h1 111 e1 (by decide) (by decide), h1 112 e1 (by decide) (by decide), h1 113 e1 (by decide) (by decide)]
    rfl
  by_cases e2 : j = 2
  · simp only [e2, if_true, if_false, h2 120 e2 (by decide) (by decide), h2 121 e2 (by decide) (by decide), h2 122 e2 (by decide) (by decide), h2 123 e2 (by decide) (by decide)]
    rfl
  by_cases e8 : j = 8
  · simp only [e8, if_true, if_false, h8 140 e8 (by decide), h8 141 e8 (by decide), h8 142 e8 (by decide), h8 143 e8 (by decide), h8 144 e8 (by decide), h8 145 e8 (by decide), h8 146 e8 (by decide), h8 147 e8 (by decide), h8 148 e8 (by decide), h8 149 e8 (by decide), h8 150 e8 (by decide), h8 151 e8 (by decide)]
    rfl
  simp only [e0, e1, e2, e8, if_false, h9]
theorem ld_ct_S (X : ld_X) (ad : Nat → Nat) (σ : ld_St) {a k : Nat} (v : Int32) (ha : a = 130 ∨ a = 131) {j : Nat} (hj47 : j < 47) (hj : j ≠ 4 + k) : ld_ct X ad (us σ a (upd (σ a) k v)) j = ld_ct X ad σ j := by
  have h9 : us σ a (upd (σ a) k v) (j - 9) = σ (j - 9) := us_ne σ _ (by omega)
  have hn : ∀ b, 100 ≤ b → b < 130 ∨ 131 < b → us σ a (upd (σ a) k v) b = σ b := fun b _ _ => us_ne σ _ (by omega)
  have hs : ∀ b, 4 ≤ j → us σ a (upd (σ a) k v) b (j - 4) = σ b (j - 4) := by
    intro b h4
    by_cases hb : b = a
    · subst hb
      rw [us_eq, pk_un (by omega)]
    · rw [us_ne σ _ hb]
  unfold ld_ct
  rw [hn 100 (by decide) (by decide), hn 101 (by decide) (by decide), hn 102 (by decide) (by decide), hn 110 (by decide) (by decide), hn 111 (by decide) (by decide), hn 112 (by decide) (by decide), hn 113 (by decide) (by decide), hn 120 (by decide) (by decide), hn 121 (by decide) (by decide), hn 122 (by decide) (by decide), hn 123 (by decide) (by decide), h9]
  rw [hn 140 (by decide) (by decide), hn 141 (by decide) (by decide), hn 142 (by decide) (by decide), hn 143 (by decide) (by decide), hn 144 (by decide) (by decide), hn 145 (by decide) (by decide), hn 146 (by decide) (by decide), hn 147 (by decide) (by decide), hn 148 (by decide) (by decide), hn 149 (by decide) (by decide), hn 150 (by decide) (by decide), hn 151 (by decide) (by decide)]
  by_cases h4 : 4 ≤ j
  · rw [hs 130 h4, hs 131 h4]
  · simp only [show j < 8 by omega, if_true]
    by_cases e0 : j = 0
    · simp only [e0, if_true]
    by_cases e1 : j = 1
    · simp only [e1, if_true, if_false]
    by_cases e2 : j = 2
    · simp only [e2, if_true, if_false]
    simp only [show j = 3 by omega, if_true]
/-! judgements -/
def ld_nws : List Cond := [.methodLinkNest RX2 13 yX1_init "LemonDeals", .fieldLinkNest RX2 74 "LemonDeals$Street" "houses" "I" "LemonDeals", .fieldLinkNest RX2 98 "LemonDeals$Street" "crate" "I" "LemonDeals", .fieldLinkNest RX2 199 "LemonDeals$Street" "week" "I" "LemonDeals", .fieldLinkNest RX2 221 "LemonDeals$Street" "leanWeeks" "I" "LemonDeals", .fieldLinkNest RX2 80 "LemonDeals$Street" "kind" "[I" "LemonDeals", .fieldLinkNest RX2 83 "LemonDeals$Street" "temper" "[I" "LemonDeals", .fieldLinkNest RX2 86 "LemonDeals$Street" "stock" "[I" "LemonDeals", .fieldLinkNest RX2 89 "LemonDeals$Street" "pips" "[I" "LemonDeals", .fieldLinkNest RX2 151 "LemonDeals$Street" "dealt" "[I" "LemonDeals", .methodLinkNest RX2 44 yX0_init "LemonDeals", .fieldLinkNest RX2 63 "LemonDeals$Sheet" "cells" "[I" "LemonDeals", .fieldLinkNest RX2 178 "LemonDeals$Sheet" "lane" "I" "LemonDeals", .fieldLinkNest RX2 169 "LemonDeals$Sheet" "length" "I" "LemonDeals", .methodLinkNest RX2 52 yX0_faultAs "LemonDeals", .methodLinkNest RX2 56 yX0_lacks "LemonDeals", .methodLinkNest RX2 70 yX1_beginByText "LemonDeals", .methodLinkNest RX1 52 yX2_kindByLetter "LemonDeals", .methodLinkNest RX2 92 yX1_treesOf "LemonDeals", .methodLinkNest RX2 95 yX1_sourOf "LemonDeals", .methodLinkNest RX2 101 yX1_dealtTo "LemonDeals", .methodLinkNest RX2 115 yX1_passWeeks "LemonDeals", .methodLinkNest RX2 119 yX1_withoutStock "LemonDeals", .methodLinkNest RX2 123 yX1_giveOneFrom "LemonDeals", .methodLinkNest RX2 132 yX1_becomeLike "LemonDeals", .methodLinkNest RX2 217 yX1_sumOf "LemonDeals", .methodLinkNest RX2 142 yX1_worstTemper "LemonDeals", .methodLinkNest RX2 224 yX1_dealOut "LemonDeals", .methodLinkNest RX2 148 yX1_dealOneByOne "LemonDeals", .methodLinkNest RX2 162 yX0_begin "LemonDeals", .methodLinkNest RX2 166 yX0_isThere "LemonDeals", .methodLinkNest RX2 172 yX0_hasCell "LemonDeals", .methodLinkNest RX2 175 yX0_cutToLane "LemonDeals"]
def ld_nOK : Cond → Bool | .fieldLinkNest _ _ _ _ _ _ => true | .methodLinkNest _ _ _ _ => true | _ => false
def ld_NW (U : State) : Prop := ∀ w ∈ ld_nws, va_Nw w U
theorem ld_NW_all : ∀ w ∈ ld_nws, ld_nOK w = true := by decide +kernel
theorem ld_NW.warm {s U : State} (hW : s.WarmedH U.vm) (h : ld_NW s) : ld_NW U := by
  intro w hw
  have h1 := h w hw
  have h2 := ld_NW_all w hw
  cases w <;> first | exact va_Nw.warmF hW h1 | exact va_Nw.warmM hW h1 | cases h2
theorem ld_NW.same {s U : State} (e : s.vm = U.vm) (h : ld_NW s) : ld_NW U := by
  intro w hw
  have h1 := h w hw
  have h2 := ld_NW_all w hw
  cases w <;> first | exact va_Nw.same rfl e h1 | cases h2
def ld_inj (ad : Nat → Nat) : Prop := ∀ i j, i < 47 → j < 47 → ad i = ad j → i = j
def ld_A (ad : Nat → Nat) (sz : Nat) : Nat → Prop := fun q => (∃ i, i < 47 ∧ q = ad i) ∨ sz ≤ q
theorem ld_D {A : Nat → Prop} {ad : Nat → Nat} (hi : ld_inj ad) (hA : ∀ i, i < 47 → A (ad i)) (X : ld_X) (σ : ld_St) : va_D A (ld_G X ad σ) := by
  have g : ∀ (k : Nat) (q : Nat × va_E), (ld_G X ad σ)[k]? = some q → k < 47 ∧ q.1 = ad k := by
    intro k q h
    have hk : k < 47 := by
      have h1 := (List.getElem?_eq_some_iff.mp h).1
      simpa [ld_G] using h1
    rw [ld_at X ad σ hk] at h
    exact ⟨hk, by rw [← Option.some.inj h]⟩
  refine ⟨fun i j p q h1 h2 h3 => ?_, fun k q h => ?_⟩
  · obtain ⟨a1, a2⟩ := g i p h1
    obtain ⟨b1, b2⟩ := g j q h2
    exact hi i j a1 b1 (by rw [← a2, ← b2, h3])
  · obtain ⟨a1, a2⟩ := g k q h
    rw [a2]
    exact hA k a1
def ld_Env (X : ld_X) (ad : Nat → Nat) (σ : ld_St) (U : State) : Prop := va_P X.1 ld_cl (ld_G X ad σ) U.heap ∧ va_K X.1 ld_cl (ld_tys X) U ∧ ld_NW U
def ld_Pc (X : ld_X) (ad : Nat → Nat) (σ : ld_St) (sz : Nat) (args : List Value) : Array Value → State → Prop := va_Pc args (fun U => U.heap.size = sz ∧ ld_Env X ad σ U)
def ld_Qc (X : ld_X) (ad : Nat → Nat) (sz : Nat) (P : Option Value → ld_St → Prop) : Array Value → State → Outcome → State → Prop := fun _ st oc t => (∃ (v : Option Value) (σ2 : ld_St), oc = .returned v ∧ P v σ2 ∧ va_P X.1 ld_cl (ld_G X ad σ2) t.heap) ∧ va_F (ld_A ad sz) st t
abbrev ld_ws (y : MethodName) (b : ByteArray) (n : Nat) (ret : Option FieldType) : List Cond := Cond.code y b n ret :: wsL_law
abbrev ld_rm (rm : Nat × Nat) : Room := { frames := rm.1, cells := 0, slots := 0, locals := rm.2 }
def ld_Ctr (l : Launch) (y : MethodName) (b : ByteArray) (n : Nat) (ret : Option FieldType) (rm : Nat × Nat) (args : List Value) (ad : Nat → Nat) (σ : ld_St) (P : Option Value → ld_St → Prop) : Prop :=
  ∀ (X : ld_X) (sz : Nat), ld_inj ad → Met l y (ld_ws y b n ret) (ld_rm rm) (ld_Pc X ad σ sz args) (ld_Qc X ad sz P) 0 0 (ld_A ad sz)
def ld_Ob (X : ld_X) (p : Program) (l : Launch) (e : Env) (R : Room) (s : State) (m : MethodId) (args : Array Value) (below : List Frame) (meth : Method) (c : Code) (cells slots : Nat) (A : Nat → Prop) (ad : Nat → Nat) (nL : Nat) (Q : State → Prop) : ld_St → List (Nat × Value) → List Value → Nat → Prop :=
  fun σ lv st pc => ∀ (H : Heap) (locs : List Loc) (ls : Array Slot), va_P X.1 ld_cl (ld_G X ad σ) H → va_S A s.heap H locs → lv_has ls nL lv → W p l e R s m args below meth c H locs cells slots Q (F0 m pc ls st)
def ld_Ok (l : Launch) (K : ld_St → List (Nat × Value) → List Value → Nat → Prop) (ad : Nat → Nat) (cc : ByteArray) (nL : Nat) (own : String) (R : Room) : Prop :=
  ∃ (X : ld_X) (p : Program) (e : Env) (s : State) (m : MethodId) (args : Array Value) (below : List Frame) (meth : Method) (c : Code) (cells slots : Nat) (A : Nat → Prop) (Q : State → Prop),
    p.tables.exec = Jvm.exec ∧ c.code = cc ∧ c.maxLocals = nL ∧ s.vm.findClass own = some m.cls ∧ (∀ w ∈ wsL_law, w.before args s = true) ∧ ld_inj ad ∧ va_K X.1 ld_cl (ld_tys X) s ∧ ld_NW s ∧ (∀ i, i < 47 → A (ad i)) ∧ (∀ q, s.heap.size ≤ q → A q) ∧ (cells ≤ R.cells ∧ slots ≤ R.slots) ∧ K = ld_Ob X p l e R s m args below meth c cells slots A ad nL Q
/-- the ends -/
def ld_Re (K : ld_St → List (Nat × Value) → List Value → Nat → Prop) (cc : ByteArray) (ret : Option FieldType) (P : Option Value → ld_St → Prop) : Prop :=
  (∀ (σ : ld_St) (lv : List (Nat × Value)) (v : Int32) (pc : Nat), decode cc pc = .ok (.ireturn, 1) → (∃ ty, ret = some ty ∧ narrow ty (.int v) = .int v) → P (some (.int v)) σ → K σ lv [.int v] pc) ∧
  (∀ (σ : ld_St) (lv : List (Nat × Value)) (v : Int64) (pc : Nat), decode cc pc = .ok (.lreturn, 1) → ret = some .long → P (some (.long v)) σ → K σ lv [.long v] pc) ∧
  (∀ (σ : ld_St) (lv : List (Nat × Value)) (pc : Nat), decode cc pc = .ok (.return_, 1) → ret = none → P none σ → K σ lv [] pc)
def ld_I (q : Int32 → ld_St → Prop) : Option Value → ld_St → Prop := fun v σ => ∃ r, v = some (.int r) ∧ q r σ
def ld_L (q : Int64 → ld_St → Prop) : Option Value → ld_St → Prop := fun v σ => ∃ r, v = some (.long r) ∧ q r σ
def ld_V (q : ld_St → Prop) : Option Value → ld_St → Prop := fun v σ => v = none ∧ q σ
/-- a contract out of a walk over an abstract K -/
theorem ld_entry {l : Launch} {y : MethodName} {b : ByteArray} {n : Nat} {ret : Option FieldType} {rm : Nat × Nat} {args : List Value} {ad : Nat → Nat} {σ : ld_St} {P : Option Value → ld_St → Prop} (hy : plainName y.cls = true) (hn : (lg_sl args).length ≤ n)
    (body : ∀ K : ld_St → List (Nat × Value) → List Value → Nat → Prop, ld_Ok l K ad b n y.cls (ld_rm rm) → ld_Re K b ret P → K σ (lv_args 0 args) [] 0) : ld_Ctr l y b n ret rm args ad σ P := by
  intro X sz hinj
  refine Met.ofW (cc := b) (maxL := n) (ret := ret) hy rfl ?_
  intro p e s m argv below meth c s₁ B hml hv
  obtain ⟨rfl, hsz, hP, hK, hN⟩ := hv
  have hx := B.exec
  have hb := B.bytes
  have hr := B.returns
  have hts0 := atoms_spec (ws := ld_ws y b n ret) B.pre
  have hts : ∀ w ∈ wsL_law, w.before args.toArray s = true := fun w hw => hts0 w (List.mem_cons_of_mem _ hw)
  have hown : s.vm.findClass y.cls = some m.cls := findClass_of_methodNamed B.named
  have hlocks := B.notSynchronized
  subst hsz
  have hA1 : ∀ i, i < 47 → ld_A ad s.heap.size (ad i) := fun i hi => Or.inl ⟨i, hi, rfl⟩
  have hA2 : ∀ q, s.heap.size ≤ q → ld_A ad s.heap.size q := fun q h => Or.inr h
  have hl := lv_entry args hn
  rw [lg_entry_eq]
  refine body (ld_Ob X p l e (ld_rm rm) s m args.toArray below meth c 0 0 (ld_A ad s.heap.size) ad n (MQ below (ld_Qc X ad s.heap.size P) args.toArray s 0 0 (ld_A ad s.heap.size))) ⟨X, p, e, s, m, args.toArray, below, meth, c, 0, 0, _, _, hx, hb, hml, hown, hts, hinj, hK, hN, hA1, hA2, ⟨Nat.le_refl _, Nat.le_refl _⟩, rfl⟩ ⟨?_, ?_, ?_⟩ s.heap [] _ hP va_S.rf hl
  · intro σ2 lv v pc hd hret hq H locs ls hP hS hl
    obtain ⟨ty, e1, e2⟩ := hret
    exact W.zret hx hb (hr.trans e1) e2 (fun t ht hW => ⟨⟨_, σ2, rfl, hq, by rw [ht]; exact hP⟩, hS.F ht⟩) hS.2.2 hd
  · intro σ2 lv v pc hd hret hq H locs ls hP hS hl
    exact W.lret hx hb (hr.trans hret) (fun t ht hW => ⟨⟨_, σ2, rfl, hq, by rw [ht]; exact hP⟩, hS.F ht⟩) hS.2.2 hd
  · intro σ2 lv pc hd hret hq H locs ls hP hS hl
    exact W.vret hx hb (hr.trans hret) (fun t ht hW => ⟨⟨_, σ2, rfl, hq, by rw [ht]; exact hP⟩, hS.F ht⟩) hS.2.2 hd
end
section
theorem ld_wS_max : Cond.static Lib.Math.max.name ∈ wsL_law := ld_w269
theorem ld_wC_max : Cond.code Lib.Math.max.name Lib.Math.max.code 2 (some .int) ∈ wsL_law := ld_w270
theorem ld_wS_min : Cond.static Lib.Math.min.name ∈ wsL_law := ld_w109
theorem ld_wC_min : Cond.code Lib.Math.min.name Lib.Math.min.code 2 (some .int) ∈ wsL_law := ld_w111
theorem ld_wS_abs : Cond.static Lib.Math.abs.name ∈ wsL_law := ld_w427
theorem ld_wC_abs : Cond.code Lib.Math.abs.name Lib.Math.abs.code 1 (some .int) ∈ wsL_law := ld_w428
theorem ld_wI_math : Cond.initialized "java/lang/Math" ∈ wsL_law := ld_w110
section RUL
variable {l : Launch} {K : ld_St → List (Nat × Value) → List Value → Nat → Prop} {ad : Nat → Nat} {cc : ByteArray} {nL : Nat} {own : String} {R : Room}
variable {σ : ld_St} {lv : List (Nat × Value)} {st : List Value} {pc : Nat}
theorem ld_iconst (O : ld_Ok l K ad cc nL own R) {n : Int} {v : Int32} (hd : decode cc pc = .ok (.iconst n, 1)) (hv : Int32.ofInt n = v) (k : K σ lv (.int v :: st) (pc + 1)) : K σ lv (st) pc := by
  obtain ⟨X, p, e, s, m, args, below, meth, c, cells, slots, A, Q, hx, hb, hml, hown, hts, hinj, hK, hN, hA1, hA2, hR, rfl⟩ := O
  intro H locs ls hP hS hl
  exact lv_iconst hx hb hd hv (k H locs ls hP hS hl)
theorem ld_bipush (O : ld_Ok l K ad cc nL own R) {n : Int} {v : Int32} (hd : decode cc pc = .ok (.bipush n, 2)) (hv : (Int8.ofInt n).toInt32 = v) (k : K σ lv (.int v :: st) (pc + 2)) : K σ lv (st) pc := by
  obtain ⟨X, p, e, s, m, args, below, meth, c, cells, slots, A, Q, hx, hb, hml, hown, hts, hinj, hK, hN, hA1, hA2, hR, rfl⟩ := O
  intro H locs ls hP hS hl
  exact lv_bipush hx hb hd hv (k H locs ls hP hS hl)
theorem ld_sipush (O : ld_Ok l K ad cc nL own R) {n : Int} {v : Int32} (hd : decode cc pc = .ok (.sipush n, 3)) (hv : (Int16.ofInt n).toInt32 = v) (k : K σ lv (.int v :: st) (pc + 3)) : K σ lv (st) pc := by
  obtain ⟨X, p, e, s, m, args, below, meth, c, cells, slots, A, Q, hx, hb, hml, hown, hts, hinj, hK, hN, hA1, hA2, hR, rfl⟩ := O
  intro H locs ls hP hS hl
  exact lv_sipush hx hb hd hv (k H locs ls hP hS hl)
theorem ld_lconst (O : ld_Ok l K ad cc nL own R) {n : Fin 2} {v : Int64} (hd : decode cc pc = .ok (.lconst n, 1)) (hv : Int64.ofNat (n : Nat) = v) (k : K σ lv (.long v :: st) (pc + 1)) : K σ lv (st) pc := by
  obtain ⟨X, p, e, s, m, args, below, meth, c, cells, slots, A, Q, hx, hb, hml, hown, hts, hinj, hK, hN, hA1, hA2, hR, rfl⟩ := O
  intro H locs ls hP hS hl
  exact lv_lconst hx hb hd hv (k H locs ls hP hS hl)
theorem ld_ldc2 (O : ld_Ok l K ad cc nL own R) {ix : Nat} {v : Int64} (hd : decode cc pc = .ok (.ldc2_w ix, 3)) (hw : Cond.constantLong own ix v ∈ wsL_law) (k : K σ lv (.long v :: st) (pc + 3)) : K σ lv (st) pc := by
  obtain ⟨X, p, e, s, m, args, below, meth, c, cells, slots, A, Q, hx, hb, hml, hown, hts, hinj, hK, hN, hA1, hA2, hR, rfl⟩ := O
  intro H locs ls hP hS hl
  exact lv_ldc2 hx hb hown (hts _ hw) hd (k H locs ls hP hS hl)
theorem ld_iload_n (O : ld_Ok l K ad cc nL own R) (q : Nat) {n : Fin 4} {i : Nat} {x : Int32} (hd : decode cc pc = .ok (.iload_n n, 1)) (hi : (n : Nat) = i) (hq : lv[q]? = some (i, .int x)) (k : K σ lv (.int x :: st) (pc + 1)) : K σ lv (st) pc := by
  obtain ⟨X, p, e, s, m, args, below, meth, c, cells, slots, A, Q, hx, hb, hml, hown, hts, hinj, hK, hN, hA1, hA2, hR, rfl⟩ := O
  intro H locs ls hP hS hl
  exact lv_iload_n hx hb hd hi (lv_at hl q hq) (k H locs ls hP hS hl)
theorem ld_iload (O : ld_Ok l K ad cc nL own R) (q : Nat) {i : Nat} {x : Int32} (hd : decode cc pc = .ok (.iload i, 2)) (hq : lv[q]? = some (i, .int x)) (k : K σ lv (.int x :: st) (pc + 2)) : K σ lv (st) pc := by
  obtain ⟨X, p, e, s, m, args, below, meth, c, cells, slots, A, Q, hx, hb, hml, hown, hts, hinj, hK, hN, hA1, hA2, hR, rfl⟩ := O
  intro H locs ls hP hS hl
  exact lv_iload hx hb hd (lv_at hl q hq) (k H locs ls hP hS hl)
theorem ld_lload_n (O : ld_Ok l K ad cc nL own R) (q : Nat) {n : Fin 4} {i : Nat} {x : Int64} (hd : decode cc pc = .ok (.lload_n n, 1)) (hi : (n : Nat) = i) (hq : lv[q]? = some (i, .long x)) (k : K σ lv (.long x :: st) (pc + 1)) : K σ lv (st) pc := by
  obtain ⟨X, p, e, s, m, args, below, meth, c, cells, slots, A, Q, hx, hb, hml, hown, hts, hinj, hK, hN, hA1, hA2, hR, rfl⟩ := O
  intro H locs ls hP hS hl
  exact lv_lload_n hx hb hd hi (lv_at hl q hq) (k H locs ls hP hS hl)
theorem ld_lload (O : ld_Ok l K ad cc nL own R) (q : Nat) {i : Nat} {x : Int64} (hd : decode cc pc = .ok (.lload i, 2)) (hq : lv[q]? = some (i, .long x)) (k : K σ lv (.long x :: st) (pc + 2)) : K σ lv (st) pc := by
  obtain ⟨X, p, e, s, m, args, below, meth, c, cells, slots, A, Q, hx, hb, hml, hown, hts, hinj, hK, hN, hA1, hA2, hR, rfl⟩ := O
  intro H locs ls hP hS hl
  exact lv_lload hx hb hd (lv_at hl q hq) (k H locs ls hP hS hl)
theorem ld_aload_n (O : ld_Ok l K ad cc nL own R) (q : Nat) {n : Fin 4} {i : Nat} {x : Nat} (hd : decode cc pc = .ok (.aload_n n, 1)) (hi : (n : Nat) = i) (hq : lv[q]? = some (i, .ref x)) (k : K σ lv (.ref x :: st) (pc + 1)) : K σ lv (st) pc := by
  obtain ⟨X, p, e, s, m, args, below, meth, c, cells, slots, A, Q, hx, hb, hml, hown, hts, hinj, hK, hN, hA1, hA2, hR, rfl⟩ := O
  intro H locs ls hP hS hl
  exact lv_aload_n hx hb hd hi (lv_at hl q hq) (k H locs ls hP hS hl)
theorem ld_aload (O : ld_Ok l K ad cc nL own R) (q : Nat) {i : Nat} {x : Nat} (hd : decode cc pc = .ok (.aload i, 2)) (hq : lv[q]? = some (i, .ref x)) (k : K σ lv (.ref x :: st) (pc + 2)) : K σ lv (st) pc := by
  obtain ⟨X, p, e, s, m, args, below, meth, c, cells, slots, A, Q, hx, hb, hml, hown, hts, hinj, hK, hN, hA1, hA2, hR, rfl⟩ := O
  intro H locs ls hP hS hl
  exact lv_aload hx hb hd (lv_at hl q hq) (k H locs ls hP hS hl)
theorem ld_istore_n (O : ld_Ok l K ad cc nL own R) (lv2 : List (Nat × Value)) {n : Fin 4} {i : Nat} {x : Int32} (hd : decode cc pc = .ok (.istore_n n, 1)) (hi : (n : Nat) = i) (hn : i < nL) (hf : (i, Value.int x) :: lv.filter (fun q => !(q.1 == i) && !(q.1 + 1 == i && q.2.category == 2)) = lv2) (k : K σ lv2 st (pc + 1)) : K σ lv (.int x :: st) pc := by
  obtain ⟨X, p, e, s, m, args, below, meth, c, cells, slots, A, Q, hx, hb, hml, hown, hts, hinj, hK, hN, hA1, hA2, hR, rfl⟩ := O
  intro H locs ls hP hS hl
  exact lv_istore_n hx hb hd hi hl hn hf (fun ls hl => k H locs ls hP hS hl)
theorem ld_istore (O : ld_Ok l K ad cc nL own R) (lv2 : List (Nat × Value)) {i : Nat} {x : Int32} (hd : decode cc pc = .ok (.istore i, 2)) (hn : i < nL) (hf : (i, Value.int x) :: lv.filter (fun q => !(q.1 == i) && !(q.1 + 1 == i && q.2.category == 2)) = lv2) (k : K σ lv2 st (pc + 2)) : K σ lv (.int x :: st) pc := by
  obtain ⟨X, p, e, s, m, args, below, meth, c, cells, slots, A, Q, hx, hb, hml, hown, hts, hinj, hK, hN, hA1, hA2, hR, rfl⟩ := O
  intro H locs ls hP hS hl
  exact lv_istore hx hb hd hl hn hf (fun ls hl => k H locs ls hP hS hl)
theorem ld_lstore_n (O : ld_Ok l K ad cc nL own R) (lv2 : List (Nat × Value)) {n : Fin 4} {i : Nat} {x : Int64} (hd : decode cc pc = .ok (.lstore_n n, 1)) (hi : (n : Nat) = i) (hn : i + 1 < nL) (hf : (i, Value.long x) :: lv.filter (fun q => !(q.1 == i) && (!(q.1 == i + 1) && !(q.1 + 1 == i && q.2.category == 2))) = lv2) (k : K σ lv2 st (pc + 1)) : K σ lv (.long x :: st) pc := by
  obtain ⟨X, p, e, s, m, args, below, meth, c, cells, slots, A, Q, hx, hb, hml, hown, hts, hinj, hK, hN, hA1, hA2, hR, rfl⟩ := O
  intro H locs ls hP hS hl
  exact lv_lstore_n hx hb hd hi hl hn hf (fun ls hl => k H locs ls hP hS hl)
theorem ld_lstore (O : ld_Ok l K ad cc nL own R) (lv2 : List (Nat × Value)) {i : Nat} {x : Int64} (hd : decode cc pc = .ok (.lstore i, 2)) (hn : i + 1 < nL) (hf : (i, Value.long x) :: lv.filter (fun q => !(q.1 == i) && (!(q.1 == i + 1) && !(q.1 + 1 == i && q.2.category == 2))) = lv2) (k : K σ lv2 st (pc + 2)) : K σ lv (.long x :: st) pc := by
  obtain ⟨X, p, e, s, m, args, below, meth, c, cells, slots, A, Q, hx, hb, hml, hown, hts, hinj, hK, hN, hA1, hA2, hR, rfl⟩ := O
  intro H locs ls hP hS hl
  exact lv_lstore hx hb hd hl hn hf (fun ls hl => k H locs ls hP hS hl)
theorem ld_astore_n (O : ld_Ok l K ad cc nL own R) (lv2 : List (Nat × Value)) {n : Fin 4} {i : Nat} {x : Nat} (hd : decode cc pc = .ok (.astore_n n, 1)) (hi : (n : Nat) = i) (hn : i < nL) (hf : (i, Value.ref x) :: lv.filter (fun q => !(q.1 == i) && !(q.1 + 1 == i && q.2.category == 2)) = lv2) (k : K σ lv2 st (pc + 1)) : K σ lv (.ref x :: st) pc := by
  obtain ⟨X, p, e, s, m, args, below, meth, c, cells, slots, A, Q, hx, hb, hml, hown, hts, hinj, hK, hN, hA1, hA2, hR, rfl⟩ := O
  intro H locs ls hP hS hl
  exact lv_astore_n hx hb hd hi hl hn hf (fun ls hl => k H locs ls hP hS hl)
theorem ld_astore (O : ld_Ok l K ad cc nL own R) (lv2 : List (Nat × Value)) {i : Nat} {x : Nat} (hd : decode cc pc = .ok (.astore i, 2)) (hn : i < nL) (hf : (i, Value.ref x) :: lv.filter (fun q => !(q.1 == i) && !(q.1 + 1 == i && q.2.category == 2)) = lv2) (k : K σ lv2 st (pc + 2)) : K σ lv (.ref x :: st) pc := by
  obtain ⟨X, p, e, s, m, args, below, meth, c, cells, slots, A, Q, hx, hb, hml, hown, hts, hinj, hK, hN, hA1, hA2, hR, rfl⟩ := O
  intro H locs ls hP hS hl
  exact lv_astore hx hb hd hl hn hf (fun ls hl => k H locs ls hP hS hl)
theorem ld_iinc (O : ld_Ok l K ad cc nL own R) (lv2 : List (Nat × Value)) (q : Nat) {i : Nat} {n : Int} {x v : Int32} (hd : decode cc pc = .ok (.iinc i n, 3)) (hq : lv[q]? = some (i, .int x)) (hv : x + Int32.ofInt n = v) (hn : i < nL) (hf : (i, Value.int v) :: lv.filter (fun q => !(q.1 == i) && !(q.1 + 1 == i && q.2.category == 2)) = lv2) (k : K σ lv2 st (pc + 3)) : K σ lv st pc := by
  obtain ⟨X, p, e, s, m, args, below, meth, c, cells, slots, A, Q, hx, hb, hml, hown, hts, hinj, hK, hN, hA1, hA2, hR, rfl⟩ := O
  intro H locs ls hP hS hl
  exact lv_iinc hx hb hd hl hq hv hn hf (fun ls hl => k H locs ls hP hS hl)
theorem ld_iadd (O : ld_Ok l K ad cc nL own R) {x y : Int32} (hd : decode cc pc = .ok (.iadd, 1)) (k : K σ lv (.int (x + y) :: st) (pc + 1)) : K σ lv (.int y :: .int x :: st) pc := by
  obtain ⟨X, p, e, s, m, args, below, meth, c, cells, slots, A, Q, hx, hb, hml, hown, hts, hinj, hK, hN, hA1, hA2, hR, rfl⟩ := O
  intro H locs ls hP hS hl
  exact lv_iadd hx hb hd (k H locs ls hP hS hl)
theorem ld_isub (O : ld_Ok l K ad cc nL own R) {x y : Int32} (hd : decode cc pc = .ok (.isub, 1)) (k : K σ lv (.int (x - y) :: st) (pc + 1)) : K σ lv (.int y :: .int x :: st) pc := by
  obtain ⟨X, p, e, s, m, args, below, meth, c, cells, slots, A, Q, hx, hb, hml, hown, hts, hinj, hK, hN, hA1, hA2, hR, rfl⟩ := O
  intro H locs ls hP hS hl
  exact lv_isub hx hb hd (k H locs ls hP hS hl)
theorem ld_imul (O : ld_Ok l K ad cc nL own R) {x y : Int32} (hd : decode cc pc = .ok (.imul, 1)) (k : K σ lv (.int (x * y) :: st) (pc + 1)) : K σ lv (.int y :: .int x :: st) pc := by
  obtain ⟨X, p, e, s, m, args, below, meth, c, cells, slots, A, Q, hx, hb, hml, hown, hts, hinj, hK, hN, hA1, hA2, hR, rfl⟩ := O
  intro H locs ls hP hS hl
  exact lv_imul hx hb hd (k H locs ls hP hS hl)
theorem ld_iand (O : ld_Ok l K ad cc nL own R) {x y : Int32} (hd : decode cc pc = .ok (.iand, 1)) (k : K σ lv (.int (x &&& y) :: st) (pc + 1)) : K σ lv (.int y :: .int x :: st) pc := by
  obtain ⟨X, p, e, s, m, args, below, meth, c, cells, slots, A, Q, hx, hb, hml, hown, hts, hinj, hK, hN, hA1, hA2, hR, rfl⟩ := O
  intro H locs ls hP hS hl
  exact lv_iand hx hb hd (k H locs ls hP hS hl)
theorem ld_ior (O : ld_Ok l K ad cc nL own R) {x y : Int32} (hd : decode cc pc = .ok (.ior, 1)) (k : K σ lv (.int (x ||| y) :: st) (pc + 1)) : K σ lv (.int y :: .int x :: st) pc := by
  obtain ⟨X, p, e, s, m, args, below, meth, c, cells, slots, A, Q, hx, hb, hml, hown, hts, hinj, hK, hN, hA1, hA2, hR, rfl⟩ := O
  intro H locs ls hP hS hl
  exact lv_ior hx hb hd (k H locs ls hP hS hl)
theorem ld_idiv (O : ld_Ok l K ad cc nL own R) {x y : Int32} (hd : decode cc pc = .ok (.idiv, 1)) (hne : ¬ y = 0) (k : K σ lv (.int (x / y) :: st) (pc + 1)) : K σ lv (.int y :: .int x :: st) pc := by
  obtain ⟨X, p, e, s, m, args, below, meth, c, cells, slots, A, Q, hx, hb, hml, hown, hts, hinj, hK, hN, hA1, hA2, hR, rfl⟩ := O
  intro H locs ls hP hS hl
  exact lv_idiv hx hb hd hne (k H locs ls hP hS hl)
theorem ld_irem (O : ld_Ok l K ad cc nL own R) {x y : Int32} (hd : decode cc pc = .ok (.irem, 1)) (hne : ¬ y = 0) (k : K σ lv (.int (x - x / y * y) :: st) (pc + 1)) : K σ lv (.int y :: .int x :: st) pc := by
  obtain ⟨X, p, e, s, m, args, below, meth, c, cells, slots, A, Q, hx, hb, hml, hown, hts, hinj, hK, hN, hA1, hA2, hR, rfl⟩ := O
  intro H locs ls hP hS hl
  exact lv_irem hx hb hd hne (k H locs ls hP hS hl)
theorem ld_ishl (O : ld_Ok l K ad cc nL own R) {x y : Int32} (hd : decode cc pc = .ok (.ishl, 1)) (k : K σ lv (.int (x <<< (y &&& 31)) :: st) (pc + 1)) : K σ lv (.int y :: .int x :: st) pc := by
  obtain ⟨X, p, e, s, m, args, below, meth, c, cells, slots, A, Q, hx, hb, hml, hown, hts, hinj, hK, hN, hA1, hA2, hR, rfl⟩ := O
  intro H locs ls hP hS hl
  exact lv_ishl hx hb hd (k H locs ls hP hS hl)
theorem ld_ishr (O : ld_Ok l K ad cc nL own R) {x y : Int32} (hd : decode cc pc = .ok (.ishr, 1)) (k : K σ lv (.int (x >>> (y &&& 31)) :: st) (pc + 1)) : K σ lv (.int y :: .int x :: st) pc := by
  obtain ⟨X, p, e, s, m, args, below, meth, c, cells, slots, A, Q, hx, hb, hml, hown, hts, hinj, hK, hN, hA1, hA2, hR, rfl⟩ := O
  intro H locs ls hP hS hl
  exact lv_ishr hx hb hd (k H locs ls hP hS hl)
theorem ld_ineg (O : ld_Ok l K ad cc nL own R) {x : Int32} (hd : decode cc pc = .ok (.ineg, 1)) (k : K σ lv (.int (-x) :: st) (pc + 1)) : K σ lv (.int x :: st) pc := by
  obtain ⟨X, p, e, s, m, args, below, meth, c, cells, slots, A, Q, hx, hb, hml, hown, hts, hinj, hK, hN, hA1, hA2, hR, rfl⟩ := O
  intro H locs ls hP hS hl
  exact lv_ineg hx hb hd (k H locs ls hP hS hl)
theorem ld_ladd (O : ld_Ok l K ad cc nL own R) {x y : Int64} (hd : decode cc pc = .ok (.ladd, 1)) (k : K σ lv (.long (x + y) :: st) (pc + 1)) : K σ lv (.long y :: .long x :: st) pc := by
  obtain ⟨X, p, e, s, m, args, below, meth, c, cells, slots, A, Q, hx, hb, hml, hown, hts, hinj, hK, hN, hA1, hA2, hR, rfl⟩ := O
  intro H locs ls hP hS hl
  exact lv_ladd hx hb hd (k H locs ls hP hS hl)
theorem ld_lsub (O : ld_Ok l K ad cc nL own R) {x y : Int64} (hd : decode cc pc = .ok (.lsub, 1)) (k : K σ lv (.long (x - y) :: st) (pc + 1)) : K σ lv (.long y :: .long x :: st) pc := by
  obtain ⟨X, p, e, s, m, args, below, meth, c, cells, slots, A, Q, hx, hb, hml, hown, hts, hinj, hK, hN, hA1, hA2, hR, rfl⟩ := O
  intro H locs ls hP hS hl
  exact lv_lsub hx hb hd (k H locs ls hP hS hl)
theorem ld_lmul (O : ld_Ok l K ad cc nL own R) {x y : Int64} (hd : decode cc pc = .ok (.lmul, 1)) (k : K σ lv (.long (x * y) :: st) (pc + 1)) : K σ lv (.long y :: .long x :: st) pc := by
  obtain ⟨X, p, e, s, m, args, below, meth, c, cells, slots, A, Q, hx, hb, hml, hown, hts, hinj, hK, hN, hA1, hA2, hR, rfl⟩ := O
  intro H locs ls hP hS hl
  exact lv_lmul hx hb hd (k H locs ls hP hS hl)
theorem ld_ldiv (O : ld_Ok l K ad cc nL own R) {x y : Int64} (hd : decode cc pc = .ok (.ldiv, 1)) (hne : ¬ y = 0) (k : K σ lv (.long (x / y) :: st) (pc + 1)) : K σ lv (.long y :: .long x :: st) pc := by
  obtain ⟨X, p, e, s, m, args, below, meth, c, cells, slots, A, Q, hx, hb, hml, hown, hts, hinj, hK, hN, hA1, hA2, hR, rfl⟩ := O
  intro H locs ls hP hS hl
  exact lv_ldiv hx hb hd hne (k H locs ls hP hS hl)
theorem ld_lrem (O : ld_Ok l K ad cc nL own R) {x y : Int64} (hd : decode cc pc = .ok (.lrem, 1)) (hne : ¬ y = 0) (k : K σ lv (.long (x - x / y * y) :: st) (pc + 1)) : K σ lv (.long y :: .long x :: st) pc := by
  obtain ⟨X, p, e, s, m, args, below, meth, c, cells, slots, A, Q, hx, hb, hml, hown, hts, hinj, hK, hN, hA1, hA2, hR, rfl⟩ := O
  intro H locs ls hP hS hl
  exact lv_lrem hx hb hd hne (k H locs ls hP hS hl)
theorem ld_i2l (O : ld_Ok l K ad cc nL own R) {x : Int32} (hd : decode cc pc = .ok (.i2l, 1)) (k : K σ lv (.long x.toInt64 :: st) (pc + 1)) : K σ lv (.int x :: st) pc := by
  obtain ⟨X, p, e, s, m, args, below, meth, c, cells, slots, A, Q, hx, hb, hml, hown, hts, hinj, hK, hN, hA1, hA2, hR, rfl⟩ := O
  intro H locs ls hP hS hl
  exact lv_i2l hx hb hd rfl (k H locs ls hP hS hl)
theorem ld_i2b (O : ld_Ok l K ad cc nL own R) {x : Int32} (hd : decode cc pc = .ok (.i2b, 1)) (k : K σ lv (.int x.toInt8.toInt32 :: st) (pc + 1)) : K σ lv (.int x :: st) pc := by
  obtain ⟨X, p, e, s, m, args, below, meth, c, cells, slots, A, Q, hx, hb, hml, hown, hts, hinj, hK, hN, hA1, hA2, hR, rfl⟩ := O
  intro H locs ls hP hS hl
  exact lv_i2b hx hb hd rfl (k H locs ls hP hS hl)
theorem ld_i2s (O : ld_Ok l K ad cc nL own R) {x : Int32} (hd : decode cc pc = .ok (.i2s, 1)) (k : K σ lv (.int x.toInt16.toInt32 :: st) (pc + 1)) : K σ lv (.int x :: st) pc := by
  obtain ⟨X, p, e, s, m, args, below, meth, c, cells, slots, A, Q, hx, hb, hml, hown, hts, hinj, hK, hN, hA1, hA2, hR, rfl⟩ := O
  intro H locs ls hP hS hl
  exact lv_i2s hx hb hd rfl (k H locs ls hP hS hl)
theorem ld_lcmp (O : ld_Ok l K ad cc nL own R) {x y : Int64} (hd : decode cc pc = .ok (.lcmp, 1)) (k : K σ lv (.int (lg_cmp x y) :: st) (pc + 1)) : K σ lv (.long y :: .long x :: st) pc := by
  obtain ⟨X, p, e, s, m, args, below, meth, c, cells, slots, A, Q, hx, hb, hml, hown, hts, hinj, hK, hN, hA1, hA2, hR, rfl⟩ := O
  intro H locs ls hP hS hl
  exact W.lcmp hx hb hd (k H locs ls hP hS hl)
theorem ld_dup (O : ld_Ok l K ad cc nL own R) {a : Value} (hd : decode cc pc = .ok (.dup, 1)) (ha : a.category = 1) (k : K σ lv (a :: a :: st) (pc + 1)) : K σ lv (a :: st) pc := by
  obtain ⟨X, p, e, s, m, args, below, meth, c, cells, slots, A, Q, hx, hb, hml, hown, hts, hinj, hK, hN, hA1, hA2, hR, rfl⟩ := O
  intro H locs ls hP hS hl
  exact lv_dup hx hb hd ha (k H locs ls hP hS hl)
theorem ld_dup2 (O : ld_Ok l K ad cc nL own R) {a b : Value} (hd : decode cc pc = .ok (.dup2, 1)) (ha : a.category = 1) (hb1 : b.category = 1) (k : K σ lv (a :: b :: a :: b :: st) (pc + 1)) : K σ lv (a :: b :: st) pc := by
  obtain ⟨X, p, e, s, m, args, below, meth, c, cells, slots, A, Q, hx, hb, hml, hown, hts, hinj, hK, hN, hA1, hA2, hR, rfl⟩ := O
  intro H locs ls hP hS hl
  exact lv_dup2_11 hx hb hd ha hb1 (k H locs ls hP hS hl)
theorem ld_zi : (0 : Int32).toInt = 0 := by decide
theorem ld_if_eq (O : ld_Ok l K ad cc nL own R) {x : Int32} (X : Int) (hx : x.toInt = X) {off : Int} (tgt : Nat) (hd : decode cc pc = .ok (.ifCond .eq off, 3)) (ht : (pc : Int) + off = (tgt : Int)) (kt : X = 0 → K σ lv st tgt) (kf : ¬ X = 0 → K σ lv st (pc + 3)) : K σ lv (.int x :: st) pc := by
  subst hx
  have hc : (x = (0 : Int32)) ↔ (x.toInt = 0) := by
    have h := (Int32.toInt_inj.symm : (x = (0 : Int32)) ↔ (x.toInt = (0 : Int32).toInt))
    rw [ld_zi] at h
    exact h
  obtain ⟨X, p, e, s, m, args, below, meth, c, cells, slots, A, Q, hxx, hb, hml, hown, hts, hinj, hK, hN, hA1, hA2, hR, rfl⟩ := O
  intro H locs ls hP hS hl
  exact lv_if_eq hxx hb hd ht (fun q => kt (hc.mp q) H locs ls hP hS hl) (fun q => kf (fun z => q (hc.mpr z)) H locs ls hP hS hl)
theorem ld_icmp_eq (O : ld_Ok l K ad cc nL own R) {x y : Int32} (X Y : Int) (hx : x.toInt = X) (hy : y.toInt = Y) {off : Int} (tgt : Nat) (hd : decode cc pc = .ok (.if_icmp .eq off, 3)) (ht : (pc : Int) + off = (tgt : Int)) (kt : X = Y → K σ lv st tgt) (kf : ¬ X = Y → K σ lv st (pc + 3)) : K σ lv (.int y :: .int x :: st) pc := by
  subst hx; subst hy
  have hc : (x = y) ↔ (x.toInt = y.toInt) := Int32.toInt_inj.symm
  obtain ⟨X, p, e, s, m, args, below, meth, c, cells, slots, A, Q, hxx, hb, hml, hown, hts, hinj, hK, hN, hA1, hA2, hR, rfl⟩ := O
  intro H locs ls hP hS hl
  exact lv_icmp_eq hxx hb hd ht (fun q => kt (hc.mp q) H locs ls hP hS hl) (fun q => kf (fun z => q (hc.mpr z)) H locs ls hP hS hl)
theorem ld_if_ne (O : ld_Ok l K ad cc nL own R) {x : Int32} (X : Int) (hx : x.toInt = X) {off : Int} (tgt : Nat) (hd : decode cc pc = .ok (.ifCond .ne off, 3)) (ht : (pc : Int) + off = (tgt : Int)) (kt : ¬ X = 0 → K σ lv st tgt) (kf : X = 0 → K σ lv st (pc + 3)) : K σ lv (.int x :: st) pc := by
  subst hx
  have hc : (x = (0 : Int32)) ↔ (x.toInt = 0) := by
    have h := (Int32.toInt_inj.symm : (x = (0 : Int32)) ↔ (x.toInt = (0 : Int32).toInt))
    rw [ld_zi] at h
    exact h
  obtain ⟨X, p, e, s, m, args, below, meth, c, cells, slots, A, Q, hxx, hb, hml, hown, hts, hinj, hK, hN, hA1, hA2, hR, rfl⟩ := O
  intro H locs ls hP hS hl
  exact lv_if_ne hxx hb hd ht (fun q => kt (fun z => q (hc.mpr z)) H locs ls hP hS hl) (fun q => kf (hc.mp q) H locs ls hP hS hl)
theorem ld_icmp_ne (O : ld_Ok l K ad cc nL own R) {x y : Int32} (X Y : Int) (hx : x.toInt = X) (hy : y.toInt = Y) {off : Int} (tgt : Nat) (hd : decode cc pc = .ok (.if_icmp .ne off, 3)) (ht : (pc : Int) + off = (tgt : Int)) (kt : ¬ X = Y → K σ lv st tgt) (kf : X = Y → K σ lv st (pc + 3)) : K σ lv (.int y :: .int x :: st) pc := by
  subst hx; subst hy
  have hc : (x = y) ↔ (x.toInt = y.toInt) := Int32.toInt_inj.symm
  obtain ⟨X, p, e, s, m, args, below, meth, c, cells, slots, A, Q, hxx, hb, hml, hown, hts, hinj, hK, hN, hA1, hA2, hR, rfl⟩ := O
  intro H locs ls hP hS hl
  exact lv_icmp_ne hxx hb hd ht (fun q => kt (fun z => q (hc.mpr z)) H locs ls hP hS hl) (fun q => kf (hc.mp q) H locs ls hP hS hl)
theorem ld_if_lt (O : ld_Ok l K ad cc nL own R) {x : Int32} (X : Int) (hx : x.toInt = X) {off : Int} (tgt : Nat) (hd : decode cc pc = .ok (.ifCond .lt off, 3)) (ht : (pc : Int) + off = (tgt : Int)) (kt : X < 0 → K σ lv st tgt) (kf : ¬ X < 0 → K σ lv st (pc + 3)) : K σ lv (.int x :: st) pc := by
  subst hx
  have hc : (x < (0 : Int32)) ↔ (x.toInt < 0) := by
    have h := (Int32.lt_iff_toInt_lt : (x < (0 : Int32)) ↔ (x.toInt < (0 : Int32).toInt))
    rw [ld_zi] at h
    exact h
  obtain ⟨X, p, e, s, m, args, below, meth, c, cells, slots, A, Q, hxx, hb, hml, hown, hts, hinj, hK, hN, hA1, hA2, hR, rfl⟩ := O
  intro H locs ls hP hS hl
  exact lv_if_lt hxx hb hd ht (fun q => kt (hc.mp q) H locs ls hP hS hl) (fun q => kf (fun z => q (hc.mpr z)) H locs ls hP hS hl)
theorem ld_icmp_lt (O : ld_Ok l K ad cc nL own R) {x y : Int32} (X Y : Int) (hx : x.toInt = X) (hy : y.toInt = Y) {off : Int} (tgt : Nat) (hd : decode cc pc = .ok (.if_icmp .lt off, 3)) (ht : (pc : Int) + off = (tgt : Int)) (kt : X < Y → K σ lv st tgt) (kf : ¬ X < Y → K σ lv st (pc + 3)) : K σ lv (.int y :: .int x :: st) pc := by
  subst hx; subst hy
  have hc : (x < y) ↔ (x.toInt < y.toInt) := Int32.lt_iff_toInt_lt
  obtain ⟨X, p, e, s, m, args, below, meth, c, cells, slots, A, Q, hxx, hb, hml, hown, hts, hinj, hK, hN, hA1, hA2, hR, rfl⟩ := O
  intro H locs ls hP hS hl
  exact lv_icmp_lt hxx hb hd ht (fun q => kt (hc.mp q) H locs ls hP hS hl) (fun q => kf (fun z => q (hc.mpr z)) H locs ls hP hS hl)
theorem ld_if_ge (O : ld_Ok l K ad cc nL own R) {x : Int32} (X : Int) (hx : x.toInt = X) {off : Int} (tgt : Nat) (hd : decode cc pc = .ok (.ifCond .ge off, 3)) (ht : (pc : Int) + off = (tgt : Int)) (kt : 0 ≤ X → K σ lv st tgt) (kf : ¬ 0 ≤ X → K σ lv st (pc + 3)) : K σ lv (.int x :: st) pc := by
  subst hx
  have hc : ((0 : Int32) ≤ x) ↔ (0 ≤ x.toInt) := by
    have h := (Int32.le_iff_toInt_le : ((0 : Int32) ≤ x) ↔ ((0 : Int32).toInt ≤ x.toInt))
    rw [ld_zi] at h
    exact h
  obtain ⟨X, p, e, s, m, args, below, meth, c, cells, slots, A, Q, hxx, hb, hml, hown, hts, hinj, hK, hN, hA1, hA2, hR, rfl⟩ := O
  intro H locs ls hP hS hl
  exact lv_if_ge hxx hb hd ht (fun q => kt (hc.mp q) H locs ls hP hS hl) (fun q => kf (fun z => q (hc.mpr z)) H locs ls hP hS hl)
theorem ld_icmp_ge (O : ld_Ok l K ad cc nL own R) {x y : Int32} (X Y : Int) (hx : x.toInt = X) (hy : y.toInt = Y) {off : Int} (tgt : Nat) (hd : decode cc pc = .ok (.if_icmp .ge off, 3)) (ht : (pc : Int) + off = (tgt : Int)) (kt : Y ≤ X → K σ lv st tgt) (kf : ¬ Y ≤ X → K σ lv st (pc + 3)) : K σ lv (.int y :: .int x :: st) pc := by
  subst hx; subst hy
  have hc : (y ≤ x) ↔ (y.toInt ≤ x.toInt) := Int32.le_iff_toInt_le
  obtain ⟨X, p, e, s, m, args, below, meth, c, cells, slots, A, Q, hxx, hb, hml, hown, hts, hinj, hK, hN, hA1, hA2, hR, rfl⟩ := O
  intro H locs ls hP hS hl
  exact lv_icmp_ge hxx hb hd ht (fun q => kt (hc.mp q) H locs ls hP hS hl) (fun q => kf (fun z => q (hc.mpr z)) H locs ls hP hS hl)
theorem ld_if_gt (O : ld_Ok l K ad cc nL own R) {x : Int32} (X : Int) (hx : x.toInt = X) {off : Int} (tgt : Nat) (hd : decode cc pc = .ok (.ifCond .gt off, 3)) (ht : (pc : Int) + off = (tgt : Int)) (kt : 0 < X → K σ lv st tgt) (kf : ¬ 0 < X → K σ lv st (pc + 3)) : K σ lv (.int x :: st) pc := by
  subst hx
  have hc : ((0 : Int32) < x) ↔ (0 < x.toInt) := by
    have h := (Int32.lt_iff_toInt_lt : ((0 : Int32) < x) ↔ ((0 : Int32).toInt < x.toInt))
    rw [ld_zi] at h
    exact h
  obtain ⟨X, p, e, s, m, args, below, meth, c, cells, slots, A, Q, hxx, hb, hml, hown, hts, hinj, hK, hN, hA1, hA2, hR, rfl⟩ := O
  intro H locs ls hP hS hl
  exact lv_if_gt hxx hb hd ht (fun q => kt (hc.mp q) H locs ls hP hS hl) (fun q => kf (fun z => q (hc.mpr z)) H locs ls hP hS hl)
theorem ld_icmp_gt (O : ld_Ok l K ad cc nL own R) {x y : Int32} (X Y : Int) (hx : x.toInt = X) (hy : y.toInt = Y) {off : Int} (tgt : Nat) (hd : decode cc pc = .ok (.if_icmp .gt off, 3)) (ht : (pc : Int) + off = (tgt : Int)) (kt : Y < X → K σ lv st tgt) (kf : ¬ Y < X → K σ lv st (pc + 3)) : K σ lv (.int y :: .int x :: st) pc := by
  subst hx; subst hy
  have hc : (y < x) ↔ (y.toInt < x.toInt) := Int32.lt_iff_toInt_lt
  obtain ⟨X, p, e, s, m, args, below, meth, c, cells, slots, A, Q, hxx, hb, hml, hown, hts, hinj, hK, hN, hA1, hA2, hR, rfl⟩ := O
  intro H locs ls hP hS hl
  exact lv_icmp_gt hxx hb hd ht (fun q => kt (hc.mp q) H locs ls hP hS hl) (fun q => kf (fun z => q (hc.mpr z)) H locs ls hP hS hl)
theorem ld_if_le (O : ld_Ok l K ad cc nL own R) {x : Int32} (X : Int) (hx : x.toInt = X) {off : Int} (tgt : Nat) (hd : decode cc pc = .ok (.ifCond .le off, 3)) (ht : (pc : Int) + off = (tgt : Int)) (kt : X ≤ 0 → K σ lv st tgt) (kf : ¬ X ≤ 0 → K σ lv st (pc + 3)) : K σ lv (.int x :: st) pc := by
  subst hx
  have hc : (x ≤ (0 : Int32)) ↔ (x.toInt ≤ 0) := by
    have h := (Int32.le_iff_toInt_le : (x ≤ (0 : Int32)) ↔ (x.toInt ≤ (0 : Int32).toInt))
    rw [ld_zi] at h
    exact h
  obtain ⟨X, p, e, s, m, args, below, meth, c, cells, slots, A, Q, hxx, hb, hml, hown, hts, hinj, hK, hN, hA1, hA2, hR, rfl⟩ := O
  intro H locs ls hP hS hl
  exact lv_if_le hxx hb hd ht (fun q => kt (hc.mp q) H locs ls hP hS hl) (fun q => kf (fun z => q (hc.mpr z)) H locs ls hP hS hl)
theorem ld_icmp_le (O : ld_Ok l K ad cc nL own R) {x y : Int32} (X Y : Int) (hx : x.toInt = X) (hy : y.toInt = Y) {off : Int} (tgt : Nat) (hd : decode cc pc = .ok (.if_icmp .le off, 3)) (ht : (pc : Int) + off = (tgt : Int)) (kt : X ≤ Y → K σ lv st tgt) (kf : ¬ X ≤ Y → K σ lv st (pc + 3)) : K σ lv (.int y :: .int x :: st) pc := by
  subst hx; subst hy
  have hc : (x ≤ y) ↔ (x.toInt ≤ y.toInt) := Int32.le_iff_toInt_le
  obtain ⟨X, p, e, s, m, args, below, meth, c, cells, slots, A, Q, hxx, hb, hml, hown, hts, hinj, hK, hN, hA1, hA2, hR, rfl⟩ := O
  intro H locs ls hP hS hl
  exact lv_icmp_le hxx hb hd ht (fun q => kt (hc.mp q) H locs ls hP hS hl) (fun q => kf (fun z => q (hc.mpr z)) H locs ls hP hS hl)
noncomputable def ld_b (p : Prop) : Int32 := @ite _ p (Classical.propDecidable p) (nI 1) (nI 0)
theorem ld_b_t {p : Prop} (h : p) : ld_b p = nI 1 := if_pos h
theorem ld_b_f {p : Prop} (h : ¬ p) : ld_b p = nI 0 := if_neg h
theorem ld_b_01 (p : Prop) : ld_b p = 0 ∨ ld_b p = 1 := by
  by_cases h : p
  · exact Or.inr (ld_b_t h)
  · exact Or.inl (ld_b_f h)
theorem ld_b_cong {p q : Prop} (h : p ↔ q) : ld_b p = ld_b q := by rw [propext h]
theorem ld_b_i (p : Prop) : (ld_b p).toInt = 0 ∨ (ld_b p).toInt = 1 := by
  rcases ld_b_01 p with h | h <;> rw [h] <;> decide
theorem ld_b_z {p : Prop} : (ld_b p).toInt = 0 ↔ ¬ p := by
  by_cases h : p
  · rw [ld_b_t h]; exact ⟨fun z => absurd z (by decide), fun z => absurd h z⟩
  · rw [ld_b_f h]; exact ⟨fun _ => h, fun _ => by decide⟩
theorem ld_ifb_eq (O : ld_Ok l K ad cc nL own R) {p : Prop} {off : Int} (tgt : Nat) (hd : decode cc pc = .ok (.ifCond .eq off, 3)) (ht : (pc : Int) + off = (tgt : Int)) (kt : ¬ p → K σ lv st tgt) (kf : p → K σ lv st (pc + 3)) : K σ lv (.int (ld_b p) :: st) pc :=
  ld_if_eq O _ rfl tgt hd ht (fun q => kt (ld_b_z.mp q)) (fun q => kf (Classical.byContradiction fun z => q (ld_b_z.mpr z)))
theorem ld_ifb_ne (O : ld_Ok l K ad cc nL own R) {p : Prop} {off : Int} (tgt : Nat) (hd : decode cc pc = .ok (.ifCond .ne off, 3)) (ht : (pc : Int) + off = (tgt : Int)) (kt : p → K σ lv st tgt) (kf : ¬ p → K σ lv st (pc + 3)) : K σ lv (.int (ld_b p) :: st) pc :=
  ld_if_ne O _ rfl tgt hd ht (fun q => kt (Classical.byContradiction fun z => q (ld_b_z.mpr z))) (fun q => kf (ld_b_z.mp q))
theorem ld_iaddN (O : ld_Ok l K ad cc nL own R) {a b : Nat} (hd : decode cc pc = .ok (.iadd, 1)) (k : K σ lv (.int (nI (a + b)) :: st) (pc + 1)) : K σ lv (.int (nI b) :: .int (nI a) :: st) pc := ld_iadd O hd (by rw [nI_add]; exact k)
theorem ld_isubN (O : ld_Ok l K ad cc nL own R) {a b : Nat} (h : b ≤ a) (hd : decode cc pc = .ok (.isub, 1)) (k : K σ lv (.int (nI (a - b)) :: st) (pc + 1)) : K σ lv (.int (nI b) :: .int (nI a) :: st) pc := ld_isub O hd (by rw [pk_sub h]; exact k)
theorem ld_imulN (O : ld_Ok l K ad cc nL own R) {a b : Nat} (hd : decode cc pc = .ok (.imul, 1)) (k : K σ lv (.int (nI (a * b)) :: st) (pc + 1)) : K σ lv (.int (nI b) :: .int (nI a) :: st) pc := ld_imul O hd (by rw [pk_mul]; exact k)
theorem ld_iincN (O : ld_Ok l K ad cc nL own R) (lv2 : List (Nat × Value)) (q : Nat) {i n a : Nat} (hd : decode cc pc = .ok (.iinc i n, 3)) (hq : lv[q]? = some (i, .int (nI a))) (hn : i < nL) (hf : (i, Value.int (nI (a + n))) :: lv.filter (fun q => !(q.1 == i) && !(q.1 + 1 == i && q.2.category == 2)) = lv2) (k : K σ lv2 st (pc + 3)) : K σ lv st pc :=
  ld_iinc O lv2 q hd hq (by rw [← nI_add]; rfl) hn hf k
theorem ld_i2lN {a : Nat} (h : a < 2 ^ 31) : (nI a).toInt64.toInt = (a : Int) := by rw [Int32.toInt_toInt64, nI_toInt h]
theorem ld_cmp_i {x y : Int64} {X Y : Int} (hx : x.toInt = X) (hy : y.toInt = Y) : ((lg_cmp x y).toInt < 0 ↔ X < Y) ∧ ((lg_cmp x y).toInt = 0 ↔ X = Y) ∧ (0 < (lg_cmp x y).toInt ↔ Y < X) := by
  subst hx; subst hy
  unfold lg_cmp
  simp only [gt_iff_lt, Int64.lt_iff_toInt_lt, ← Int64.toInt_inj]
  by_cases a : y.toInt < x.toInt
  · rw [if_pos a]
    exact ⟨⟨fun z => absurd z (by decide), fun z => by omega⟩, ⟨fun z => absurd z (by decide), fun z => by omega⟩, ⟨fun _ => a, fun _ => by decide⟩⟩
  · rw [if_neg a]
    by_cases b : x.toInt = y.toInt
    · rw [if_pos b]
      exact ⟨⟨fun z => absurd z (by decide), fun z => by omega⟩, ⟨fun _ => b, fun _ => by decide⟩, ⟨fun z => absurd z (by decide), fun z => by omega⟩⟩
    · rw [if_neg b]
      exact ⟨⟨fun _ => by omega, fun _ => by decide⟩, ⟨fun z => absurd z (by decide), fun z => by omega⟩, ⟨fun z => absurd z (by decide), fun z => by omega⟩⟩
/-- fewer locals -/
theorem ld_less (O : ld_Ok l K ad cc nL own R) (ks : List Nat) {lv2 : List (Nat × Value)} (h : lv_pick lv ks = lv2) (k : K σ lv2 st pc) : K σ lv st pc := by
  obtain ⟨X, p, e, s, m, args, below, meth, c, cells, slots, A, Q, hx, hb, hml, hown, hts, hinj, hK, hN, hA1, hA2, hR, rfl⟩ := O
  intro H locs ls hP hS hl
  exact k H locs ls hP hS (lv_sub hl ks h)
theorem ld_cv {σ2 : ld_St} (h : σ = σ2) (k : K σ2 lv st pc) : K σ lv st pc := by rw [h]; exact k
theorem us_us (σ : ld_St) (a : Nat) (f g : Nat → Int32) : us (us σ a f) a g = us σ a g := by
  funext b
  by_cases h : b = a
  · subst h; rw [us_eq, us_eq]
  · rw [us_ne _ _ h, us_ne _ _ h, us_ne _ _ h]
theorem us_comm (σ : ld_St) {a b : Nat} (h : a < b) (f g : Nat → Int32) : us (us σ b f) a g = us (us σ a g) b f := by
  funext c
  by_cases h1 : c = a
  · subst h1; rw [us_eq, us_ne _ _ (by omega), us_eq]
  · by_cases h2 : c = b
    · subst h2; rw [us_ne _ _ h1, us_eq, us_eq]
    · rw [us_ne _ _ h1, us_ne _ _ h2, us_ne _ _ h2, us_ne _ _ h1]
theorem us_self (σ : ld_St) (a : Nat) : us σ a (σ a) = σ := by
  funext b
  by_cases h : b = a
  · subst h; rw [us_eq]
  · rw [us_ne _ _ h]
theorem ld_goto (O : ld_Ok l K ad cc nL own R) {off : Int} (tgt : Nat) (hd : decode cc pc = .ok (.goto off, 3)) (ht : (pc : Int) + off = (tgt : Int)) (k : K σ lv st tgt) : K σ lv st pc := by
  obtain ⟨X, p, e, s, m, args, below, meth, c, cells, slots, A, Q, hx, hb, hml, hown, hts, hinj, hK, hN, hA1, hA2, hR, rfl⟩ := O
  intro H locs ls hP hS hl
  exact lv_goto hx hb hd ht (k H locs ls hP hS hl)
theorem ld_tabOut (O : ld_Ok l K ad cc nL own R) {dflt lo hi : Int} {offs : Array Int} {len : Nat} {x : Int32} (tgt : Nat) (hd : decode cc pc = .ok (.tableswitch dflt lo hi offs, len)) (h : x.toInt < lo ∨ hi < x.toInt) (ht : (pc : Int) + dflt = (tgt : Int)) (k : K σ lv st tgt) : K σ lv (.int x :: st) pc := by
  obtain ⟨X, p, e, s, m, args, below, meth, c, cells, slots, A, Q, hx, hb, hml, hown, hts, hinj, hK, hN, hA1, hA2, hR, rfl⟩ := O
  intro H locs ls hP hS hl
  exact lv_tableOut hx hb hd h ht (k H locs ls hP hS hl)
theorem ld_tabIn (O : ld_Ok l K ad cc nL own R) {dflt lo hi : Int} {offs : Array Int} {len : Nat} {x : Int32} {off : Int} (tgt : Nat) (hd : decode cc pc = .ok (.tableswitch dflt lo hi offs, len)) (h1 : ¬ x.toInt < lo) (h2 : ¬ hi < x.toInt) (ho : offs[(x.toInt - lo).toNat]? = some off) (ht : (pc : Int) + off = (tgt : Int)) (k : K σ lv st tgt) : K σ lv (.int x :: st) pc := by
  obtain ⟨X, p, e, s, m, args, below, meth, c, cells, slots, A, Q, hx, hb, hml, hown, hts, hinj, hK, hN, hA1, hA2, hR, rfl⟩ := O
  intro H locs ls hP hS hl
  exact lv_tableIn hx hb hd h1 h2 ho ht (k H locs ls hP hS hl)
theorem ld_look (O : ld_Ok l K ad cc nL own R) {dflt : Int} {ps : Array (Int × Int)} {len : Nat} {x : Int32} {off : Int} (tgt : Nat) (hd : decode cc pc = .ok (.lookupswitch dflt ps, len)) (hp : (ps.toList.zip (ps.toList.drop 1)).all (fun (a, next) => a.1 < next.1) = true) (ho : Op.lookupswitch.offset ps.toList dflt x.toInt = off) (ht : (pc : Int) + off = (tgt : Int)) (k : K σ lv st tgt) : K σ lv (.int x :: st) pc := by
  obtain ⟨X, p, e, s, m, args, below, meth, c, cells, slots, A, Q, hx, hb, hml, hown, hts, hinj, hK, hN, hA1, hA2, hR, rfl⟩ := O
  intro H locs ls hP hS hl
  exact lv_lookup hx hb hd hp ho ht (k H locs ls hP hS hl)
theorem ld_g_LD_readings (O : ld_Ok l K ad cc nL own R) {v : Int32} {ix : Nat} (hw : Cond.fieldLink own ix "LemonDeals" "readings" "I" ∈ wsL_law) (hv : σ 100 0 = v) (hd : decode cc pc = .ok (.getfield ix, 3)) (k : K σ lv (.int v :: st) (pc + 3)) : K σ lv (.ref (ad 0) :: st) pc := by
  obtain ⟨X, p, e, s, m, args, below, meth, c, cells, slots, A, Q, hx, hb, hml, hown, hts, hinj, hK, hN, hA1, hA2, hR, rfl⟩ := O
  intro H locs ls hP hS hl
  subst hv; exact va_get (D := X.1) (ci := 2) (C := RX2) (T := TX2) (N := 8) hx hb hts inlX2 hown hK hP 0 (ld_at0 X ad σ) rfl 5 (by decide) (hts _ hw) (fun _ h9 => h9) rfl hd (k H locs ls hP hS hl)
theorem ld_p_LD_readings (O : ld_Ok l K ad cc nL own R) {ix : Nat} {v : Int32} (hw : Cond.fieldLink own ix "LemonDeals" "readings" "I" ∈ wsL_law) (hd : decode cc pc = .ok (.putfield ix, 3)) (k : K (us σ 100 (fun _ => v)) lv st (pc + 3)) : K σ lv (.int v :: .ref (ad 0) :: st) pc := by
  obtain ⟨X, p, e, s, m, args, below, meth, c, cells, slots, A, Q, hx, hb, hml, hown, hts, hinj, hK, hN, hA1, hA2, hR, rfl⟩ := O
  intro H locs ls hP hS hl
  refine va_put (D := X.1) (ci := 2) (v := .int v) (ty := .int) (C := RX2) (T := TX2) (N := 8) hx hb hts inlX2 tyX2 tyX2_ok nmX2 hown hK hP (ld_D hinj hA1 X σ) hS 0 (ld_at0 X ad σ) rfl 5 (by decide) (hts _ hw) (fun _ h9 => h9) rfl (by decide +kernel) rfl rfl (Nat.le_of_ble_eq_true rfl) hd (fun H locs hP hD hS => ?_)
  refine k H locs ls ?_ hS hl
  exact (ld_set X ad σ (us σ 100 (fun _ => v)) (by decide) (by rfl) (fun j h1 h2 => ld_ct_I X ad σ _ (by decide) (Or.inl ⟨by decide, rfl⟩) h1 h2)) ▸ hP
theorem ld_g_LD_traced (O : ld_Ok l K ad cc nL own R) {v : Int32} {ix : Nat} (hw : Cond.fieldLink own ix "LemonDeals" "traced" "I" ∈ wsL_law) (hv : σ 101 0 = v) (hd : decode cc pc = .ok (.getfield ix, 3)) (k : K σ lv (.int v :: st) (pc + 3)) : K σ lv (.ref (ad 0) :: st) pc := by
  obtain ⟨X, p, e, s, m, args, below, meth, c, cells, slots, A, Q, hx, hb, hml, hown, hts, hinj, hK, hN, hA1, hA2, hR, rfl⟩ := O
  intro H locs ls hP hS hl
  subst hv; exact va_get (D := X.1) (ci := 2) (C := RX2) (T := TX2) (N := 8) hx hb hts inlX2 hown hK hP 0 (ld_at0 X ad σ) rfl 6 (by decide) (hts _ hw) (fun _ h9 => h9) rfl hd (k H locs ls hP hS hl)
theorem ld_p_LD_traced (O : ld_Ok l K ad cc nL own R) {ix : Nat} {v : Int32} (hw : Cond.fieldLink own ix "LemonDeals" "traced" "I" ∈ wsL_law) (hd : decode cc pc = .ok (.putfield ix, 3)) (k : K (us σ 101 (fun _ => v)) lv st (pc + 3)) : K σ lv (.int v :: .ref (ad 0) :: st) pc := by
  obtain ⟨X, p, e, s, m, args, below, meth, c, cells, slots, A, Q, hx, hb, hml, hown, hts, hinj, hK, hN, hA1, hA2, hR, rfl⟩ := O
  intro H locs ls hP hS hl
  refine va_put (D := X.1) (ci := 2) (v := .int v) (ty := .int) (C := RX2) (T := TX2) (N := 8) hx hb hts inlX2 tyX2 tyX2_ok nmX2 hown hK hP (ld_D hinj hA1 X σ) hS 0 (ld_at0 X ad σ) rfl 6 (by decide) (hts _ hw) (fun _ h9 => h9) rfl (by decide +kernel) rfl rfl (Nat.le_of_ble_eq_true rfl) hd (fun H locs hP hD hS => ?_)
  refine k H locs ls ?_ hS hl
  exact (ld_set X ad σ (us σ 101 (fun _ => v)) (by decide) (by rfl) (fun j h1 h2 => ld_ct_I X ad σ _ (by decide) (Or.inl ⟨by decide, rfl⟩) h1 h2)) ▸ hP
theorem ld_g_LD_lastFault (O : ld_Ok l K ad cc nL own R) {v : Int32} {ix : Nat} (hw : Cond.fieldLink own ix "LemonDeals" "lastFault" "I" ∈ wsL_law) (hv : σ 102 0 = v) (hd : decode cc pc = .ok (.getfield ix, 3)) (k : K σ lv (.int v :: st) (pc + 3)) : K σ lv (.ref (ad 0) :: st) pc := by
  obtain ⟨X, p, e, s, m, args, below, meth, c, cells, slots, A, Q, hx, hb, hml, hown, hts, hinj, hK, hN, hA1, hA2, hR, rfl⟩ := O
  intro H locs ls hP hS hl
  subst hv; exact va_get (D := X.1) (ci := 2) (C := RX2) (T := TX2) (N := 8) hx hb hts inlX2 hown hK hP 0 (ld_at0 X ad σ) rfl 7 (by decide) (hts _ hw) (fun _ h9 => h9) rfl hd (k H locs ls hP hS hl)
theorem ld_p_LD_lastFault (O : ld_Ok l K ad cc nL own R) {ix : Nat} {v : Int32} (hw : Cond.fieldLink own ix "LemonDeals" "lastFault" "I" ∈ wsL_law) (hd : decode cc pc = .ok (.putfield ix, 3)) (k : K (us σ 102 (fun _ => v)) lv st (pc + 3)) : K σ lv (.int v :: .ref (ad 0) :: st) pc := by
  obtain ⟨X, p, e, s, m, args, below, meth, c, cells, slots, A, Q, hx, hb, hml, hown, hts, hinj, hK, hN, hA1, hA2, hR, rfl⟩ := O
  intro H locs ls hP hS hl
  refine va_put (D := X.1) (ci := 2) (v := .int v) (ty := .int) (C := RX2) (T := TX2) (N := 8) hx hb hts inlX2 tyX2 tyX2_ok nmX2 hown hK hP (ld_D hinj hA1 X σ) hS 0 (ld_at0 X ad σ) rfl 7 (by decide) (hts _ hw) (fun _ h9 => h9) rfl (by decide +kernel) rfl rfl (Nat.le_of_ble_eq_true rfl) hd (fun H locs hP hD hS => ?_)
  refine k H locs ls ?_ hS hl
  exact (ld_set X ad σ (us σ 102 (fun _ => v)) (by decide) (by rfl) (fun j h1 h2 => ld_ct_I X ad σ _ (by decide) (Or.inl ⟨by decide, rfl⟩) h1 h2)) ▸ hP
theorem ld_g_now_houses (O : ld_Ok l K ad cc nL own R) {v : Int32} {ix : Nat} (hw : Cond.fieldLink own ix "LemonDeals$Street" "houses" "I" ∈ wsL_law) (hv : σ 110 0 = v) (hd : decode cc pc = .ok (.getfield ix, 3)) (k : K σ lv (.int v :: st) (pc + 3)) : K σ lv (.ref (ad 1) :: st) pc := by
  obtain ⟨X, p, e, s, m, args, below, meth, c, cells, slots, A, Q, hx, hb, hml, hown, hts, hinj, hK, hN, hA1, hA2, hR, rfl⟩ := O
  intro H locs ls hP hS hl
  subst hv; exact va_get (D := X.1) (ci := 1) (C := RX1) (T := TX1) (N := 11) hx hb hts inlX1 hown hK hP 1 (ld_at1 X ad σ) rfl 0 (by decide) (hts _ hw) (fun _ h9 => h9) rfl hd (k H locs ls hP hS hl)
theorem ld_g_now_housesN (O : ld_Ok l K ad cc nL own R) {v : Int32} {ix : Nat} (hw : Cond.fieldLinkNest own ix "LemonDeals$Street" "houses" "I" "LemonDeals" ∈ ld_nws) (hv : σ 110 0 = v) (hd : decode cc pc = .ok (.getfield ix, 3)) (k : K σ lv (.int v :: st) (pc + 3)) : K σ lv (.ref (ad 1) :: st) pc := by
  obtain ⟨X, p, e, s, m, args, below, meth, c, cells, slots, A, Q, hx, hb, hml, hown, hts, hinj, hK, hN, hA1, hA2, hR, rfl⟩ := O
  intro H locs ls hP hS hl
  subst hv; exact va_getN (D := X.1) (ci := 1) (C := RX1) (T := TX1) (N := 11) hx hb hts inlX1 hown hK hP 1 (ld_at1 X ad σ) rfl 0 (by decide) (va_Nw.use rfl (hN _ hw)) (fun _ h9 => h9) rfl hd (k H locs ls hP hS hl)
theorem ld_p_now_houses (O : ld_Ok l K ad cc nL own R) {ix : Nat} {v : Int32} (hw : Cond.fieldLink own ix "LemonDeals$Street" "houses" "I" ∈ wsL_law) (hd : decode cc pc = .ok (.putfield ix, 3)) (k : K (us σ 110 (fun _ => v)) lv st (pc + 3)) : K σ lv (.int v :: .ref (ad 1) :: st) pc := by
  obtain ⟨X, p, e, s, m, args, below, meth, c, cells, slots, A, Q, hx, hb, hml, hown, hts, hinj, hK, hN, hA1, hA2, hR, rfl⟩ := O
  intro H locs ls hP hS hl
  refine va_put (D := X.1) (ci := 1) (v := .int v) (ty := .int) (C := RX1) (T := TX1) (N := 11) hx hb hts inlX1 tyX1 tyX1_ok nmX1 hown hK hP (ld_D hinj hA1 X σ) hS 1 (ld_at1 X ad σ) rfl 0 (by decide) (hts _ hw) (fun _ h9 => h9) rfl (by decide +kernel) rfl rfl (Nat.le_of_ble_eq_true rfl) hd (fun H locs hP hD hS => ?_)
  refine k H locs ls ?_ hS hl
  exact (ld_set X ad σ (us σ 110 (fun _ => v)) (by decide) (by rfl) (fun j h1 h2 => ld_ct_I X ad σ _ (by decide) (Or.inr (Or.inl ⟨by decide, by decide, rfl⟩)) h1 h2)) ▸ hP
theorem ld_p_now_housesN (O : ld_Ok l K ad cc nL own R) {ix : Nat} {v : Int32} (hw : Cond.fieldLinkNest own ix "LemonDeals$Street" "houses" "I" "LemonDeals" ∈ ld_nws) (hd : decode cc pc = .ok (.putfield ix, 3)) (k : K (us σ 110 (fun _ => v)) lv st (pc + 3)) : K σ lv (.int v :: .ref (ad 1) :: st) pc := by
  obtain ⟨X, p, e, s, m, args, below, meth, c, cells, slots, A, Q, hx, hb, hml, hown, hts, hinj, hK, hN, hA1, hA2, hR, rfl⟩ := O
  intro H locs ls hP hS hl
  refine va_putN (D := X.1) (ci := 1) (v := .int v) (ty := .int) (C := RX1) (T := TX1) (N := 11) hx hb hts inlX1 tyX1 tyX1_ok nmX1 hown hK hP (ld_D hinj hA1 X σ) hS 1 (ld_at1 X ad σ) rfl 0 (by decide) (va_Nw.use rfl (hN _ hw)) (fun _ h9 => h9) rfl (by decide +kernel) rfl rfl (Nat.le_of_ble_eq_true rfl) hd (fun H locs hP hD hS => ?_)
  refine k H locs ls ?_ hS hl
  exact (ld_set X ad σ (us σ 110 (fun _ => v)) (by decide) (by rfl) (fun j h1 h2 => ld_ct_I X ad σ _ (by decide) (Or.inr (Or.inl ⟨by decide, by decide, rfl⟩)) h1 h2)) ▸ hP
theorem ld_g_now_crate (O : ld_Ok l K ad cc nL own R) {v : Int32} {ix : Nat} (hw : Cond.fieldLink own ix "LemonDeals$Street" "crate" "I" ∈ wsL_law) (hv : σ 111 0 = v) (hd : decode cc pc = .ok (.getfield ix, 3)) (k : K σ lv (.int v :: st) (pc + 3)) : K σ lv (.ref (ad 1) :: st) pc := by
  obtain ⟨X, p, e, s, m, args, below, meth, c, cells, slots, A, Q, hx, hb, hml, hown, hts, hinj, hK, hN, hA1, hA2, hR, rfl⟩ := O
  intro H locs ls hP hS hl
  subst hv; exact va_get (D := X.1) (ci := 1) (C := RX1) (T := TX1) (N := 11) hx hb hts inlX1 hown hK hP 1 (ld_at1 X ad σ) rfl 1 (by decide) (hts _ hw) (fun _ h9 => h9) rfl hd (k H locs ls hP hS hl)
theorem ld_g_now_crateN (O : ld_Ok l K ad cc nL own R) {v : Int32} {ix : Nat} (hw : Cond.fieldLinkNest own ix "LemonDeals$Street" "crate" "I" "LemonDeals" ∈ ld_nws) (hv : σ 111 0 = v) (hd : decode cc pc = .ok (.getfield ix, 3)) (k : K σ lv (.int v :: st) (pc + 3)) : K σ lv (.ref (ad 1) :: st) pc := by
  obtain ⟨X, p, e, s, m, args, below, meth, c, cells, slots, A, Q, hx, hb, hml, hown, hts, hinj, hK, hN, hA1, hA2, hR, rfl⟩ := O
  intro H locs ls hP hS hl
  subst hv; exact va_getN (D := X.1) (ci := 1) (C := RX1) (T := TX1) (N := 11) hx hb hts inlX1 hown hK hP 1 (ld_at1 X ad σ) rfl 1 (by decide) (va_Nw.use rfl (hN _ hw)) (fun _ h9 => h9) rfl hd (k H locs ls hP hS hl)
theorem ld_p_now_crate (O : ld_Ok l K ad cc nL own R) {ix : Nat} {v : Int32} (hw : Cond.fieldLink own ix "LemonDeals$Street" "crate" "I" ∈ wsL_law) (hd : decode cc pc = .ok (.putfield ix, 3)) (k : K (us σ 111 (fun _ => v)) lv st (pc + 3)) : K σ lv (.int v :: .ref (ad 1) :: st) pc := by
  obtain ⟨X, p, e, s, m, args, below, meth, c, cells, slots, A, Q, hx, hb, hml, hown, hts, hinj, hK, hN, hA1, hA2, hR, rfl⟩ := O
  intro H locs ls hP hS hl
  refine va_put (D := X.1) (ci := 1) (v := .int v) (ty := .int) (C := RX1) (T := TX1) (N := 11) hx hb hts inlX1 tyX1 tyX1_ok nmX1 hown hK hP (ld_D hinj hA1 X σ) hS 1 (ld_at1 X ad σ) rfl 1 (by decide) (hts _ hw) (fun _ h9 => h9) rfl (by decide +kernel) rfl rfl (Nat.le_of_ble_eq_true rfl) hd (fun H locs hP hD hS => ?_)
  refine k H locs ls ?_ hS hl
  exact (ld_set X ad σ (us σ 111 (fun _ => v)) (by decide) (by rfl) (fun j h1 h2 => ld_ct_I X ad σ _ (by decide) (Or.inr (Or.inl ⟨by decide, by decide, rfl⟩)) h1 h2)) ▸ hP
theorem ld_p_now_crateN (O : ld_Ok l K ad cc nL own R) {ix : Nat} {v : Int32} (hw : Cond.fieldLinkNest own ix "LemonDeals$Street" "crate" "I" "LemonDeals" ∈ ld_nws) (hd : decode cc pc = .ok (.putfield ix, 3)) (k : K (us σ 111 (fun _ => v)) lv st (pc + 3)) : K σ lv (.int v :: .ref (ad 1) :: st) pc := by
  obtain ⟨X, p, e, s, m, args, below, meth, c, cells, slots, A, Q, hx, hb, hml, hown, hts, hinj, hK, hN, hA1, hA2, hR, rfl⟩ := O
  intro H locs ls hP hS hl
  refine va_putN (D := X.1) (ci := 1) (v := .int v) (ty := .int) (C := RX1) (T := TX1) (N := 11) hx hb hts inlX1 tyX1 tyX1_ok nmX1 hown hK hP (ld_D hinj hA1 X σ) hS 1 (ld_at1 X ad σ) rfl 1 (by decide) (va_Nw.use rfl (hN _ hw)) (fun _ h9 => h9) rfl (by decide +kernel) rfl rfl (Nat.le_of_ble_eq_true rfl) hd (fun H locs hP hD hS => ?_)
  refine k H locs ls ?_ hS hl
  exact (ld_set X ad σ (us σ 111 (fun _ => v)) (by decide) (by rfl) (fun j h1 h2 => ld_ct_I X ad σ _ (by decide) (Or.inr (Or.inl ⟨by decide, by decide, rfl⟩)) h1 h2)) ▸ hP
theorem ld_g_now_week (O : ld_Ok l K ad cc nL own R) {v : Int32} {ix : Nat} (hw : Cond.fieldLink own ix "LemonDeals$Street" "week" "I" ∈ wsL_law) (hv : σ 112 0 = v) (hd : decode cc pc = .ok (.getfield ix, 3)) (k : K σ lv (.int v :: st) (pc + 3)) : K σ lv (.ref (ad 1) :: st) pc := by
  obtain ⟨X, p, e, s, m, args, below, meth, c, cells, slots, A, Q, hx, hb, hml, hown, hts, hinj, hK, hN, hA1, hA2, hR, rfl⟩ := O
  intro H locs ls hP hS hl
  subst hv; exact va_get (D := X.1) (ci := 1) (C := RX1) (T := TX1) (N := 11) hx hb hts inlX1 hown hK hP 1 (ld_at1 X ad σ) rfl 2 (by decide) (hts _ hw) (fun _ h9 => h9) rfl hd (k H locs ls hP hS hl)
theorem ld_g_now_weekN (O : ld_Ok l K ad cc nL own R) {v : Int32} {ix : Nat} (hw : Cond.fieldLinkNest own ix "LemonDeals$Street" "week" "I" "LemonDeals" ∈ ld_nws) (hv : σ 112 0 = v) (hd : decode cc pc = .ok (.getfield ix, 3)) (k : K σ lv (.int v :: st) (pc + 3)) : K σ lv (.ref (ad 1) :: st) pc := by
  obtain ⟨X, p, e, s, m, args, below, meth, c, cells, slots, A, Q, hx, hb, hml, hown, hts, hinj, hK, hN, hA1, hA2, hR, rfl⟩ := O
  intro H locs ls hP hS hl
  subst hv; exact va_getN (D := X.1) (ci := 1) (C := RX1) (T := TX1) (N := 11) hx hb hts inlX1 hown hK hP 1 (ld_at1 X ad σ) rfl 2 (by decide) (va_Nw.use rfl (hN _ hw)) (fun _ h9 => h9) rfl hd (k H locs ls hP hS hl)
theorem ld_p_now_week (O : ld_Ok l K ad cc nL own R) {ix : Nat} {v : Int32} (hw : Cond.fieldLink own ix "LemonDeals$Street" "week" "I" ∈ wsL_law) (hd : decode cc pc = .ok (.putfield ix, 3)) (k : K (us σ 112 (fun _ => v)) lv st (pc + 3)) : K σ lv (.int v :: .ref (ad 1) :: st) pc := by
  obtain ⟨X, p, e, s, m, args, below, meth, c, cells, slots, A, Q, hx, hb, hml, hown, hts, hinj, hK, hN, hA1, hA2, hR, rfl⟩ := O
  intro H locs ls hP hS hl
  refine va_put (D := X.1) (ci := 1) (v := .int v) (ty := .int) (C := RX1) (T := TX1) (N := 11) hx hb hts inlX1 tyX1 tyX1_ok nmX1 hown hK hP (ld_D hinj hA1 X σ) hS 1 (ld_at1 X ad σ) rfl 2 (by decide) (hts _ hw) (fun _ h9 => h9) rfl (by decide +kernel) rfl rfl (Nat.le_of_ble_eq_true rfl) hd (fun H locs hP hD hS => ?_)
  refine k H locs ls ?_ hS hl
  exact (ld_set X ad σ (us σ 112 (fun _ => v)) (by decide) (by rfl) (fun j h1 h2 => ld_ct_I X ad σ _ (by decide) (Or.inr (Or.inl ⟨by decide, by decide, rfl⟩)) h1 h2)) ▸ hP
theorem ld_p_now_weekN (O : ld_Ok l K ad cc nL own R) {ix : Nat} {v : Int32} (hw : Cond.fieldLinkNest own ix "LemonDeals$Street" "week" "I" "LemonDeals" ∈ ld_nws) (hd : decode cc pc = .ok (.putfield ix, 3)) (k : K (us σ 112 (fun _ => v)) lv st (pc + 3)) : K σ lv (.int v :: .ref (ad 1) :: st) pc := by
  obtain ⟨X, p, e, s, m, args, below, meth, c, cells, slots, A, Q, hx, hb, hml, hown, hts, hinj, hK, hN, hA1, hA2, hR, rfl⟩ := O
  intro H locs ls hP hS hl
  refine va_putN (D := X.1) (ci := 1) (v := .int v) (ty := .int) (C := RX1) (T := TX1) (N := 11) hx hb hts inlX1 tyX1 tyX1_ok nmX1 hown hK hP (ld_D hinj hA1 X σ) hS 1 (ld_at1 X ad σ) rfl 2 (by decide) (va_Nw.use rfl (hN _ hw)) (fun _ h9 => h9) rfl (by decide +kernel) rfl rfl (Nat.le_of_ble_eq_true rfl) hd (fun H locs hP hD hS => ?_)
  refine k H locs ls ?_ hS hl
  exact (ld_set X ad σ (us σ 112 (fun _ => v)) (by decide) (by rfl) (fun j h1 h2 => ld_ct_I X ad σ _ (by decide) (Or.inr (Or.inl ⟨by decide, by decide, rfl⟩)) h1 h2)) ▸ hP
theorem ld_g_now_leanWeeks (O : ld_Ok l K ad cc nL own R) {v : Int32} {ix : Nat} (hw : Cond.fieldLink own ix "LemonDeals$Street" "leanWeeks" "I" ∈ wsL_law) (hv : σ 113 0 = v) (hd : decode cc pc = .ok (.getfield ix, 3)) (k : K σ lv (.int v :: st) (pc + 3)) : K σ lv (.ref (ad 1) :: st) pc := by
  obtain ⟨X, p, e, s, m, args, below, meth, c, cells, slots, A, Q, hx, hb, hml, hown, hts, hinj, hK, hN, hA1, hA2, hR, rfl⟩ := O
  intro H locs ls hP hS hl
  subst hv; exact va_get (D := X.1) (ci := 1) (C := RX1) (T := TX1) (N := 11) hx hb hts inlX1 hown hK hP 1 (ld_at1 X ad σ) rfl 3 (by decide) (hts _ hw) (fun _ h9 => h9) rfl hd (k H locs ls hP hS hl)
theorem ld_g_now_leanWeeksN (O : ld_Ok l K ad cc nL own R) {v : Int32} {ix : Nat} (hw : Cond.fieldLinkNest own ix "LemonDeals$Street" "leanWeeks" "I" "LemonDeals" ∈ ld_nws) (hv : σ 113 0 = v) (hd : decode cc pc = .ok (.getfield ix, 3)) (k : K σ lv (.int v :: st) (pc + 3)) : K σ lv (.ref (ad 1) :: st) pc := by
  obtain ⟨X, p, e, s, m, args, below, meth, c, cells, slots, A, Q, hx, hb, hml, hown, hts, hinj, hK, hN, hA1, hA2, hR, rfl⟩ := O
  intro H locs ls hP hS hl
  subst hv; exact va_getN (D := X.1) (ci := 1) (C := RX1) (T := TX1) (N := 11) hx hb hts inlX1 hown hK hP 1 (ld_at1 X ad σ) rfl 3 (by decide) (va_Nw.use rfl (hN _ hw)) (fun _ h9 => h9) rfl hd (k H locs ls hP hS hl)
theorem ld_p_now_leanWeeks (O : ld_Ok l K ad cc nL own R) {ix : Nat} {v : Int32} (hw : Cond.fieldLink own ix "LemonDeals$Street" "leanWeeks" "I" ∈ wsL_law) (hd : decode cc pc = .ok (.putfield ix, 3)) (k : K (us σ 113 (fun _ => v)) lv st (pc + 3)) : K σ lv (.int v :: .ref (ad 1) :: st) pc := by
  obtain ⟨X, p, e, s, m, args, below, meth, c, cells, slots, A, Q, hx, hb, hml, hown, hts, hinj, hK, hN, hA1, hA2, hR, rfl⟩ := O
  intro H locs ls hP hS hl
  refine va_put (D := X.1) (ci := 1) (v := .int v) (ty := .int) (C := RX1) (T := TX1) (N := 11) hx hb hts inlX1 tyX1 tyX1_ok nmX1 hown hK hP (ld_D hinj hA1 X σ) hS 1 (ld_at1 X ad σ) rfl 3 (by decide) (hts _ hw) (fun _ h9 => h9) rfl (by decide +kernel) rfl rfl (Nat.le_of_ble_eq_true rfl) hd (fun H locs hP hD hS => ?_)
  refine k H locs ls ?_ hS hl
  exact (ld_set X ad σ (us σ 113 (fun _ => v)) (by decide) (by rfl) (fun j h1 h2 => ld_ct_I X ad σ _ (by decide) (Or.inr (Or.inl ⟨by decide, by decide, rfl⟩)) h1 h2)) ▸ hP
theorem ld_p_now_leanWeeksN (O : ld_Ok l K ad cc nL own R) {ix : Nat} {v : Int32} (hw : Cond.fieldLinkNest own ix "LemonDeals$Street" "leanWeeks" "I" "LemonDeals" ∈ ld_nws) (hd : decode cc pc = .ok (.putfield ix, 3)) (k : K (us σ 113 (fun _ => v)) lv st (pc + 3)) : K σ lv (.int v :: .ref (ad 1) :: st) pc := by
  obtain ⟨X, p, e, s, m, args, below, meth, c, cells, slots, A, Q, hx, hb, hml, hown, hts, hinj, hK, hN, hA1, hA2, hR, rfl⟩ := O
  intro H locs ls hP hS hl
  refine va_putN (D := X.1) (ci := 1) (v := .int v) (ty := .int) (C := RX1) (T := TX1) (N := 11) hx hb hts inlX1 tyX1 tyX1_ok nmX1 hown hK hP (ld_D hinj hA1 X σ) hS 1 (ld_at1 X ad σ) rfl 3 (by decide) (va_Nw.use rfl (hN _ hw)) (fun _ h9 => h9) rfl (by decide +kernel) rfl rfl (Nat.le_of_ble_eq_true rfl) hd (fun H locs hP hD hS => ?_)
  refine k H locs ls ?_ hS hl
  exact (ld_set X ad σ (us σ 113 (fun _ => v)) (by decide) (by rfl) (fun j h1 h2 => ld_ct_I X ad σ _ (by decide) (Or.inr (Or.inl ⟨by decide, by decide, rfl⟩)) h1 h2)) ▸ hP
theorem ld_g_trial_houses (O : ld_Ok l K ad cc nL own R) {v : Int32} {ix : Nat} (hw : Cond.fieldLink own ix "LemonDeals$Street" "houses" "I" ∈ wsL_law) (hv : σ 120 0 = v) (hd : decode cc pc = .ok (.getfield ix, 3)) (k : K σ lv (.int v :: st) (pc + 3)) : K σ lv (.ref (ad 2) :: st) pc := by
  obtain ⟨X, p, e, s, m, args, below, meth, c, cells, slots, A, Q, hx, hb, hml, hown, hts, hinj, hK, hN, hA1, hA2, hR, rfl⟩ := O
  intro H locs ls hP hS hl
  subst hv; exact va_get (D := X.1) (ci := 1) (C := RX1) (T := TX1) (N := 11) hx hb hts inlX1 hown hK hP 2 (ld_at2 X ad σ) rfl 0 (by decide) (hts _ hw) (fun _ h9 => h9) rfl hd (k H locs ls hP hS hl)
theorem ld_g_trial_housesN (O : ld_Ok l K ad cc nL own R) {v : Int32} {ix : Nat} (hw : Cond.fieldLinkNest own ix "LemonDeals$Street" "houses" "I" "LemonDeals" ∈ ld_nws) (hv : σ 120 0 = v) (hd : decode cc pc = .ok (.getfield ix, 3)) (k : K σ lv (.int v :: st) (pc + 3)) : K σ lv (.ref (ad 2) :: st) pc := by
  obtain ⟨X, p, e, s, m, args, below, meth, c, cells, slots, A, Q, hx, hb, hml, hown, hts, hinj, hK, hN, hA1, hA2, hR, rfl⟩ := O
  intro H locs ls hP hS hl
  subst hv; exact va_getN (D := X.1) (ci := 1) (C := RX1) (T := TX1) (N := 11) hx hb hts inlX1 hown hK hP 2 (ld_at2 X ad σ) rfl 0 (by decide) (va_Nw.use rfl (hN _ hw)) (fun _ h9 => h9) rfl hd (k H locs ls hP hS hl)
theorem ld_p_trial_houses (O : ld_Ok l K ad cc nL own R) {ix : Nat} {v : Int32} (hw : Cond.fieldLink own ix "LemonDeals$Street" "houses" "I" ∈ wsL_law) (hd : decode cc pc = .ok (.putfield ix, 3)) (k : K (us σ 120 (fun _ => v)) lv st (pc + 3)) : K σ lv (.int v :: .ref (ad 2) :: st) pc := by
  obtain ⟨X, p, e, s, m, args, below, meth, c, cells, slots, A, Q, hx, hb, hml, hown, hts, hinj, hK, hN, hA1, hA2, hR, rfl⟩ := O
  intro H locs ls hP hS hl
  refine va_put (D := X.1) (ci := 1) (v := .int v) (ty := .int) (C := RX1) (T := TX1) (N := 11) hx hb hts inlX1 tyX1 tyX1_ok nmX1 hown hK hP (ld_D hinj hA1 X σ) hS 2 (ld_at2 X ad σ) rfl 0 (by decide) (hts _ hw) (fun _ h9 => h9) rfl (by decide +kernel) rfl rfl (Nat.le_of_ble_eq_true rfl) hd (fun H locs hP hD hS => ?_)
  refine k H locs ls ?_ hS hl
  exact (ld_set X ad σ (us σ 120 (fun _ => v)) (by decide) (by rfl) (fun j h1 h2 => ld_ct_I X ad σ _ (by decide) (Or.inr (Or.inr (Or.inl ⟨by decide, by decide, rfl⟩))) h1 h2)) ▸ hP
theorem ld_p_trial_housesN (O : ld_Ok l K ad cc nL own R) {ix : Nat} {v : Int32} (hw : Cond.fieldLinkNest own ix "LemonDeals$Street" "houses" "I" "LemonDeals" ∈ ld_nws) (hd : decode cc pc = .ok (.putfield ix, 3)) (k : K (us σ 120 (fun _ => v)) lv st (pc + 3)) : K σ lv (.int v :: .ref (ad 2) :: st) pc := by
  obtain ⟨X, p, e, s, m, args, below, meth, c, cells, slots, A, Q, hx, hb, hml, hown, hts, hinj, hK, hN, hA1, hA2, hR, rfl⟩ := O
  intro H locs ls hP hS hl
  refine va_putN (D := X.1) (ci := 1) (v := .int v) (ty := .int) (C := RX1) (T := TX1) (N := 11) hx hb hts inlX1 tyX1 tyX1_ok nmX1 hown hK hP (ld_D hinj hA1 X σ) hS 2 (ld_at2 X ad σ) rfl 0 (by decide) (va_Nw.use rfl (hN _ hw)) (fun _ h9 => h9) rfl (by decide +kernel) rfl rfl (Nat.le_of_ble_eq_true rfl) hd (fun H locs hP hD hS => ?_)
  refine k H locs ls ?_ hS hl
  exact (ld_set X ad σ (us σ 120 (fun _ => v)) (by decide) (by rfl) (fun j h1 h2 => ld_ct_I X ad σ _ (by decide) (Or.inr (Or.inr (Or.inl ⟨by decide, by decide, rfl⟩))) h1 h2)) ▸ hP
theorem ld_g_trial_crate (O : ld_Ok l K ad cc nL own R) {v : Int32} {ix : Nat} (hw : Cond.fieldLink own ix "LemonDeals$Street" "crate" "I" ∈ wsL_law) (hv : σ 121 0 = v) (hd : decode cc pc = .ok (.getfield ix, 3)) (k : K σ lv (.int v :: st) (pc + 3)) : K σ lv (.ref (ad 2) :: st) pc := by
  obtain ⟨X, p, e, s, m, args, below, meth, c, cells, slots, A, Q, hx, hb, hml, hown, hts, hinj, hK, hN, hA1, hA2, hR, rfl⟩ := O
  intro H locs ls hP hS hl
  subst hv; exact va_get (D := X.1) (ci := 1) (C := RX1) (T := TX1) (N := 11) hx hb hts inlX1 hown hK hP 2 (ld_at2 X ad σ) rfl 1 (by decide) (hts _ hw) (fun _ h9 => h9) rfl hd (k H locs ls hP hS hl)
theorem ld_g_trial_crateN (O : ld_Ok l K ad cc nL own R) {v : Int32} {ix : Nat} (hw : Cond.fieldLinkNest own ix "LemonDeals$Street" "crate" "I" "LemonDeals" ∈ ld_nws) (hv : σ 121 0 = v) (hd : decode cc pc = .ok (.getfield ix, 3)) (k : K σ lv (.int v :: st) (pc + 3)) : K σ lv (.ref (ad 2) :: st) pc := by
  obtain ⟨X, p, e, s, m, args, below, meth, c, cells, slots, A, Q, hx, hb, hml, hown, hts, hinj, hK, hN, hA1, hA2, hR, rfl⟩ := O
  intro H locs ls hP hS hl
  subst hv; exact va_getN (D := X.1) (ci := 1) (C := RX1) (T := TX1) (N := 11) hx hb hts inlX1 hown hK hP 2 (ld_at2 X ad σ) rfl 1 (by decide) (va_Nw.use rfl (hN _ hw)) (fun _ h9 => h9) rfl hd (k H locs ls hP hS hl)
theorem ld_p_trial_crate (O : ld_Ok l K ad cc nL own R) {ix : Nat} {v : Int32} (hw : Cond.fieldLink own ix "LemonDeals$Street" "crate" "I" ∈ wsL_law) (hd : decode cc pc = .ok (.putfield ix, 3)) (k : K (us σ 121 (fun _ => v)) lv st (pc + 3)) : K σ lv (.int v :: .ref (ad 2) :: st) pc := by
  obtain ⟨X, p, e, s, m, args, below, meth, c, cells, slots, A, Q, hx, hb, hml, hown, hts, hinj, hK, hN, hA1, hA2, hR, rfl⟩ := O
  intro H locs ls hP hS hl
  refine va_put (D := X.1) (ci := 1) (v := .int v) (ty := .int) (C := RX1) (T := TX1) (N := 11) hx hb hts inlX1 tyX1 tyX1_ok nmX1 hown hK hP (ld_D hinj hA1 X σ) hS 2 (ld_at2 X ad σ) rfl 1 (by decide) (hts _ hw) (fun _ h9 => h9) rfl (by decide +kernel) rfl rfl (Nat.le_of_ble_eq_true rfl) hd (fun H locs hP hD hS => ?_)
  refine k H locs ls ?_ hS hl
  exact (ld_set X ad σ (us σ 121 (fun _ => v)) (by decide) (by rfl) (fun j h1 h2 => ld_ct_I X ad σ _ (by decide) (Or.inr (Or.inr (Or.inl ⟨by decide, by decide, rfl⟩))) h1 h2)) ▸ hP
theorem ld_p_trial_crateN (O : ld_Ok l K ad cc nL own R) {ix : Nat} {v : Int32} (hw : Cond.fieldLinkNest own ix "LemonDeals$Street" "crate" "I" "LemonDeals" ∈ ld_nws) (hd : decode cc pc = .ok (.putfield ix, 3)) (k : K (us σ 121 (fun _ => v)) lv st (pc + 3)) : K σ lv (.int v :: .ref (ad 2) :: st) pc := by
  obtain ⟨X, p, e, s, m, args, below, meth, c, cells, slots, A, Q, hx, hb, hml, hown, hts, hinj, hK, hN, hA1, hA2, hR, rfl⟩ := O
  intro H locs ls hP hS hl
  refine va_putN (D := X.1) (ci := 1) (v := .int v) (ty := .int) (C := RX1) (T := TX1) (N := 11) hx hb hts inlX1 tyX1 tyX1_ok nmX1 hown hK hP (ld_D hinj hA1 X σ) hS 2 (ld_at2 X ad σ) rfl 1 (by decide) (va_Nw.use rfl (hN _ hw)) (fun _ h9 => h9) rfl (by decide +kernel) rfl rfl (Nat.le_of_ble_eq_true rfl) hd (fun H locs hP hD hS => ?_)
  refine k H locs ls ?_ hS hl
  exact (ld_set X ad σ (us σ 121 (fun _ => v)) (by decide) (by rfl) (fun j h1 h2 => ld_ct_I X ad σ _ (by decide) (Or.inr (Or.inr (Or.inl ⟨by decide, by decide, rfl⟩))) h1 h2)) ▸ hP
theorem ld_g_trial_week (O : ld_Ok l K ad cc nL own R) {v : Int32} {ix : Nat} (hw : Cond.fieldLink own ix "LemonDeals$Street" "week" "I" ∈ wsL_law) (hv : σ 122 0 = v) (hd : decode cc pc = .ok (.getfield ix, 3)) (k : K σ lv (.int v :: st) (pc + 3)) : K σ lv (.ref (ad 2) :: st) pc := by
  obtain ⟨X, p, e, s, m, args, below, meth, c, cells, slots, A, Q, hx, hb, hml, hown, hts, hinj, hK, hN, hA1, hA2, hR, rfl⟩ := O
  intro H locs ls hP hS hl
  subst hv; exact va_get (D := X.1) (ci := 1) (C := RX1) (T := TX1) (N := 11) hx hb hts inlX1 hown hK hP 2 (ld_at2 X ad σ) rfl 2 (by decide) (hts _ hw) (fun _ h9 => h9) rfl hd (k H locs ls hP hS hl)
theorem ld_g_trial_weekN (O : ld_Ok l K ad cc nL own R) {v : Int32} {ix : Nat} (hw : Cond.fieldLinkNest own ix "LemonDeals$Street" "week" "I" "LemonDeals" ∈ ld_nws) (hv : σ 122 0 = v) (hd : decode cc pc = .ok (.getfield ix, 3)) (k : K σ lv (.int v :: st) (pc + 3)) : K σ lv (.ref (ad 2) :: st) pc := by
  obtain ⟨X, p, e, s, m, args, below, meth, c, cells, slots, A, Q, hx, hb, hml, hown, hts, hinj, hK, hN, hA1, hA2, hR, rfl⟩ := O
  intro H locs ls hP hS hl
  subst hv; exact va_getN (D := X.1) (ci := 1) (C := RX1) (T := TX1) (N := 11) hx hb hts inlX1 hown hK hP 2 (ld_at2 X ad σ) rfl 2 (by decide) (va_Nw.use rfl (hN _ hw)) (fun _ h9 => h9) rfl hd (k H locs ls hP hS hl)
theorem ld_p_trial_week (O : ld_Ok l K ad cc nL own R) {ix : Nat} {v : Int32} (hw : Cond.fieldLink own ix "LemonDeals$Street" "week" "I" ∈ wsL_law) (hd : decode cc pc = .ok (.putfield ix, 3)) (k : K (us σ 122 (fun _ => v)) lv st (pc + 3)) : K σ lv (.int v :: .ref (ad 2) :: st) pc := by
  obtain ⟨X, p, e, s, m, args, below, meth, c, cells, slots, A, Q, hx, hb, hml, hown, hts, hinj, hK, hN, hA1, hA2, hR, rfl⟩ := O
  intro H locs ls hP hS hl
  refine va_put (D := X.1) (ci := 1) (v := .int v) (ty := .int) (C := RX1) (T := TX1) (N := 11) hx hb hts inlX1 tyX1 tyX1_ok nmX1 hown hK hP (ld_D hinj hA1 X σ) hS 2 (ld_at2 X ad σ) rfl 2 (by decide) (hts _ hw) (fun _ h9 => h9) rfl (by decide +kernel) rfl rfl (Nat.le_of_ble_eq_true rfl) hd (fun H locs hP hD hS => ?_)
  refine k H locs ls ?_ hS hl
  exact (ld_set X ad σ (us σ 122 (fun _ => v)) (by decide) (by rfl) (fun j h1 h2 => ld_ct_I X ad σ _ (by decide) (Or.inr (Or.inr (Or.inl ⟨by decide, by decide, rfl⟩))) h1 h2)) ▸ hP
theorem ld_p_trial_weekN (O : ld_Ok l K ad cc nL own R) {ix : Nat} {v : Int32} (hw : Cond.fieldLinkNest own ix "LemonDeals$Street" "week" "I" "LemonDeals" ∈ ld_nws) (hd : decode cc pc = .ok (.putfield ix, 3)) (k : K (us σ 122 (fun _ => v)) lv st (pc + 3)) : K σ lv (.int v :: .ref (ad 2) :: st) pc := by
  obtain ⟨X, p, e, s, m, args, below, meth, c, cells, slots, A, Q, hx, hb, hml, hown, hts, hinj, hK, hN, hA1, hA2, hR, rfl⟩ := O
  intro H locs ls hP hS hl
  refine va_putN (D := X.1) (ci := 1) (v := .int v) (ty := .int) (C := RX1) (T := TX1) (N := 11) hx hb hts inlX1 tyX1 tyX1_ok nmX1 hown hK hP (ld_D hinj hA1 X σ) hS 2 (ld_at2 X ad σ) rfl 2 (by decide) (va_Nw.use rfl (hN _ hw)) (fun _ h9 => h9) rfl (by decide +kernel) rfl rfl (Nat.le_of_ble_eq_true rfl) hd (fun H locs hP hD hS => ?_)
  refine k H locs ls ?_ hS hl
  exact (ld_set X ad σ (us σ 122 (fun _ => v)) (by decide) (by rfl) (fun j h1 h2 => ld_ct_I X ad σ _ (by decide) (Or.inr (Or.inr (Or.inl ⟨by decide, by decide, rfl⟩))) h1 h2)) ▸ hP
theorem ld_g_trial_leanWeeks (O : ld_Ok l K ad cc nL own R) {v : Int32} {ix : Nat} (hw : Cond.fieldLink own ix "LemonDeals$Street" "leanWeeks" "I" ∈ wsL_law) (hv : σ 123 0 = v) (hd : decode cc pc = .ok (.getfield ix, 3)) (k : K σ lv (.int v :: st) (pc + 3)) : K σ lv (.ref (ad 2) :: st) pc := by
  obtain ⟨X, p, e, s, m, args, below, meth, c, cells, slots, A, Q, hx, hb, hml, hown, hts, hinj, hK, hN, hA1, hA2, hR, rfl⟩ := O
  intro H locs ls hP hS hl
  subst hv; exact va_get (D := X.1) (ci := 1) (C := RX1) (T := TX1) (N := 11) hx hb hts inlX1 hown hK hP 2 (ld_at2 X ad σ) rfl 3 (by decide) (hts _ hw) (fun _ h9 => h9) rfl hd (k H locs ls hP hS hl)
theorem ld_g_trial_leanWeeksN (O : ld_Ok l K ad cc nL own R) {v : Int32} {ix : Nat} (hw : Cond.fieldLinkNest own ix "LemonDeals$Street" "leanWeeks" "I" "LemonDeals" ∈ ld_nws) (hv : σ 123 0 = v) (hd : decode cc pc = .ok (.getfield ix, 3)) (k : K σ lv (.int v :: st) (pc + 3)) : K σ lv (.ref (ad 2) :: st) pc := by
  obtain ⟨X, p, e, s, m, args, below, meth, c, cells, slots, A, Q, hx, hb, hml, hown, hts, hinj, hK, hN, hA1, hA2, hR, rfl⟩ := O
  intro H locs ls hP hS hl
  subst hv; exact va_getN (D := X.1) (ci := 1) (C := RX1) (T := TX1) (N := 11) hx hb hts inlX1 hown hK hP 2 (ld_at2 X ad σ) rfl 3 (by decide) (va_Nw.use rfl (hN _ hw)) (fun _ h9 => h9) rfl hd (k H locs ls hP hS hl)
theorem ld_p_trial_leanWeeks (O : ld_Ok l K ad cc nL own R) {ix : Nat} {v : Int32} (hw : Cond.fieldLink own ix "LemonDeals$Street" "leanWeeks" "I" ∈ wsL_law) (hd : decode cc pc = .ok (.putfield ix, 3)) (k : K (us σ 123 (fun _ => v)) lv st (pc + 3)) : K σ lv (.int v :: .ref (ad 2) :: st) pc := by
  obtain ⟨X, p, e, s, m, args, below, meth, c, cells, slots, A, Q, hx, hb, hml, hown, hts, hinj, hK, hN, hA1, hA2, hR, rfl⟩ := O
  intro H locs ls hP hS hl
  refine va_put (D := X.1) (ci := 1) (v := .int v) (ty := .int) (C := RX1) (T := TX1) (N := 11) hx hb hts inlX1 tyX1 tyX1_ok nmX1 hown hK hP (ld_D hinj hA1 X σ) hS 2 (ld_at2 X ad σ) rfl 3 (by decide) (hts _ hw) (fun _ h9 => h9) rfl (by decide +kernel) rfl rfl (Nat.le_of_ble_eq_true rfl) hd (fun H locs hP hD hS => ?_)
  refine k H locs ls ?_ hS hl
  exact (ld_set X ad σ (us σ 123 (fun _ => v)) (by decide) (by rfl) (fun j h1 h2 => ld_ct_I X ad σ _ (by decide) (Or.inr (Or.inr (Or.inl ⟨by decide, by decide, rfl⟩))) h1 h2)) ▸ hP
theorem ld_p_trial_leanWeeksN (O : ld_Ok l K ad cc nL own R) {ix : Nat} {v : Int32} (hw : Cond.fieldLinkNest own ix "LemonDeals$Street" "leanWeeks" "I" "LemonDeals" ∈ ld_nws) (hd : decode cc pc = .ok (.putfield ix, 3)) (k : K (us σ 123 (fun _ => v)) lv st (pc + 3)) : K σ lv (.int v :: .ref (ad 2) :: st) pc := by
  obtain ⟨X, p, e, s, m, args, below, meth, c, cells, slots, A, Q, hx, hb, hml, hown, hts, hinj, hK, hN, hA1, hA2, hR, rfl⟩ := O
  intro H locs ls hP hS hl
  refine va_putN (D := X.1) (ci := 1) (v := .int v) (ty := .int) (C := RX1) (T := TX1) (N := 11) hx hb hts inlX1 tyX1 tyX1_ok nmX1 hown hK hP (ld_D hinj hA1 X σ) hS 2 (ld_at2 X ad σ) rfl 3 (by decide) (va_Nw.use rfl (hN _ hw)) (fun _ h9 => h9) rfl (by decide +kernel) rfl rfl (Nat.le_of_ble_eq_true rfl) hd (fun H locs hP hD hS => ?_)
  refine k H locs ls ?_ hS hl
  exact (ld_set X ad σ (us σ 123 (fun _ => v)) (by decide) (by rfl) (fun j h1 h2 => ld_ct_I X ad σ _ (by decide) (Or.inr (Or.inr (Or.inl ⟨by decide, by decide, rfl⟩))) h1 h2)) ▸ hP
theorem ld_g_M_fault (O : ld_Ok l K ad cc nL own R) {v : Int32} {ix : Nat} (hw : Cond.fieldLink own ix "LemonDealsModel" "fault" "I" ∈ wsL_law) (hv : σ 140 0 = v) (hd : decode cc pc = .ok (.getfield ix, 3)) (k : K σ lv (.int v :: st) (pc + 3)) : K σ lv (.ref (ad 8) :: st) pc := by
  obtain ⟨X, p, e, s, m, args, below, meth, c, cells, slots, A, Q, hx, hb, hml, hown, hts, hinj, hK, hN, hA1, hA2, hR, rfl⟩ := O
  intro H locs ls hP hS hl
  subst hv; exact va_get (D := X.1) (ci := 3) (C := RX3) (T := TX3) (N := 30) hx hb hts inlX3 hown hK hP 8 (ld_at8 X ad σ) rfl 0 (by decide) (hts _ hw) (fun _ h9 => h9) rfl hd (k H locs ls hP hS hl)
theorem ld_p_M_fault (O : ld_Ok l K ad cc nL own R) {ix : Nat} {v : Int32} (hw : Cond.fieldLink own ix "LemonDealsModel" "fault" "I" ∈ wsL_law) (hd : decode cc pc = .ok (.putfield ix, 3)) (k : K (us σ 140 (fun _ => v)) lv st (pc + 3)) : K σ lv (.int v :: .ref (ad 8) :: st) pc := by
  obtain ⟨X, p, e, s, m, args, below, meth, c, cells, slots, A, Q, hx, hb, hml, hown, hts, hinj, hK, hN, hA1, hA2, hR, rfl⟩ := O
  intro H locs ls hP hS hl
  refine va_put (D := X.1) (ci := 3) (v := .int v) (ty := .int) (C := RX3) (T := TX3) (N := 30) hx hb hts inlX3 tyX3 tyX3_ok nmX3 hown hK hP (ld_D hinj hA1 X σ) hS 8 (ld_at8 X ad σ) rfl 0 (by decide) (hts _ hw) (fun _ h9 => h9) rfl (by decide +kernel) rfl rfl (Nat.le_of_ble_eq_true rfl) hd (fun H locs hP hD hS => ?_)
  refine k H locs ls ?_ hS hl
  exact (ld_set X ad σ (us σ 140 (fun _ => v)) (by decide) (by rfl) (fun j h1 h2 => ld_ct_I X ad σ _ (by decide) (Or.inr (Or.inr (Or.inr ⟨by decide, rfl⟩))) h1 h2)) ▸ hP
theorem ld_g_M_houses (O : ld_Ok l K ad cc nL own R) {v : Int32} {ix : Nat} (hw : Cond.fieldLink own ix "LemonDealsModel" "houses" "I" ∈ wsL_law) (hv : σ 141 0 = v) (hd : decode cc pc = .ok (.getfield ix, 3)) (k : K σ lv (.int v :: st) (pc + 3)) : K σ lv (.ref (ad 8) :: st) pc := by
  obtain ⟨X, p, e, s, m, args, below, meth, c, cells, slots, A, Q, hx, hb, hml, hown, hts, hinj, hK, hN, hA1, hA2, hR, rfl⟩ := O
  intro H locs ls hP hS hl
  subst hv; exact va_get (D := X.1) (ci := 3) (C := RX3) (T := TX3) (N := 30) hx hb hts inlX3 hown hK hP 8 (ld_at8 X ad σ) rfl 1 (by decide) (hts _ hw) (fun _ h9 => h9) rfl hd (k H locs ls hP hS hl)
theorem ld_p_M_houses (O : ld_Ok l K ad cc nL own R) {ix : Nat} {v : Int32} (hw : Cond.fieldLink own ix "LemonDealsModel" "houses" "I" ∈ wsL_law) (hd : decode cc pc = .ok (.putfield ix, 3)) (k : K (us σ 141 (fun _ => v)) lv st (pc + 3)) : K σ lv (.int v :: .ref (ad 8) :: st) pc := by
  obtain ⟨X, p, e, s, m, args, below, meth, c, cells, slots, A, Q, hx, hb, hml, hown, hts, hinj, hK, hN, hA1, hA2, hR, rfl⟩ := O
  intro H locs ls hP hS hl
  refine va_put (D := X.1) (ci := 3) (v := .int v) (ty := .int) (C := RX3) (T := TX3) (N := 30) hx hb hts inlX3 tyX3 tyX3_ok nmX3 hown hK hP (ld_D hinj hA1 X σ) hS 8 (ld_at8 X ad σ) rfl 1 (by decide) (hts _ hw) (fun _ h9 => h9) rfl (by decide +kernel) rfl rfl (Nat.le_of_ble_eq_true rfl) hd (fun H locs hP hD hS => ?_)
  refine k H locs ls ?_ hS hl
  exact (ld_set X ad σ (us σ 141 (fun _ => v)) (by decide) (by rfl) (fun j h1 h2 => ld_ct_I X ad σ _ (by decide) (Or.inr (Or.inr (Or.inr ⟨by decide, rfl⟩))) h1 h2)) ▸ hP
theorem ld_g_M_crateNow (O : ld_Ok l K ad cc nL own R) {v : Int32} {ix : Nat} (hw : Cond.fieldLink own ix "LemonDealsModel" "crateNow" "I" ∈ wsL_law) (hv : σ 142 0 = v) (hd : decode cc pc = .ok (.getfield ix, 3)) (k : K σ lv (.int v :: st) (pc + 3)) : K σ lv (.ref (ad 8) :: st) pc := by
  obtain ⟨X, p, e, s, m, args, below, meth, c, cells, slots, A, Q, hx, hb, hml, hown, hts, hinj, hK, hN, hA1, hA2, hR, rfl⟩ := O
  intro H locs ls hP hS hl
  subst hv; exact va_get (D := X.1) (ci := 3) (C := RX3) (T := TX3) (N := 30) hx hb hts inlX3 hown hK hP 8 (ld_at8 X ad σ) rfl 2 (by decide) (hts _ hw) (fun _ h9 => h9) rfl hd (k H locs ls hP hS hl)
theorem ld_p_M_crateNow (O : ld_Ok l K ad cc nL own R) {ix : Nat} {v : Int32} (hw : Cond.fieldLink own ix "LemonDealsModel" "crateNow" "I" ∈ wsL_law) (hd : decode cc pc = .ok (.putfield ix, 3)) (k : K (us σ 142 (fun _ => v)) lv st (pc + 3)) : K σ lv (.int v :: .ref (ad 8) :: st) pc := by
  obtain ⟨X, p, e, s, m, args, below, meth, c, cells, slots, A, Q, hx, hb, hml, hown, hts, hinj, hK, hN, hA1, hA2, hR, rfl⟩ := O
  intro H locs ls hP hS hl
  refine va_put (D := X.1) (ci := 3) (v := .int v) (ty := .int) (C := RX3) (T := TX3) (N := 30) hx hb hts inlX3 tyX3 tyX3_ok nmX3 hown hK hP (ld_D hinj hA1 X σ) hS 8 (ld_at8 X ad σ) rfl 2 (by decide) (hts _ hw) (fun _ h9 => h9) rfl (by decide +kernel) rfl rfl (Nat.le_of_ble_eq_true rfl) hd (fun H locs hP hD hS => ?_)
  refine k H locs ls ?_ hS hl
  exact (ld_set X ad σ (us σ 142 (fun _ => v)) (by decide) (by rfl) (fun j h1 h2 => ld_ct_I X ad σ _ (by decide) (Or.inr (Or.inr (Or.inr ⟨by decide, rfl⟩))) h1 h2)) ▸ hP
theorem ld_g_M_weekNow (O : ld_Ok l K ad cc nL own R) {v : Int32} {ix : Nat} (hw : Cond.fieldLink own ix "LemonDealsModel" "weekNow" "I" ∈ wsL_law) (hv : σ 143 0 = v) (hd : decode cc pc = .ok (.getfield ix, 3)) (k : K σ lv (.int v :: st) (pc + 3)) : K σ lv (.ref (ad 8) :: st) pc := by
  obtain ⟨X, p, e, s, m, args, below, meth, c, cells, slots, A, Q, hx, hb, hml, hown, hts, hinj, hK, hN, hA1, hA2, hR, rfl⟩ := O
  intro H locs ls hP hS hl
  subst hv; exact va_get (D := X.1) (ci := 3) (C := RX3) (T := TX3) (N := 30) hx hb hts inlX3 hown hK hP 8 (ld_at8 X ad σ) rfl 3 (by decide) (hts _ hw) (fun _ h9 => h9) rfl hd (k H locs ls hP hS hl)
theorem ld_p_M_weekNow (O : ld_Ok l K ad cc nL own R) {ix : Nat} {v : Int32} (hw : Cond.fieldLink own ix "LemonDealsModel" "weekNow" "I" ∈ wsL_law) (hd : decode cc pc = .ok (.putfield ix, 3)) (k : K (us σ 143 (fun _ => v)) lv st (pc + 3)) : K σ lv (.int v :: .ref (ad 8) :: st) pc := by
  obtain ⟨X, p, e, s, m, args, below, meth, c, cells, slots, A, Q, hx, hb, hml, hown, hts, hinj, hK, hN, hA1, hA2, hR, rfl⟩ := O
  intro H locs ls hP hS hl
  refine va_put (D := X.1) (ci := 3) (v := .int v) (ty := .int) (C := RX3) (T := TX3) (N := 30) hx hb hts inlX3 tyX3 tyX3_ok nmX3 hown hK hP (ld_D hinj hA1 X σ) hS 8 (ld_at8 X ad σ) rfl 3 (by decide) (hts _ hw) (fun _ h9 => h9) rfl (by decide +kernel) rfl rfl (Nat.le_of_ble_eq_true rfl) hd (fun H locs hP hD hS => ?_)
  refine k H locs ls ?_ hS hl
  exact (ld_set X ad σ (us σ 143 (fun _ => v)) (by decide) (by rfl) (fun j h1 h2 => ld_ct_I X ad σ _ (by decide) (Or.inr (Or.inr (Or.inr ⟨by decide, rfl⟩))) h1 h2)) ▸ hP
theorem ld_g_M_readAt (O : ld_Ok l K ad cc nL own R) {v : Int32} {ix : Nat} (hw : Cond.fieldLink own ix "LemonDealsModel" "readAt" "I" ∈ wsL_law) (hv : σ 144 0 = v) (hd : decode cc pc = .ok (.getfield ix, 3)) (k : K σ lv (.int v :: st) (pc + 3)) : K σ lv (.ref (ad 8) :: st) pc := by
  obtain ⟨X, p, e, s, m, args, below, meth, c, cells, slots, A, Q, hx, hb, hml, hown, hts, hinj, hK, hN, hA1, hA2, hR, rfl⟩ := O
  intro H locs ls hP hS hl
  subst hv; exact va_get (D := X.1) (ci := 3) (C := RX3) (T := TX3) (N := 30) hx hb hts inlX3 hown hK hP 8 (ld_at8 X ad σ) rfl 8 (by decide) (hts _ hw) (fun _ h9 => h9) rfl hd (k H locs ls hP hS hl)
theorem ld_p_M_readAt (O : ld_Ok l K ad cc nL own R) {ix : Nat} {v : Int32} (hw : Cond.fieldLink own ix "LemonDealsModel" "readAt" "I" ∈ wsL_law) (hd : decode cc pc = .ok (.putfield ix, 3)) (k : K (us σ 144 (fun _ => v)) lv st (pc + 3)) : K σ lv (.int v :: .ref (ad 8) :: st) pc := by
  obtain ⟨X, p, e, s, m, args, below, meth, c, cells, slots, A, Q, hx, hb, hml, hown, hts, hinj, hK, hN, hA1, hA2, hR, rfl⟩ := O
  intro H locs ls hP hS hl
  refine va_put (D := X.1) (ci := 3) (v := .int v) (ty := .int) (C := RX3) (T := TX3) (N := 30) hx hb hts inlX3 tyX3 tyX3_ok nmX3 hown hK hP (ld_D hinj hA1 X σ) hS 8 (ld_at8 X ad σ) rfl 8 (by decide) (hts _ hw) (fun _ h9 => h9) rfl (by decide +kernel) rfl rfl (Nat.le_of_ble_eq_true rfl) hd (fun H locs hP hD hS => ?_)
  refine k H locs ls ?_ hS hl
  exact (ld_set X ad σ (us σ 144 (fun _ => v)) (by decide) (by rfl) (fun j h1 h2 => ld_ct_I X ad σ _ (by decide) (Or.inr (Or.inr (Or.inr ⟨by decide, rfl⟩))) h1 h2)) ▸ hP
theorem ld_g_M_readHouses (O : ld_Ok l K ad cc nL own R) {v : Int32} {ix : Nat} (hw : Cond.fieldLink own ix "LemonDealsModel" "readHouses" "I" ∈ wsL_law) (hv : σ 145 0 = v) (hd : decode cc pc = .ok (.getfield ix, 3)) (k : K σ lv (.int v :: st) (pc + 3)) : K σ lv (.ref (ad 8) :: st) pc := by
  obtain ⟨X, p, e, s, m, args, below, meth, c, cells, slots, A, Q, hx, hb, hml, hown, hts, hinj, hK, hN, hA1, hA2, hR, rfl⟩ := O
  intro H locs ls hP hS hl
  subst hv; exact va_get (D := X.1) (ci := 3) (C := RX3) (T := TX3) (N := 30) hx hb hts inlX3 hown hK hP 8 (ld_at8 X ad σ) rfl 9 (by decide) (hts _ hw) (fun _ h9 => h9) rfl hd (k H locs ls hP hS hl)
theorem ld_p_M_readHouses (O : ld_Ok l K ad cc nL own R) {ix : Nat} {v : Int32} (hw : Cond.fieldLink own ix "LemonDealsModel" "readHouses" "I" ∈ wsL_law) (hd : decode cc pc = .ok (.putfield ix, 3)) (k : K (us σ 145 (fun _ => v)) lv st (pc + 3)) : K σ lv (.int v :: .ref (ad 8) :: st) pc := by
  obtain ⟨X, p, e, s, m, args, below, meth, c, cells, slots, A, Q, hx, hb, hml, hown, hts, hinj, hK, hN, hA1, hA2, hR, rfl⟩ := O
  intro H locs ls hP hS hl
  refine va_put (D := X.1) (ci := 3) (v := .int v) (ty := .int) (C := RX3) (T := TX3) (N := 30) hx hb hts inlX3 tyX3 tyX3_ok nmX3 hown hK hP (ld_D hinj hA1 X σ) hS 8 (ld_at8 X ad σ) rfl 9 (by decide) (hts _ hw) (fun _ h9 => h9) rfl (by decide +kernel) rfl rfl (Nat.le_of_ble_eq_true rfl) hd (fun H locs hP hD hS => ?_)
  refine k H locs ls ?_ hS hl
  exact (ld_set X ad σ (us σ 145 (fun _ => v)) (by decide) (by rfl) (fun j h1 h2 => ld_ct_I X ad σ _ (by decide) (Or.inr (Or.inr (Or.inr ⟨by decide, rfl⟩))) h1 h2)) ▸ hP
theorem ld_g_M_readCrate (O : ld_Ok l K ad cc nL own R) {v : Int32} {ix : Nat} (hw : Cond.fieldLink own ix "LemonDealsModel" "readCrate" "I" ∈ wsL_law) (hv : σ 146 0 = v) (hd : decode cc pc = .ok (.getfield ix, 3)) (k : K σ lv (.int v :: st) (pc + 3)) : K σ lv (.ref (ad 8) :: st) pc := by
  obtain ⟨X, p, e, s, m, args, below, meth, c, cells, slots, A, Q, hx, hb, hml, hown, hts, hinj, hK, hN, hA1, hA2, hR, rfl⟩ := O
  intro H locs ls hP hS hl
  subst hv; exact va_get (D := X.1) (ci := 3) (C := RX3) (T := TX3) (N := 30) hx hb hts inlX3 hown hK hP 8 (ld_at8 X ad σ) rfl 10 (by decide) (hts _ hw) (fun _ h9 => h9) rfl hd (k H locs ls hP hS hl)
theorem ld_p_M_readCrate (O : ld_Ok l K ad cc nL own R) {ix : Nat} {v : Int32} (hw : Cond.fieldLink own ix "LemonDealsModel" "readCrate" "I" ∈ wsL_law) (hd : decode cc pc = .ok (.putfield ix, 3)) (k : K (us σ 146 (fun _ => v)) lv st (pc + 3)) : K σ lv (.int v :: .ref (ad 8) :: st) pc := by
  obtain ⟨X, p, e, s, m, args, below, meth, c, cells, slots, A, Q, hx, hb, hml, hown, hts, hinj, hK, hN, hA1, hA2, hR, rfl⟩ := O
  intro H locs ls hP hS hl
  refine va_put (D := X.1) (ci := 3) (v := .int v) (ty := .int) (C := RX3) (T := TX3) (N := 30) hx hb hts inlX3 tyX3 tyX3_ok nmX3 hown hK hP (ld_D hinj hA1 X σ) hS 8 (ld_at8 X ad σ) rfl 10 (by decide) (hts _ hw) (fun _ h9 => h9) rfl (by decide +kernel) rfl rfl (Nat.le_of_ble_eq_true rfl) hd (fun H locs hP hD hS => ?_)
  refine k H locs ls ?_ hS hl
  exact (ld_set X ad σ (us σ 146 (fun _ => v)) (by decide) (by rfl) (fun j h1 h2 => ld_ct_I X ad σ _ (by decide) (Or.inr (Or.inr (Or.inr ⟨by decide, rfl⟩))) h1 h2)) ▸ hP
theorem ld_g_M_crateKept (O : ld_Ok l K ad cc nL own R) {v : Int32} {ix : Nat} (hw : Cond.fieldLink own ix "LemonDealsModel" "crateKept" "I" ∈ wsL_law) (hv : σ 147 0 = v) (hd : decode cc pc = .ok (.getfield ix, 3)) (k : K σ lv (.int v :: st) (pc + 3)) : K σ lv (.ref (ad 8) :: st) pc := by
  obtain ⟨X, p, e, s, m, args, below, meth, c, cells, slots, A, Q, hx, hb, hml, hown, hts, hinj, hK, hN, hA1, hA2, hR, rfl⟩ := O
  intro H locs ls hP hS hl
  subst hv; exact va_get (D := X.1) (ci := 3) (C := RX3) (T := TX3) (N := 30) hx hb hts inlX3 hown hK hP 8 (ld_at8 X ad σ) rfl 15 (by decide) (hts _ hw) (fun _ h9 => h9) rfl hd (k H locs ls hP hS hl)
theorem ld_p_M_crateKept (O : ld_Ok l K ad cc nL own R) {ix : Nat} {v : Int32} (hw : Cond.fieldLink own ix "LemonDealsModel" "crateKept" "I" ∈ wsL_law) (hd : decode cc pc = .ok (.putfield ix, 3)) (k : K (us σ 147 (fun _ => v)) lv st (pc + 3)) : K σ lv (.int v :: .ref (ad 8) :: st) pc := by
  obtain ⟨X, p, e, s, m, args, below, meth, c, cells, slots, A, Q, hx, hb, hml, hown, hts, hinj, hK, hN, hA1, hA2, hR, rfl⟩ := O
  intro H locs ls hP hS hl
  refine va_put (D := X.1) (ci := 3) (v := .int v) (ty := .int) (C := RX3) (T := TX3) (N := 30) hx hb hts inlX3 tyX3 tyX3_ok nmX3 hown hK hP (ld_D hinj hA1 X σ) hS 8 (ld_at8 X ad σ) rfl 15 (by decide) (hts _ hw) (fun _ h9 => h9) rfl (by decide +kernel) rfl rfl (Nat.le_of_ble_eq_true rfl) hd (fun H locs hP hD hS => ?_)
  refine k H locs ls ?_ hS hl
  exact (ld_set X ad σ (us σ 147 (fun _ => v)) (by decide) (by rfl) (fun j h1 h2 => ld_ct_I X ad σ _ (by decide) (Or.inr (Or.inr (Or.inr ⟨by decide, rfl⟩))) h1 h2)) ▸ hP
theorem ld_g_M_weekKept (O : ld_Ok l K ad cc nL own R) {v : Int32} {ix : Nat} (hw : Cond.fieldLink own ix "LemonDealsModel" "weekKept" "I" ∈ wsL_law) (hv : σ 148 0 = v) (hd : decode cc pc = .ok (.getfield ix, 3)) (k : K σ lv (.int v :: st) (pc + 3)) : K σ lv (.ref (ad 8) :: st) pc := by
  obtain ⟨X, p, e, s, m, args, below, meth, c, cells, slots, A, Q, hx, hb, hml, hown, hts, hinj, hK, hN, hA1, hA2, hR, rfl⟩ := O
  intro H locs ls hP hS hl
  subst hv; exact va_get (D := X.1) (ci := 3) (C := RX3) (T := TX3) (N := 30) hx hb hts inlX3 hown hK hP 8 (ld_at8 X ad σ) rfl 16 (by decide) (hts _ hw) (fun _ h9 => h9) rfl hd (k H locs ls hP hS hl)
theorem ld_p_M_weekKept (O : ld_Ok l K ad cc nL own R) {ix : Nat} {v : Int32} (hw : Cond.fieldLink own ix "LemonDealsModel" "weekKept" "I" ∈ wsL_law) (hd : decode cc pc = .ok (.putfield ix, 3)) (k : K (us σ 148 (fun _ => v)) lv st (pc + 3)) : K σ lv (.int v :: .ref (ad 8) :: st) pc := by
  obtain ⟨X, p, e, s, m, args, below, meth, c, cells, slots, A, Q, hx, hb, hml, hown, hts, hinj, hK, hN, hA1, hA2, hR, rfl⟩ := O
  intro H locs ls hP hS hl
  refine va_put (D := X.1) (ci := 3) (v := .int v) (ty := .int) (C := RX3) (T := TX3) (N := 30) hx hb hts inlX3 tyX3 tyX3_ok nmX3 hown hK hP (ld_D hinj hA1 X σ) hS 8 (ld_at8 X ad σ) rfl 16 (by decide) (hts _ hw) (fun _ h9 => h9) rfl (by decide +kernel) rfl rfl (Nat.le_of_ble_eq_true rfl) hd (fun H locs hP hD hS => ?_)
  refine k H locs ls ?_ hS hl
  exact (ld_set X ad σ (us σ 148 (fun _ => v)) (by decide) (by rfl) (fun j h1 h2 => ld_ct_I X ad σ _ (by decide) (Or.inr (Or.inr (Or.inr ⟨by decide, rfl⟩))) h1 h2)) ▸ hP
theorem ld_g_M_weeksWithout (O : ld_Ok l K ad cc nL own R) {v : Int32} {ix : Nat} (hw : Cond.fieldLink own ix "LemonDealsModel" "weeksWithout" "I" ∈ wsL_law) (hv : σ 149 0 = v) (hd : decode cc pc = .ok (.getfield ix, 3)) (k : K σ lv (.int v :: st) (pc + 3)) : K σ lv (.ref (ad 8) :: st) pc := by
  obtain ⟨X, p, e, s, m, args, below, meth, c, cells, slots, A, Q, hx, hb, hml, hown, hts, hinj, hK, hN, hA1, hA2, hR, rfl⟩ := O
  intro H locs ls hP hS hl
  subst hv; exact va_get (D := X.1) (ci := 3) (C := RX3) (T := TX3) (N := 30) hx hb hts inlX3 hown hK hP 8 (ld_at8 X ad σ) rfl 20 (by decide) (hts _ hw) (fun _ h9 => h9) rfl hd (k H locs ls hP hS hl)
theorem ld_p_M_weeksWithout (O : ld_Ok l K ad cc nL own R) {ix : Nat} {v : Int32} (hw : Cond.fieldLink own ix "LemonDealsModel" "weeksWithout" "I" ∈ wsL_law) (hd : decode cc pc = .ok (.putfield ix, 3)) (k : K (us σ 149 (fun _ => v)) lv st (pc + 3)) : K σ lv (.int v :: .ref (ad 8) :: st) pc := by
  obtain ⟨X, p, e, s, m, args, below, meth, c, cells, slots, A, Q, hx, hb, hml, hown, hts, hinj, hK, hN, hA1, hA2, hR, rfl⟩ := O
  intro H locs ls hP hS hl
  refine va_put (D := X.1) (ci := 3) (v := .int v) (ty := .int) (C := RX3) (T := TX3) (N := 30) hx hb hts inlX3 tyX3 tyX3_ok nmX3 hown hK hP (ld_D hinj hA1 X σ) hS 8 (ld_at8 X ad σ) rfl 20 (by decide) (hts _ hw) (fun _ h9 => h9) rfl (by decide +kernel) rfl rfl (Nat.le_of_ble_eq_true rfl) hd (fun H locs hP hD hS => ?_)
  refine k H locs ls ?_ hS hl
  exact (ld_set X ad σ (us σ 149 (fun _ => v)) (by decide) (by rfl) (fun j h1 h2 => ld_ct_I X ad σ _ (by decide) (Or.inr (Or.inr (Or.inr ⟨by decide, rfl⟩))) h1 h2)) ▸ hP
theorem ld_g_M_readings (O : ld_Ok l K ad cc nL own R) {v : Int32} {ix : Nat} (hw : Cond.fieldLink own ix "LemonDealsModel" "readings" "I" ∈ wsL_law) (hv : σ 150 0 = v) (hd : decode cc pc = .ok (.getfield ix, 3)) (k : K σ lv (.int v :: st) (pc + 3)) : K σ lv (.ref (ad 8) :: st) pc := by
  obtain ⟨X, p, e, s, m, args, below, meth, c, cells, slots, A, Q, hx, hb, hml, hown, hts, hinj, hK, hN, hA1, hA2, hR, rfl⟩ := O
  intro H locs ls hP hS hl
  subst hv; exact va_get (D := X.1) (ci := 3) (C := RX3) (T := TX3) (N := 30) hx hb hts inlX3 hown hK hP 8 (ld_at8 X ad σ) rfl 22 (by decide) (hts _ hw) (fun _ h9 => h9) rfl hd (k H locs ls hP hS hl)
theorem ld_p_M_readings (O : ld_Ok l K ad cc nL own R) {ix : Nat} {v : Int32} (hw : Cond.fieldLink own ix "LemonDealsModel" "readings" "I" ∈ wsL_law) (hd : decode cc pc = .ok (.putfield ix, 3)) (k : K (us σ 150 (fun _ => v)) lv st (pc + 3)) : K σ lv (.int v :: .ref (ad 8) :: st) pc := by
  obtain ⟨X, p, e, s, m, args, below, meth, c, cells, slots, A, Q, hx, hb, hml, hown, hts, hinj, hK, hN, hA1, hA2, hR, rfl⟩ := O
  intro H locs ls hP hS hl
  refine va_put (D := X.1) (ci := 3) (v := .int v) (ty := .int) (C := RX3) (T := TX3) (N := 30) hx hb hts inlX3 tyX3 tyX3_ok nmX3 hown hK hP (ld_D hinj hA1 X σ) hS 8 (ld_at8 X ad σ) rfl 22 (by decide) (hts _ hw) (fun _ h9 => h9) rfl (by decide +kernel) rfl rfl (Nat.le_of_ble_eq_true rfl) hd (fun H locs hP hD hS => ?_)
  refine k H locs ls ?_ hS hl
  exact (ld_set X ad σ (us σ 150 (fun _ => v)) (by decide) (by rfl) (fun j h1 h2 => ld_ct_I X ad σ _ (by decide) (Or.inr (Or.inr (Or.inr ⟨by decide, rfl⟩))) h1 h2)) ▸ hP
theorem ld_g_M_traceNow (O : ld_Ok l K ad cc nL own R) {v : Int32} {ix : Nat} (hw : Cond.fieldLink own ix "LemonDealsModel" "traceNow" "I" ∈ wsL_law) (hv : σ 151 0 = v) (hd : decode cc pc = .ok (.getfield ix, 3)) (k : K σ lv (.int v :: st) (pc + 3)) : K σ lv (.ref (ad 8) :: st) pc := by
  obtain ⟨X, p, e, s, m, args, below, meth, c, cells, slots, A, Q, hx, hb, hml, hown, hts, hinj, hK, hN, hA1, hA2, hR, rfl⟩ := O
  intro H locs ls hP hS hl
  subst hv; exact va_get (D := X.1) (ci := 3) (C := RX3) (T := TX3) (N := 30) hx hb hts inlX3 hown hK hP 8 (ld_at8 X ad σ) rfl 29 (by decide) (hts _ hw) (fun _ h9 => h9) rfl hd (k H locs ls hP hS hl)
theorem ld_p_M_traceNow (O : ld_Ok l K ad cc nL own R) {ix : Nat} {v : Int32} (hw : Cond.fieldLink own ix "LemonDealsModel" "traceNow" "I" ∈ wsL_law) (hd : decode cc pc = .ok (.putfield ix, 3)) (k : K (us σ 151 (fun _ => v)) lv st (pc + 3)) : K σ lv (.int v :: .ref (ad 8) :: st) pc := by
  obtain ⟨X, p, e, s, m, args, below, meth, c, cells, slots, A, Q, hx, hb, hml, hown, hts, hinj, hK, hN, hA1, hA2, hR, rfl⟩ := O
  intro H locs ls hP hS hl
  refine va_put (D := X.1) (ci := 3) (v := .int v) (ty := .int) (C := RX3) (T := TX3) (N := 30) hx hb hts inlX3 tyX3 tyX3_ok nmX3 hown hK hP (ld_D hinj hA1 X σ) hS 8 (ld_at8 X ad σ) rfl 29 (by decide) (hts _ hw) (fun _ h9 => h9) rfl (by decide +kernel) rfl rfl (Nat.le_of_ble_eq_true rfl) hd (fun H locs hP hD hS => ?_)
  refine k H locs ls ?_ hS hl
  exact (ld_set X ad σ (us σ 151 (fun _ => v)) (by decide) (by rfl) (fun j h1 h2 => ld_ct_I X ad σ _ (by decide) (Or.inr (Or.inr (Or.inr ⟨by decide, rfl⟩))) h1 h2)) ▸ hP
theorem ld_g_LD_now (O : ld_Ok l K ad cc nL own R) {ix : Nat} (hw : Cond.fieldLink own ix "LemonDeals" "now" "LLemonDeals$Street;" ∈ wsL_law) (hd : decode cc pc = .ok (.getfield ix, 3)) (k : K σ lv (.ref (ad 1) :: st) (pc + 3)) : K σ lv (.ref (ad 0) :: st) pc := by
  obtain ⟨X, p, e, s, m, args, below, meth, c, cells, slots, A, Q, hx, hb, hml, hown, hts, hinj, hK, hN, hA1, hA2, hR, rfl⟩ := O
  intro H locs ls hP hS hl
  exact va_get (D := X.1) (ci := 2) (C := RX2) (T := TX2) (N := 8) hx hb hts inlX2 hown hK hP 0 (ld_at0 X ad σ) rfl 0 (by decide) (hts _ hw) (fun _ h9 => h9) rfl hd (k H locs ls hP hS hl)
theorem ld_g_LD_trial (O : ld_Ok l K ad cc nL own R) {ix : Nat} (hw : Cond.fieldLink own ix "LemonDeals" "trial" "LLemonDeals$Street;" ∈ wsL_law) (hd : decode cc pc = .ok (.getfield ix, 3)) (k : K σ lv (.ref (ad 2) :: st) (pc + 3)) : K σ lv (.ref (ad 0) :: st) pc := by
  obtain ⟨X, p, e, s, m, args, below, meth, c, cells, slots, A, Q, hx, hb, hml, hown, hts, hinj, hK, hN, hA1, hA2, hR, rfl⟩ := O
  intro H locs ls hP hS hl
  exact va_get (D := X.1) (ci := 2) (C := RX2) (T := TX2) (N := 8) hx hb hts inlX2 hown hK hP 0 (ld_at0 X ad σ) rfl 1 (by decide) (hts _ hw) (fun _ h9 => h9) rfl hd (k H locs ls hP hS hl)
theorem ld_g_LD_sheets (O : ld_Ok l K ad cc nL own R) {ix : Nat} (hw : Cond.fieldLink own ix "LemonDeals" "sheets" "[LLemonDeals$Sheet;" ∈ wsL_law) (hd : decode cc pc = .ok (.getfield ix, 3)) (k : K σ lv (.ref (ad 3) :: st) (pc + 3)) : K σ lv (.ref (ad 0) :: st) pc := by
  obtain ⟨X, p, e, s, m, args, below, meth, c, cells, slots, A, Q, hx, hb, hml, hown, hts, hinj, hK, hN, hA1, hA2, hR, rfl⟩ := O
  intro H locs ls hP hS hl
  exact va_get (D := X.1) (ci := 2) (C := RX2) (T := TX2) (N := 8) hx hb hts inlX2 hown hK hP 0 (ld_at0 X ad σ) rfl 2 (by decide) (hts _ hw) (fun _ h9 => h9) rfl hd (k H locs ls hP hS hl)
theorem ld_g_LD_readHouse (O : ld_Ok l K ad cc nL own R) {ix : Nat} (hw : Cond.fieldLink own ix "LemonDeals" "readHouse" "[I" ∈ wsL_law) (hd : decode cc pc = .ok (.getfield ix, 3)) (k : K σ lv (.ref (ad (9 + 14)) :: st) (pc + 3)) : K σ lv (.ref (ad 0) :: st) pc := by
  obtain ⟨X, p, e, s, m, args, below, meth, c, cells, slots, A, Q, hx, hb, hml, hown, hts, hinj, hK, hN, hA1, hA2, hR, rfl⟩ := O
  intro H locs ls hP hS hl
  exact va_get (D := X.1) (ci := 2) (C := RX2) (T := TX2) (N := 8) hx hb hts inlX2 hown hK hP 0 (ld_at0 X ad σ) rfl 3 (by decide) (hts _ hw) (fun _ h9 => h9) rfl hd (k H locs ls hP hS hl)
theorem ld_g_LD_readDealt (O : ld_Ok l K ad cc nL own R) {ix : Nat} (hw : Cond.fieldLink own ix "LemonDeals" "readDealt" "[I" ∈ wsL_law) (hd : decode cc pc = .ok (.getfield ix, 3)) (k : K σ lv (.ref (ad (9 + 15)) :: st) (pc + 3)) : K σ lv (.ref (ad 0) :: st) pc := by
  obtain ⟨X, p, e, s, m, args, below, meth, c, cells, slots, A, Q, hx, hb, hml, hown, hts, hinj, hK, hN, hA1, hA2, hR, rfl⟩ := O
  intro H locs ls hP hS hl
  exact va_get (D := X.1) (ci := 2) (C := RX2) (T := TX2) (N := 8) hx hb hts inlX2 hown hK hP 0 (ld_at0 X ad σ) rfl 4 (by decide) (hts _ hw) (fun _ h9 => h9) rfl hd (k H locs ls hP hS hl)
theorem ld_g_now_kind (O : ld_Ok l K ad cc nL own R) {ix : Nat} (hw : Cond.fieldLink own ix "LemonDeals$Street" "kind" "[I" ∈ wsL_law) (hd : decode cc pc = .ok (.getfield ix, 3)) (k : K σ lv (.ref (ad (9 + 0)) :: st) (pc + 3)) : K σ lv (.ref (ad 1) :: st) pc := by
  obtain ⟨X, p, e, s, m, args, below, meth, c, cells, slots, A, Q, hx, hb, hml, hown, hts, hinj, hK, hN, hA1, hA2, hR, rfl⟩ := O
  intro H locs ls hP hS hl
  exact va_get (D := X.1) (ci := 1) (C := RX1) (T := TX1) (N := 11) hx hb hts inlX1 hown hK hP 1 (ld_at1 X ad σ) rfl 4 (by decide) (hts _ hw) (fun _ h9 => h9) rfl hd (k H locs ls hP hS hl)
theorem ld_g_now_kindN (O : ld_Ok l K ad cc nL own R) {ix : Nat} (hw : Cond.fieldLinkNest own ix "LemonDeals$Street" "kind" "[I" "LemonDeals" ∈ ld_nws) (hd : decode cc pc = .ok (.getfield ix, 3)) (k : K σ lv (.ref (ad (9 + 0)) :: st) (pc + 3)) : K σ lv (.ref (ad 1) :: st) pc := by
  obtain ⟨X, p, e, s, m, args, below, meth, c, cells, slots, A, Q, hx, hb, hml, hown, hts, hinj, hK, hN, hA1, hA2, hR, rfl⟩ := O
  intro H locs ls hP hS hl
  exact va_getN (D := X.1) (ci := 1) (C := RX1) (T := TX1) (N := 11) hx hb hts inlX1 hown hK hP 1 (ld_at1 X ad σ) rfl 4 (by decide) (va_Nw.use rfl (hN _ hw)) (fun _ h9 => h9) rfl hd (k H locs ls hP hS hl)
theorem ld_g_now_temper (O : ld_Ok l K ad cc nL own R) {ix : Nat} (hw : Cond.fieldLink own ix "LemonDeals$Street" "temper" "[I" ∈ wsL_law) (hd : decode cc pc = .ok (.getfield ix, 3)) (k : K σ lv (.ref (ad (9 + 1)) :: st) (pc + 3)) : K σ lv (.ref (ad 1) :: st) pc := by
  obtain ⟨X, p, e, s, m, args, below, meth, c, cells, slots, A, Q, hx, hb, hml, hown, hts, hinj, hK, hN, hA1, hA2, hR, rfl⟩ := O
  intro H locs ls hP hS hl
  exact va_get (D := X.1) (ci := 1) (C := RX1) (T := TX1) (N := 11) hx hb hts inlX1 hown hK hP 1 (ld_at1 X ad σ) rfl 5 (by decide) (hts _ hw) (fun _ h9 => h9) rfl hd (k H locs ls hP hS hl)
theorem ld_g_now_temperN (O : ld_Ok l K ad cc nL own R) {ix : Nat} (hw : Cond.fieldLinkNest own ix "LemonDeals$Street" "temper" "[I" "LemonDeals" ∈ ld_nws) (hd : decode cc pc = .ok (.getfield ix, 3)) (k : K σ lv (.ref (ad (9 + 1)) :: st) (pc + 3)) : K σ lv (.ref (ad 1) :: st) pc := by
  obtain ⟨X, p, e, s, m, args, below, meth, c, cells, slots, A, Q, hx, hb, hml, hown, hts, hinj, hK, hN, hA1, hA2, hR, rfl⟩ := O
  intro H locs ls hP hS hl
  exact va_getN (D := X.1) (ci := 1) (C := RX1) (T := TX1) (N := 11) hx hb hts inlX1 hown hK hP 1 (ld_at1 X ad σ) rfl 5 (by decide) (va_Nw.use rfl (hN _ hw)) (fun _ h9 => h9) rfl hd (k H locs ls hP hS hl)
theorem ld_g_now_stock (O : ld_Ok l K ad cc nL own R) {ix : Nat} (hw : Cond.fieldLink own ix "LemonDeals$Street" "stock" "[I" ∈ wsL_law) (hd : decode cc pc = .ok (.getfield ix, 3)) (k : K σ lv (.ref (ad (9 + 2)) :: st) (pc + 3)) : K σ lv (.ref (ad 1) :: st) pc := by
  obtain ⟨X, p, e, s, m, args, below, meth, c, cells, slots, A, Q, hx, hb, hml, hown, hts, hinj, hK, hN, hA1, hA2, hR, rfl⟩ := O
  intro H locs ls hP hS hl
  exact va_get (D := X.1) (ci := 1) (C := RX1) (T := TX1) (N := 11) hx hb hts inlX1 hown hK hP 1 (ld_at1 X ad σ) rfl 6 (by decide) (hts _ hw) (fun _ h9 => h9) rfl hd (k H locs ls hP hS hl)
theorem ld_g_now_stockN (O : ld_Ok l K ad cc nL own R) {ix : Nat} (hw : Cond.fieldLinkNest own ix "LemonDeals$Street" "stock" "[I" "LemonDeals" ∈ ld_nws) (hd : decode cc pc = .ok (.getfield ix, 3)) (k : K σ lv (.ref (ad (9 + 2)) :: st) (pc + 3)) : K σ lv (.ref (ad 1) :: st) pc := by
  obtain ⟨X, p, e, s, m, args, below, meth, c, cells, slots, A, Q, hx, hb, hml, hown, hts, hinj, hK, hN, hA1, hA2, hR, rfl⟩ := O
  intro H locs ls hP hS hl
  exact va_getN (D := X.1) (ci := 1) (C := RX1) (T := TX1) (N := 11) hx hb hts inlX1 hown hK hP 1 (ld_at1 X ad σ) rfl 6 (by decide) (va_Nw.use rfl (hN _ hw)) (fun _ h9 => h9) rfl hd (k H locs ls hP hS hl)
theorem ld_g_now_pips (O : ld_Ok l K ad cc nL own R) {ix : Nat} (hw : Cond.fieldLink own ix "LemonDeals$Street" "pips" "[I" ∈ wsL_law) (hd : decode cc pc = .ok (.getfield ix, 3)) (k : K σ lv (.ref (ad (9 + 3)) :: st) (pc + 3)) : K σ lv (.ref (ad 1) :: st) pc := by
  obtain ⟨X, p, e, s, m, args, below, meth, c, cells, slots, A, Q, hx, hb, hml, hown, hts, hinj, hK, hN, hA1, hA2, hR, rfl⟩ := O
  intro H locs ls hP hS hl
  exact va_get (D := X.1) (ci := 1) (C := RX1) (T := TX1) (N := 11) hx hb hts inlX1 hown hK hP 1 (ld_at1 X ad σ) rfl 7 (by decide) (hts _ hw) (fun _ h9 => h9) rfl hd (k H locs ls hP hS hl)
theorem ld_g_now_pipsN (O : ld_Ok l K ad cc nL own R) {ix : Nat} (hw : Cond.fieldLinkNest own ix "LemonDeals$Street" "pips" "[I" "LemonDeals" ∈ ld_nws) (hd : decode cc pc = .ok (.getfield ix, 3)) (k : K σ lv (.ref (ad (9 + 3)) :: st) (pc + 3)) : K σ lv (.ref (ad 1) :: st) pc := by
  obtain ⟨X, p, e, s, m, args, below, meth, c, cells, slots, A, Q, hx, hb, hml, hown, hts, hinj, hK, hN, hA1, hA2, hR, rfl⟩ := O
  intro H locs ls hP hS hl
  exact va_getN (D := X.1) (ci := 1) (C := RX1) (T := TX1) (N := 11) hx hb hts inlX1 hown hK hP 1 (ld_at1 X ad σ) rfl 7 (by decide) (va_Nw.use rfl (hN _ hw)) (fun _ h9 => h9) rfl hd (k H locs ls hP hS hl)
theorem ld_g_now_sour (O : ld_Ok l K ad cc nL own R) {ix : Nat} (hw : Cond.fieldLink own ix "LemonDeals$Street" "sour" "[I" ∈ wsL_law) (hd : decode cc pc = .ok (.getfield ix, 3)) (k : K σ lv (.ref (ad (9 + 4)) :: st) (pc + 3)) : K σ lv (.ref (ad 1) :: st) pc := by
  obtain ⟨X, p, e, s, m, args, below, meth, c, cells, slots, A, Q, hx, hb, hml, hown, hts, hinj, hK, hN, hA1, hA2, hR, rfl⟩ := O
  intro H locs ls hP hS hl
  exact va_get (D := X.1) (ci := 1) (C := RX1) (T := TX1) (N := 11) hx hb hts inlX1 hown hK hP 1 (ld_at1 X ad σ) rfl 8 (by decide) (hts _ hw) (fun _ h9 => h9) rfl hd (k H locs ls hP hS hl)
theorem ld_g_now_sourN (O : ld_Ok l K ad cc nL own R) {ix : Nat} (hw : Cond.fieldLinkNest own ix "LemonDeals$Street" "sour" "[I" "LemonDeals" ∈ ld_nws) (hd : decode cc pc = .ok (.getfield ix, 3)) (k : K σ lv (.ref (ad (9 + 4)) :: st) (pc + 3)) : K σ lv (.ref (ad 1) :: st) pc := by
  obtain ⟨X, p, e, s, m, args, below, meth, c, cells, slots, A, Q, hx, hb, hml, hown, hts, hinj, hK, hN, hA1, hA2, hR, rfl⟩ := O
  intro H locs ls hP hS hl
  exact va_getN (D := X.1) (ci := 1) (C := RX1) (T := TX1) (N := 11) hx hb hts inlX1 hown hK hP 1 (ld_at1 X ad σ) rfl 8 (by decide) (va_Nw.use rfl (hN _ hw)) (fun _ h9 => h9) rfl hd (k H locs ls hP hS hl)
theorem ld_g_now_dealt (O : ld_Ok l K ad cc nL own R) {ix : Nat} (hw : Cond.fieldLink own ix "LemonDeals$Street" "dealt" "[I" ∈ wsL_law) (hd : decode cc pc = .ok (.getfield ix, 3)) (k : K σ lv (.ref (ad (9 + 5)) :: st) (pc + 3)) : K σ lv (.ref (ad 1) :: st) pc := by
  obtain ⟨X, p, e, s, m, args, below, meth, c, cells, slots, A, Q, hx, hb, hml, hown, hts, hinj, hK, hN, hA1, hA2, hR, rfl⟩ := O
  intro H locs ls hP hS hl
  exact va_get (D := X.1) (ci := 1) (C := RX1) (T := TX1) (N := 11) hx hb hts inlX1 hown hK hP 1 (ld_at1 X ad σ) rfl 9 (by decide) (hts _ hw) (fun _ h9 => h9) rfl hd (k H locs ls hP hS hl)
theorem ld_g_now_dealtN (O : ld_Ok l K ad cc nL own R) {ix : Nat} (hw : Cond.fieldLinkNest own ix "LemonDeals$Street" "dealt" "[I" "LemonDeals" ∈ ld_nws) (hd : decode cc pc = .ok (.getfield ix, 3)) (k : K σ lv (.ref (ad (9 + 5)) :: st) (pc + 3)) : K σ lv (.ref (ad 1) :: st) pc := by
  obtain ⟨X, p, e, s, m, args, below, meth, c, cells, slots, A, Q, hx, hb, hml, hown, hts, hinj, hK, hN, hA1, hA2, hR, rfl⟩ := O
  intro H locs ls hP hS hl
  exact va_getN (D := X.1) (ci := 1) (C := RX1) (T := TX1) (N := 11) hx hb hts inlX1 hown hK hP 1 (ld_at1 X ad σ) rfl 9 (by decide) (va_Nw.use rfl (hN _ hw)) (fun _ h9 => h9) rfl hd (k H locs ls hP hS hl)
theorem ld_g_now_remainder (O : ld_Ok l K ad cc nL own R) {ix : Nat} (hw : Cond.fieldLink own ix "LemonDeals$Street" "remainder" "[I" ∈ wsL_law) (hd : decode cc pc = .ok (.getfield ix, 3)) (k : K σ lv (.ref (ad (9 + 6)) :: st) (pc + 3)) : K σ lv (.ref (ad 1) :: st) pc := by
  obtain ⟨X, p, e, s, m, args, below, meth, c, cells, slots, A, Q, hx, hb, hml, hown, hts, hinj, hK, hN, hA1, hA2, hR, rfl⟩ := O
  intro H locs ls hP hS hl
  exact va_get (D := X.1) (ci := 1) (C := RX1) (T := TX1) (N := 11) hx hb hts inlX1 hown hK hP 1 (ld_at1 X ad σ) rfl 10 (by decide) (hts _ hw) (fun _ h9 => h9) rfl hd (k H locs ls hP hS hl)
theorem ld_g_now_remainderN (O : ld_Ok l K ad cc nL own R) {ix : Nat} (hw : Cond.fieldLinkNest own ix "LemonDeals$Street" "remainder" "[I" "LemonDeals" ∈ ld_nws) (hd : decode cc pc = .ok (.getfield ix, 3)) (k : K σ lv (.ref (ad (9 + 6)) :: st) (pc + 3)) : K σ lv (.ref (ad 1) :: st) pc := by
  obtain ⟨X, p, e, s, m, args, below, meth, c, cells, slots, A, Q, hx, hb, hml, hown, hts, hinj, hK, hN, hA1, hA2, hR, rfl⟩ := O
  intro H locs ls hP hS hl
  exact va_getN (D := X.1) (ci := 1) (C := RX1) (T := TX1) (N := 11) hx hb hts inlX1 hown hK hP 1 (ld_at1 X ad σ) rfl 10 (by decide) (va_Nw.use rfl (hN _ hw)) (fun _ h9 => h9) rfl hd (k H locs ls hP hS hl)
theorem ld_g_trial_kind (O : ld_Ok l K ad cc nL own R) {ix : Nat} (hw : Cond.fieldLink own ix "LemonDeals$Street" "kind" "[I" ∈ wsL_law) (hd : decode cc pc = .ok (.getfield ix, 3)) (k : K σ lv (.ref (ad (9 + 7)) :: st) (pc + 3)) : K σ lv (.ref (ad 2) :: st) pc := by
  obtain ⟨X, p, e, s, m, args, below, meth, c, cells, slots, A, Q, hx, hb, hml, hown, hts, hinj, hK, hN, hA1, hA2, hR, rfl⟩ := O
  intro H locs ls hP hS hl
  exact va_get (D := X.1) (ci := 1) (C := RX1) (T := TX1) (N := 11) hx hb hts inlX1 hown hK hP 2 (ld_at2 X ad σ) rfl 4 (by decide) (hts _ hw) (fun _ h9 => h9) rfl hd (k H locs ls hP hS hl)
theorem ld_g_trial_kindN (O : ld_Ok l K ad cc nL own R) {ix : Nat} (hw : Cond.fieldLinkNest own ix "LemonDeals$Street" "kind" "[I" "LemonDeals" ∈ ld_nws) (hd : decode cc pc = .ok (.getfield ix, 3)) (k : K σ lv (.ref (ad (9 + 7)) :: st) (pc + 3)) : K σ lv (.ref (ad 2) :: st) pc := by
  obtain ⟨X, p, e, s, m, args, below, meth, c, cells, slots, A, Q, hx, hb, hml, hown, hts, hinj, hK, hN, hA1, hA2, hR, rfl⟩ := O
  intro H locs ls hP hS hl
  exact va_getN (D := X.1) (ci := 1) (C := RX1) (T := TX1) (N := 11) hx hb hts inlX1 hown hK hP 2 (ld_at2 X ad σ) rfl 4 (by decide) (va_Nw.use rfl (hN _ hw)) (fun _ h9 => h9) rfl hd (k H locs ls hP hS hl)
theorem ld_g_trial_temper (O : ld_Ok l K ad cc nL own R) {ix : Nat} (hw : Cond.fieldLink own ix "LemonDeals$Street" "temper" "[I" ∈ wsL_law) (hd : decode cc pc = .ok (.getfield ix, 3)) (k : K σ lv (.ref (ad (9 + 8)) :: st) (pc + 3)) : K σ lv (.ref (ad 2) :: st) pc := by
  obtain ⟨X, p, e, s, m, args, below, meth, c, cells, slots, A, Q, hx, hb, hml, hown, hts, hinj, hK, hN, hA1, hA2, hR, rfl⟩ := O
  intro H locs ls hP hS hl
  exact va_get (D := X.1) (ci := 1) (C := RX1) (T := TX1) (N := 11) hx hb hts inlX1 hown hK hP 2 (ld_at2 X ad σ) rfl 5 (by decide) (hts _ hw) (fun _ h9 => h9) rfl hd (k H locs ls hP hS hl)
theorem ld_g_trial_temperN (O : ld_Ok l K ad cc nL own R) {ix : Nat} (hw : Cond.fieldLinkNest own ix "LemonDeals$Street" "temper" "[I" "LemonDeals" ∈ ld_nws) (hd : decode cc pc = .ok (.getfield ix, 3)) (k : K σ lv (.ref (ad (9 + 8)) :: st) (pc + 3)) : K σ lv (.ref (ad 2) :: st) pc := by
  obtain ⟨X, p, e, s, m, args, below, meth, c, cells, slots, A, Q, hx, hb, hml, hown, hts, hinj, hK, hN, hA1, hA2, hR, rfl⟩ := O
  intro H locs ls hP hS hl
  exact va_getN (D := X.1) (ci := 1) (C := RX1) (T := TX1) (N := 11) hx hb hts inlX1 hown hK hP 2 (ld_at2 X ad σ) rfl 5 (by decide) (va_Nw.use rfl (hN _ hw)) (fun _ h9 => h9) rfl hd (k H locs ls hP hS hl)
theorem ld_g_trial_stock (O : ld_Ok l K ad cc nL own R) {ix : Nat} (hw : Cond.fieldLink own ix "LemonDeals$Street" "stock" "[I" ∈ wsL_law) (hd : decode cc pc = .ok (.getfield ix, 3)) (k : K σ lv (.ref (ad (9 + 9)) :: st) (pc + 3)) : K σ lv (.ref (ad 2) :: st) pc := by
  obtain ⟨X, p, e, s, m, args, below, meth, c, cells, slots, A, Q, hx, hb, hml, hown, hts, hinj, hK, hN, hA1, hA2, hR, rfl⟩ := O
  intro H locs ls hP hS hl
  exact va_get (D := X.1) (ci := 1) (C := RX1) (T := TX1) (N := 11) hx hb hts inlX1 hown hK hP 2 (ld_at2 X ad σ) rfl 6 (by decide) (hts _ hw) (fun _ h9 => h9) rfl hd (k H locs ls hP hS hl)
theorem ld_g_trial_stockN (O : ld_Ok l K ad cc nL own R) {ix : Nat} (hw : Cond.fieldLinkNest own ix "LemonDeals$Street" "stock" "[I" "LemonDeals" ∈ ld_nws) (hd : decode cc pc = .ok (.getfield ix, 3)) (k : K σ lv (.ref (ad (9 + 9)) :: st) (pc + 3)) : K σ lv (.ref (ad 2) :: st) pc := by
  obtain ⟨X, p, e, s, m, args, below, meth, c, cells, slots, A, Q, hx, hb, hml, hown, hts, hinj, hK, hN, hA1, hA2, hR, rfl⟩ := O
  intro H locs ls hP hS hl
  exact va_getN (D := X.1) (ci := 1) (C := RX1) (T := TX1) (N := 11) hx hb hts inlX1 hown hK hP 2 (ld_at2 X ad σ) rfl 6 (by decide) (va_Nw.use rfl (hN _ hw)) (fun _ h9 => h9) rfl hd (k H locs ls hP hS hl)
theorem ld_g_trial_pips (O : ld_Ok l K ad cc nL own R) {ix : Nat} (hw : Cond.fieldLink own ix "LemonDeals$Street" "pips" "[I" ∈ wsL_law) (hd : decode cc pc = .ok (.getfield ix, 3)) (k : K σ lv (.ref (ad (9 + 10)) :: st) (pc + 3)) : K σ lv (.ref (ad 2) :: st) pc := by
  obtain ⟨X, p, e, s, m, args, below, meth, c, cells, slots, A, Q, hx, hb, hml, hown, hts, hinj, hK, hN, hA1, hA2, hR, rfl⟩ := O
  intro H locs ls hP hS hl
  exact va_get (D := X.1) (ci := 1) (C := RX1) (T := TX1) (N := 11) hx hb hts inlX1 hown hK hP 2 (ld_at2 X ad σ) rfl 7 (by decide) (hts _ hw) (fun _ h9 => h9) rfl hd (k H locs ls hP hS hl)
theorem ld_g_trial_pipsN (O : ld_Ok l K ad cc nL own R) {ix : Nat} (hw : Cond.fieldLinkNest own ix "LemonDeals$Street" "pips" "[I" "LemonDeals" ∈ ld_nws) (hd : decode cc pc = .ok (.getfield ix, 3)) (k : K σ lv (.ref (ad (9 + 10)) :: st) (pc + 3)) : K σ lv (.ref (ad 2) :: st) pc := by
  obtain ⟨X, p, e, s, m, args, below, meth, c, cells, slots, A, Q, hx, hb, hml, hown, hts, hinj, hK, hN, hA1, hA2, hR, rfl⟩ := O
  intro H locs ls hP hS hl
  exact va_getN (D := X.1) (ci := 1) (C := RX1) (T := TX1) (N := 11) hx hb hts inlX1 hown hK hP 2 (ld_at2 X ad σ) rfl 7 (by decide) (va_Nw.use rfl (hN _ hw)) (fun _ h9 => h9) rfl hd (k H locs ls hP hS hl)
theorem ld_g_trial_sour (O : ld_Ok l K ad cc nL own R) {ix : Nat} (hw : Cond.fieldLink own ix "LemonDeals$Street" "sour" "[I" ∈ wsL_law) (hd : decode cc pc = .ok (.getfield ix, 3)) (k : K σ lv (.ref (ad (9 + 11)) :: st) (pc + 3)) : K σ lv (.ref (ad 2) :: st) pc := by
  obtain ⟨X, p, e, s, m, args, below, meth, c, cells, slots, A, Q, hx, hb, hml, hown, hts, hinj, hK, hN, hA1, hA2, hR, rfl⟩ := O
  intro H locs ls hP hS hl
  exact va_get (D := X.1) (ci := 1) (C := RX1) (T := TX1) (N := 11) hx hb hts inlX1 hown hK hP 2 (ld_at2 X ad σ) rfl 8 (by decide) (hts _ hw) (fun _ h9 => h9) rfl hd (k H locs ls hP hS hl)
theorem ld_g_trial_sourN (O : ld_Ok l K ad cc nL own R) {ix : Nat} (hw : Cond.fieldLinkNest own ix "LemonDeals$Street" "sour" "[I" "LemonDeals" ∈ ld_nws) (hd : decode cc pc = .ok (.getfield ix, 3)) (k : K σ lv (.ref (ad (9 + 11)) :: st) (pc + 3)) : K σ lv (.ref (ad 2) :: st) pc := by
  obtain ⟨X, p, e, s, m, args, below, meth, c, cells, slots, A, Q, hx, hb, hml, hown, hts, hinj, hK, hN, hA1, hA2, hR, rfl⟩ := O
  intro H locs ls hP hS hl
  exact va_getN (D := X.1) (ci := 1) (C := RX1) (T := TX1) (N := 11) hx hb hts inlX1 hown hK hP 2 (ld_at2 X ad σ) rfl 8 (by decide) (va_Nw.use rfl (hN _ hw)) (fun _ h9 => h9) rfl hd (k H locs ls hP hS hl)
theorem ld_g_trial_dealt (O : ld_Ok l K ad cc nL own R) {ix : Nat} (hw : Cond.fieldLink own ix "LemonDeals$Street" "dealt" "[I" ∈ wsL_law) (hd : decode cc pc = .ok (.getfield ix, 3)) (k : K σ lv (.ref (ad (9 + 12)) :: st) (pc + 3)) : K σ lv (.ref (ad 2) :: st) pc := by
  obtain ⟨X, p, e, s, m, args, below, meth, c, cells, slots, A, Q, hx, hb, hml, hown, hts, hinj, hK, hN, hA1, hA2, hR, rfl⟩ := O
  intro H locs ls hP hS hl
  exact va_get (D := X.1) (ci := 1) (C := RX1) (T := TX1) (N := 11) hx hb hts inlX1 hown hK hP 2 (ld_at2 X ad σ) rfl 9 (by decide) (hts _ hw) (fun _ h9 => h9) rfl hd (k H locs ls hP hS hl)
theorem ld_g_trial_dealtN (O : ld_Ok l K ad cc nL own R) {ix : Nat} (hw : Cond.fieldLinkNest own ix "LemonDeals$Street" "dealt" "[I" "LemonDeals" ∈ ld_nws) (hd : decode cc pc = .ok (.getfield ix, 3)) (k : K σ lv (.ref (ad (9 + 12)) :: st) (pc + 3)) : K σ lv (.ref (ad 2) :: st) pc := by
  obtain ⟨X, p, e, s, m, args, below, meth, c, cells, slots, A, Q, hx, hb, hml, hown, hts, hinj, hK, hN, hA1, hA2, hR, rfl⟩ := O
  intro H locs ls hP hS hl
  exact va_getN (D := X.1) (ci := 1) (C := RX1) (T := TX1) (N := 11) hx hb hts inlX1 hown hK hP 2 (ld_at2 X ad σ) rfl 9 (by decide) (va_Nw.use rfl (hN _ hw)) (fun _ h9 => h9) rfl hd (k H locs ls hP hS hl)
theorem ld_g_trial_remainder (O : ld_Ok l K ad cc nL own R) {ix : Nat} (hw : Cond.fieldLink own ix "LemonDeals$Street" "remainder" "[I" ∈ wsL_law) (hd : decode cc pc = .ok (.getfield ix, 3)) (k : K σ lv (.ref (ad (9 + 13)) :: st) (pc + 3)) : K σ lv (.ref (ad 2) :: st) pc := by
  obtain ⟨X, p, e, s, m, args, below, meth, c, cells, slots, A, Q, hx, hb, hml, hown, hts, hinj, hK, hN, hA1, hA2, hR, rfl⟩ := O
  intro H locs ls hP hS hl
  exact va_get (D := X.1) (ci := 1) (C := RX1) (T := TX1) (N := 11) hx hb hts inlX1 hown hK hP 2 (ld_at2 X ad σ) rfl 10 (by decide) (hts _ hw) (fun _ h9 => h9) rfl hd (k H locs ls hP hS hl)
theorem ld_g_trial_remainderN (O : ld_Ok l K ad cc nL own R) {ix : Nat} (hw : Cond.fieldLinkNest own ix "LemonDeals$Street" "remainder" "[I" "LemonDeals" ∈ ld_nws) (hd : decode cc pc = .ok (.getfield ix, 3)) (k : K σ lv (.ref (ad (9 + 13)) :: st) (pc + 3)) : K σ lv (.ref (ad 2) :: st) pc := by
  obtain ⟨X, p, e, s, m, args, below, meth, c, cells, slots, A, Q, hx, hb, hml, hown, hts, hinj, hK, hN, hA1, hA2, hR, rfl⟩ := O
  intro H locs ls hP hS hl
  exact va_getN (D := X.1) (ci := 1) (C := RX1) (T := TX1) (N := 11) hx hb hts inlX1 hown hK hP 2 (ld_at2 X ad σ) rfl 10 (by decide) (va_Nw.use rfl (hN _ hw)) (fun _ h9 => h9) rfl hd (k H locs ls hP hS hl)
theorem ld_g_M_kindOf (O : ld_Ok l K ad cc nL own R) {ix : Nat} (hw : Cond.fieldLink own ix "LemonDealsModel" "kindOf" "[I" ∈ wsL_law) (hd : decode cc pc = .ok (.getfield ix, 3)) (k : K σ lv (.ref (ad (9 + 20)) :: st) (pc + 3)) : K σ lv (.ref (ad 8) :: st) pc := by
  obtain ⟨X, p, e, s, m, args, below, meth, c, cells, slots, A, Q, hx, hb, hml, hown, hts, hinj, hK, hN, hA1, hA2, hR, rfl⟩ := O
  intro H locs ls hP hS hl
  exact va_get (D := X.1) (ci := 3) (C := RX3) (T := TX3) (N := 30) hx hb hts inlX3 hown hK hP 8 (ld_at8 X ad σ) rfl 4 (by decide) (hts _ hw) (fun _ h9 => h9) rfl hd (k H locs ls hP hS hl)
theorem ld_g_M_temperOf (O : ld_Ok l K ad cc nL own R) {ix : Nat} (hw : Cond.fieldLink own ix "LemonDealsModel" "temperOf" "[I" ∈ wsL_law) (hd : decode cc pc = .ok (.getfield ix, 3)) (k : K σ lv (.ref (ad (9 + 21)) :: st) (pc + 3)) : K σ lv (.ref (ad 8) :: st) pc := by
  obtain ⟨X, p, e, s, m, args, below, meth, c, cells, slots, A, Q, hx, hb, hml, hown, hts, hinj, hK, hN, hA1, hA2, hR, rfl⟩ := O
  intro H locs ls hP hS hl
  exact va_get (D := X.1) (ci := 3) (C := RX3) (T := TX3) (N := 30) hx hb hts inlX3 hown hK hP 8 (ld_at8 X ad σ) rfl 5 (by decide) (hts _ hw) (fun _ h9 => h9) rfl hd (k H locs ls hP hS hl)
theorem ld_g_M_stockOf (O : ld_Ok l K ad cc nL own R) {ix : Nat} (hw : Cond.fieldLink own ix "LemonDealsModel" "stockOf" "[I" ∈ wsL_law) (hd : decode cc pc = .ok (.getfield ix, 3)) (k : K σ lv (.ref (ad (9 + 22)) :: st) (pc + 3)) : K σ lv (.ref (ad 8) :: st) pc := by
  obtain ⟨X, p, e, s, m, args, below, meth, c, cells, slots, A, Q, hx, hb, hml, hown, hts, hinj, hK, hN, hA1, hA2, hR, rfl⟩ := O
  intro H locs ls hP hS hl
  exact va_get (D := X.1) (ci := 3) (C := RX3) (T := TX3) (N := 30) hx hb hts inlX3 hown hK hP 8 (ld_at8 X ad σ) rfl 6 (by decide) (hts _ hw) (fun _ h9 => h9) rfl hd (k H locs ls hP hS hl)
theorem ld_g_M_pipsOf (O : ld_Ok l K ad cc nL own R) {ix : Nat} (hw : Cond.fieldLink own ix "LemonDealsModel" "pipsOf" "[I" ∈ wsL_law) (hd : decode cc pc = .ok (.getfield ix, 3)) (k : K σ lv (.ref (ad (9 + 23)) :: st) (pc + 3)) : K σ lv (.ref (ad 8) :: st) pc := by
  obtain ⟨X, p, e, s, m, args, below, meth, c, cells, slots, A, Q, hx, hb, hml, hown, hts, hinj, hK, hN, hA1, hA2, hR, rfl⟩ := O
  intro H locs ls hP hS hl
  exact va_get (D := X.1) (ci := 3) (C := RX3) (T := TX3) (N := 30) hx hb hts inlX3 hown hK hP 8 (ld_at8 X ad σ) rfl 7 (by decide) (hts _ hw) (fun _ h9 => h9) rfl hd (k H locs ls hP hS hl)
theorem ld_g_M_readKind (O : ld_Ok l K ad cc nL own R) {ix : Nat} (hw : Cond.fieldLink own ix "LemonDealsModel" "readKind" "[I" ∈ wsL_law) (hd : decode cc pc = .ok (.getfield ix, 3)) (k : K σ lv (.ref (ad (9 + 24)) :: st) (pc + 3)) : K σ lv (.ref (ad 8) :: st) pc := by
  obtain ⟨X, p, e, s, m, args, below, meth, c, cells, slots, A, Q, hx, hb, hml, hown, hts, hinj, hK, hN, hA1, hA2, hR, rfl⟩ := O
  intro H locs ls hP hS hl
  exact va_get (D := X.1) (ci := 3) (C := RX3) (T := TX3) (N := 30) hx hb hts inlX3 hown hK hP 8 (ld_at8 X ad σ) rfl 11 (by decide) (hts _ hw) (fun _ h9 => h9) rfl hd (k H locs ls hP hS hl)
theorem ld_g_M_readTemper (O : ld_Ok l K ad cc nL own R) {ix : Nat} (hw : Cond.fieldLink own ix "LemonDealsModel" "readTemper" "[I" ∈ wsL_law) (hd : decode cc pc = .ok (.getfield ix, 3)) (k : K σ lv (.ref (ad (9 + 25)) :: st) (pc + 3)) : K σ lv (.ref (ad 8) :: st) pc := by
  obtain ⟨X, p, e, s, m, args, below, meth, c, cells, slots, A, Q, hx, hb, hml, hown, hts, hinj, hK, hN, hA1, hA2, hR, rfl⟩ := O
  intro H locs ls hP hS hl
  exact va_get (D := X.1) (ci := 3) (C := RX3) (T := TX3) (N := 30) hx hb hts inlX3 hown hK hP 8 (ld_at8 X ad σ) rfl 12 (by decide) (hts _ hw) (fun _ h9 => h9) rfl hd (k H locs ls hP hS hl)
theorem ld_g_M_readStock (O : ld_Ok l K ad cc nL own R) {ix : Nat} (hw : Cond.fieldLink own ix "LemonDealsModel" "readStock" "[I" ∈ wsL_law) (hd : decode cc pc = .ok (.getfield ix, 3)) (k : K σ lv (.ref (ad (9 + 26)) :: st) (pc + 3)) : K σ lv (.ref (ad 8) :: st) pc := by
  obtain ⟨X, p, e, s, m, args, below, meth, c, cells, slots, A, Q, hx, hb, hml, hown, hts, hinj, hK, hN, hA1, hA2, hR, rfl⟩ := O
  intro H locs ls hP hS hl
  exact va_get (D := X.1) (ci := 3) (C := RX3) (T := TX3) (N := 30) hx hb hts inlX3 hown hK hP 8 (ld_at8 X ad σ) rfl 13 (by decide) (hts _ hw) (fun _ h9 => h9) rfl hd (k H locs ls hP hS hl)
theorem ld_g_M_dealtNow (O : ld_Ok l K ad cc nL own R) {ix : Nat} (hw : Cond.fieldLink own ix "LemonDealsModel" "dealtNow" "[I" ∈ wsL_law) (hd : decode cc pc = .ok (.getfield ix, 3)) (k : K σ lv (.ref (ad (9 + 27)) :: st) (pc + 3)) : K σ lv (.ref (ad 8) :: st) pc := by
  obtain ⟨X, p, e, s, m, args, below, meth, c, cells, slots, A, Q, hx, hb, hml, hown, hts, hinj, hK, hN, hA1, hA2, hR, rfl⟩ := O
  intro H locs ls hP hS hl
  exact va_get (D := X.1) (ci := 3) (C := RX3) (T := TX3) (N := 30) hx hb hts inlX3 hown hK hP 8 (ld_at8 X ad σ) rfl 14 (by decide) (hts _ hw) (fun _ h9 => h9) rfl hd (k H locs ls hP hS hl)
theorem ld_g_M_temperKept (O : ld_Ok l K ad cc nL own R) {ix : Nat} (hw : Cond.fieldLink own ix "LemonDealsModel" "temperKept" "[I" ∈ wsL_law) (hd : decode cc pc = .ok (.getfield ix, 3)) (k : K σ lv (.ref (ad (9 + 28)) :: st) (pc + 3)) : K σ lv (.ref (ad 8) :: st) pc := by
  obtain ⟨X, p, e, s, m, args, below, meth, c, cells, slots, A, Q, hx, hb, hml, hown, hts, hinj, hK, hN, hA1, hA2, hR, rfl⟩ := O
  intro H locs ls hP hS hl
  exact va_get (D := X.1) (ci := 3) (C := RX3) (T := TX3) (N := 30) hx hb hts inlX3 hown hK hP 8 (ld_at8 X ad σ) rfl 17 (by decide) (hts _ hw) (fun _ h9 => h9) rfl hd (k H locs ls hP hS hl)
theorem ld_g_M_stockKept (O : ld_Ok l K ad cc nL own R) {ix : Nat} (hw : Cond.fieldLink own ix "LemonDealsModel" "stockKept" "[I" ∈ wsL_law) (hd : decode cc pc = .ok (.getfield ix, 3)) (k : K σ lv (.ref (ad (9 + 29)) :: st) (pc + 3)) : K σ lv (.ref (ad 8) :: st) pc := by
  obtain ⟨X, p, e, s, m, args, below, meth, c, cells, slots, A, Q, hx, hb, hml, hown, hts, hinj, hK, hN, hA1, hA2, hR, rfl⟩ := O
  intro H locs ls hP hS hl
  exact va_get (D := X.1) (ci := 3) (C := RX3) (T := TX3) (N := 30) hx hb hts inlX3 hown hK hP 8 (ld_at8 X ad σ) rfl 18 (by decide) (hts _ hw) (fun _ h9 => h9) rfl hd (k H locs ls hP hS hl)
theorem ld_g_M_pipsKept (O : ld_Ok l K ad cc nL own R) {ix : Nat} (hw : Cond.fieldLink own ix "LemonDealsModel" "pipsKept" "[I" ∈ wsL_law) (hd : decode cc pc = .ok (.getfield ix, 3)) (k : K σ lv (.ref (ad (9 + 30)) :: st) (pc + 3)) : K σ lv (.ref (ad 8) :: st) pc := by
  obtain ⟨X, p, e, s, m, args, below, meth, c, cells, slots, A, Q, hx, hb, hml, hown, hts, hinj, hK, hN, hA1, hA2, hR, rfl⟩ := O
  intro H locs ls hP hS hl
  exact va_get (D := X.1) (ci := 3) (C := RX3) (T := TX3) (N := 30) hx hb hts inlX3 hown hK hP 8 (ld_at8 X ad σ) rfl 19 (by decide) (hts _ hw) (fun _ h9 => h9) rfl hd (k H locs ls hP hS hl)
theorem ld_g_M_gotSoFar (O : ld_Ok l K ad cc nL own R) {ix : Nat} (hw : Cond.fieldLink own ix "LemonDealsModel" "gotSoFar" "[I" ∈ wsL_law) (hd : decode cc pc = .ok (.getfield ix, 3)) (k : K σ lv (.ref (ad (9 + 31)) :: st) (pc + 3)) : K σ lv (.ref (ad 8) :: st) pc := by
  obtain ⟨X, p, e, s, m, args, below, meth, c, cells, slots, A, Q, hx, hb, hml, hown, hts, hinj, hK, hN, hA1, hA2, hR, rfl⟩ := O
  intro H locs ls hP hS hl
  exact va_get (D := X.1) (ci := 3) (C := RX3) (T := TX3) (N := 30) hx hb hts inlX3 hown hK hP 8 (ld_at8 X ad σ) rfl 21 (by decide) (hts _ hw) (fun _ h9 => h9) rfl hd (k H locs ls hP hS hl)
theorem ld_g_M_readingOf (O : ld_Ok l K ad cc nL own R) {ix : Nat} (hw : Cond.fieldLink own ix "LemonDealsModel" "readingOf" "[I" ∈ wsL_law) (hd : decode cc pc = .ok (.getfield ix, 3)) (k : K σ lv (.ref (ad (9 + 32)) :: st) (pc + 3)) : K σ lv (.ref (ad 8) :: st) pc := by
  obtain ⟨X, p, e, s, m, args, below, meth, c, cells, slots, A, Q, hx, hb, hml, hown, hts, hinj, hK, hN, hA1, hA2, hR, rfl⟩ := O
  intro H locs ls hP hS hl
  exact va_get (D := X.1) (ci := 3) (C := RX3) (T := TX3) (N := 30) hx hb hts inlX3 hown hK hP 8 (ld_at8 X ad σ) rfl 23 (by decide) (hts _ hw) (fun _ h9 => h9) rfl hd (k H locs ls hP hS hl)
theorem ld_g_M_readingWas (O : ld_Ok l K ad cc nL own R) {ix : Nat} (hw : Cond.fieldLink own ix "LemonDealsModel" "readingWas" "[I" ∈ wsL_law) (hd : decode cc pc = .ok (.getfield ix, 3)) (k : K σ lv (.ref (ad (9 + 33)) :: st) (pc + 3)) : K σ lv (.ref (ad 8) :: st) pc := by
  obtain ⟨X, p, e, s, m, args, below, meth, c, cells, slots, A, Q, hx, hb, hml, hown, hts, hinj, hK, hN, hA1, hA2, hR, rfl⟩ := O
  intro H locs ls hP hS hl
  exact va_get (D := X.1) (ci := 3) (C := RX3) (T := TX3) (N := 30) hx hb hts inlX3 hown hK hP 8 (ld_at8 X ad σ) rfl 24 (by decide) (hts _ hw) (fun _ h9 => h9) rfl hd (k H locs ls hP hS hl)
theorem ld_g_M_sheetSize (O : ld_Ok l K ad cc nL own R) {ix : Nat} (hw : Cond.fieldLink own ix "LemonDealsModel" "sheetSize" "[I" ∈ wsL_law) (hd : decode cc pc = .ok (.getfield ix, 3)) (k : K σ lv (.ref (ad (9 + 34)) :: st) (pc + 3)) : K σ lv (.ref (ad 8) :: st) pc := by
  obtain ⟨X, p, e, s, m, args, below, meth, c, cells, slots, A, Q, hx, hb, hml, hown, hts, hinj, hK, hN, hA1, hA2, hR, rfl⟩ := O
  intro H locs ls hP hS hl
  exact va_get (D := X.1) (ci := 3) (C := RX3) (T := TX3) (N := 30) hx hb hts inlX3 hown hK hP 8 (ld_at8 X ad σ) rfl 25 (by decide) (hts _ hw) (fun _ h9 => h9) rfl hd (k H locs ls hP hS hl)
theorem ld_g_M_sheetLane (O : ld_Ok l K ad cc nL own R) {ix : Nat} (hw : Cond.fieldLink own ix "LemonDealsModel" "sheetLane" "[I" ∈ wsL_law) (hd : decode cc pc = .ok (.getfield ix, 3)) (k : K σ lv (.ref (ad (9 + 35)) :: st) (pc + 3)) : K σ lv (.ref (ad 8) :: st) pc := by
  obtain ⟨X, p, e, s, m, args, below, meth, c, cells, slots, A, Q, hx, hb, hml, hown, hts, hinj, hK, hN, hA1, hA2, hR, rfl⟩ := O
  intro H locs ls hP hS hl
  exact va_get (D := X.1) (ci := 3) (C := RX3) (T := TX3) (N := 30) hx hb hts inlX3 hown hK hP 8 (ld_at8 X ad σ) rfl 26 (by decide) (hts _ hw) (fun _ h9 => h9) rfl hd (k H locs ls hP hS hl)
theorem ld_g_M_sheet (O : ld_Ok l K ad cc nL own R) {ix : Nat} (hw : Cond.fieldLink own ix "LemonDealsModel" "sheet" "[I" ∈ wsL_law) (hd : decode cc pc = .ok (.getfield ix, 3)) (k : K σ lv (.ref (ad (9 + 36)) :: st) (pc + 3)) : K σ lv (.ref (ad 8) :: st) pc := by
  obtain ⟨X, p, e, s, m, args, below, meth, c, cells, slots, A, Q, hx, hb, hml, hown, hts, hinj, hK, hN, hA1, hA2, hR, rfl⟩ := O
  intro H locs ls hP hS hl
  exact va_get (D := X.1) (ci := 3) (C := RX3) (T := TX3) (N := 30) hx hb hts inlX3 hown hK hP 8 (ld_at8 X ad σ) rfl 27 (by decide) (hts _ hw) (fun _ h9 => h9) rfl hd (k H locs ls hP hS hl)
theorem ld_g_M_hands (O : ld_Ok l K ad cc nL own R) {ix : Nat} (hw : Cond.fieldLink own ix "LemonDealsModel" "hands" "[I" ∈ wsL_law) (hd : decode cc pc = .ok (.getfield ix, 3)) (k : K σ lv (.ref (ad (9 + 37)) :: st) (pc + 3)) : K σ lv (.ref (ad 8) :: st) pc := by
  obtain ⟨X, p, e, s, m, args, below, meth, c, cells, slots, A, Q, hx, hb, hml, hown, hts, hinj, hK, hN, hA1, hA2, hR, rfl⟩ := O
  intro H locs ls hP hS hl
  exact va_get (D := X.1) (ci := 3) (C := RX3) (T := TX3) (N := 30) hx hb hts inlX3 hown hK hP 8 (ld_at8 X ad σ) rfl 28 (by decide) (hts _ hw) (fun _ h9 => h9) rfl hd (k H locs ls hP hS hl)
theorem ld_g_S_cells (O : ld_Ok l K ad cc nL own R) {a : Nat} (ha : a < 4) {ix : Nat} (hw : Cond.fieldLink own ix "LemonDeals$Sheet" "cells" "[I" ∈ wsL_law) (hd : decode cc pc = .ok (.getfield ix, 3)) (k : K σ lv (.ref (ad (9 + (16 + a))) :: st) (pc + 3)) : K σ lv (.ref (ad (4 + a)) :: st) pc := by
  obtain ⟨X, p, e, s, m, args, below, meth, c, cells, slots, A, Q, hx, hb, hml, hown, hts, hinj, hK, hN, hA1, hA2, hR, rfl⟩ := O
  intro H locs ls hP hS hl
  exact va_get (D := X.1) (ci := 0) (C := RX0) (T := TX0) (N := 3) hx hb hts inlX0 hown hK hP (4 + a) (ld_atS X ad σ ha) rfl 0 (by decide) (hts _ hw) (fun _ h9 => h9) rfl hd (k H locs ls hP hS hl)
theorem ld_g_S_cellsN (O : ld_Ok l K ad cc nL own R) {a : Nat} (ha : a < 4) {ix : Nat} (hw : Cond.fieldLinkNest own ix "LemonDeals$Sheet" "cells" "[I" "LemonDeals" ∈ ld_nws) (hd : decode cc pc = .ok (.getfield ix, 3)) (k : K σ lv (.ref (ad (9 + (16 + a))) :: st) (pc + 3)) : K σ lv (.ref (ad (4 + a)) :: st) pc := by
  obtain ⟨X, p, e, s, m, args, below, meth, c, cells, slots, A, Q, hx, hb, hml, hown, hts, hinj, hK, hN, hA1, hA2, hR, rfl⟩ := O
  intro H locs ls hP hS hl
  exact va_getN (D := X.1) (ci := 0) (C := RX0) (T := TX0) (N := 3) hx hb hts inlX0 hown hK hP (4 + a) (ld_atS X ad σ ha) rfl 0 (by decide) (va_Nw.use rfl (hN _ hw)) (fun _ h9 => h9) rfl hd (k H locs ls hP hS hl)
theorem ld_g_S_lane (O : ld_Ok l K ad cc nL own R) {a : Nat} {v : Int32} (ha : a < 4) {ix : Nat} (hw : Cond.fieldLink own ix "LemonDeals$Sheet" "lane" "I" ∈ wsL_law) (hv : σ 130 a = v) (hd : decode cc pc = .ok (.getfield ix, 3)) (k : K σ lv (.int v :: st) (pc + 3)) : K σ lv (.ref (ad (4 + a)) :: st) pc := by
  obtain ⟨X, p, e, s, m, args, below, meth, c, cells, slots, A, Q, hx, hb, hml, hown, hts, hinj, hK, hN, hA1, hA2, hR, rfl⟩ := O
  intro H locs ls hP hS hl
  subst hv; exact va_get (D := X.1) (ci := 0) (C := RX0) (T := TX0) (N := 3) hx hb hts inlX0 hown hK hP (4 + a) (ld_atS X ad σ ha) rfl 1 (by decide) (hts _ hw) (fun _ h9 => h9) rfl hd (k H locs ls hP hS hl)
theorem ld_g_S_laneN (O : ld_Ok l K ad cc nL own R) {a : Nat} {v : Int32} (ha : a < 4) {ix : Nat} (hw : Cond.fieldLinkNest own ix "LemonDeals$Sheet" "lane" "I" "LemonDeals" ∈ ld_nws) (hv : σ 130 a = v) (hd : decode cc pc = .ok (.getfield ix, 3)) (k : K σ lv (.int v :: st) (pc + 3)) : K σ lv (.ref (ad (4 + a)) :: st) pc := by
  obtain ⟨X, p, e, s, m, args, below, meth, c, cells, slots, A, Q, hx, hb, hml, hown, hts, hinj, hK, hN, hA1, hA2, hR, rfl⟩ := O
  intro H locs ls hP hS hl
  subst hv; exact va_getN (D := X.1) (ci := 0) (C := RX0) (T := TX0) (N := 3) hx hb hts inlX0 hown hK hP (4 + a) (ld_atS X ad σ ha) rfl 1 (by decide) (va_Nw.use rfl (hN _ hw)) (fun _ h9 => h9) rfl hd (k H locs ls hP hS hl)
theorem ld_g_S_length (O : ld_Ok l K ad cc nL own R) {a : Nat} {v : Int32} (ha : a < 4) {ix : Nat} (hw : Cond.fieldLink own ix "LemonDeals$Sheet" "length" "I" ∈ wsL_law) (hv : σ 131 a = v) (hd : decode cc pc = .ok (.getfield ix, 3)) (k : K σ lv (.int v :: st) (pc + 3)) : K σ lv (.ref (ad (4 + a)) :: st) pc := by
  obtain ⟨X, p, e, s, m, args, below, meth, c, cells, slots, A, Q, hx, hb, hml, hown, hts, hinj, hK, hN, hA1, hA2, hR, rfl⟩ := O
  intro H locs ls hP hS hl
  subst hv; exact va_get (D := X.1) (ci := 0) (C := RX0) (T := TX0) (N := 3) hx hb hts inlX0 hown hK hP (4 + a) (ld_atS X ad σ ha) rfl 2 (by decide) (hts _ hw) (fun _ h9 => h9) rfl hd (k H locs ls hP hS hl)
theorem ld_g_S_lengthN (O : ld_Ok l K ad cc nL own R) {a : Nat} {v : Int32} (ha : a < 4) {ix : Nat} (hw : Cond.fieldLinkNest own ix "LemonDeals$Sheet" "length" "I" "LemonDeals" ∈ ld_nws) (hv : σ 131 a = v) (hd : decode cc pc = .ok (.getfield ix, 3)) (k : K σ lv (.int v :: st) (pc + 3)) : K σ lv (.ref (ad (4 + a)) :: st) pc := by
  obtain ⟨X, p, e, s, m, args, below, meth, c, cells, slots, A, Q, hx, hb, hml, hown, hts, hinj, hK, hN, hA1, hA2, hR, rfl⟩ := O
  intro H locs ls hP hS hl
  subst hv; exact va_getN (D := X.1) (ci := 0) (C := RX0) (T := TX0) (N := 3) hx hb hts inlX0 hown hK hP (4 + a) (ld_atS X ad σ ha) rfl 2 (by decide) (va_Nw.use rfl (hN _ hw)) (fun _ h9 => h9) rfl hd (k H locs ls hP hS hl)
theorem ld_ct_Sv130 (X : ld_X) (ad : Nat → Nat) (σ : ld_St) {k : Nat} (v : Int32) (hk : k < 4) : ld_ct X ad (us σ 130 (upd (σ 130) k v)) (4 + k) = .inr (0, [.ref (ad (9 + (16 + k))), .int v, .int (σ 131 k)]) := by
  have h := (ld_at X ad (us σ 130 (upd (σ 130) k v)) (show 4 + k < 47 by omega)).symm.trans (ld_atS X ad (us σ 130 (upd (σ 130) k v)) hk)
  have h2 := congrArg Prod.snd (Option.some.inj h)
  rw [us_eq, us_ne σ _ (show 131 ≠ 130 by decide), pk_us] at h2
  exact h2
theorem ld_p_S_lane (O : ld_Ok l K ad cc nL own R) {a : Nat} (ha : a < 4) {ix : Nat} {v : Int32} (hw : Cond.fieldLink own ix "LemonDeals$Sheet" "lane" "I" ∈ wsL_law) (hd : decode cc pc = .ok (.putfield ix, 3)) (k : K (us σ 130 (upd (σ 130) a v)) lv st (pc + 3)) : K σ lv (.int v :: .ref (ad (4 + a)) :: st) pc := by
  obtain ⟨X, p, e, s, m, args, below, meth, c, cells, slots, A, Q, hx, hb, hml, hown, hts, hinj, hK, hN, hA1, hA2, hR, rfl⟩ := O
  intro H locs ls hP hS hl
  refine va_put (D := X.1) (ci := 0) (v := .int v) (ty := .int) (C := RX0) (T := TX0) (N := 3) hx hb hts inlX0 tyX0 tyX0_ok nmX0 hown hK hP (ld_D hinj hA1 X σ) hS (4 + a) (ld_atS X ad σ ha) rfl 1 (by decide) (hts _ hw) (fun _ h9 => h9) rfl (by decide +kernel) rfl rfl (Nat.le_of_ble_eq_true rfl) hd (fun H locs hP hD hS => ?_)
  refine k H locs ls ?_ hS hl
  exact (ld_set X ad σ (us σ 130 (upd (σ 130) a v)) (show 4 + a < 47 by omega) (ld_ct_Sv130 X ad σ v ha) (fun j h1 h2 => ld_ct_S X ad σ v (by decide) h1 h2)) ▸ hP
theorem ld_p_S_laneN (O : ld_Ok l K ad cc nL own R) {a : Nat} (ha : a < 4) {ix : Nat} {v : Int32} (hw : Cond.fieldLinkNest own ix "LemonDeals$Sheet" "lane" "I" "LemonDeals" ∈ ld_nws) (hd : decode cc pc = .ok (.putfield ix, 3)) (k : K (us σ 130 (upd (σ 130) a v)) lv st (pc + 3)) : K σ lv (.int v :: .ref (ad (4 + a)) :: st) pc := by
  obtain ⟨X, p, e, s, m, args, below, meth, c, cells, slots, A, Q, hx, hb, hml, hown, hts, hinj, hK, hN, hA1, hA2, hR, rfl⟩ := O
  intro H locs ls hP hS hl
  refine va_putN (D := X.1) (ci := 0) (v := .int v) (ty := .int) (C := RX0) (T := TX0) (N := 3) hx hb hts inlX0 tyX0 tyX0_ok nmX0 hown hK hP (ld_D hinj hA1 X σ) hS (4 + a) (ld_atS X ad σ ha) rfl 1 (by decide) (va_Nw.use rfl (hN _ hw)) (fun _ h9 => h9) rfl (by decide +kernel) rfl rfl (Nat.le_of_ble_eq_true rfl) hd (fun H locs hP hD hS => ?_)
  refine k H locs ls ?_ hS hl
  exact (ld_set X ad σ (us σ 130 (upd (σ 130) a v)) (show 4 + a < 47 by omega) (ld_ct_Sv130 X ad σ v ha) (fun j h1 h2 => ld_ct_S X ad σ v (by decide) h1 h2)) ▸ hP
theorem ld_ct_Sv131 (X : ld_X) (ad : Nat → Nat) (σ : ld_St) {k : Nat} (v : Int32) (hk : k < 4) : ld_ct X ad (us σ 131 (upd (σ 131) k v)) (4 + k) = .inr (0, [.ref (ad (9 + (16 + k))), .int (σ 130 k), .int v]) := by
  have h := (ld_at X ad (us σ 131 (upd (σ 131) k v)) (show 4 + k < 47 by omega)).symm.trans (ld_atS X ad (us σ 131 (upd (σ 131) k v)) hk)
  have h2 := congrArg Prod.snd (Option.some.inj h)
  rw [us_eq, us_ne σ _ (show 130 ≠ 131 by decide), pk_us] at h2
  exact h2
theorem ld_p_S_length (O : ld_Ok l K ad cc nL own R) {a : Nat} (ha : a < 4) {ix : Nat} {v : Int32} (hw : Cond.fieldLink own ix "LemonDeals$Sheet" "length" "I" ∈ wsL_law) (hd : decode cc pc = .ok (.putfield ix, 3)) (k : K (us σ 131 (upd (σ 131) a v)) lv st (pc + 3)) : K σ lv (.int v :: .ref (ad (4 + a)) :: st) pc := by
  obtain ⟨X, p, e, s, m, args, below, meth, c, cells, slots, A, Q, hx, hb, hml, hown, hts, hinj, hK, hN, hA1, hA2, hR, rfl⟩ := O
  intro H locs ls hP hS hl
  refine va_put (D := X.1) (ci := 0) (v := .int v) (ty := .int) (C := RX0) (T := TX0) (N := 3) hx hb hts inlX0 tyX0 tyX0_ok nmX0 hown hK hP (ld_D hinj hA1 X σ) hS (4 + a) (ld_atS X ad σ ha) rfl 2 (by decide) (hts _ hw) (fun _ h9 => h9) rfl (by decide +kernel) rfl rfl (Nat.le_of_ble_eq_true rfl) hd (fun H locs hP hD hS => ?_)
  refine k H locs ls ?_ hS hl
  exact (ld_set X ad σ (us σ 131 (upd (σ 131) a v)) (show 4 + a < 47 by omega) (ld_ct_Sv131 X ad σ v ha) (fun j h1 h2 => ld_ct_S X ad σ v (by decide) h1 h2)) ▸ hP
theorem ld_p_S_lengthN (O : ld_Ok l K ad cc nL own R) {a : Nat} (ha : a < 4) {ix : Nat} {v : Int32} (hw : Cond.fieldLinkNest own ix "LemonDeals$Sheet" "length" "I" "LemonDeals" ∈ ld_nws) (hd : decode cc pc = .ok (.putfield ix, 3)) (k : K (us σ 131 (upd (σ 131) a v)) lv st (pc + 3)) : K σ lv (.int v :: .ref (ad (4 + a)) :: st) pc := by
  obtain ⟨X, p, e, s, m, args, below, meth, c, cells, slots, A, Q, hx, hb, hml, hown, hts, hinj, hK, hN, hA1, hA2, hR, rfl⟩ := O
  intro H locs ls hP hS hl
  refine va_putN (D := X.1) (ci := 0) (v := .int v) (ty := .int) (C := RX0) (T := TX0) (N := 3) hx hb hts inlX0 tyX0 tyX0_ok nmX0 hown hK hP (ld_D hinj hA1 X σ) hS (4 + a) (ld_atS X ad σ ha) rfl 2 (by decide) (va_Nw.use rfl (hN _ hw)) (fun _ h9 => h9) rfl (by decide +kernel) rfl rfl (Nat.le_of_ble_eq_true rfl) hd (fun H locs hP hD hS => ?_)
  refine k H locs ls ?_ hS hl
  exact (ld_set X ad σ (us σ 131 (upd (σ 131) a v)) (show 4 + a < 47 by omega) (ld_ct_Sv131 X ad σ v ha) (fun j h1 h2 => ld_ct_S X ad σ v (by decide) h1 h2)) ▸ hP
theorem ld_iald (O : ld_Ok l K ad cc nL own R) (a j : Nat) {i v : Int32} (hi : i = nI j) (ha : a < 38) (hj : j < ld_len a) (hv : σ a j = v) (hd : decode cc pc = .ok (.iaload, 1)) (k : K σ lv (.int v :: st) (pc + 1)) : K σ lv (.int i :: .ref (ad (9 + a)) :: st) pc := by
  obtain ⟨X, p, e, s, m, args, below, meth, c, cells, slots, A, Q, hx, hb, hml, hown, hts, hinj, hK, hN, hA1, hA2, hR, rfl⟩ := O
  intro H locs ls hP hS hl
  subst hi; subst hv
  have hb2 : ld_len a < 2 ^ 31 := by unfold ld_len; repeat' split
                                     all_goals decide
  refine va_iald (D := X.1) (cl := ld_cl) (tys := ld_tys X) hx hb hK hP (9 + a) 0 (ld_atA X ad σ ha) rfl (vp_in_nI hj hb2) hd ?_
  rw [nI_clamp (Nat.lt_trans hj hb2)]
  exact k H locs ls hP hS hl
theorem ld_iast (O : ld_Ok l K ad cc nL own R) (a j : Nat) {i v : Int32} (hi : i = nI j) (ha : a < 38) (hj : j < ld_len a) (hd : decode cc pc = .ok (.iastore, 1)) (k : K (us σ a (upd (σ a) j v)) lv st (pc + 1)) : K σ lv (.int v :: .int i :: .ref (ad (9 + a)) :: st) pc := by
  obtain ⟨X, p, e, s, m, args, below, meth, c, cells, slots, A, Q, hx, hb, hml, hown, hts, hinj, hK, hN, hA1, hA2, hR, rfl⟩ := O
  intro H locs ls hP hS hl
  subst hi
  have hb2 : ld_len a < 2 ^ 31 := by unfold ld_len; repeat' split
                                     all_goals decide
  refine va_iast (D := X.1) (cl := ld_cl) (tys := ld_tys X) hx hb hK hP (ld_D hinj hA1 X σ) hS (9 + a) 0 (ld_atA X ad σ ha) rfl (vp_in_nI hj hb2) hd (fun H locs hP hD hS => ?_)
  rw [nI_clamp (Nat.lt_trans hj hb2)] at hP
  exact k H locs ls (ld_setA X ad σ ha _ ▸ hP) hS hl
theorem ld_aald (O : ld_Ok l K ad cc nL own R) (j : Nat) {i : Int32} (hi : i = nI j) (hj : j < 4) (hd : decode cc pc = .ok (.aaload, 1)) (k : K σ lv (.ref (ad (4 + j)) :: st) (pc + 1)) : K σ lv (.int i :: .ref (ad 3) :: st) pc := by
  obtain ⟨X, p, e, s, m, args, below, meth, c, cells, slots, A, Q, hx, hb, hml, hown, hts, hinj, hK, hN, hA1, hA2, hR, rfl⟩ := O
  intro H locs ls hP hS hl
  subst hi
  refine va_aldq (D := X.1) (cl := ld_cl) (tys := ld_tys X) hx hb hK hP 3 1 (ld_at3 X ad σ) rfl (vp_in_nI hj (by decide)) hd ?_
  rw [nI_clamp (Nat.lt_trans hj (by decide))]
  exact k H locs ls hP hS hl
theorem ld_mmax (O : ld_Ok l K ad cc nL own R) {ix : Nat} {x y : Int32} (hw : Cond.methodLink own ix Lib.Math.max.name ∈ wsL_law) (h1 : 1 ≤ R.frames) (h2 : (st.map fun v => v.category).sum + 13 ≤ R.locals) (hd : decode cc pc = .ok (.invokestatic ix, 3)) (k : K σ lv (.int (if x < y then y else x) :: st) (pc + 3)) : K σ lv (.int y :: .int x :: st) pc := by
  obtain ⟨X, p, e, s, m, args, below, meth, c, cells, slots, A, Q, hx, hb, hml, hown, hts, hinj, hK, hN, hA1, hA2, hR, rfl⟩ := O
  intro H locs ls hP hS hl
  exact va_mmax hx hb (hml.trans hl.1.symm) hown (hts _ hw) (hts _ ld_wS_max) (hts _ ld_wI_math) (hts _ ld_wC_max) h1 h2 hR.1 hR.2 hd (k H locs ls hP hS hl)
theorem ld_mmin (O : ld_Ok l K ad cc nL own R) {ix : Nat} {x y : Int32} (hw : Cond.methodLink own ix Lib.Math.min.name ∈ wsL_law) (h1 : 1 ≤ R.frames) (h2 : (st.map fun v => v.category).sum + 13 ≤ R.locals) (hd : decode cc pc = .ok (.invokestatic ix, 3)) (k : K σ lv (.int (if y < x then y else x) :: st) (pc + 3)) : K σ lv (.int y :: .int x :: st) pc := by
  obtain ⟨X, p, e, s, m, args, below, meth, c, cells, slots, A, Q, hx, hb, hml, hown, hts, hinj, hK, hN, hA1, hA2, hR, rfl⟩ := O
  intro H locs ls hP hS hl
  exact va_mmin hx hb (hml.trans hl.1.symm) hown (hts _ hw) (hts _ ld_wS_min) (hts _ ld_wI_math) (hts _ ld_wC_min) h1 h2 hR.1 hR.2 hd (k H locs ls hP hS hl)
theorem ld_mabs (O : ld_Ok l K ad cc nL own R) {ix : Nat} {x : Int32} (hw : Cond.methodLink own ix Lib.Math.abs.name ∈ wsL_law) (h1 : 1 ≤ R.frames) (h2 : (st.map fun v => v.category).sum + 13 ≤ R.locals) (hd : decode cc pc = .ok (.invokestatic ix, 3)) (k : K σ lv (.int (if 0 ≤ x then x else 0 - x) :: st) (pc + 3)) : K σ lv (.int x :: st) pc := by
  obtain ⟨X, p, e, s, m, args, below, meth, c, cells, slots, A, Q, hx, hb, hml, hown, hts, hinj, hK, hN, hA1, hA2, hR, rfl⟩ := O
  intro H locs ls hP hS hl
  exact va_mabs hx hb (hml.trans hl.1.symm) hown (hts _ hw) (hts _ ld_wS_abs) (hts _ ld_wI_math) (hts _ ld_wC_abs) h1 h2 hR.1 hR.2 hd (k H locs ls hP hS hl)
/-- what a method's words say: it may be called -/
def ld_MW (inst : Bool) (y : MethodName) (b : ByteArray) (n : Nat) (ret : Option FieldType) (na : Nat) : Prop :=
  (if inst = true then Cond.instanceMethod y ∈ wsL_law ∧ Cond.selects y.cls y y ∈ wsL_law else Cond.static y ∈ wsL_law) ∧ Cond.initialized y.cls ∈ wsL_law ∧ Cond.code y b n ret ∈ wsL_law ∧ (y.cls ≠ "java/lang/invoke/MethodHandle" ∧ y.cls ≠ "java/lang/invoke/VarHandle") ∧ (parseMethodDescriptor y.desc).map (fun d => d.parameters.length) = some na
def ld_recv (C : String) (q : Nat) : Prop := ∀ (X : ld_X) (ad : Nat → Nat) (σ : ld_St), ∃ (ci : Nat) (T : u_T) (N : Nat) (fs : List Value), ld_cl[ci]? = some (C, T, N) ∧ (ld_G X ad σ)[q]? = some (ad q, .inr (ci, fs))
theorem ld_recv0 : ld_recv RX2 0 := fun X ad σ => ⟨2, TX2, 8, _, rfl, ld_at0 X ad σ⟩
theorem ld_recv1 : ld_recv RX1 1 := fun X ad σ => ⟨1, TX1, 11, _, rfl, ld_at1 X ad σ⟩
theorem ld_recv2 : ld_recv RX1 2 := fun X ad σ => ⟨1, TX1, 11, _, rfl, ld_at2 X ad σ⟩
theorem ld_recv8 : ld_recv RX3 8 := fun X ad σ => ⟨3, TX3, 30, _, rfl, ld_at8 X ad σ⟩
theorem ld_recvS {k : Nat} (hk : k < 4) : ld_recv RX0 (4 + k) := fun X ad σ => ⟨0, TX0, 3, _, rfl, ld_atS X ad σ hk⟩
theorem ld_goodC {y : MethodName} {b : ByteArray} {n : Nat} {ret : Option FieldType} (h : Cond.code y b n ret ∈ wsL_law) : GoodIn wsL_law (ld_ws y b n ret) := fun w hw => (List.mem_cons.mp hw).elim (fun q => by subst q; exact ld_good _ h) (fun q => ld_good _ q)
section CAL
variable {y : MethodName} {b : ByteArray} {n na ix : Nat} {ret : Option FieldType} {rm : Nat × Nat} {P : Option Value → ld_St → Prop} {args As : List Value} {q : Nat}
theorem ld_blind (X : ld_X) (ad : Nat → Nat) (σ : ld_St) (sz : Nat) (as : List Value) : FrameBlind (ld_Pc X ad σ sz as) := fun a U g mk h => by
  obtain ⟨h1, h2, h3, h4, h5⟩ := h
  exact ⟨h1, h2, h3, va_K.moved (u := U) (U := U.calling g mk a) (Vm.Alike.refl U.vm) h4, ld_NW.same (s := U) (U := U.calling g mk a) rfl h5⟩
theorem ld_after {X : ld_X} {p : Program} {l : Launch} {e : Env} {R : Room} {s : State} {m : MethodId} {args : Array Value} {below : List Frame} {meth : Method} {c : Code} {H : Heap} {locs : List Loc} {cells slots : Nat} {Q : State → Prop} {ad : Nat → Nat} {A : Nat → Prop} {g : JFrame} {st : List Value} {a : Array Value} {P : Option Value → ld_St → Prop} (hA1 : ∀ i, i < 47 → A (ad i)) (hA2 : ∀ q, s.heap.size ≤ q → A q) (hS : va_S A s.heap H locs)
    (hr : va_Run p l e R s m args below meth c H locs cells slots 0 0 g st (ld_Qc X ad H.size P a) (ld_A ad H.size))
    (k : ∀ (v : Option Value) (σ2 : ld_St) (H1 : Heap) (locs1 : List Loc), P v σ2 → va_P X.1 ld_cl (ld_G X ad σ2) H1 → va_S A s.heap H1 locs1 → W p l e R s m args below meth c H1 locs1 cells slots Q { g with pc := g.pc + 3, stack := v.toList ++ st }) : W p l e R s m args below meth c H locs cells slots Q g := by
  have hAA : ∀ q, q < H.size → ld_A ad H.size q → A q := fun q h1 h2 => by
    rcases h2 with ⟨i, hi, rfl⟩ | h2
    · exact hA1 i hi
    · omega
  have hAf : ∀ q, ld_A ad H.size q → A q := fun q h2 => by
    rcases h2 with ⟨i, hi, rfl⟩ | h2
    · exact hA1 i hi
    · exact hA2 q (Nat.le_trans hS.1 h2)
  intro T hT X1
  obtain ⟨v, st₀, t, T2, L, h0, X2, hL, e1, e2, ⟨⟨v2, σ2, hv, hp, hP2⟩, hz, hk⟩, stp⟩ := hr T hT X1
  cases hv
  rw [h0] at hz hk
  obtain ⟨t2, a1, b1⟩ := k v σ2 T2.heap (locs ++ L) hp (by rw [e1]; exact hP2)
    ⟨Nat.le_trans hS.1 (by rw [e1]; exact hz), fun q h1 h2 => by rw [e1, hk q (Nat.lt_of_lt_of_le h1 hS.1) (fun z => h2 (hAA q (Nat.lt_of_lt_of_le h1 hS.1) z))]; exact hS.2.1 q h1 h2, fun q hq => by
      rcases List.mem_append.mp hq with h | h
      · exact hS.2.2 q h
      · exact hAf _ (hL q h)⟩ T2 rfl X2
  exact ⟨t2, stp t2 a1, b1⟩
theorem ld_preS {X : ld_X} {s : State} {H : Heap} {ad : Nat → Nat} {σ : ld_St} (hP : va_P X.1 ld_cl (ld_G X ad σ) H) (hK : va_K X.1 ld_cl (ld_tys X) s) (hN : ld_NW s) (as : List Value) : PreS s H (ld_Pc X ad σ H.size as) as :=
  ⟨ld_blind X ad σ H.size as, fun U hU hW => ⟨rfl, by rw [hU], by rw [hU]; exact hP, va_K.moved hW.alike hK, hN.warm hW⟩⟩
theorem ld_preV {X : ld_X} {s : State} {H : Heap} {ad : Nat → Nat} {σ : ld_St} {C : String} {q : Nat} (hP : va_P X.1 ld_cl (ld_G X ad σ) H) (hK : va_K X.1 ld_cl (ld_tys X) s) (hN : ld_NW s) (hq : ld_recv C q) (as : List Value) : PreV s H C (ad q) (ld_Pc X ad σ H.size (.ref (ad q) :: as)) as := by
  obtain ⟨ci, T, N, fs, h1, h2⟩ := hq X ad σ
  exact ⟨ld_blind X ad σ H.size _, va_recv hK hP h1 h2, fun U hU hW => ⟨rfl, by rw [hU], by rw [hU]; exact hP, va_K.moved hW.alike hK, hN.warm hW⟩⟩
theorem ld_callV (O : ld_Ok l K ad cc nL own R) (hq : ld_recv y.cls q) (hM : ld_Ctr l y b n ret rm (.ref (ad q) :: As) ad σ P) (hy : ld_MW true y b n ret na) (hw : Cond.methodLink own ix y ∈ wsL_law) (hn : As.length = na) (hroom : rm.1 + 1 ≤ R.frames ∧ 8 + (n + 11) + rm.2 ≤ R.locals) (hst : (st.map fun v => v.category).sum ≤ 8) (hd : decode cc pc = .ok (.invokevirtual ix, 3)) (k : ∀ v σ2, P v σ2 → K σ2 lv (v.toList ++ st) (pc + 3)) : K σ lv (As.reverse ++ .ref (ad q) :: st) pc := by
  obtain ⟨X, p, e, s, m, args, below, meth, c, cells, slots, A, Q, hx, hb, hml, hown, hts, hinj, hK, hN, hA1, hA2, hR, rfl⟩ := O
  intro H locs ls hP hS hl
  obtain ⟨hy1, hy2, hy3, hy4, hy5⟩ := hy
  rw [if_pos rfl] at hy1
  have hCB := callB_of (R := R) (own := own) (index := ix) (rm := ld_rm rm) (mc := 0) (ms := 0) na hts (ld_goodC hy3) rfl rfl rfl (hts _ hy2) (hts _ hw) ⟨hy4.1, hy4.2, hy5⟩ hroom
  have hr : va_Run p l e R s m args below meth c H locs cells slots 0 0 (F0 m pc ls (As.reverse ++ .ref (ad q) :: st)) st (ld_Qc X ad H.size P (Value.ref (ad q) :: As).toArray) (ld_A ad H.size) := va_runV (g := F0 m pc ls (As.reverse ++ .ref (ad q) :: st)) (rest := st) ⟨hx, hb, hml, hown, hts⟩ (hM X H.size hinj) ⟨hCB, hts _ hy1.1, hts _ hy1.2⟩ (ld_preV hP hK hN hq As) rfl hn hl.1 rfl (lv_room hst) hd hR
  exact ld_after hA1 hA2 hS hr (fun v σ2 H1 locs1 hp hP1 hS1 => k v σ2 hp H1 locs1 ls hP1 hS1 hl)
theorem ld_callVN {host : String} (O : ld_Ok l K ad cc nL own R) (hq : ld_recv y.cls q) (hM : ld_Ctr l y b n ret rm (.ref (ad q) :: As) ad σ P) (hy : ld_MW true y b n ret na) (hw : Cond.methodLinkNest own ix y host ∈ ld_nws) (hn : As.length = na) (hroom : rm.1 + 1 ≤ R.frames ∧ 8 + (n + 11) + rm.2 ≤ R.locals) (hst : (st.map fun v => v.category).sum ≤ 8) (hd : decode cc pc = .ok (.invokevirtual ix, 3)) (k : ∀ v σ2, P v σ2 → K σ2 lv (v.toList ++ st) (pc + 3)) : K σ lv (As.reverse ++ .ref (ad q) :: st) pc := by
  obtain ⟨X, p, e, s, m, args, below, meth, c, cells, slots, A, Q, hx, hb, hml, hown, hts, hinj, hK, hN, hA1, hA2, hR, rfl⟩ := O
  intro H locs ls hP hS hl
  obtain ⟨hy1, hy2, hy3, hy4, hy5⟩ := hy
  rw [if_pos rfl] at hy1
  have hCN := va_cnB (R := R) (own := own) (index := ix) (host := host) (rm := ld_rm rm) (mc := 0) (ms := 0) na hts (ld_goodC hy3) rfl rfl rfl (hN _ hw) (hts _ hy2) ⟨hy4.1, hy4.2, hy5⟩ hroom
  have hr : va_Run p l e R s m args below meth c H locs cells slots 0 0 (F0 m pc ls (As.reverse ++ .ref (ad q) :: st)) st (ld_Qc X ad H.size P (Value.ref (ad q) :: As).toArray) (ld_A ad H.size) := va_runVN (g := F0 m pc ls (As.reverse ++ .ref (ad q) :: st)) (rest := st) ⟨hx, hb, hml, hown, hts⟩ (hM X H.size hinj) ⟨hCN, hts _ hy1.1, hts _ hy1.2⟩ (ld_preV hP hK hN hq As) rfl hn hl.1 rfl (lv_room hst) hd hR
  exact ld_after hA1 hA2 hS hr (fun v σ2 H1 locs1 hp hP1 hS1 => k v σ2 hp H1 locs1 ls hP1 hS1 hl)
theorem ld_callS (O : ld_Ok l K ad cc nL own R) (hM : ld_Ctr l y b n ret rm As ad σ P) (hy : ld_MW false y b n ret na) (hw : Cond.methodLink own ix y ∈ wsL_law) (hn : As.length = na) (hroom : rm.1 + 1 ≤ R.frames ∧ 8 + (n + 11) + rm.2 ≤ R.locals) (hst : (st.map fun v => v.category).sum ≤ 8) (hd : decode cc pc = .ok (.invokestatic ix, 3)) (k : ∀ v σ2, P v σ2 → K σ2 lv (v.toList ++ st) (pc + 3)) : K σ lv (As.reverse ++ st) pc := by
  obtain ⟨X, p, e, s, m, args, below, meth, c, cells, slots, A, Q, hx, hb, hml, hown, hts, hinj, hK, hN, hA1, hA2, hR, rfl⟩ := O
  intro H locs ls hP hS hl
  obtain ⟨hy1, hy2, hy3, hy4, hy5⟩ := hy
  rw [if_neg (by decide)] at hy1
  have hCB := callB_of (R := R) (own := own) (index := ix) (rm := ld_rm rm) (mc := 0) (ms := 0) na hts (ld_goodC hy3) rfl rfl rfl (hts _ hy2) (hts _ hw) ⟨hy4.1, hy4.2, hy5⟩ hroom
  have hr : va_Run p l e R s m args below meth c H locs cells slots 0 0 (F0 m pc ls (As.reverse ++ st)) st (ld_Qc X ad H.size P As.toArray) (ld_A ad H.size) := va_runS (g := F0 m pc ls (As.reverse ++ st)) (rest := st) ⟨hx, hb, hml, hown, hts⟩ (hM X H.size hinj) ⟨hCB, hts _ hy1⟩ (ld_preS hP hK hN As) rfl hn hl.1 rfl (lv_room hst) hd hR
  exact ld_after hA1 hA2 hS hr (fun v σ2 H1 locs1 hp hP1 hS1 => k v σ2 hp H1 locs1 ls hP1 hS1 hl)
theorem ld_callSN {host : String} (O : ld_Ok l K ad cc nL own R) (hM : ld_Ctr l y b n ret rm As ad σ P) (hy : ld_MW false y b n ret na) (hw : Cond.methodLinkNest own ix y host ∈ ld_nws) (hn : As.length = na) (hroom : rm.1 + 1 ≤ R.frames ∧ 8 + (n + 11) + rm.2 ≤ R.locals) (hst : (st.map fun v => v.category).sum ≤ 8) (hd : decode cc pc = .ok (.invokestatic ix, 3)) (k : ∀ v σ2, P v σ2 → K σ2 lv (v.toList ++ st) (pc + 3)) : K σ lv (As.reverse ++ st) pc := by
  obtain ⟨X, p, e, s, m, args, below, meth, c, cells, slots, A, Q, hx, hb, hml, hown, hts, hinj, hK, hN, hA1, hA2, hR, rfl⟩ := O
  intro H locs ls hP hS hl
  obtain ⟨hy1, hy2, hy3, hy4, hy5⟩ := hy
  rw [if_neg (by decide)] at hy1
  have hCN := va_cnB (R := R) (own := own) (index := ix) (host := host) (rm := ld_rm rm) (mc := 0) (ms := 0) na hts (ld_goodC hy3) rfl rfl rfl (hN _ hw) (hts _ hy2) ⟨hy4.1, hy4.2, hy5⟩ hroom
  have hr : va_Run p l e R s m args below meth c H locs cells slots 0 0 (F0 m pc ls (As.reverse ++ st)) st (ld_Qc X ad H.size P As.toArray) (ld_A ad H.size) := va_runSN (g := F0 m pc ls (As.reverse ++ st)) (rest := st) ⟨hx, hb, hml, hown, hts⟩ (hM X H.size hinj) ⟨hCN, hts _ hy1, trivial⟩ (ld_preS hP hK hN As) rfl hn hl.1 rfl (lv_room hst) hd hR
  exact ld_after hA1 hA2 hS hr (fun v σ2 H1 locs1 hp hP1 hS1 => k v σ2 hp H1 locs1 ls hP1 hS1 hl)
theorem ld_callVi {p : Int32 → ld_St → Prop} {stk : List Value} (O : ld_Ok l K ad cc nL own R) (hq : ld_recv y.cls q) (hM : ld_Ctr l y b n ret rm (.ref (ad q) :: As) ad σ (ld_I p)) (hy : ld_MW true y b n ret na) (hw : Cond.methodLink own ix y ∈ wsL_law) (hn : As.length = na) (hstk : stk = As.reverse ++ .ref (ad q) :: st) (hroom : rm.1 + 1 ≤ R.frames ∧ 8 + (n + 11) + rm.2 ≤ R.locals) (hst : (st.map fun v => v.category).sum ≤ 8) (hd : decode cc pc = .ok (.invokevirtual ix, 3)) (k : ∀ r σ2, p r σ2 → K σ2 lv (.int r :: st) (pc + 3)) : K σ lv stk pc := by
  subst hstk
  exact ld_callV O hq hM hy hw hn hroom hst hd (fun v σ2 h => by obtain ⟨r, rfl, h⟩ := h; exact k r σ2 h)
theorem ld_callVl {p : Int64 → ld_St → Prop} {stk : List Value} (O : ld_Ok l K ad cc nL own R) (hq : ld_recv y.cls q) (hM : ld_Ctr l y b n ret rm (.ref (ad q) :: As) ad σ (ld_L p)) (hy : ld_MW true y b n ret na) (hw : Cond.methodLink own ix y ∈ wsL_law) (hn : As.length = na) (hstk : stk = As.reverse ++ .ref (ad q) :: st) (hroom : rm.1 + 1 ≤ R.frames ∧ 8 + (n + 11) + rm.2 ≤ R.locals) (hst : (st.map fun v => v.category).sum ≤ 8) (hd : decode cc pc = .ok (.invokevirtual ix, 3)) (k : ∀ r σ2, p r σ2 → K σ2 lv (.long r :: st) (pc + 3)) : K σ lv stk pc := by
  subst hstk
  exact ld_callV O hq hM hy hw hn hroom hst hd (fun v σ2 h => by obtain ⟨r, rfl, h⟩ := h; exact k r σ2 h)
theorem ld_callVv {p : ld_St → Prop} {stk : List Value} (O : ld_Ok l K ad cc nL own R) (hq : ld_recv y.cls q) (hM : ld_Ctr l y b n ret rm (.ref (ad q) :: As) ad σ (ld_V p)) (hy : ld_MW true y b n ret na) (hw : Cond.methodLink own ix y ∈ wsL_law) (hn : As.length = na) (hstk : stk = As.reverse ++ .ref (ad q) :: st) (hroom : rm.1 + 1 ≤ R.frames ∧ 8 + (n + 11) + rm.2 ≤ R.locals) (hst : (st.map fun v => v.category).sum ≤ 8) (hd : decode cc pc = .ok (.invokevirtual ix, 3)) (k : ∀ σ2, p σ2 → K σ2 lv st (pc + 3)) : K σ lv stk pc := by
  subst hstk
  exact ld_callV O hq hM hy hw hn hroom hst hd (fun v σ2 h => by obtain ⟨rfl, h⟩ := h; exact k σ2 h)
theorem ld_callVNi {host : String} {p : Int32 → ld_St → Prop} {stk : List Value} (O : ld_Ok l K ad cc nL own R) (hq : ld_recv y.cls q) (hM : ld_Ctr l y b n ret rm (.ref (ad q) :: As) ad σ (ld_I p)) (hy : ld_MW true y b n ret na) (hw : Cond.methodLinkNest own ix y host ∈ ld_nws) (hn : As.length = na) (hstk : stk = As.reverse ++ .ref (ad q) :: st) (hroom : rm.1 + 1 ≤ R.frames ∧ 8 + (n + 11) + rm.2 ≤ R.locals) (hst : (st.map fun v => v.category).sum ≤ 8) (hd : decode cc pc = .ok (.invokevirtual ix, 3)) (k : ∀ r σ2, p r σ2 → K σ2 lv (.int r :: st) (pc + 3)) : K σ lv stk pc := by
  subst hstk
  exact ld_callVN O hq hM hy hw hn hroom hst hd (fun v σ2 h => by obtain ⟨r, rfl, h⟩ := h; exact k r σ2 h)
theorem ld_callVNl {host : String} {p : Int64 → ld_St → Prop} {stk : List Value} (O : ld_Ok l K ad cc nL own R) (hq : ld_recv y.cls q) (hM : ld_Ctr l y b n ret rm (.ref (ad q) :: As) ad σ (ld_L p)) (hy : ld_MW true y b n ret na) (hw : Cond.methodLinkNest own ix y host ∈ ld_nws) (hn : As.length = na) (hstk : stk = As.reverse ++ .ref (ad q) :: st) (hroom : rm.1 + 1 ≤ R.frames ∧ 8 + (n + 11) + rm.2 ≤ R.locals) (hst : (st.map fun v => v.category).sum ≤ 8) (hd : decode cc pc = .ok (.invokevirtual ix, 3)) (k : ∀ r σ2, p r σ2 → K σ2 lv (.long r :: st) (pc + 3)) : K σ lv stk pc := by
  subst hstk
  exact ld_callVN O hq hM hy hw hn hroom hst hd (fun v σ2 h => by obtain ⟨r, rfl, h⟩ := h; exact k r σ2 h)
theorem ld_callVNv {host : String} {p : ld_St → Prop} {stk : List Value} (O : ld_Ok l K ad cc nL own R) (hq : ld_recv y.cls q) (hM : ld_Ctr l y b n ret rm (.ref (ad q) :: As) ad σ (ld_V p)) (hy : ld_MW true y b n ret na) (hw : Cond.methodLinkNest own ix y host ∈ ld_nws) (hn : As.length = na) (hstk : stk = As.reverse ++ .ref (ad q) :: st) (hroom : rm.1 + 1 ≤ R.frames ∧ 8 + (n + 11) + rm.2 ≤ R.locals) (hst : (st.map fun v => v.category).sum ≤ 8) (hd : decode cc pc = .ok (.invokevirtual ix, 3)) (k : ∀ σ2, p σ2 → K σ2 lv st (pc + 3)) : K σ lv stk pc := by
  subst hstk
  exact ld_callVN O hq hM hy hw hn hroom hst hd (fun v σ2 h => by obtain ⟨rfl, h⟩ := h; exact k σ2 h)
theorem ld_callSi {p : Int32 → ld_St → Prop} {stk : List Value} (O : ld_Ok l K ad cc nL own R) (hM : ld_Ctr l y b n ret rm (As) ad σ (ld_I p)) (hy : ld_MW false y b n ret na) (hw : Cond.methodLink own ix y ∈ wsL_law) (hn : As.length = na) (hstk : stk = As.reverse ++ st) (hroom : rm.1 + 1 ≤ R.frames ∧ 8 + (n + 11) + rm.2 ≤ R.locals) (hst : (st.map fun v => v.category).sum ≤ 8) (hd : decode cc pc = .ok (.invokestatic ix, 3)) (k : ∀ r σ2, p r σ2 → K σ2 lv (.int r :: st) (pc + 3)) : K σ lv stk pc := by
  subst hstk
  exact ld_callS O hM hy hw hn hroom hst hd (fun v σ2 h => by obtain ⟨r, rfl, h⟩ := h; exact k r σ2 h)
theorem ld_callSl {p : Int64 → ld_St → Prop} {stk : List Value} (O : ld_Ok l K ad cc nL own R) (hM : ld_Ctr l y b n ret rm (As) ad σ (ld_L p)) (hy : ld_MW false y b n ret na) (hw : Cond.methodLink own ix y ∈ wsL_law) (hn : As.length = na) (hstk : stk = As.reverse ++ st) (hroom : rm.1 + 1 ≤ R.frames ∧ 8 + (n + 11) + rm.2 ≤ R.locals) (hst : (st.map fun v => v.category).sum ≤ 8) (hd : decode cc pc = .ok (.invokestatic ix, 3)) (k : ∀ r σ2, p r σ2 → K σ2 lv (.long r :: st) (pc + 3)) : K σ lv stk pc := by
  subst hstk
  exact ld_callS O hM hy hw hn hroom hst hd (fun v σ2 h => by obtain ⟨r, rfl, h⟩ := h; exact k r σ2 h)
theorem ld_callSv {p : ld_St → Prop} {stk : List Value} (O : ld_Ok l K ad cc nL own R) (hM : ld_Ctr l y b n ret rm (As) ad σ (ld_V p)) (hy : ld_MW false y b n ret na) (hw : Cond.methodLink own ix y ∈ wsL_law) (hn : As.length = na) (hstk : stk = As.reverse ++ st) (hroom : rm.1 + 1 ≤ R.frames ∧ 8 + (n + 11) + rm.2 ≤ R.locals) (hst : (st.map fun v => v.category).sum ≤ 8) (hd : decode cc pc = .ok (.invokestatic ix, 3)) (k : ∀ σ2, p σ2 → K σ2 lv st (pc + 3)) : K σ lv stk pc := by
  subst hstk
  exact ld_callS O hM hy hw hn hroom hst hd (fun v σ2 h => by obtain ⟨rfl, h⟩ := h; exact k σ2 h)
theorem ld_callSNi {host : String} {p : Int32 → ld_St → Prop} {stk : List Value} (O : ld_Ok l K ad cc nL own R) (hM : ld_Ctr l y b n ret rm (As) ad σ (ld_I p)) (hy : ld_MW false y b n ret na) (hw : Cond.methodLinkNest own ix y host ∈ ld_nws) (hn : As.length = na) (hstk : stk = As.reverse ++ st) (hroom : rm.1 + 1 ≤ R.frames ∧ 8 + (n + 11) + rm.2 ≤ R.locals) (hst : (st.map fun v => v.category).sum ≤ 8) (hd : decode cc pc = .ok (.invokestatic ix, 3)) (k : ∀ r σ2, p r σ2 → K σ2 lv (.int r :: st) (pc + 3)) : K σ lv stk pc := by
  subst hstk
  exact ld_callSN O hM hy hw hn hroom hst hd (fun v σ2 h => by obtain ⟨r, rfl, h⟩ := h; exact k r σ2 h)
theorem ld_callSNl {host : String} {p : Int64 → ld_St → Prop} {stk : List Value} (O : ld_Ok l K ad cc nL own R) (hM : ld_Ctr l y b n ret rm (As) ad σ (ld_L p)) (hy : ld_MW false y b n ret na) (hw : Cond.methodLinkNest own ix y host ∈ ld_nws) (hn : As.length = na) (hstk : stk = As.reverse ++ st) (hroom : rm.1 + 1 ≤ R.frames ∧ 8 + (n + 11) + rm.2 ≤ R.locals) (hst : (st.map fun v => v.category).sum ≤ 8) (hd : decode cc pc = .ok (.invokestatic ix, 3)) (k : ∀ r σ2, p r σ2 → K σ2 lv (.long r :: st) (pc + 3)) : K σ lv stk pc := by
  subst hstk
  exact ld_callSN O hM hy hw hn hroom hst hd (fun v σ2 h => by obtain ⟨r, rfl, h⟩ := h; exact k r σ2 h)
theorem ld_callSNv {host : String} {p : ld_St → Prop} {stk : List Value} (O : ld_Ok l K ad cc nL own R) (hM : ld_Ctr l y b n ret rm (As) ad σ (ld_V p)) (hy : ld_MW false y b n ret na) (hw : Cond.methodLinkNest own ix y host ∈ ld_nws) (hn : As.length = na) (hstk : stk = As.reverse ++ st) (hroom : rm.1 + 1 ≤ R.frames ∧ 8 + (n + 11) + rm.2 ≤ R.locals) (hst : (st.map fun v => v.category).sum ≤ 8) (hd : decode cc pc = .ok (.invokestatic ix, 3)) (k : ∀ σ2, p σ2 → K σ2 lv st (pc + 3)) : K σ lv stk pc := by
  subst hstk
  exact ld_callSN O hM hy hw hn hroom hst hd (fun v σ2 h => by obtain ⟨rfl, h⟩ := h; exact k σ2 h)
end CAL
theorem ld_iret {P : Option Value → ld_St → Prop} {ret : Option FieldType} (E : ld_Re K cc ret P) {v : Int32} (hr : ∃ ty, ret = some ty ∧ narrow ty (.int v) = .int v) (hd : decode cc pc = .ok (.ireturn, 1)) (hp : P (some (.int v)) σ) : K σ lv [.int v] pc := E.1 σ lv v pc hd hr hp
theorem ld_ireti {q : Int32 → ld_St → Prop} (E : ld_Re K cc (some .int) (ld_I q)) {v : Int32} (hd : decode cc pc = .ok (.ireturn, 1)) (hp : q v σ) : K σ lv [.int v] pc := E.1 σ lv v pc hd ⟨_, rfl, rfl⟩ ⟨v, rfl, hp⟩
theorem ld_iretz {q : Int32 → ld_St → Prop} (E : ld_Re K cc (some .boolean) (ld_I q)) {v : Int32} (hv : v = 0 ∨ v = 1) (hd : decode cc pc = .ok (.ireturn, 1)) (hp : q v σ) : K σ lv [.int v] pc := E.1 σ lv v pc hd ⟨_, rfl, by rcases hv with rfl | rfl <;> rfl⟩ ⟨v, rfl, hp⟩
theorem ld_lret {q : Int64 → ld_St → Prop} (E : ld_Re K cc (some .long) (ld_L q)) {v : Int64} (hd : decode cc pc = .ok (.lreturn, 1)) (hp : q v σ) : K σ lv [.long v] pc := E.2.1 σ lv v pc hd rfl ⟨v, rfl, hp⟩
theorem ld_vret {q : ld_St → Prop} (E : ld_Re K cc none (ld_V q)) (hd : decode cc pc = .ok (.return_, 1)) (hp : q σ) : K σ lv [] pc := E.2.2 σ lv pc hd rfl ⟨rfl, hp⟩
end RUL
end
section
/-! plain facts on numbers and arrays, to paste: each family by itself; over the kit's rows on nI and upd -/
/-! ===== order of ints, in all its forms, and through longs ===== -/
theorem fa_lt (a b : Int32) : a < b ↔ a.toInt < b.toInt := Int32.lt_iff_toInt_lt
theorem fa_le (a b : Int32) : a ≤ b ↔ a.toInt ≤ b.toInt := Int32.le_iff_toInt_le
theorem fa_eq (a b : Int32) : a = b ↔ a.toInt = b.toInt := Int32.toInt_inj.symm
theorem fa_lt64 (a b : Int64) : a < b ↔ a.toInt < b.toInt := Int64.lt_iff_toInt_lt
theorem fa_le64 (a b : Int64) : a ≤ b ↔ a.toInt ≤ b.toInt := Int64.le_iff_toInt_le
theorem fa_eq64 (a b : Int64) : a = b ↔ a.toInt = b.toInt := Int64.toInt_inj.symm
/-- a comparison of two ints taken as longs -/
theorem fa_wide_lt (a b : Int32) : a.toInt64 < b.toInt64 ↔ a < b := by rw [fa_lt64, fa_lt, Int32.toInt_toInt64, Int32.toInt_toInt64]
theorem fa_wide_le (a b : Int32) : a.toInt64 ≤ b.toInt64 ↔ a ≤ b := by rw [fa_le64, fa_le, Int32.toInt_toInt64, Int32.toInt_toInt64]
theorem fa_wide_eq (a b : Int32) : a.toInt64 = b.toInt64 ↔ a = b := by rw [fa_eq64, fa_eq, Int32.toInt_toInt64, Int32.toInt_toInt64]
/-- one strict comparison gives all the others -/
theorem fa_of_lt {a b : Int32} (h : a < b) : a ≤ b ∧ ¬ b ≤ a ∧ ¬ b < a ∧ a ≠ b ∧ b ≠ a := by
  rw [fa_lt] at h
  refine ⟨?_, ?_, ?_, ?_, ?_⟩
  · rw [fa_le]; omega
  · rw [fa_le]; omega
  · rw [fa_lt]; omega
  · intro e; rw [fa_eq] at e; omega
  · intro e; rw [fa_eq] at e; omega
theorem fa_of_nlt {a b : Int32} (h : ¬ a < b) : b ≤ a := by
  rw [fa_lt] at h
  rw [fa_le]
  omega
theorem fa_of_nle {a b : Int32} (h : ¬ a ≤ b) : b < a := by
  rw [fa_le] at h
  rw [fa_lt]
  omega
theorem fa_le_ne {a b : Int32} (h : a ≤ b) (h2 : a ≠ b) : a < b := by
  rw [fa_le] at h
  rw [fa_lt]
  have h3 : a.toInt ≠ b.toInt := fun e => h2 ((fa_eq a b).mpr e)
  omega
theorem fa_three (a b : Int32) : a < b ∨ a = b ∨ b < a := by
  rw [fa_lt, fa_lt, fa_eq]
  omega
theorem fa_trans {a b c : Int32} (h : a < b) (h2 : b ≤ c) : a < c := by
  rw [fa_lt] at *
  rw [fa_le] at h2
  omega
/-! ===== small literals as numbers ===== -/
theorem fa_lit (n : Nat) : (OfNat.ofNat n : Int32) = nI n := rfl
theorem fa_litL (n : Nat) : (OfNat.ofNat n : Int64) = lN n := rfl
/-! ===== bits of a number: 'or', masks, one bit ===== -/
theorem fa_and (a b : Nat) : nI a &&& nI b = nI (a &&& b) := by
  apply Int32.toBitVec_inj.1
  show BitVec.ofNat 32 a &&& BitVec.ofNat 32 b = BitVec.ofNat 32 (a &&& b)
  apply BitVec.eq_of_getLsbD_eq
  intro i hi
  simp [hi]
theorem fa_or (a b : Nat) : nI a ||| nI b = nI (a ||| b) := by
  apply Int32.toBitVec_inj.1
  show BitVec.ofNat 32 a ||| BitVec.ofNat 32 b = BitVec.ofNat 32 (a ||| b)
  apply BitVec.eq_of_getLsbD_eq
  intro i hi
  simp [hi]
/-- a remainder by a power of two, as a mask -/
theorem fa_mask (n k : Nat) : nI n &&& nI (2 ^ k - 1) = nI (n % 2 ^ k) := by rw [fa_and, Nat.and_two_pow_sub_one_eq_mod]
/-- 'or' of a high part and a low one that don't meet is their sum -/
theorem fa_or_sum {a k : Nat} (b : Nat) (h : a < 2 ^ k) : nI (2 ^ k * b) ||| nI a = nI (2 ^ k * b + a) := by rw [fa_or, Nat.two_pow_add_eq_or_of_lt h]
/-- one bit, by 'and' with a power of two -/
theorem fa_bit {n j : Nat} (hj : j < 31) : nI n &&& nI (2 ^ j) = 0 ↔ n.testBit j = false := by
  have h2 : (2 : Nat) ^ j < 2 ^ 31 := Nat.pow_lt_pow_right (by decide) hj
  have hle : n &&& 2 ^ j ≤ 2 ^ j := Nat.and_le_right
  have e : n &&& 2 ^ j = 0 ↔ n.testBit j = false := by
    constructor
    · intro h
      have h1 : (n &&& 2 ^ j).testBit j = false := by rw [h]; simp
      rw [Nat.testBit_and] at h1
      first | simpa using h1 | simpa [Nat.testBit_two_pow_self] using h1 | simpa [Nat.testBit_two_pow] using h1
    · intro h
      apply Nat.eq_of_testBit_eq
      intro i
      rw [Nat.testBit_and]
      by_cases hi : j = i
      · subst hi; simp [h]
      · first | (simp [Nat.testBit_two_pow, hi]; done) | (simp [Nat.testBit_two_pow_of_ne hi]; done)
  rw [fa_and]
  constructor
  · intro h
    apply e.mp
    rcases Nat.eq_zero_or_pos (n &&& 2 ^ j) with z | z
    · exact z
    · exact absurd h (nI_ne0 z (Nat.lt_of_le_of_lt hle h2))
  · intro h
    rw [e.mpr h]; exact nI_0
/-- a remainder by a power of two of a number that isn't negative, as Java divides -/
theorem fa_rem {a k : Nat} (ha : a < 2 ^ 31) (hk : k < 31) : nI a - nI a / nI (2 ^ k) * nI (2 ^ k) = nI (a % 2 ^ k) := pk_rem ha (Nat.two_pow_pos k) (Nat.pow_lt_pow_right (by decide) hk)
/-! ===== cuts to a byte, a short ===== -/
theorem fa_byte_xor (x y : Int32) : (x ^^^ y).toInt8 = x.toInt8 ^^^ y.toInt8 := by
  apply Int8.toBitVec_inj.1
  apply BitVec.eq_of_getLsbD_eq
  intro i hi
  first | (simp [hi]; done) | (simp [hi, BitVec.getLsbD_setWidth, BitVec.getLsbD_signExtend]; done)
theorem fa_short_xor (x y : Int32) : (x ^^^ y).toInt16 = x.toInt16 ^^^ y.toInt16 := by
  apply Int16.toBitVec_inj.1
  apply BitVec.eq_of_getLsbD_eq
  intro i hi
  first | (simp [hi]; done) | (simp [hi, BitVec.getLsbD_setWidth, BitVec.getLsbD_signExtend]; done)
/-- the cut to a byte sees the low byte alone -/
theorem fa_byte_low (x : Int32) : (x &&& 255).toInt8 = x.toInt8 := by
  apply Int8.toBitVec_inj.1
  apply BitVec.eq_of_getLsbD_eq
  intro i hi
  have h2 : (255 : Int32).toBitVec.getLsbD i = true := by
    have : ∀ j : Fin 8, (255 : Int32).toBitVec.getLsbD j.val = true := by decide +kernel
    exact this ⟨i, hi⟩
  have h4 : (x &&& 255).toBitVec.getLsbD i = x.toBitVec.getLsbD i := by
    show (x.toBitVec &&& (255 : Int32).toBitVec).getLsbD i = _
    rw [BitVec.getLsbD_and, h2, Bool.and_true]
  have h3 : i < 32 := by omega
  first
    | (show (((x &&& 255).toBitVec).signExtend 8).getLsbD i = (x.toBitVec.signExtend 8).getLsbD i; rw [BitVec.getLsbD_signExtend, BitVec.getLsbD_signExtend, if_pos h3, if_pos h3, h4])
    | (show (((x &&& 255).toBitVec).setWidth 8).getLsbD i = (x.toBitVec.setWidth 8).getLsbD i; rw [BitVec.getLsbD_setWidth, BitVec.getLsbD_setWidth, h4])
    | (simp [hi, h3, h4]; done)
theorem fa_short_low (x : Int32) : (x &&& 65535).toInt16 = x.toInt16 := by
  apply Int16.toBitVec_inj.1
  apply BitVec.eq_of_getLsbD_eq
  intro i hi
  have h2 : (65535 : Int32).toBitVec.getLsbD i = true := by
    have : ∀ j : Fin 16, (65535 : Int32).toBitVec.getLsbD j.val = true := by decide +kernel
    exact this ⟨i, hi⟩
  have h4 : (x &&& 65535).toBitVec.getLsbD i = x.toBitVec.getLsbD i := by
    show (x.toBitVec &&& (65535 : Int32).toBitVec).getLsbD i = _
    rw [BitVec.getLsbD_and, h2, Bool.and_true]
  have h3 : i < 32 := by omega
  first
    | (show (((x &&& 65535).toBitVec).signExtend 16).getLsbD i = (x.toBitVec.signExtend 16).getLsbD i; rw [BitVec.getLsbD_signExtend, BitVec.getLsbD_signExtend, if_pos h3, if_pos h3, h4])
    | (show (((x &&& 65535).toBitVec).setWidth 16).getLsbD i = (x.toBitVec.setWidth 16).getLsbD i; rw [BitVec.getLsbD_setWidth, BitVec.getLsbD_setWidth, h4])
    | (simp [hi, h3, h4]; done)
/-- a small number is its own byte, its own short -/
theorem fa_byte_small {n : Nat} (h : n < 128) : (nI n).toInt8.toInt32 = nI n := by
  have : ∀ j : Fin 128, (nI j.val).toInt8.toInt32 = nI j.val := by decide +kernel
  exact this ⟨n, h⟩
/-! ===== absolute difference ===== -/
theorem fa_absdiff {a b : Nat} (ha : a < 2 ^ 31) (hb : b < 2 ^ 31) : (if nI a < nI b then nI b - nI a else nI a - nI b) = nI (if a < b then b - a else a - b) := by
  by_cases h : a < b
  · rw [if_pos (nI_lt h hb), if_pos h]
    exact pk_sub (Nat.le_of_lt h)
  · rw [if_neg (nI_nlt (Nat.le_of_not_lt h) ha), if_neg h]
    exact pk_sub (Nat.le_of_not_lt h)
/-! ===== an array behind i stores, a conditional store, a row copied ===== -/
/-- f where k < i, what stood there else -/
def fa_fill {α : Type} (f g : Nat → α) (i : Nat) : Nat → α := fun k => if k < i then f k else g k
theorem fa_fill_0 {α : Type} (f g : Nat → α) : fa_fill f g 0 = g := funext fun k => if_neg (Nat.not_lt_zero k)
theorem fa_fill_in {α : Type} {f g : Nat → α} {i k : Nat} (h : k < i) : fa_fill f g i k = f k := if_pos h
theorem fa_fill_out {α : Type} {f g : Nat → α} {i k : Nat} (h : i ≤ k) : fa_fill f g i k = g k := if_neg (Nat.not_lt.mpr h)
theorem fa_fill_succ (f g : Nat → Int32) (i : Nat) : upd (fa_fill f g i) i (f i) = fa_fill f g (i + 1) := by
  funext k
  by_cases e : k = i
  · subst e
    rw [pk_us]
    exact (if_pos (Nat.lt_succ_self k)).symm
  · rw [pk_un e]
    by_cases h : k < i
    · rw [fa_fill_in h, fa_fill_in (Nat.lt_succ_of_lt h)]
    · rw [fa_fill_out (Nat.le_of_not_lt h), fa_fill_out (by omega)]
/-- a store that changes nothing -/
theorem fa_upd_same {f : Nat → Int32} {i : Nat} {x : Int32} (h : f i = x) : upd f i x = f := by
  funext k
  by_cases e : k = i
  · subst e
    rw [pk_us, h]
  · rw [pk_un e]
/-- a store under a condition, told as one -/
theorem fa_upd_if (c : Prop) [Decidable c] (f : Nat → Int32) (i : Nat) (x : Int32) : (if c then upd f i x else f) = upd f i (if c then x else f i) := by
  by_cases h : c
  · rw [if_pos h, if_pos h]
  · rw [if_neg h, if_neg h, fa_upd_same rfl]
/-- two stores at one place, at two -/
theorem fa_upd_twice (f : Nat → Int32) (i : Nat) (x y : Int32) : upd (upd f i x) i y = upd f i y := by
  funext k
  by_cases e : k = i
  · subst e
    rw [pk_us, pk_us]
  · rw [pk_un e, pk_un e, pk_un e]
theorem fa_upd_swap (f : Nat → Int32) {i j : Nat} (h : i ≠ j) (x y : Int32) : upd (upd f i x) j y = upd (upd f j y) i x := by
  funext k
  by_cases e : k = i
  · subst e
    rw [pk_un h, pk_us, pk_us]
  · by_cases e2 : k = j
    · subst e2
      rw [pk_us, pk_un e, pk_us]
    · rw [pk_un e2, pk_un e, pk_un e, pk_un e2]
/-! ===== the first index with a property; a count ===== -/
/-- the first k < n with p k, n if there is none -/
def fa_first (p : Nat → Bool) : Nat → Nat
  | 0 => 0
  | n + 1 => if fa_first p n < n then fa_first p n else if p n then n else n + 1
theorem fa_first_le (p : Nat → Bool) : ∀ n, fa_first p n ≤ n
  | 0 => Nat.le_refl 0
  | n + 1 => by
    have ih := fa_first_le p n
    unfold fa_first
    split
    · omega
    · split
      · omega
      · omega
theorem fa_first_no (p : Nat → Bool) : ∀ n k, k < fa_first p n → p k = false
  | 0, k, h => absurd h (Nat.not_lt_zero k)
  | n + 1, k, h => by
    have ih := fa_first_no p n
    have hl := fa_first_le p n
    unfold fa_first at h
    split at h
    · exact ih k h
    · rename_i h1
      split at h
      · exact ih k (by omega)
      · rename_i h2
        by_cases e : k = n
        · subst e
          exact Bool.eq_false_iff.mpr h2
        · exact ih k (by omega)
theorem fa_first_yes (p : Nat → Bool) : ∀ n, fa_first p n < n → p (fa_first p n) = true
  | 0, h => absurd h (Nat.not_lt_zero _)
  | n + 1, h => by
    have ih := fa_first_yes p n
    have hl := fa_first_le p n
    unfold fa_first at h ⊢
    split at h
    · rename_i h1
      rw [if_pos h1]
      exact ih h1
    · rename_i h1
      rw [if_neg h1]
      split at h
      · rename_i h2
        rw [if_pos h2]
        exact h2
      · omega
/-- how many k < n have p k -/
def fa_cnt (p : Nat → Bool) : Nat → Nat
  | 0 => 0
  | n + 1 => fa_cnt p n + if p n then 1 else 0
theorem fa_cnt_le (p : Nat → Bool) : ∀ n, fa_cnt p n ≤ n
  | 0 => Nat.le_refl 0
  | n + 1 => by
    have ih := fa_cnt_le p n
    unfold fa_cnt
    split
    · omega
    · omega
theorem fa_cnt_yes {p : Nat → Bool} {n : Nat} (h : p n = true) : fa_cnt p (n + 1) = fa_cnt p n + 1 := by rw [fa_cnt, if_pos h]
theorem fa_cnt_no {p : Nat → Bool} {n : Nat} (h : p n = false) : fa_cnt p (n + 1) = fa_cnt p n := by rw [fa_cnt, if_neg (by rw [h]; decide)]; rfl
theorem fa_cnt_cong {p q : Nat → Bool} : ∀ {n : Nat}, (∀ k, k < n → p k = q k) → fa_cnt p n = fa_cnt q n
  | 0, _ => rfl
  | n + 1, h => by rw [fa_cnt, fa_cnt, fa_cnt_cong (fun k hk => h k (Nat.lt_succ_of_lt hk)), h n (Nat.lt_succ_self n)]
/-! ===== an answer carried into a post; a branch on a boolean answer ===== -/
theorem fa_post {α : Type} {P : α → Prop} {x y : α} (h : x = y) (hp : P y) : P x := h ▸ hp
theorem fa_post2 {α β : Type} {P : α → β → Prop} {x y : α} {u v : β} (h : x = y) (h2 : u = v) (hp : P y v) : P x u := h ▸ h2 ▸ hp
theorem fa_bool {r : Int32} {b : Bool} (h : r = if b then 1 else 0) : (r = 0 ↔ b = false) ∧ (¬ r = 0 ↔ b = true) := by
  subst h
  cases b
  · exact ⟨⟨fun _ => rfl, fun _ => rfl⟩, ⟨fun h => absurd rfl h, fun h => absurd h (by decide)⟩⟩
  · exact ⟨⟨fun h => absurd h (by decide), fun h => absurd h (by decide)⟩, ⟨fun _ => rfl, fun _ => by decide⟩⟩
/-- a boolean's narrowing changes nothing -/
theorem fa_bool_and {r : Int32} (h : r = 0 ∨ r = 1) : r &&& 1 = r := by
  rcases h with rfl | rfl
  · decide
  · decide
theorem fa_bool_prop {c : Prop} [Decidable c] {r : Int32} (h : r = if c then 1 else 0) : (r = 0 ↔ ¬ c) ∧ (¬ r = 0 ↔ c) := by
  subst h
  by_cases hc : c
  · rw [if_pos hc]
    exact ⟨⟨fun h => absurd h (by decide), fun h => absurd hc h⟩, ⟨fun _ => hc, fun _ => by decide⟩⟩
  · rw [if_neg hc]
    exact ⟨⟨fun _ => hc, fun _ => rfl⟩, ⟨fun h => absurd rfl h, fun h => absurd h hc⟩⟩

/-! plain facts to paste, each family by itself; over the kit's nI, lN and upd -/
/-! ===== drawers: more things than places ===== -/
theorem fb_holes : ∀ (m n : Nat) (f : Nat → Nat), (∀ i, i < n → f i < m) → (∀ i j, i < j → j < n → f i ≠ f j) → n ≤ m := by
  intro m
  induction m with
  | zero =>
    intro n f h1 _
    rcases Nat.eq_zero_or_pos n with h | h
    · omega
    · exact absurd (h1 0 h) (Nat.not_lt_zero _)
  | succ m ih =>
    intro n f h1 h2
    by_cases hx : ∃ i, i < n ∧ f i = m
    · obtain ⟨a, ha, hfa⟩ := hx
      have hg := ih (n - 1) (fun i => if i < a then f i else f (i + 1)) (by
        intro i hi
        by_cases q : i < a
        · simp only [if_pos q]
          have b1 := h1 i (by omega)
          have b2 := h2 i a q ha
          omega
        · simp only [if_neg q]
          have b1 := h1 (i + 1) (by omega)
          have b2 := h2 a (i + 1) (by omega) (by omega)
          omega) (by
        intro i j hij hj
        by_cases q : i < a
        · by_cases r : j < a
          · simp only [if_pos q, if_pos r]
            exact h2 i j hij (by omega)
          · simp only [if_pos q, if_neg r]
            exact h2 i (j + 1) (by omega) (by omega)
        · have r : ¬ j < a := by omega
          simp only [if_neg q, if_neg r]
          exact h2 (i + 1) (j + 1) (by omega) (by omega))
      omega
    · have hg := ih n f (fun i hi => by
        have b1 := h1 i hi
        have b2 : f i ≠ m := fun e => hx ⟨i, hi, e⟩
        omega) h2
      omega
/-- two of them in one place -/
theorem fb_twice {m n : Nat} {f : Nat → Nat} (h : ∀ i, i < n → f i < m) (hm : m < n) : ∃ i j, i < j ∧ j < n ∧ f i = f j := by
  refine Classical.byContradiction fun hx => ?_
  have := fb_holes m n f h (fun i j hij hj e => hx ⟨i, j, hij, hj, e⟩)
  omega
/-- as many as places, none twice: each place is taken -/
theorem fb_onto {n : Nat} {f : Nat → Nat} (h : ∀ i, i < n → f i < n) (h2 : ∀ i j, i < j → j < n → f i ≠ f j) {y : Nat} (hy : y < n) : ∃ i, i < n ∧ f i = y := by
  refine Classical.byContradiction fun hx => ?_
  have hne : ∀ i, i < n → f i ≠ y := fun i hi e => hx ⟨i, hi, e⟩
  have := fb_holes (n - 1) n (fun i => if f i < y then f i else f i - 1) (by
    intro i hi
    have b1 := h i hi
    have b2 := hne i hi
    by_cases q : f i < y
    · simp only [if_pos q]; omega
    · simp only [if_neg q]; omega) (by
    intro i j hij hj
    have b1 := hne i (by omega)
    have b2 := hne j hj
    have b3 := h2 i j hij hj
    by_cases q : f i < y
    · by_cases r : f j < y
      · simp only [if_pos q, if_pos r]; exact b3
      · simp only [if_pos q, if_neg r]; omega
    · by_cases r : f j < y
      · simp only [if_neg q, if_pos r]; omega
      · simp only [if_neg q, if_neg r]; omega)
  omega
/-! ===== how many places have a property ===== -/
def fb_ct (p : Nat → Bool) : Nat → Nat
  | 0 => 0
  | n + 1 => fb_ct p n + (if p n then 1 else 0)
theorem fb_ct_succ (p : Nat → Bool) (n : Nat) : fb_ct p (n + 1) = fb_ct p n + (if p n then 1 else 0) := rfl
theorem fb_ct_le (p : Nat → Bool) : ∀ n, fb_ct p n ≤ n
  | 0 => Nat.le_refl _
  | n + 1 => by
    have h := fb_ct_le p n
    rw [fb_ct_succ]
    split <;> omega
theorem fb_ct_step (p : Nat → Bool) (m : Nat) : ∀ n, fb_ct p m ≤ fb_ct p (m + n)
  | 0 => Nat.le_refl _
  | n + 1 => by
    have h := fb_ct_step p m n
    show fb_ct p m ≤ fb_ct p (m + n + 1)
    rw [fb_ct_succ]
    omega
theorem fb_ct_mono (p : Nat → Bool) {m n : Nat} (h : m ≤ n) : fb_ct p m ≤ fb_ct p n := by
  have := fb_ct_step p m (n - m)
  rwa [Nat.add_sub_cancel' h] at this
theorem fb_ct_cong {p q : Nat → Bool} : ∀ {n : Nat}, (∀ k, k < n → p k = q k) → fb_ct p n = fb_ct q n
  | 0, _ => rfl
  | n + 1, h => by
    rw [fb_ct_succ, fb_ct_succ, fb_ct_cong (fun k hk => h k (by omega)), h n (by omega)]
/-- one place changed -/
theorem fb_ct_out (p : Nat → Bool) (b : Bool) {i n : Nat} (h : n ≤ i) : fb_ct (fun k => if k = i then b else p k) n = fb_ct p n :=
  fb_ct_cong fun k hk => if_neg (by omega)
theorem fb_ct_upd (p : Nat → Bool) (b : Bool) {i : Nat} : ∀ {n : Nat}, i < n → fb_ct (fun k => if k = i then b else p k) n + (if p i then 1 else 0) = fb_ct p n + (if b then 1 else 0)
  | 0, h => absurd h (Nat.not_lt_zero i)
  | n + 1, h => by
    rw [fb_ct_succ, fb_ct_succ]
    rcases Nat.lt_or_ge i n with q | q
    · have := fb_ct_upd p b q
      have e : (if n = i then b else p n) = p n := if_neg (by omega)
      rw [e]
      omega
    · have e : i = n := by omega
      subst e
      rw [fb_ct_out p b (Nat.le_refl _)]
      simp only [if_true]
      omega
theorem fb_ct_sub {p q : Nat → Bool} : ∀ {n : Nat}, (∀ k, k < n → p k = true → q k = true) → fb_ct p n ≤ fb_ct q n
  | 0, _ => Nat.le_refl _
  | n + 1, h => by
    have h1 := fb_ct_sub (n := n) (p := p) (q := q) (fun k hk => h k (by omega))
    have h2 := h n (by omega)
    rw [fb_ct_succ, fb_ct_succ]
    cases hp : p n <;> cases hq : q n <;> simp_all <;> omega
theorem fb_ct_or {p q : Nat → Bool} : ∀ {n : Nat}, (∀ k, k < n → ¬ (p k = true ∧ q k = true)) → fb_ct (fun k => p k || q k) n = fb_ct p n + fb_ct q n
  | 0, _ => rfl
  | n + 1, h => by
    have h1 := fb_ct_or (n := n) (p := p) (q := q) (fun k hk => h k (by omega))
    have h2 := h n (by omega)
    rw [fb_ct_succ, fb_ct_succ, fb_ct_succ, h1]
    cases hp : p n <;> cases hq : q n <;> simp_all <;> omega
theorem fb_ct_not (p : Nat → Bool) : ∀ n, fb_ct p n + fb_ct (fun k => !p k) n = n
  | 0 => rfl
  | n + 1 => by
    have h := fb_ct_not p n
    rw [fb_ct_succ, fb_ct_succ]
    cases p n <;> simp <;> omega
theorem fb_ct_split (p : Nat → Bool) (m : Nat) : ∀ n, fb_ct p (m + n) = fb_ct p m + fb_ct (fun k => p (m + k)) n
  | 0 => rfl
  | n + 1 => by
    have h := fb_ct_split p m n
    show fb_ct p (m + n + 1) = _
    rw [fb_ct_succ, fb_ct_succ, h, Nat.add_assoc]
theorem fb_ct_zero {p : Nat → Bool} : ∀ {n : Nat}, fb_ct p n = 0 ↔ ∀ k, k < n → p k = false
  | 0 => ⟨fun _ k hk => absurd hk (Nat.not_lt_zero k), fun _ => rfl⟩
  | n + 1 => by
    have h := fb_ct_zero (p := p) (n := n)
    rw [fb_ct_succ]
    constructor
    · intro e k hk
      have e1 : fb_ct p n = 0 := by omega
      rcases Nat.lt_or_ge k n with q | q
      · exact h.mp e1 k q
      · have ek : k = n := by omega
        subst ek
        cases hp : p k
        · rfl
        · simp [hp] at e
    · intro a
      rw [h.mpr (fun k hk => a k (by omega)), a n (by omega)]
      rfl
theorem fb_ct_pos {p : Nat → Bool} {n : Nat} : 0 < fb_ct p n ↔ ∃ k, k < n ∧ p k = true := by
  constructor
  · intro h
    refine Classical.byContradiction fun hx => ?_
    have := fb_ct_zero.mpr (fun k hk => by
      cases hp : p k
      · rfl
      · exact absurd ⟨k, hk, hp⟩ hx : ∀ k, k < n → p k = false)
    omega
  · rintro ⟨k, hk, hp⟩
    rcases Nat.eq_zero_or_pos (fb_ct p n) with e | e
    · have := fb_ct_zero.mp e k hk
      rw [this] at hp
      cases hp
    · exact e
theorem fb_ct_all {p : Nat → Bool} {n : Nat} : fb_ct p n = n ↔ ∀ k, k < n → p k = true := by
  have h := fb_ct_not p n
  constructor
  · intro e k hk
    have z : fb_ct (fun k => !p k) n = 0 := by omega
    have := fb_ct_zero.mp z k hk
    cases hp : p k
    · simp [hp] at this
    · rfl
  · intro a
    have z : fb_ct (fun k => !p k) n = 0 := fb_ct_zero.mpr (fun k hk => by simp [a k hk])
    omega
/-- the k-th place with the property -/
theorem fb_ct_kth {p : Nat → Bool} {k : Nat} : ∀ {n : Nat}, k < fb_ct p n → ∃ i, i < n ∧ p i = true ∧ fb_ct p i = k
  | 0, h => absurd h (Nat.not_lt_zero k)
  | n + 1, h => by
    rcases Nat.lt_or_ge k (fb_ct p n) with q | q
    · obtain ⟨i, h1, h2⟩ := fb_ct_kth q
      exact ⟨i, by omega, h2⟩
    · rw [fb_ct_succ] at h
      cases hp : p n
      · simp [hp] at h; omega
      · simp [hp] at h
        exact ⟨n, by omega, hp, by omega⟩
theorem fb_ct_kth_one {p : Nat → Bool} {i j : Nat} (hi : p i = true) (hj : p j = true) (e : fb_ct p i = fb_ct p j) : i = j := by
  have key : ∀ a b : Nat, a < b → p a = true → fb_ct p a < fb_ct p b := by
    intro a b hab ha
    have h := fb_ct_mono p (show a + 1 ≤ b from hab)
    rw [fb_ct_succ, ha] at h
    simp at h
    omega
  rcases Nat.lt_trichotomy i j with q | q | q
  · have := key i j q hi; omega
  · exact q
  · have := key j i q hj; omega
/-! ===== sums over a range: one place changed, parts, bounds ===== -/
def fb_sm (f : Nat → Nat) : Nat → Nat
  | 0 => 0
  | n + 1 => fb_sm f n + f n
theorem fb_sm_succ (f : Nat → Nat) (n : Nat) : fb_sm f (n + 1) = fb_sm f n + f n := rfl
theorem fb_sm_cong {f g : Nat → Nat} : ∀ {n : Nat}, (∀ k, k < n → f k = g k) → fb_sm f n = fb_sm g n
  | 0, _ => rfl
  | n + 1, h => by rw [fb_sm_succ, fb_sm_succ, fb_sm_cong (fun k hk => h k (by omega)), h n (by omega)]
theorem fb_sm_out (f : Nat → Nat) (v : Nat) {i n : Nat} (h : n ≤ i) : fb_sm (fun k => if k = i then v else f k) n = fb_sm f n :=
  fb_sm_cong fun k hk => if_neg (by omega)
theorem fb_sm_upd (f : Nat → Nat) (v : Nat) {i : Nat} : ∀ {n : Nat}, i < n → fb_sm (fun k => if k = i then v else f k) n + f i = fb_sm f n + v
  | 0, h => absurd h (Nat.not_lt_zero i)
  | n + 1, h => by
    rw [fb_sm_succ, fb_sm_succ]
    rcases Nat.lt_or_ge i n with q | q
    · have := fb_sm_upd f v q
      have e : (if n = i then v else f n) = f n := if_neg (by omega)
      rw [e]
      omega
    · have e : i = n := by omega
      subst e
      rw [fb_sm_out f v (Nat.le_refl _)]
      simp only [if_true]
      omega
theorem fb_sm_add (f g : Nat → Nat) : ∀ n, fb_sm (fun k => f k + g k) n = fb_sm f n + fb_sm g n
  | 0 => rfl
  | n + 1 => by
    have h := fb_sm_add f g n
    rw [fb_sm_succ, fb_sm_succ, fb_sm_succ, h]
    omega
theorem fb_sm_le {f g : Nat → Nat} : ∀ {n : Nat}, (∀ k, k < n → f k ≤ g k) → fb_sm f n ≤ fb_sm g n
  | 0, _ => Nat.le_refl _
  | n + 1, h => by
    have h1 := fb_sm_le (n := n) (f := f) (g := g) (fun k hk => h k (by omega))
    have h2 := h n (by omega)
    rw [fb_sm_succ, fb_sm_succ]
    omega
theorem fb_sm_const (c : Nat) : ∀ n, fb_sm (fun _ => c) n = n * c
  | 0 => by rw [Nat.zero_mul]; rfl
  | n + 1 => by rw [fb_sm_succ, fb_sm_const c n, Nat.succ_mul]
theorem fb_sm_bound {f : Nat → Nat} {c n : Nat} (h : ∀ k, k < n → f k ≤ c) : fb_sm f n ≤ n * c := by
  rw [← fb_sm_const c n]
  exact fb_sm_le h
theorem fb_sm_mono (f : Nat → Nat) (m : Nat) : ∀ n, fb_sm f m ≤ fb_sm f (m + n)
  | 0 => Nat.le_refl _
  | n + 1 => by
    have h := fb_sm_mono f m n
    show fb_sm f m ≤ fb_sm f (m + n + 1)
    rw [fb_sm_succ]
    omega
theorem fb_sm_part (f : Nat → Nat) {i n : Nat} (h : i < n) : fb_sm f i + f i ≤ fb_sm f n := by
  have := fb_sm_mono f (i + 1) (n - (i + 1))
  rw [fb_sm_succ, show i + 1 + (n - (i + 1)) = n by omega] at this
  exact this
theorem fb_sm_split (f : Nat → Nat) (m : Nat) : ∀ n, fb_sm f (m + n) = fb_sm f m + fb_sm (fun k => f (m + k)) n
  | 0 => rfl
  | n + 1 => by
    have h := fb_sm_split f m n
    show fb_sm f (m + n + 1) = _
    rw [fb_sm_succ, fb_sm_succ, h, Nat.add_assoc]
theorem fb_sm_zero {f : Nat → Nat} {n : Nat} (h : fb_sm f n = 0) : ∀ k, k < n → f k = 0 := fun k hk => by
  have := fb_sm_part f hk
  omega
/-- the same over whole numbers -/
def fb_si (f : Nat → Int) : Nat → Int
  | 0 => 0
  | n + 1 => fb_si f n + f n
theorem fb_si_succ (f : Nat → Int) (n : Nat) : fb_si f (n + 1) = fb_si f n + f n := rfl
theorem fb_si_cong {f g : Nat → Int} : ∀ {n : Nat}, (∀ k, k < n → f k = g k) → fb_si f n = fb_si g n
  | 0, _ => rfl
  | n + 1, h => by rw [fb_si_succ, fb_si_succ, fb_si_cong (fun k hk => h k (by omega)), h n (by omega)]
theorem fb_si_out (f : Nat → Int) (v : Int) {i n : Nat} (h : n ≤ i) : fb_si (fun k => if k = i then v else f k) n = fb_si f n :=
  fb_si_cong fun k hk => if_neg (by omega)
theorem fb_si_upd (f : Nat → Int) (v : Int) {i : Nat} : ∀ {n : Nat}, i < n → fb_si (fun k => if k = i then v else f k) n = fb_si f n - f i + v
  | 0, h => absurd h (Nat.not_lt_zero i)
  | n + 1, h => by
    rw [fb_si_succ, fb_si_succ]
    rcases Nat.lt_or_ge i n with q | q
    · have := fb_si_upd f v q
      have e : (if n = i then v else f n) = f n := if_neg (by omega)
      rw [e]
      omega
    · have e : i = n := by omega
      subst e
      rw [fb_si_out f v (Nat.le_refl _)]
      simp only [if_true]
      omega
theorem fb_si_add (f g : Nat → Int) : ∀ n, fb_si (fun k => f k + g k) n = fb_si f n + fb_si g n
  | 0 => rfl
  | n + 1 => by
    have h := fb_si_add f g n
    rw [fb_si_succ, fb_si_succ, fb_si_succ, h]
    omega
theorem fb_si_sub (f g : Nat → Int) : ∀ n, fb_si (fun k => f k - g k) n = fb_si f n - fb_si g n
  | 0 => rfl
  | n + 1 => by
    have h := fb_si_sub f g n
    rw [fb_si_succ, fb_si_succ, fb_si_succ, h]
    omega
theorem fb_si_mul (c : Int) (f : Nat → Int) : ∀ n, fb_si (fun k => c * f k) n = c * fb_si f n
  | 0 => (Int.mul_zero c).symm
  | n + 1 => by
    have h := fb_si_mul c f n
    rw [fb_si_succ, fb_si_succ, h, Int.mul_add]
theorem fb_si_split (f : Nat → Int) (m : Nat) : ∀ n, fb_si f (m + n) = fb_si f m + fb_si (fun k => f (m + k)) n
  | 0 => (Int.add_zero _).symm
  | n + 1 => by
    have h := fb_si_split f m n
    show fb_si f (m + n + 1) = _
    rw [fb_si_succ, fb_si_succ, h, Int.add_assoc]
theorem fb_si_nat (f : Nat → Nat) : ∀ n, fb_si (fun k => (f k : Int)) n = (fb_sm f n : Int)
  | 0 => rfl
  | n + 1 => by
    have h := fb_si_nat f n
    rw [fb_si_succ, fb_sm_succ, h]
    omega
theorem fb_si_bound {f : Nat → Int} {c : Int} (hc : 0 ≤ c) : ∀ {n : Nat}, (∀ k, k < n → -c ≤ f k ∧ f k ≤ c) → -(n * c) ≤ fb_si f n ∧ fb_si f n ≤ n * c
  | 0, _ => by simp [fb_si]
  | n + 1, h => by
    have h1 := fb_si_bound (n := n) (f := f) hc (fun k hk => h k (by omega))
    have h2 := h n (by omega)
    have e : ((n + 1 : Nat) : Int) * c = n * c + c := by rw [Int.natCast_add, Int.add_mul]; simp
    rw [fb_si_succ, e]
    omega
/-! ===== bits of a long that isn't negative ===== -/
theorem fb_andL (a b : Nat) : lN a &&& lN b = lN (a &&& b) := by
  apply Int64.toBitVec_inj.1
  show BitVec.ofNat 64 a &&& BitVec.ofNat 64 b = BitVec.ofNat 64 (a &&& b)
  apply BitVec.eq_of_getLsbD_eq
  intro i hi
  simp [hi]
theorem fb_orL (a b : Nat) : lN a ||| lN b = lN (a ||| b) := by
  apply Int64.toBitVec_inj.1
  show BitVec.ofNat 64 a ||| BitVec.ofNat 64 b = BitVec.ofNat 64 (a ||| b)
  apply BitVec.eq_of_getLsbD_eq
  intro i hi
  simp [hi]
theorem fb_xorL (a b : Nat) : lN a ^^^ lN b = lN (a ^^^ b) := by
  apply Int64.toBitVec_inj.1
  show BitVec.ofNat 64 a ^^^ BitVec.ofNat 64 b = BitVec.ofNat 64 (a ^^^ b)
  apply BitVec.eq_of_getLsbD_eq
  intro i hi
  simp [hi]
theorem fb_xorI (a b : Nat) : nI a ^^^ nI b = nI (a ^^^ b) := by
  apply Int32.toBitVec_inj.1
  show BitVec.ofNat 32 a ^^^ BitVec.ofNat 32 b = BitVec.ofNat 32 (a ^^^ b)
  apply BitVec.eq_of_getLsbD_eq
  intro i hi
  simp [hi]
theorem fb_maskL (n k : Nat) : lN n &&& lN (2 ^ k - 1) = lN (n % 2 ^ k) := by rw [fb_andL, Nat.and_two_pow_sub_one_eq_mod]
theorem fb_or_sumL {a k : Nat} (b : Nat) (h : a < 2 ^ k) : lN (2 ^ k * b) ||| lN a = lN (2 ^ k * b + a) := by rw [fb_orL, Nat.two_pow_add_eq_or_of_lt h]
theorem fb_lN_inj {a b : Nat} (ha : a < 2 ^ 63) (hb : b < 2 ^ 63) : lN a = lN b ↔ a = b := by
  constructor
  · intro h
    have h1 : (BitVec.ofNat 64 a).toNat = (BitVec.ofNat 64 b).toNat := congrArg (fun x : Int64 => x.toBitVec.toNat) h
    rw [BitVec.toNat_ofNat, BitVec.toNat_ofNat, Nat.mod_eq_of_lt (by omega), Nat.mod_eq_of_lt (by omega)] at h1
    exact h1
  · rintro rfl; rfl
theorem fb_bit_nat (n j : Nat) : n &&& 2 ^ j = 0 ↔ n.testBit j = false := by
  constructor
  · intro h
    have h1 : (n &&& 2 ^ j).testBit j = false := by rw [h]; simp
    rw [Nat.testBit_and] at h1
    simpa using h1
  · intro h
    apply Nat.eq_of_testBit_eq
    intro i
    rw [Nat.testBit_and]
    by_cases hi : j = i
    · subst hi; simp [h]
    · first | (simp [Nat.testBit_two_pow, hi]; done) | (simp [Nat.testBit_two_pow_of_ne hi]; done)
/-- one bit of a long -/
theorem fb_bitL {n j : Nat} (hj : j < 63) : lN n &&& lN (2 ^ j) = 0 ↔ n.testBit j = false := by
  have h2 : (2 : Nat) ^ j < 2 ^ 63 := Nat.pow_lt_pow_right (by decide) hj
  have hle : n &&& 2 ^ j ≤ 2 ^ j := Nat.and_le_right
  rw [fb_andL, ← fb_bit_nat, show (0 : Int64) = lN 0 from rfl]
  exact fb_lN_inj (by omega) (by decide)
/-- a bit set, a bit taken off -/
theorem fb_bit_set (n j i : Nat) : (n ||| 2 ^ j).testBit i = (n.testBit i || decide (i = j)) := by
  rw [Nat.testBit_or]
  by_cases h : j = i
  · subst h; simp
  · have h2 : ¬ i = j := fun e => h e.symm
    first | (simp [Nat.testBit_two_pow, h, h2]; done) | (simp [Nat.testBit_two_pow_of_ne h, h2]; done)
theorem fb_bit_flip (n j i : Nat) : (n ^^^ 2 ^ j).testBit i = (n.testBit i ^^ decide (i = j)) := by
  rw [Nat.testBit_xor]
  by_cases h : j = i
  · subst h; simp
  · have h2 : ¬ i = j := fun e => h e.symm
    first | (simp [Nat.testBit_two_pow, h, h2]; done) | (simp [Nat.testBit_two_pow_of_ne h, h2]; done)
/-! ===== a stretch of an array written over by a function ===== -/
def fb_put {α : Type} (f g : Nat → α) (a n : Nat) : Nat → α := fun k => if a ≤ k ∧ k < a + n then g (k - a) else f k
theorem fb_put_0 {α : Type} (f g : Nat → α) (a : Nat) : fb_put f g a 0 = f := funext fun k => if_neg (by omega)
theorem fb_put_in {α : Type} {f g : Nat → α} {a n k : Nat} (h1 : a ≤ k) (h2 : k < a + n) : fb_put f g a n k = g (k - a) := if_pos ⟨h1, h2⟩
theorem fb_put_out {α : Type} {f g : Nat → α} {a n k : Nat} (h : k < a ∨ a + n ≤ k) : fb_put f g a n k = f k := if_neg (by omega)
theorem fb_put_succ (f g : Nat → Int32) (a n : Nat) : upd (fb_put f g a n) (a + n) (g n) = fb_put f g a (n + 1) := by
  funext k
  by_cases h : k = a + n
  · subst h
    simp [upd, fb_put]
  · by_cases h1 : a ≤ k ∧ k < a + n
    · have h2 : a ≤ k ∧ k < a + (n + 1) := by omega
      simp only [upd, fb_put, if_neg h, if_pos h1, if_pos h2]
    · have h2 : ¬ (a ≤ k ∧ k < a + (n + 1)) := by omega
      simp only [upd, fb_put, if_neg h, if_neg h1, if_neg h2]
/-- .. from the far end down -/
theorem fb_put_down (f g : Nat → Int32) {a n m : Nat} (h : m < n) : upd (fb_put f (fun k => g (k + (m + 1))) (a + (m + 1)) (n - (m + 1))) (a + m) (g m) = fb_put f (fun k => g (k + m)) (a + m) (n - m) := by
  funext k
  by_cases h0 : k = a + m
  · subst h0
    simp only [upd, if_true]
    rw [fb_put_in (by omega) (by omega)]
    exact congrArg g (by omega)
  · simp only [upd, if_neg h0]
    by_cases h1 : a + (m + 1) ≤ k ∧ k < a + (m + 1) + (n - (m + 1))
    · rw [fb_put_in h1.1 h1.2, fb_put_in (by omega) (by omega)]
      exact congrArg g (by omega)
    · rw [fb_put_out (by omega), fb_put_out (by omega)]
theorem fb_put_cong {α : Type} {f f2 g g2 : Nat → α} {a n : Nat} (hf : ∀ k, (k < a ∨ a + n ≤ k) → f k = f2 k) (hg : ∀ k, k < n → g k = g2 k) : fb_put f g a n = fb_put f2 g2 a n := by
  funext k
  by_cases h : a ≤ k ∧ k < a + n
  · rw [fb_put_in h.1 h.2, fb_put_in h.1 h.2, hg _ (by omega)]
  · rw [fb_put_out (by omega), fb_put_out (by omega), hf _ (by omega)]
/-! ===== the least, the first, the best so far; that there is one alone ===== -/
theorem fb_first {p : Nat → Prop} [DecidablePred p] : ∀ {n : Nat}, (∃ i, i < n ∧ p i) → ∃ i, i < n ∧ p i ∧ ∀ j, j < i → ¬ p j
  | 0, h => by obtain ⟨i, hi, -⟩ := h; exact absurd hi (Nat.not_lt_zero i)
  | n + 1, h => by
    by_cases q : ∃ i, i < n ∧ p i
    · obtain ⟨i, h1, h2⟩ := fb_first q
      exact ⟨i, by omega, h2⟩
    · obtain ⟨i, h1, h2⟩ := h
      have e : i = n := by
        rcases Nat.lt_or_ge i n with r | r
        · exact absurd ⟨i, r, h2⟩ q
        · omega
      subst e
      exact ⟨i, by omega, h2, fun j hj hp => q ⟨j, hj, hp⟩⟩
theorem fb_first_one {p : Nat → Prop} {i j : Nat} (hi : p i) (hi2 : ∀ k, k < i → ¬ p k) (hj : p j) (hj2 : ∀ k, k < j → ¬ p k) : i = j := by
  rcases Nat.lt_trichotomy i j with q | q | q
  · exact absurd hi (hj2 i q)
  · exact q
  · exact absurd hj (hi2 j q)
theorem fb_last {p : Nat → Prop} [DecidablePred p] : ∀ {n : Nat}, (∃ i, i < n ∧ p i) → ∃ i, i < n ∧ p i ∧ ∀ j, i < j → j < n → ¬ p j
  | 0, h => by obtain ⟨i, hi, -⟩ := h; exact absurd hi (Nat.not_lt_zero i)
  | n + 1, h => by
    by_cases q : p n
    · exact ⟨n, by omega, q, fun j h1 h2 => by omega⟩
    · obtain ⟨i, h1, h2⟩ := h
      have hi : i < n := by
        rcases Nat.lt_or_ge i n with r | r
        · exact r
        · have e : i = n := by omega
          subst e
          exact absurd h2 q
      obtain ⟨i2, a1, a2, a3⟩ := fb_last (n := n) ⟨i, hi, h2⟩
      refine ⟨i2, by omega, a2, fun j b1 b2 => ?_⟩
      rcases Nat.lt_or_ge j n with r | r
      · exact a3 j b1 r
      · have e : j = n := by omega
        subst e
        exact q
/-- the first greatest -/
theorem fb_best (f : Nat → Int) : ∀ {n : Nat}, 0 < n → ∃ i, i < n ∧ (∀ j, j < n → f j ≤ f i) ∧ ∀ j, j < i → f j < f i
  | 0, h => absurd h (Nat.lt_irrefl 0)
  | 1, _ => ⟨0, by omega, fun j hj => by have e : j = 0 := by omega
                                         subst e; exact Int.le_refl _, fun j hj => absurd hj (Nat.not_lt_zero j)⟩
  | n + 2, _ => by
    obtain ⟨i, h1, h2, h3⟩ := fb_best f (n := n + 1) (by omega)
    by_cases q : f i < f (n + 1)
    · refine ⟨n + 1, by omega, fun j hj => ?_, fun j hj => ?_⟩
      · rcases Nat.lt_or_ge j (n + 1) with r | r
        · have := h2 j r; omega
        · have e : j = n + 1 := by omega
          subst e; exact Int.le_refl _
      · have := h2 j hj; omega
    · refine ⟨i, by omega, fun j hj => ?_, h3⟩
      rcases Nat.lt_or_ge j (n + 1) with r | r
      · exact h2 j r
      · have e : j = n + 1 := by omega
        subst e; omega
theorem fb_best_one {f : Nat → Int} {n i j : Nat} (hi : i < n) (hi2 : ∀ k, k < n → f k ≤ f i) (hi3 : ∀ k, k < i → f k < f i) (hj : j < n) (hj2 : ∀ k, k < n → f k ≤ f j) (hj3 : ∀ k, k < j → f k < f j) : i = j := by
  rcases Nat.lt_trichotomy i j with q | q | q
  · have a := hj3 i q
    have b := hi2 j hj
    omega
  · exact q
  · have a := hi3 j q
    have b := hj2 i hi
    omega
/-- the first least -/
theorem fb_low (f : Nat → Int) {n : Nat} (h : 0 < n) : ∃ i, i < n ∧ (∀ j, j < n → f i ≤ f j) ∧ ∀ j, j < i → f i < f j := by
  obtain ⟨i, h1, h2, h3⟩ := fb_best (fun k => -f k) h
  exact ⟨i, h1, fun j hj => by have := h2 j hj; omega, fun j hj => by have := h3 j hj; omega⟩
/-! ===== signed ints as whole numbers, within bounds ===== -/
theorem fb_rng (x : Int32) : -2147483648 ≤ x.toInt ∧ x.toInt < 2147483648 := by
  have h1 := Int32.le_toInt x
  have h2 := Int32.toInt_lt x
  omega
theorem fb_bmod {z : Int} (h1 : -2147483648 ≤ z) (h2 : z < 2147483648) : z.bmod (2 ^ 32) = z := by
  rw [Int.bmod_eq_of_le (by omega) (by omega)]
theorem fb_addI {x y : Int32} (h1 : -2147483648 ≤ x.toInt + y.toInt) (h2 : x.toInt + y.toInt < 2147483648) : (x + y).toInt = x.toInt + y.toInt := by
  rw [Int32.toInt_add, fb_bmod h1 h2]
theorem fb_subI {x y : Int32} (h1 : -2147483648 ≤ x.toInt - y.toInt) (h2 : x.toInt - y.toInt < 2147483648) : (x - y).toInt = x.toInt - y.toInt := by
  rw [Int32.toInt_sub, fb_bmod h1 h2]
theorem fb_mulI {x y : Int32} (h1 : -2147483648 ≤ x.toInt * y.toInt) (h2 : x.toInt * y.toInt < 2147483648) : (x * y).toInt = x.toInt * y.toInt := by
  rw [Int32.toInt_mul, fb_bmod h1 h2]
theorem fb_negI {x : Int32} (h : x.toInt ≠ -2147483648) : (-x).toInt = -x.toInt := by
  have := fb_rng x
  rw [Int32.toInt_neg, fb_bmod (by omega) (by omega)]
theorem fb_ofI {z : Int} (h1 : -2147483648 ≤ z) (h2 : z < 2147483648) : (Int32.ofInt z).toInt = z := by
  rw [Int32.toInt_ofInt, fb_bmod h1 h2]
theorem fb_asI (x : Int32) : Int32.ofInt x.toInt = x := Int32.ofInt_toInt x
theorem fb_rngL (x : Int64) : -9223372036854775808 ≤ x.toInt ∧ x.toInt < 9223372036854775808 := by
  have h1 := Int64.le_toInt x
  have h2 := Int64.toInt_lt x
  omega
theorem fb_bmodL {z : Int} (h1 : -9223372036854775808 ≤ z) (h2 : z < 9223372036854775808) : z.bmod (2 ^ 64) = z := by
  rw [Int.bmod_eq_of_le (by omega) (by omega)]
theorem fb_addL {x y : Int64} (h1 : -9223372036854775808 ≤ x.toInt + y.toInt) (h2 : x.toInt + y.toInt < 9223372036854775808) : (x + y).toInt = x.toInt + y.toInt := by
  rw [Int64.toInt_add, fb_bmodL h1 h2]
theorem fb_subL {x y : Int64} (h1 : -9223372036854775808 ≤ x.toInt - y.toInt) (h2 : x.toInt - y.toInt < 9223372036854775808) : (x - y).toInt = x.toInt - y.toInt := by
  rw [Int64.toInt_sub, fb_bmodL h1 h2]
theorem fb_mulL {x y : Int64} (h1 : -9223372036854775808 ≤ x.toInt * y.toInt) (h2 : x.toInt * y.toInt < 9223372036854775808) : (x * y).toInt = x.toInt * y.toInt := by
  rw [Int64.toInt_mul, fb_bmodL h1 h2]
/-! ===== cuts of what is narrow already ===== -/
theorem fb_byte {x : Int32} (h1 : -128 ≤ x.toInt) (h2 : x.toInt < 128) : x.toInt8.toInt32 = x := by
  apply Int32.toInt_inj.1
  rw [Int8.toInt_toInt32, Int32.toInt_toInt8, Int.bmod_eq_of_le (by omega) (by omega)]
theorem fb_short {x : Int32} (h1 : -32768 ≤ x.toInt) (h2 : x.toInt < 32768) : x.toInt16.toInt32 = x := by
  apply Int32.toInt_inj.1
  rw [Int16.toInt_toInt32, Int32.toInt_toInt16, Int.bmod_eq_of_le (by omega) (by omega)]
theorem fb_byte_rng (x : Int32) : -128 ≤ x.toInt8.toInt32.toInt ∧ x.toInt8.toInt32.toInt < 128 := by
  rw [Int8.toInt_toInt32]
  have h1 := Int8.le_toInt x.toInt8
  have h2 := Int8.toInt_lt x.toInt8
  omega
theorem fb_short_rng (x : Int32) : -32768 ≤ x.toInt16.toInt32.toInt ∧ x.toInt16.toInt32.toInt < 32768 := by
  rw [Int16.toInt_toInt32]
  have h1 := Int16.le_toInt x.toInt16
  have h2 := Int16.toInt_lt x.toInt16
  omega
theorem fb_byte_twice (x : Int32) : x.toInt8.toInt32.toInt8.toInt32 = x.toInt8.toInt32 := fb_byte (fb_byte_rng x).1 (fb_byte_rng x).2
theorem fb_short_twice (x : Int32) : x.toInt16.toInt32.toInt16.toInt32 = x.toInt16.toInt32 := fb_short (fb_short_rng x).1 (fb_short_rng x).2
theorem fb_char {n : Nat} (h : n < 65536) : (nI n).toUInt32.toUInt16.toUInt32.toInt32 = nI n := by
  apply Int32.toBitVec_inj.1
  apply BitVec.eq_of_toNat_eq
  have e1 : (nI n).toBitVec.toNat = n := by
    show (BitVec.ofNat 32 n).toNat = n
    rw [BitVec.toNat_ofNat, Nat.mod_eq_of_lt (by omega)]
  have e2 : ((nI n).toUInt32.toUInt16.toUInt32).toNat = n := by
    rw [UInt16.toNat_toUInt32, UInt32.toNat_toUInt16]
    show (nI n).toBitVec.toNat % 2 ^ 16 = n
    rw [e1, Nat.mod_eq_of_lt (by omega)]
  rw [e1]
  exact e2

theorem ld_fb_addL {x y : Int64} {X Y : Int} (hx : x.toInt = X) (hy : y.toInt = Y) (h1 : -9223372036854775808 ≤ X + Y) (h2 : X + Y < 9223372036854775808) : (x + y).toInt = X + Y := by
  subst hx; subst hy; exact fb_addL h1 h2
theorem ld_fb_subL {x y : Int64} {X Y : Int} (hx : x.toInt = X) (hy : y.toInt = Y) (h1 : -9223372036854775808 ≤ X - Y) (h2 : X - Y < 9223372036854775808) : (x - y).toInt = X - Y := by
  subst hx; subst hy; exact fb_subL h1 h2
theorem ld_fb_mulL {x y : Int64} {X Y : Int} (hx : x.toInt = X) (hy : y.toInt = Y) (h1 : -9223372036854775808 ≤ X * Y) (h2 : X * Y < 9223372036854775808) : (x * y).toInt = X * Y := by
  subst hx; subst hy; exact fb_mulL h1 h2
end
section
theorem ld_mw_X0_begin : ld_MW true yX0_begin cX0_begin 4 none 2 := by
  refine ⟨?_, ld_w26, ld_w511, ⟨by decide, by decide⟩, by decide +kernel⟩
  rw [if_pos rfl]; exact ⟨ld_w509, ld_w510⟩
theorem ld_mw_X0_isThere : ld_MW true yX0_isThere cX0_isThere 1 (some .boolean) 0 := by
  refine ⟨?_, ld_w26, ld_w85, ⟨by decide, by decide⟩, by decide +kernel⟩
  rw [if_pos rfl]; exact ⟨ld_w83, ld_w84⟩
theorem ld_mw_X0_faultAs : ld_MW true yX0_faultAs cX0_faultAs 2 (some .int) 1 := by
  refine ⟨?_, ld_w26, ld_w81, ⟨by decide, by decide⟩, by decide +kernel⟩
  rw [if_pos rfl]; exact ⟨ld_w79, ld_w80⟩
theorem ld_mw_X0_hasCell : ld_MW true yX0_hasCell cX0_hasCell 2 (some .boolean) 1 := by
  refine ⟨?_, ld_w26, ld_w530, ⟨by decide, by decide⟩, by decide +kernel⟩
  rw [if_pos rfl]; exact ⟨ld_w528, ld_w529⟩
theorem ld_mw_X0_lacks : ld_MW true yX0_lacks cX0_lacks 3 (some .boolean) 2 := by
  refine ⟨?_, ld_w26, ld_w88, ⟨by decide, by decide⟩, by decide +kernel⟩
  rw [if_pos rfl]; exact ⟨ld_w86, ld_w87⟩
theorem ld_mw_X0_cutToLane : ld_MW true yX0_cutToLane cX0_cutToLane 2 (some .int) 1 := by
  refine ⟨?_, ld_w26, ld_w533, ⟨by decide, by decide⟩, by decide +kernel⟩
  rw [if_pos rfl]; exact ⟨ld_w531, ld_w532⟩
theorem ld_mw_X1_beginByText : ld_MW true yX1_beginByText cX1_beginByText 6 none 3 := by
  refine ⟨?_, ld_w14, ld_w107, ⟨by decide, by decide⟩, by decide +kernel⟩
  rw [if_pos rfl]; exact ⟨ld_w105, ld_w106⟩
theorem ld_mw_X1_becomeLike : ld_MW true yX1_becomeLike cX1_becomeLike 3 none 1 := by
  refine ⟨?_, ld_w14, ld_w320, ⟨by decide, by decide⟩, by decide +kernel⟩
  rw [if_pos rfl]; exact ⟨ld_w318, ld_w319⟩
theorem ld_mw_X1_treesOf : ld_MW true yX1_treesOf cX1_treesOf 2 (some .int) 1 := by
  refine ⟨?_, ld_w14, ld_w174, ⟨by decide, by decide⟩, by decide +kernel⟩
  rw [if_pos rfl]; exact ⟨ld_w172, ld_w173⟩
theorem ld_mw_X1_sourOf : ld_MW true yX1_sourOf cX1_sourOf 2 (some .int) 1 := by
  refine ⟨?_, ld_w14, ld_w177, ⟨by decide, by decide⟩, by decide +kernel⟩
  rw [if_pos rfl]; exact ⟨ld_w175, ld_w176⟩
theorem ld_mw_X1_dealtTo : ld_MW true yX1_dealtTo cX1_dealtTo 3 (some .int) 2 := by
  refine ⟨?_, ld_w14, ld_w180, ⟨by decide, by decide⟩, by decide +kernel⟩
  rw [if_pos rfl]; exact ⟨ld_w178, ld_w179⟩
theorem ld_mw_X1_dealOut : ld_MW true yX1_dealOut cX1_dealOut 5 none 1 := by
  refine ⟨?_, ld_w14, ld_w184, ⟨by decide, by decide⟩, by decide +kernel⟩
  rw [if_pos rfl]; exact ⟨ld_w182, ld_w183⟩
theorem ld_mw_X1_aheadByRemainder : ld_MW true yX1_aheadByRemainder cX1_aheadByRemainder 4 (some .int) 1 := by
  refine ⟨?_, ld_w14, ld_w189, ⟨by decide, by decide⟩, by decide +kernel⟩
  rw [if_pos rfl]; exact ⟨ld_w187, ld_w188⟩
theorem ld_mw_X1_dealOneByOne : ld_MW true yX1_dealOneByOne cX1_dealOneByOne 4 none 1 := by
  refine ⟨?_, ld_w14, ld_w401, ⟨by decide, by decide⟩, by decide +kernel⟩
  rw [if_pos rfl]; exact ⟨ld_w399, ld_w400⟩
theorem ld_mw_X1_nextOneByOne : ld_MW true yX1_nextOneByOne cX1_nextOneByOne 3 (some .int) 0 := by
  refine ⟨?_, ld_w14, ld_w405, ⟨by decide, by decide⟩, by decide +kernel⟩
  rw [if_pos rfl]; exact ⟨ld_w403, ld_w404⟩
theorem ld_mw_X1_isAheadOneByOne : ld_MW true yX1_isAheadOneByOne cX1_isAheadOneByOne 3 (some .boolean) 2 := by
  refine ⟨?_, ld_w14, ld_w409, ⟨by decide, by decide⟩, by decide +kernel⟩
  rw [if_pos rfl]; exact ⟨ld_w407, ld_w408⟩
theorem ld_mw_X1_passWeeks : ld_MW true yX1_passWeeks cX1_passWeeks 3 none 1 := by
  refine ⟨?_, ld_w14, ld_w258, ⟨by decide, by decide⟩, by decide +kernel⟩
  rw [if_pos rfl]; exact ⟨ld_w256, ld_w257⟩
theorem ld_mw_X1_passWeek : ld_MW true yX1_passWeek cX1_passWeek 2 none 0 := by
  refine ⟨?_, ld_w14, ld_w262, ⟨by decide, by decide⟩, by decide +kernel⟩
  rw [if_pos rfl]; exact ⟨ld_w260, ld_w261⟩
theorem ld_mw_X1_suck : ld_MW true yX1_suck cX1_suck 2 none 1 := by
  refine ⟨?_, ld_w14, ld_w267, ⟨by decide, by decide⟩, by decide +kernel⟩
  rw [if_pos rfl]; exact ⟨ld_w265, ld_w266⟩
theorem ld_mw_X1_giveOneFrom : ld_MW true yX1_giveOneFrom cX1_giveOneFrom 2 (some .boolean) 1 := by
  refine ⟨?_, ld_w14, ld_w294, ⟨by decide, by decide⟩, by decide +kernel⟩
  rw [if_pos rfl]; exact ⟨ld_w292, ld_w293⟩
theorem ld_mw_X1_withoutStock : ld_MW true yX1_withoutStock cX1_withoutStock 3 (some .int) 0 := by
  refine ⟨?_, ld_w14, ld_w274, ⟨by decide, by decide⟩, by decide +kernel⟩
  rw [if_pos rfl]; exact ⟨ld_w272, ld_w273⟩
theorem ld_mw_X1_worstTemper : ld_MW true yX1_worstTemper cX1_worstTemper 3 (some .int) 0 := by
  refine ⟨?_, ld_w14, ld_w373, ⟨by decide, by decide⟩, by decide +kernel⟩
  rw [if_pos rfl]; exact ⟨ld_w371, ld_w372⟩
theorem ld_mw_X1_sumOf : ld_MW true yX1_sumOf cX1_sumOf 4 (some .int) 1 := by
  refine ⟨?_, ld_w14, ld_w335, ⟨by decide, by decide⟩, by decide +kernel⟩
  rw [if_pos rfl]; exact ⟨ld_w333, ld_w334⟩
theorem ld_mw_X2_street : ld_MW true yX2_street cX2_street 8 (some .int) 4 := by
  refine ⟨?_, ld_w2, ld_w72, ⟨by decide, by decide⟩, by decide +kernel⟩
  rw [if_pos rfl]; exact ⟨ld_w70, ld_w71⟩
theorem ld_mw_X2_ofHouse : ld_MW true yX2_ofHouse cX2_ofHouse 3 (some .int) 2 := by
  refine ⟨?_, ld_w2, ld_w167, ⟨by decide, by decide⟩, by decide +kernel⟩
  rw [if_pos rfl]; exact ⟨ld_w165, ld_w166⟩
theorem ld_mw_X2_anger : ld_MW true yX2_anger cX2_anger 4 (some .int) 2 := by
  refine ⟨?_, ld_w2, ld_w217, ⟨by decide, by decide⟩, by decide +kernel⟩
  rw [if_pos rfl]; exact ⟨ld_w215, ld_w216⟩
theorem ld_mw_X2_crate : ld_MW true yX2_crate cX2_crate 3 (some .int) 1 := by
  refine ⟨?_, ld_w2, ld_w228, ⟨by decide, by decide⟩, by decide +kernel⟩
  rw [if_pos rfl]; exact ⟨ld_w226, ld_w227⟩
theorem ld_mw_X2_deal : ld_MW true yX2_deal cX2_deal 3 (some .int) 2 := by
  refine ⟨?_, ld_w2, ld_w247, ⟨by decide, by decide⟩, by decide +kernel⟩
  rw [if_pos rfl]; exact ⟨ld_w245, ld_w246⟩
theorem ld_mw_X2_weeks : ld_MW true yX2_weeks cX2_weeks 2 (some .int) 1 := by
  refine ⟨?_, ld_w2, ld_w255, ⟨by decide, by decide⟩, by decide +kernel⟩
  rw [if_pos rfl]; exact ⟨ld_w253, ld_w254⟩
theorem ld_mw_X2_gift : ld_MW true yX2_gift cX2_gift 2 (some .int) 1 := by
  refine ⟨?_, ld_w2, ld_w291, ⟨by decide, by decide⟩, by decide +kernel⟩
  rw [if_pos rfl]; exact ⟨ld_w289, ld_w290⟩
theorem ld_mw_X2_season : ld_MW true yX2_season cX2_season 10 (some .int) 5 := by
  refine ⟨?_, ld_w2, ld_w306, ⟨by decide, by decide⟩, by decide +kernel⟩
  rw [if_pos rfl]; exact ⟨ld_w304, ld_w305⟩
theorem ld_mw_X2_calm : ld_MW true yX2_calm cX2_calm 4 (some .int) 2 := by
  refine ⟨?_, ld_w2, ld_w370, ⟨by decide, by decide⟩, by decide +kernel⟩
  rw [if_pos rfl]; exact ⟨ld_w368, ld_w369⟩
theorem ld_mw_X2_wonder : ld_MW true yX2_wonder cX2_wonder 4 (some .int) 1 := by
  refine ⟨?_, ld_w2, ld_w386, ⟨by decide, by decide⟩, by decide +kernel⟩
  rw [if_pos rfl]; exact ⟨ld_w384, ld_w385⟩
theorem ld_mw_X2_otherwise : ld_MW true yX2_otherwise cX2_otherwise 2 (some .int) 1 := by
  refine ⟨?_, ld_w2, ld_w398, ⟨by decide, by decide⟩, by decide +kernel⟩
  rw [if_pos rfl]; exact ⟨ld_w396, ld_w397⟩
theorem ld_mw_X2_halves : ld_MW true yX2_halves cX2_halves 6 (some .int) 1 := by
  refine ⟨?_, ld_w2, ld_w421, ⟨by decide, by decide⟩, by decide +kernel⟩
  rw [if_pos rfl]; exact ⟨ld_w419, ld_w420⟩
theorem ld_mw_X2_reading : ld_MW true yX2_reading cX2_reading 3 (some .int) 2 := by
  refine ⟨?_, ld_w2, ld_w443, ⟨by decide, by decide⟩, by decide +kernel⟩
  rw [if_pos rfl]; exact ⟨ld_w441, ld_w442⟩
theorem ld_mw_X2_back : ld_MW true yX2_back cX2_back 2 (some .int) 1 := by
  refine ⟨?_, ld_w2, ld_w451, ⟨by decide, by decide⟩, by decide +kernel⟩
  rw [if_pos rfl]; exact ⟨ld_w449, ld_w450⟩
theorem ld_mw_X2_tempers : ld_MW true yX2_tempers cX2_tempers 4 (some .int) 1 := by
  refine ⟨?_, ld_w2, ld_w459, ⟨by decide, by decide⟩, by decide +kernel⟩
  rw [if_pos rfl]; exact ⟨ld_w457, ld_w458⟩
theorem ld_mw_X2_kinds : ld_MW true yX2_kinds cX2_kinds 4 (some .int) 1 := by
  refine ⟨?_, ld_w2, ld_w475, ⟨by decide, by decide⟩, by decide +kernel⟩
  rw [if_pos rfl]; exact ⟨ld_w473, ld_w474⟩
theorem ld_mw_X2_crates : ld_MW true yX2_crates cX2_crates 6 (some .int) 1 := by
  refine ⟨?_, ld_w2, ld_w483, ⟨by decide, by decide⟩, by decide +kernel⟩
  rw [if_pos rfl]; exact ⟨ld_w481, ld_w482⟩
theorem ld_mw_X2_odds : ld_MW true yX2_odds cX2_odds 6 (some .long) 3 := by
  refine ⟨?_, ld_w2, ld_w491, ⟨by decide, by decide⟩, by decide +kernel⟩
  rw [if_pos rfl]; exact ⟨ld_w489, ld_w490⟩
theorem ld_mw_X2_sheet : ld_MW true yX2_sheet cX2_sheet 4 (some .int) 3 := by
  refine ⟨?_, ld_w2, ld_w508, ⟨by decide, by decide⟩, by decide +kernel⟩
  rw [if_pos rfl]; exact ⟨ld_w506, ld_w507⟩
theorem ld_mw_X2_lose : ld_MW true yX2_lose cX2_lose 3 (some .int) 1 := by
  refine ⟨?_, ld_w2, ld_w519, ⟨by decide, by decide⟩, by decide +kernel⟩
  rw [if_pos rfl]; exact ⟨ld_w517, ld_w518⟩
theorem ld_mw_X2_put : ld_MW true yX2_put cX2_put 5 (some .int) 3 := by
  refine ⟨?_, ld_w2, ld_w527, ⟨by decide, by decide⟩, by decide +kernel⟩
  rw [if_pos rfl]; exact ⟨ld_w525, ld_w526⟩
theorem ld_mw_X2_cell : ld_MW true yX2_cell cX2_cell 6 (some .long) 3 := by
  refine ⟨?_, ld_w2, ld_w545, ⟨by decide, by decide⟩, by decide +kernel⟩
  rw [if_pos rfl]; exact ⟨ld_w543, ld_w544⟩
theorem ld_mw_X2_copy : ld_MW true yX2_copy cX2_copy 8 (some .int) 5 := by
  refine ⟨?_, ld_w2, ld_w557, ⟨by decide, by decide⟩, by decide +kernel⟩
  rw [if_pos rfl]; exact ⟨ld_w555, ld_w556⟩
theorem ld_mw_X2_tell : ld_MW true yX2_tell cX2_tell 2 (some .int) 1 := by
  refine ⟨?_, ld_w2, ld_w569, ⟨by decide, by decide⟩, by decide +kernel⟩
  rw [if_pos rfl]; exact ⟨ld_w567, ld_w568⟩
theorem ld_mw_X2_knock : ld_MW true yX2_knock cX2_knock 3 (some .int) 1 := by
  refine ⟨?_, ld_w2, ld_w598, ⟨by decide, by decide⟩, by decide +kernel⟩
  rw [if_pos rfl]; exact ⟨ld_w596, ld_w597⟩
theorem ld_mw_X2_as : ld_MW true yX2_as cX2_as 3 (some .int) 2 := by
  refine ⟨?_, ld_w2, ld_w606, ⟨by decide, by decide⟩, by decide +kernel⟩
  rw [if_pos rfl]; exact ⟨ld_w604, ld_w605⟩
theorem ld_mw_X2_trace : ld_MW true yX2_trace cX2_trace 1 (some .int) 0 := by
  refine ⟨?_, ld_w2, ld_w614, ⟨by decide, by decide⟩, by decide +kernel⟩
  rw [if_pos rfl]; exact ⟨ld_w612, ld_w613⟩
theorem ld_mw_X2_fault : ld_MW true yX2_fault cX2_fault 1 (some .int) 0 := by
  refine ⟨?_, ld_w2, ld_w622, ⟨by decide, by decide⟩, by decide +kernel⟩
  rw [if_pos rfl]; exact ⟨ld_w620, ld_w621⟩
theorem ld_mw_X2_many : ld_MW true yX2_many cX2_many 2 (some .int) 1 := by
  refine ⟨?_, ld_w2, ld_w630, ⟨by decide, by decide⟩, by decide +kernel⟩
  rw [if_pos rfl]; exact ⟨ld_w628, ld_w629⟩
theorem ld_mw_X2_hasStreet : ld_MW true yX2_hasStreet cX2_hasStreet 1 (some .boolean) 0 := by
  refine ⟨?_, ld_w2, ld_w232, ⟨by decide, by decide⟩, by decide +kernel⟩
  rw [if_pos rfl]; exact ⟨ld_w230, ld_w231⟩
theorem ld_mw_X2_isHouse : ld_MW true yX2_isHouse cX2_isHouse 2 (some .boolean) 1 := by
  refine ⟨?_, ld_w2, ld_w171, ⟨by decide, by decide⟩, by decide +kernel⟩
  rw [if_pos rfl]; exact ⟨ld_w169, ld_w170⟩
theorem ld_mw_X2_isSheet : ld_MW false yX2_isSheet cX2_isSheet 1 (some .boolean) 1 := by
  refine ⟨?_, ld_w2, ld_w75, ⟨by decide, by decide⟩, by decide +kernel⟩
  rw [if_neg (by decide)]; exact ld_w74
theorem ld_mw_X2_isLane : ld_MW false yX2_isLane cX2_isLane 1 (some .boolean) 1 := by
  refine ⟨?_, ld_w2, ld_w78, ⟨by decide, by decide⟩, by decide +kernel⟩
  rw [if_neg (by decide)]; exact ld_w77
theorem ld_mw_X2_isTemper : ld_MW false yX2_isTemper cX2_isTemper 1 (some .boolean) 1 := by
  refine ⟨?_, ld_w2, ld_w220, ⟨by decide, by decide⟩, by decide +kernel⟩
  rw [if_neg (by decide)]; exact ld_w219
theorem ld_mw_X2_isCrate : ld_MW false yX2_isCrate cX2_isCrate 1 (some .boolean) 1 := by
  refine ⟨?_, ld_w2, ld_w235, ⟨by decide, by decide⟩, by decide +kernel⟩
  rw [if_neg (by decide)]; exact ld_w234
theorem ld_mw_X2_isAskedOfSeason : ld_MW false yX2_isAskedOfSeason cX2_isAskedOfSeason 1 (some .boolean) 1 := by
  refine ⟨?_, ld_w2, ld_w309, ⟨by decide, by decide⟩, by decide +kernel⟩
  rw [if_neg (by decide)]; exact ld_w308
theorem ld_mw_X2_fails : ld_MW true yX2_fails cX2_fails 2 (some .int) 1 := by
  refine ⟨?_, ld_w2, ld_w92, ⟨by decide, by decide⟩, by decide +kernel⟩
  rw [if_pos rfl]; exact ⟨ld_w90, ld_w91⟩
theorem ld_mw_X2_firstTextFault : ld_MW false yX2_firstTextFault cX2_firstTextFault 4 (some .int) 3 := by
  refine ⟨?_, ld_w2, ld_w95, ⟨by decide, by decide⟩, by decide +kernel⟩
  rw [if_neg (by decide)]; exact ld_w94
theorem ld_mw_X2_goesOn : ld_MW false yX2_goesOn cX2_goesOn 2 (some .boolean) 2 := by
  refine ⟨?_, ld_w2, ld_w98, ⟨by decide, by decide⟩, by decide +kernel⟩
  rw [if_neg (by decide)]; exact ld_w97
theorem ld_mw_X2_isDigit : ld_MW false yX2_isDigit cX2_isDigit 1 (some .boolean) 1 := by
  refine ⟨?_, ld_w2, ld_w101, ⟨by decide, by decide⟩, by decide +kernel⟩
  rw [if_neg (by decide)]; exact ld_w100
theorem ld_mw_X2_kindByLetter : ld_MW false yX2_kindByLetter cX2_kindByLetter 1 (some .int) 1 := by
  refine ⟨?_, ld_w2, ld_w104, ⟨by decide, by decide⟩, by decide +kernel⟩
  rw [if_neg (by decide)]; exact ld_w103
theorem ld_mw_X2_refusalOfPairs : ld_MW true yX2_refusalOfPairs cX2_refusalOfPairs 6 (some .int) 3 := by
  refine ⟨?_, ld_w2, ld_w313, ⟨by decide, by decide⟩, by decide +kernel⟩
  rw [if_pos rfl]; exact ⟨ld_w311, ld_w312⟩
theorem ld_mw_X2_refusalOfPair : ld_MW true yX2_refusalOfPair cX2_refusalOfPair 3 (some .int) 2 := by
  refine ⟨?_, ld_w2, ld_w317, ⟨by decide, by decide⟩, by decide +kernel⟩
  rw [if_pos rfl]; exact ⟨ld_w315, ld_w316⟩
theorem ld_mw_X2_actPairs : ld_MW true yX2_actPairs cX2_actPairs 5 (some .int) 3 := by
  refine ⟨?_, ld_w2, ld_w324, ⟨by decide, by decide⟩, by decide +kernel⟩
  rw [if_pos rfl]; exact ⟨ld_w322, ld_w323⟩
theorem ld_mw_X2_actPair : ld_MW true yX2_actPair cX2_actPair 3 (some .boolean) 2 := by
  refine ⟨?_, ld_w2, ld_w328, ⟨by decide, by decide⟩, by decide +kernel⟩
  rw [if_pos rfl]; exact ⟨ld_w326, ld_w327⟩
theorem ld_mw_X2_answerOfSeason : ld_MW true yX2_answerOfSeason cX2_answerOfSeason 3 (some .int) 1 := by
  refine ⟨?_, ld_w2, ld_w332, ⟨by decide, by decide⟩, by decide +kernel⟩
  rw [if_pos rfl]; exact ⟨ld_w330, ld_w331⟩
theorem ld_mw_X2_loserByOneMore : ld_MW true yX2_loserByOneMore cX2_loserByOneMore 3 (some .int) 1 := by
  refine ⟨?_, ld_w2, ld_w390, ⟨by decide, by decide⟩, by decide +kernel⟩
  rw [if_pos rfl]; exact ⟨ld_w388, ld_w389⟩
theorem ld_mw_X2_apartBy : ld_MW true yX2_apartBy cX2_apartBy 5 (some .int) 1 := by
  refine ⟨?_, ld_w2, ld_w425, ⟨by decide, by decide⟩, by decide +kernel⟩
  rw [if_pos rfl]; exact ⟨ld_w423, ld_w424⟩
theorem ld_mw_X2_readingsHoldInTrial : ld_MW true yX2_readingsHoldInTrial cX2_readingsHoldInTrial 2 (some .boolean) 0 := by
  refine ⟨?_, ld_w2, ld_w463, ⟨by decide, by decide⟩, by decide +kernel⟩
  rw [if_pos rfl]; exact ⟨ld_w461, ld_w462⟩
theorem ld_mw_X2_tellAsPlain : ld_MW true yX2_tellAsPlain cX2_tellAsPlain 2 (some .int) 1 := by
  refine ⟨?_, ld_w2, ld_w581, ⟨by decide, by decide⟩, by decide +kernel⟩
  rw [if_pos rfl]; exact ⟨ld_w579, ld_w580⟩
theorem ld_mw_X2_tellAsTart : ld_MW true yX2_tellAsTart cX2_tellAsTart 2 (some .int) 1 := by
  refine ⟨?_, ld_w2, ld_w573, ⟨by decide, by decide⟩, by decide +kernel⟩
  rw [if_pos rfl]; exact ⟨ld_w571, ld_w572⟩
theorem ld_mw_X2_tellAsBitter : ld_MW true yX2_tellAsBitter cX2_tellAsBitter 3 (some .int) 1 := by
  refine ⟨?_, ld_w2, ld_w585, ⟨by decide, by decide⟩, by decide +kernel⟩
  rw [if_pos rfl]; exact ⟨ld_w583, ld_w584⟩
theorem ld_mw_X2_leaveInTrace : ld_MW true yX2_leaveInTrace cX2_leaveInTrace 2 none 1 := by
  refine ⟨?_, ld_w2, ld_w577, ⟨by decide, by decide⟩, by decide +kernel⟩
  rw [if_pos rfl]; exact ⟨ld_w575, ld_w576⟩
theorem ld_mw_X3_in : ld_MW false yX3_in cX3_in 6 (some .boolean) 3 := by
  refine ⟨?_, ld_w5, ld_w130, ⟨by decide, by decide⟩, by decide +kernel⟩
  rw [if_neg (by decide)]; exact ld_w129
theorem ld_mw_X3_lost : ld_MW false yX3_lost cX3_lost 0 (some .long) 0 := by
  refine ⟨?_, ld_w5, ld_w500, ⟨by decide, by decide⟩, by decide +kernel⟩
  rw [if_neg (by decide)]; exact ld_w499
theorem ld_mw_X3_isIn : ld_MW false yX3_isIn cX3_isIn 2 (some .boolean) 2 := by
  refine ⟨?_, ld_w5, ld_w439, ⟨by decide, by decide⟩, by decide +kernel⟩
  rw [if_neg (by decide)]; exact ld_w438
theorem ld_mw_X3_share : ld_MW false yX3_share cX3_share 11 (some .long) 3 := by
  refine ⟨?_, ld_w5, ld_w504, ⟨by decide, by decide⟩, by decide +kernel⟩
  rw [if_neg (by decide)]; exact ld_w503
theorem ld_mw_X3_refused : ld_MW true yX3_refused cX3_refused 2 (some .int) 1 := by
  refine ⟨?_, ld_w5, ld_w134, ⟨by decide, by decide⟩, by decide +kernel⟩
  rw [if_pos rfl]; exact ⟨ld_w132, ld_w133⟩
theorem ld_mw_X3_failed : ld_MW true yX3_failed cX3_failed 2 (some .int) 1 := by
  refine ⟨?_, ld_w5, ld_w143, ⟨by decide, by decide⟩, by decide +kernel⟩
  rw [if_pos rfl]; exact ⟨ld_w141, ld_w142⟩
theorem ld_mw_X3_failedLong : ld_MW true yX3_failedLong cX3_failedLong 2 (some .long) 1 := by
  refine ⟨?_, ld_w5, ld_w553, ⟨by decide, by decide⟩, by decide +kernel⟩
  rw [if_pos rfl]; exact ⟨ld_w551, ld_w552⟩
theorem ld_mw_X3_noHouse : ld_MW true yX3_noHouse cX3_noHouse 2 (some .boolean) 1 := by
  refine ⟨?_, ld_w5, ld_w197, ⟨by decide, by decide⟩, by decide +kernel⟩
  rw [if_pos rfl]; exact ⟨ld_w195, ld_w196⟩
theorem ld_mw_X3_isCrate : ld_MW false yX3_isCrate cX3_isCrate 1 (some .boolean) 1 := by
  refine ⟨?_, ld_w5, ld_w242, ⟨by decide, by decide⟩, by decide +kernel⟩
  rw [if_neg (by decide)]; exact ld_w241
theorem ld_mw_X3_codeAt : ld_MW true yX3_codeAt cX3_codeAt 3 (some .int) 2 := by
  refine ⟨?_, ld_w5, ld_w154, ⟨by decide, by decide⟩, by decide +kernel⟩
  rw [if_pos rfl]; exact ⟨ld_w152, ld_w153⟩
theorem ld_mw_X3_figure : ld_MW true yX3_figure cX3_figure 6 (some .int) 3 := by
  refine ⟨?_, ld_w5, ld_w158, ⟨by decide, by decide⟩, by decide +kernel⟩
  rw [if_pos rfl]; exact ⟨ld_w156, ld_w157⟩
theorem ld_mw_X3_readsHouse : ld_MW true yX3_readsHouse cX3_readsHouse 6 (some .boolean) 2 := by
  refine ⟨?_, ld_w5, ld_w163, ⟨by decide, by decide⟩, by decide +kernel⟩
  rw [if_pos rfl]; exact ⟨ld_w161, ld_w162⟩
theorem ld_mw_X3_readsStreet : ld_MW true yX3_readsStreet cX3_readsStreet 6 (some .boolean) 2 := by
  refine ⟨?_, ld_w5, ld_w150, ⟨by decide, by decide⟩, by decide +kernel⟩
  rw [if_pos rfl]; exact ⟨ld_w148, ld_w149⟩
theorem ld_mw_X3_cellsBarred : ld_MW true yX3_cellsBarred cX3_cellsBarred 6 (some .int) 4 := by
  refine ⟨?_, ld_w5, ld_w139, ⟨by decide, by decide⟩, by decide +kernel⟩
  rw [if_pos rfl]; exact ⟨ld_w137, ld_w138⟩
theorem ld_mw_X3_street : ld_MW true yX3_street cX3_street 7 (some .int) 4 := by
  refine ⟨?_, ld_w5, ld_w115, ⟨by decide, by decide⟩, by decide +kernel⟩
  rw [if_pos rfl]; exact ⟨ld_w113, ld_w114⟩
theorem ld_mw_X3_sourOf : ld_MW true yX3_sourOf cX3_sourOf 3 (some .int) 1 := by
  refine ⟨?_, ld_w5, ld_w201, ⟨by decide, by decide⟩, by decide +kernel⟩
  rw [if_pos rfl]; exact ⟨ld_w199, ld_w200⟩
theorem ld_mw_X3_sourOfAll : ld_MW true yX3_sourOfAll cX3_sourOfAll 3 (some .int) 0 := by
  refine ⟨?_, ld_w5, ld_w209, ⟨by decide, by decide⟩, by decide +kernel⟩
  rw [if_pos rfl]; exact ⟨ld_w207, ld_w208⟩
theorem ld_mw_X3_aheadOf : ld_MW true yX3_aheadOf cX3_aheadOf 8 (some .int) 3 := by
  refine ⟨?_, ld_w5, ld_w213, ⟨by decide, by decide⟩, by decide +kernel⟩
  rw [if_pos rfl]; exact ⟨ld_w211, ld_w212⟩
theorem ld_mw_X3_dealtTo : ld_MW true yX3_dealtTo cX3_dealtTo 6 (some .int) 2 := by
  refine ⟨?_, ld_w5, ld_w205, ⟨by decide, by decide⟩, by decide +kernel⟩
  rw [if_pos rfl]; exact ⟨ld_w203, ld_w204⟩
theorem ld_mw_X3_ofHouse : ld_MW true yX3_ofHouse cX3_ofHouse 3 (some .int) 2 := by
  refine ⟨?_, ld_w5, ld_w193, ⟨by decide, by decide⟩, by decide +kernel⟩
  rw [if_pos rfl]; exact ⟨ld_w191, ld_w192⟩
theorem ld_mw_X3_anger : ld_MW true yX3_anger cX3_anger 4 (some .int) 2 := by
  refine ⟨?_, ld_w5, ld_w224, ⟨by decide, by decide⟩, by decide +kernel⟩
  rw [if_pos rfl]; exact ⟨ld_w222, ld_w223⟩
theorem ld_mw_X3_crate : ld_MW true yX3_crate cX3_crate 3 (some .int) 1 := by
  refine ⟨?_, ld_w5, ld_w239, ⟨by decide, by decide⟩, by decide +kernel⟩
  rw [if_pos rfl]; exact ⟨ld_w237, ld_w238⟩
theorem ld_mw_X3_deal : ld_MW true yX3_deal cX3_deal 3 (some .int) 2 := by
  refine ⟨?_, ld_w5, ld_w251, ⟨by decide, by decide⟩, by decide +kernel⟩
  rw [if_pos rfl]; exact ⟨ld_w249, ld_w250⟩
theorem ld_mw_X3_passes : ld_MW true yX3_passes cX3_passes 4 none 0 := by
  refine ⟨?_, ld_w5, ld_w283, ⟨by decide, by decide⟩, by decide +kernel⟩
  rw [if_pos rfl]; exact ⟨ld_w281, ld_w282⟩
theorem ld_mw_X3_without : ld_MW true yX3_without cX3_without 3 (some .int) 0 := by
  refine ⟨?_, ld_w5, ld_w287, ⟨by decide, by decide⟩, by decide +kernel⟩
  rw [if_pos rfl]; exact ⟨ld_w285, ld_w286⟩
theorem ld_mw_X3_weeks : ld_MW true yX3_weeks cX3_weeks 3 (some .int) 1 := by
  refine ⟨?_, ld_w5, ld_w278, ⟨by decide, by decide⟩, by decide +kernel⟩
  rw [if_pos rfl]; exact ⟨ld_w276, ld_w277⟩
theorem ld_mw_X3_gave : ld_MW true yX3_gave cX3_gave 4 (some .boolean) 1 := by
  refine ⟨?_, ld_w5, ld_w302, ⟨by decide, by decide⟩, by decide +kernel⟩
  rw [if_pos rfl]; exact ⟨ld_w300, ld_w301⟩
theorem ld_mw_X3_gift : ld_MW true yX3_gift cX3_gift 2 (some .int) 1 := by
  refine ⟨?_, ld_w5, ld_w298, ⟨by decide, by decide⟩, by decide +kernel⟩
  rw [if_pos rfl]; exact ⟨ld_w296, ld_w297⟩
theorem ld_mw_X3_keepAll : ld_MW true yX3_keepAll cX3_keepAll 2 none 0 := by
  refine ⟨?_, ld_w5, ld_w351, ⟨by decide, by decide⟩, by decide +kernel⟩
  rw [if_pos rfl]; exact ⟨ld_w349, ld_w350⟩
theorem ld_mw_X3_bringBack : ld_MW true yX3_bringBack cX3_bringBack 2 none 0 := by
  refine ⟨?_, ld_w5, ld_w366, ⟨by decide, by decide⟩, by decide +kernel⟩
  rw [if_pos rfl]; exact ⟨ld_w364, ld_w365⟩
theorem ld_mw_X3_pairsBarred : ld_MW true yX3_pairsBarred cX3_pairsBarred 6 (some .int) 2 := by
  refine ⟨?_, ld_w5, ld_w347, ⟨by decide, by decide⟩, by decide +kernel⟩
  rw [if_pos rfl]; exact ⟨ld_w345, ld_w346⟩
theorem ld_mw_X3_did : ld_MW true yX3_did cX3_did 4 (some .boolean) 2 := by
  refine ⟨?_, ld_w5, ld_w362, ⟨by decide, by decide⟩, by decide +kernel⟩
  rw [if_pos rfl]; exact ⟨ld_w360, ld_w361⟩
theorem ld_mw_X3_seasonBy : ld_MW true yX3_seasonBy cX3_seasonBy 9 (some .int) 3 := by
  refine ⟨?_, ld_w5, ld_w357, ⟨by decide, by decide⟩, by decide +kernel⟩
  rw [if_pos rfl]; exact ⟨ld_w355, ld_w356⟩
theorem ld_mw_X3_season : ld_MW true yX3_season cX3_season 8 (some .int) 5 := by
  refine ⟨?_, ld_w5, ld_w339, ⟨by decide, by decide⟩, by decide +kernel⟩
  rw [if_pos rfl]; exact ⟨ld_w337, ld_w338⟩
theorem ld_mw_X3_worstTemper : ld_MW true yX3_worstTemper cX3_worstTemper 3 (some .int) 0 := by
  refine ⟨?_, ld_w5, ld_w382, ⟨by decide, by decide⟩, by decide +kernel⟩
  rw [if_pos rfl]; exact ⟨ld_w380, ld_w381⟩
theorem ld_mw_X3_calm : ld_MW true yX3_calm cX3_calm 6 (some .int) 2 := by
  refine ⟨?_, ld_w5, ld_w377, ⟨by decide, by decide⟩, by decide +kernel⟩
  rw [if_pos rfl]; exact ⟨ld_w375, ld_w376⟩
theorem ld_mw_X3_wonder : ld_MW true yX3_wonder cX3_wonder 6 (some .int) 1 := by
  refine ⟨?_, ld_w5, ld_w394, ⟨by decide, by decide⟩, by decide +kernel⟩
  rw [if_pos rfl]; exact ⟨ld_w392, ld_w393⟩
theorem ld_mw_X3_nextOne : ld_MW true yX3_nextOne cX3_nextOne 4 (some .int) 0 := by
  refine ⟨?_, ld_w5, ld_w417, ⟨by decide, by decide⟩, by decide +kernel⟩
  rw [if_pos rfl]; exact ⟨ld_w415, ld_w416⟩
theorem ld_mw_X3_otherwise : ld_MW true yX3_otherwise cX3_otherwise 4 (some .int) 1 := by
  refine ⟨?_, ld_w5, ld_w413, ⟨by decide, by decide⟩, by decide +kernel⟩
  rw [if_pos rfl]; exact ⟨ld_w411, ld_w412⟩
theorem ld_mw_X3_apart : ld_MW true yX3_apart cX3_apart 4 (some .int) 1 := by
  refine ⟨?_, ld_w5, ld_w436, ⟨by decide, by decide⟩, by decide +kernel⟩
  rw [if_pos rfl]; exact ⟨ld_w434, ld_w435⟩
theorem ld_mw_X3_halves : ld_MW true yX3_halves cX3_halves 4 (some .int) 1 := by
  refine ⟨?_, ld_w5, ld_w432, ⟨by decide, by decide⟩, by decide +kernel⟩
  rw [if_pos rfl]; exact ⟨ld_w430, ld_w431⟩
theorem ld_mw_X3_reading : ld_MW true yX3_reading cX3_reading 3 (some .int) 2 := by
  refine ⟨?_, ld_w5, ld_w447, ⟨by decide, by decide⟩, by decide +kernel⟩
  rw [if_pos rfl]; exact ⟨ld_w445, ld_w446⟩
theorem ld_mw_X3_back : ld_MW true yX3_back cX3_back 2 (some .int) 1 := by
  refine ⟨?_, ld_w5, ld_w455, ⟨by decide, by decide⟩, by decide +kernel⟩
  rw [if_pos rfl]; exact ⟨ld_w453, ld_w454⟩
theorem ld_mw_X3_areSo : ld_MW true yX3_areSo cX3_areSo 3 (some .boolean) 0 := by
  refine ⟨?_, ld_w5, ld_w471, ⟨by decide, by decide⟩, by decide +kernel⟩
  rw [if_pos rfl]; exact ⟨ld_w469, ld_w470⟩
theorem ld_mw_X3_tempers : ld_MW true yX3_tempers cX3_tempers 5 (some .int) 1 := by
  refine ⟨?_, ld_w5, ld_w467, ⟨by decide, by decide⟩, by decide +kernel⟩
  rw [if_pos rfl]; exact ⟨ld_w465, ld_w466⟩
theorem ld_mw_X3_kinds : ld_MW true yX3_kinds cX3_kinds 5 (some .int) 1 := by
  refine ⟨?_, ld_w5, ld_w479, ⟨by decide, by decide⟩, by decide +kernel⟩
  rw [if_pos rfl]; exact ⟨ld_w477, ld_w478⟩
theorem ld_mw_X3_crates : ld_MW true yX3_crates cX3_crates 8 (some .int) 1 := by
  refine ⟨?_, ld_w5, ld_w487, ⟨by decide, by decide⟩, by decide +kernel⟩
  rw [if_pos rfl]; exact ⟨ld_w485, ld_w486⟩
theorem ld_mw_X3_odds : ld_MW true yX3_odds cX3_odds 7 (some .long) 3 := by
  refine ⟨?_, ld_w5, ld_w496, ⟨by decide, by decide⟩, by decide +kernel⟩
  rw [if_pos rfl]; exact ⟨ld_w494, ld_w495⟩
theorem ld_mw_X3_noSheet : ld_MW false yX3_noSheet cX3_noSheet 1 (some .boolean) 1 := by
  refine ⟨?_, ld_w5, ld_w126, ⟨by decide, by decide⟩, by decide +kernel⟩
  rw [if_neg (by decide)]; exact ld_w125
theorem ld_mw_X3_sheet : ld_MW true yX3_sheet cX3_sheet 5 (some .int) 3 := by
  refine ⟨?_, ld_w5, ld_w515, ⟨by decide, by decide⟩, by decide +kernel⟩
  rw [if_pos rfl]; exact ⟨ld_w513, ld_w514⟩
theorem ld_mw_X3_lose : ld_MW true yX3_lose cX3_lose 3 (some .int) 1 := by
  refine ⟨?_, ld_w5, ld_w523, ⟨by decide, by decide⟩, by decide +kernel⟩
  rw [if_pos rfl]; exact ⟨ld_w521, ld_w522⟩
theorem ld_mw_X3_noCell : ld_MW true yX3_noCell cX3_noCell 3 (some .int) 2 := by
  refine ⟨?_, ld_w5, ld_w541, ⟨by decide, by decide⟩, by decide +kernel⟩
  rw [if_pos rfl]; exact ⟨ld_w539, ld_w540⟩
theorem ld_mw_X3_put : ld_MW true yX3_put cX3_put 4 (some .int) 3 := by
  refine ⟨?_, ld_w5, ld_w537, ⟨by decide, by decide⟩, by decide +kernel⟩
  rw [if_pos rfl]; exact ⟨ld_w535, ld_w536⟩
theorem ld_mw_X3_cell : ld_MW true yX3_cell cX3_cell 4 (some .long) 3 := by
  refine ⟨?_, ld_w5, ld_w549, ⟨by decide, by decide⟩, by decide +kernel⟩
  rw [if_pos rfl]; exact ⟨ld_w547, ld_w548⟩
theorem ld_mw_X3_isBeyond : ld_MW false yX3_isBeyond cX3_isBeyond 4 (some .boolean) 3 := by
  refine ⟨?_, ld_w5, ld_w146, ⟨by decide, by decide⟩, by decide +kernel⟩
  rw [if_neg (by decide)]; exact ld_w145
theorem ld_mw_X3_copy : ld_MW true yX3_copy cX3_copy 7 (some .int) 5 := by
  refine ⟨?_, ld_w5, ld_w565, ⟨by decide, by decide⟩, by decide +kernel⟩
  rw [if_pos rfl]; exact ⟨ld_w563, ld_w564⟩
theorem ld_mw_X3_traced : ld_MW true yX3_traced cX3_traced 2 none 1 := by
  refine ⟨?_, ld_w5, ld_w593, ⟨by decide, by decide⟩, by decide +kernel⟩
  rw [if_pos rfl]; exact ⟨ld_w591, ld_w592⟩
theorem ld_mw_X3_tell : ld_MW true yX3_tell cX3_tell 4 (some .int) 1 := by
  refine ⟨?_, ld_w5, ld_w589, ⟨by decide, by decide⟩, by decide +kernel⟩
  rw [if_pos rfl]; exact ⟨ld_w587, ld_w588⟩
theorem ld_mw_X3_knock : ld_MW true yX3_knock cX3_knock 2 (some .int) 1 := by
  refine ⟨?_, ld_w5, ld_w602, ⟨by decide, by decide⟩, by decide +kernel⟩
  rw [if_pos rfl]; exact ⟨ld_w600, ld_w601⟩
theorem ld_mw_X3_as : ld_MW true yX3_as cX3_as 3 (some .int) 2 := by
  refine ⟨?_, ld_w5, ld_w610, ⟨by decide, by decide⟩, by decide +kernel⟩
  rw [if_pos rfl]; exact ⟨ld_w608, ld_w609⟩
theorem ld_mw_X3_trace : ld_MW true yX3_trace cX3_trace 1 (some .int) 0 := by
  refine ⟨?_, ld_w5, ld_w618, ⟨by decide, by decide⟩, by decide +kernel⟩
  rw [if_pos rfl]; exact ⟨ld_w616, ld_w617⟩
theorem ld_mw_X3_fault : ld_MW true yX3_fault cX3_fault 1 (some .int) 0 := by
  refine ⟨?_, ld_w5, ld_w626, ⟨by decide, by decide⟩, by decide +kernel⟩
  rw [if_pos rfl]; exact ⟨ld_w624, ld_w625⟩
theorem ld_mw_X3_many : ld_MW true yX3_many cX3_many 2 (some .int) 1 := by
  refine ⟨?_, ld_w5, ld_w634, ⟨by decide, by decide⟩, by decide +kernel⟩
  rw [if_pos rfl]; exact ⟨ld_w632, ld_w633⟩
end
section
def ld_sr (kd t : Int32) : Int32 := if kd.toInt = 1 then t + nI 1 else if kd.toInt = 2 then nI 2 * (t + nI 1) else t
def ld_kl (c : Int32) : Int32 := if c.toInt = 98 then nI 2 else if c.toInt = 112 then nI 0 else if c.toInt = 116 then nI 1 else (-9 : Int32)
def ld_lc (lane v : Int32) : Int32 := if lane.toInt = 0 then v.toInt8.toInt32 else if lane.toInt = 1 then v.toInt16.toInt32 else v
set_option maxHeartbeats 4000000 in
set_option maxRecDepth 100000 in
theorem c_X2_isSheet (l : Launch) (ad : Nat → Nat) (σ : ld_St) (k : Int32) : ld_Ctr l yX2_isSheet cX2_isSheet 1 (some .boolean) (0, 0) [.int k] ad σ (ld_I (fun (r : Int32) (σ2 : ld_St) => r = ld_b (0 ≤ k.toInt ∧ k.toInt < 4) ∧ σ2 = σ)) := by
  refine ld_entry (by decide +kernel) (Nat.le_of_ble_eq_true rfl) (fun K O E => ?_)
  have O : ld_Ok l K ad cX2_isSheet 1 RX2 (ld_rm (0, 0)) := O
  show K σ [(0, .int k)] [] 0
  refine ld_iload_n O (pc := 0) 0 dX2_isSheet_0 rfl rfl ?_
  refine ld_if_lt O (pc := 1) (k).toInt rfl 13 dX2_isSheet_1 (by decide) (fun c1 => ?_) (fun c1 => ?_)
  · refine ld_iconst O (pc := 13) (v := nI 0) dX2_isSheet_13 (by decide) ?_
    refine ld_iretz E (Or.inl rfl) dX2_isSheet_14 ?_
    exact ⟨(ld_b_f (by omega)).symm, rfl⟩
  · refine ld_iload_n O (pc := 4) 0 dX2_isSheet_4 rfl rfl ?_
    refine ld_iconst O (pc := 5) (v := nI 4) dX2_isSheet_5 (by decide) ?_
    refine ld_icmp_ge O (pc := 6) (k).toInt 4 rfl (by decide) 13 dX2_isSheet_6 (by decide) (fun c2 => ?_) (fun c2 => ?_)
    · refine ld_iconst O (pc := 13) (v := nI 0) dX2_isSheet_13 (by decide) ?_
      refine ld_iretz E (Or.inl rfl) dX2_isSheet_14 ?_
      exact ⟨(ld_b_f (by omega)).symm, rfl⟩
    · refine ld_iconst O (pc := 9) (v := nI 1) dX2_isSheet_9 (by decide) ?_
      refine ld_goto O (pc := 10) 14 dX2_isSheet_10 (by decide) ?_
      refine ld_iretz E (Or.inr rfl) dX2_isSheet_14 ?_
      exact ⟨(ld_b_t (by omega)).symm, rfl⟩
set_option maxHeartbeats 4000000 in
set_option maxRecDepth 100000 in
theorem c_X2_isLane (l : Launch) (ad : Nat → Nat) (σ : ld_St) (k : Int32) : ld_Ctr l yX2_isLane cX2_isLane 1 (some .boolean) (0, 0) [.int k] ad σ (ld_I (fun (r : Int32) (σ2 : ld_St) => r = ld_b (0 ≤ k.toInt ∧ k.toInt < 3) ∧ σ2 = σ)) := by
  refine ld_entry (by decide +kernel) (Nat.le_of_ble_eq_true rfl) (fun K O E => ?_)
  have O : ld_Ok l K ad cX2_isLane 1 RX2 (ld_rm (0, 0)) := O
  show K σ [(0, .int k)] [] 0
  refine ld_iload_n O (pc := 0) 0 dX2_isLane_0 rfl rfl ?_
  refine ld_if_lt O (pc := 1) (k).toInt rfl 13 dX2_isLane_1 (by decide) (fun c1 => ?_) (fun c1 => ?_)
  · refine ld_iconst O (pc := 13) (v := nI 0) dX2_isLane_13 (by decide) ?_
    refine ld_iretz E (Or.inl rfl) dX2_isLane_14 ?_
    exact ⟨(ld_b_f (by omega)).symm, rfl⟩
  · refine ld_iload_n O (pc := 4) 0 dX2_isLane_4 rfl rfl ?_
    refine ld_iconst O (pc := 5) (v := nI 3) dX2_isLane_5 (by decide) ?_
    refine ld_icmp_ge O (pc := 6) (k).toInt 3 rfl (by decide) 13 dX2_isLane_6 (by decide) (fun c2 => ?_) (fun c2 => ?_)
    · refine ld_iconst O (pc := 13) (v := nI 0) dX2_isLane_13 (by decide) ?_
      refine ld_iretz E (Or.inl rfl) dX2_isLane_14 ?_
      exact ⟨(ld_b_f (by omega)).symm, rfl⟩
    · refine ld_iconst O (pc := 9) (v := nI 1) dX2_isLane_9 (by decide) ?_
      refine ld_goto O (pc := 10) 14 dX2_isLane_10 (by decide) ?_
      refine ld_iretz E (Or.inr rfl) dX2_isLane_14 ?_
      exact ⟨(ld_b_t (by omega)).symm, rfl⟩
set_option maxHeartbeats 4000000 in
set_option maxRecDepth 100000 in
theorem c_X2_isTemper (l : Launch) (ad : Nat → Nat) (σ : ld_St) (k : Int32) : ld_Ctr l yX2_isTemper cX2_isTemper 1 (some .boolean) (0, 0) [.int k] ad σ (ld_I (fun (r : Int32) (σ2 : ld_St) => r = ld_b (0 ≤ k.toInt ∧ k.toInt < 10) ∧ σ2 = σ)) := by
  refine ld_entry (by decide +kernel) (Nat.le_of_ble_eq_true rfl) (fun K O E => ?_)
  have O : ld_Ok l K ad cX2_isTemper 1 RX2 (ld_rm (0, 0)) := O
  show K σ [(0, .int k)] [] 0
  refine ld_iload_n O (pc := 0) 0 dX2_isTemper_0 rfl rfl ?_
  refine ld_if_lt O (pc := 1) (k).toInt rfl 14 dX2_isTemper_1 (by decide) (fun c1 => ?_) (fun c1 => ?_)
  · refine ld_iconst O (pc := 14) (v := nI 0) dX2_isTemper_14 (by decide) ?_
    refine ld_iretz E (Or.inl rfl) dX2_isTemper_15 ?_
    exact ⟨(ld_b_f (by omega)).symm, rfl⟩
  · refine ld_iload_n O (pc := 4) 0 dX2_isTemper_4 rfl rfl ?_
    refine ld_bipush O (pc := 5) (v := nI 9) dX2_isTemper_5 (by decide) ?_
    refine ld_icmp_gt O (pc := 7) (k).toInt 9 rfl (by decide) 14 dX2_isTemper_7 (by decide) (fun c2 => ?_) (fun c2 => ?_)
    · refine ld_iconst O (pc := 14) (v := nI 0) dX2_isTemper_14 (by decide) ?_
      refine ld_iretz E (Or.inl rfl) dX2_isTemper_15 ?_
      exact ⟨(ld_b_f (by omega)).symm, rfl⟩
    · refine ld_iconst O (pc := 10) (v := nI 1) dX2_isTemper_10 (by decide) ?_
      refine ld_goto O (pc := 11) 15 dX2_isTemper_11 (by decide) ?_
      refine ld_iretz E (Or.inr rfl) dX2_isTemper_15 ?_
      exact ⟨(ld_b_t (by omega)).symm, rfl⟩
set_option maxHeartbeats 4000000 in
set_option maxRecDepth 100000 in
theorem c_X2_isCrate (l : Launch) (ad : Nat → Nat) (σ : ld_St) (k : Int32) : ld_Ctr l yX2_isCrate cX2_isCrate 1 (some .boolean) (0, 0) [.int k] ad σ (ld_I (fun (r : Int32) (σ2 : ld_St) => r = ld_b (0 ≤ k.toInt ∧ k.toInt < 100) ∧ σ2 = σ)) := by
  refine ld_entry (by decide +kernel) (Nat.le_of_ble_eq_true rfl) (fun K O E => ?_)
  have O : ld_Ok l K ad cX2_isCrate 1 RX2 (ld_rm (0, 0)) := O
  show K σ [(0, .int k)] [] 0
  refine ld_iload_n O (pc := 0) 0 dX2_isCrate_0 rfl rfl ?_
  refine ld_if_lt O (pc := 1) (k).toInt rfl 14 dX2_isCrate_1 (by decide) (fun c1 => ?_) (fun c1 => ?_)
  · refine ld_iconst O (pc := 14) (v := nI 0) dX2_isCrate_14 (by decide) ?_
    refine ld_iretz E (Or.inl rfl) dX2_isCrate_15 ?_
    exact ⟨(ld_b_f (by omega)).symm, rfl⟩
  · refine ld_iload_n O (pc := 4) 0 dX2_isCrate_4 rfl rfl ?_
    refine ld_bipush O (pc := 5) (v := nI 99) dX2_isCrate_5 (by decide) ?_
    refine ld_icmp_gt O (pc := 7) (k).toInt 99 rfl (by decide) 14 dX2_isCrate_7 (by decide) (fun c2 => ?_) (fun c2 => ?_)
    · refine ld_iconst O (pc := 14) (v := nI 0) dX2_isCrate_14 (by decide) ?_
      refine ld_iretz E (Or.inl rfl) dX2_isCrate_15 ?_
      exact ⟨(ld_b_f (by omega)).symm, rfl⟩
    · refine ld_iconst O (pc := 10) (v := nI 1) dX2_isCrate_10 (by decide) ?_
      refine ld_goto O (pc := 11) 15 dX2_isCrate_11 (by decide) ?_
      refine ld_iretz E (Or.inr rfl) dX2_isCrate_15 ?_
      exact ⟨(ld_b_t (by omega)).symm, rfl⟩
set_option maxHeartbeats 4000000 in
set_option maxRecDepth 100000 in
theorem c_X2_isDigit (l : Launch) (ad : Nat → Nat) (σ : ld_St) (k : Int32) : ld_Ctr l yX2_isDigit cX2_isDigit 1 (some .boolean) (0, 0) [.int k] ad σ (ld_I (fun (r : Int32) (σ2 : ld_St) => r = ld_b (48 ≤ k.toInt ∧ k.toInt < 58) ∧ σ2 = σ)) := by
  refine ld_entry (by decide +kernel) (Nat.le_of_ble_eq_true rfl) (fun K O E => ?_)
  have O : ld_Ok l K ad cX2_isDigit 1 RX2 (ld_rm (0, 0)) := O
  show K σ [(0, .int k)] [] 0
  refine ld_iload_n O (pc := 0) 0 dX2_isDigit_0 rfl rfl ?_
  refine ld_bipush O (pc := 1) (v := nI 48) dX2_isDigit_1 (by decide) ?_
  refine ld_icmp_lt O (pc := 3) (k).toInt 48 rfl (by decide) 16 dX2_isDigit_3 (by decide) (fun c1 => ?_) (fun c1 => ?_)
  · refine ld_iconst O (pc := 16) (v := nI 0) dX2_isDigit_16 (by decide) ?_
    refine ld_iretz E (Or.inl rfl) dX2_isDigit_17 ?_
    exact ⟨(ld_b_f (by omega)).symm, rfl⟩
  · refine ld_iload_n O (pc := 6) 0 dX2_isDigit_6 rfl rfl ?_
    refine ld_bipush O (pc := 7) (v := nI 57) dX2_isDigit_7 (by decide) ?_
    refine ld_icmp_gt O (pc := 9) (k).toInt 57 rfl (by decide) 16 dX2_isDigit_9 (by decide) (fun c2 => ?_) (fun c2 => ?_)
    · refine ld_iconst O (pc := 16) (v := nI 0) dX2_isDigit_16 (by decide) ?_
      refine ld_iretz E (Or.inl rfl) dX2_isDigit_17 ?_
      exact ⟨(ld_b_f (by omega)).symm, rfl⟩
    · refine ld_iconst O (pc := 12) (v := nI 1) dX2_isDigit_12 (by decide) ?_
      refine ld_goto O (pc := 13) 17 dX2_isDigit_13 (by decide) ?_
      refine ld_iretz E (Or.inr rfl) dX2_isDigit_17 ?_
      exact ⟨(ld_b_t (by omega)).symm, rfl⟩
set_option maxHeartbeats 4000000 in
set_option maxRecDepth 100000 in
theorem c_X2_isAskedOfSeason (l : Launch) (ad : Nat → Nat) (σ : ld_St) (k : Int32) : ld_Ctr l yX2_isAskedOfSeason cX2_isAskedOfSeason 1 (some .boolean) (0, 0) [.int k] ad σ (ld_I (fun (r : Int32) (σ2 : ld_St) => r = ld_b ((0 ≤ k.toInt ∧ k.toInt ≤ 4) ∨ (10 ≤ k.toInt ∧ k.toInt < 18)) ∧ σ2 = σ)) := by
  refine ld_entry (by decide +kernel) (Nat.le_of_ble_eq_true rfl) (fun K O E => ?_)
  have O : ld_Ok l K ad cX2_isAskedOfSeason 1 RX2 (ld_rm (0, 0)) := O
  show K σ [(0, .int k)] [] 0
  refine ld_iload_n O (pc := 0) 0 dX2_isAskedOfSeason_0 rfl rfl ?_
  refine ld_if_lt O (pc := 1) (k).toInt rfl 9 dX2_isAskedOfSeason_1 (by decide) (fun c1 => ?_) (fun c1 => ?_)
  · refine ld_iload_n O (pc := 9) 0 dX2_isAskedOfSeason_9 rfl rfl ?_
    refine ld_bipush O (pc := 10) (v := nI 10) dX2_isAskedOfSeason_10 (by decide) ?_
    refine ld_icmp_lt O (pc := 12) (k).toInt 10 rfl (by decide) 25 dX2_isAskedOfSeason_12 (by decide) (fun c2 => ?_) (fun c2 => ?_)
    · refine ld_iconst O (pc := 25) (v := nI 0) dX2_isAskedOfSeason_25 (by decide) ?_
      refine ld_iretz E (Or.inl rfl) dX2_isAskedOfSeason_26 ?_
      exact ⟨(ld_b_f (by omega)).symm, rfl⟩
    · refine ld_iload_n O (pc := 15) 0 dX2_isAskedOfSeason_15 rfl rfl ?_
      refine ld_bipush O (pc := 16) (v := nI 18) dX2_isAskedOfSeason_16 (by decide) ?_
      refine ld_icmp_ge O (pc := 18) (k).toInt 18 rfl (by decide) 25 dX2_isAskedOfSeason_18 (by decide) (fun c3 => ?_) (fun c3 => ?_)
      · refine ld_iconst O (pc := 25) (v := nI 0) dX2_isAskedOfSeason_25 (by decide) ?_
        refine ld_iretz E (Or.inl rfl) dX2_isAskedOfSeason_26 ?_
        exact ⟨(ld_b_f (by omega)).symm, rfl⟩
      · refine ld_iconst O (pc := 21) (v := nI 1) dX2_isAskedOfSeason_21 (by decide) ?_
        refine ld_goto O (pc := 22) 26 dX2_isAskedOfSeason_22 (by decide) ?_
        refine ld_iretz E (Or.inr rfl) dX2_isAskedOfSeason_26 ?_
        exact ⟨(ld_b_t (by omega)).symm, rfl⟩
  · refine ld_iload_n O (pc := 4) 0 dX2_isAskedOfSeason_4 rfl rfl ?_
    refine ld_iconst O (pc := 5) (v := nI 4) dX2_isAskedOfSeason_5 (by decide) ?_
    refine ld_icmp_le O (pc := 6) (k).toInt 4 rfl (by decide) 21 dX2_isAskedOfSeason_6 (by decide) (fun c4 => ?_) (fun c4 => ?_)
    · refine ld_iconst O (pc := 21) (v := nI 1) dX2_isAskedOfSeason_21 (by decide) ?_
      refine ld_goto O (pc := 22) 26 dX2_isAskedOfSeason_22 (by decide) ?_
      refine ld_iretz E (Or.inr rfl) dX2_isAskedOfSeason_26 ?_
      exact ⟨(ld_b_t (by omega)).symm, rfl⟩
    · refine ld_iload_n O (pc := 9) 0 dX2_isAskedOfSeason_9 rfl rfl ?_
      refine ld_bipush O (pc := 10) (v := nI 10) dX2_isAskedOfSeason_10 (by decide) ?_
      refine ld_icmp_lt O (pc := 12) (k).toInt 10 rfl (by decide) 25 dX2_isAskedOfSeason_12 (by decide) (fun c5 => ?_) (fun c5 => ?_)
      · refine ld_iconst O (pc := 25) (v := nI 0) dX2_isAskedOfSeason_25 (by decide) ?_
        refine ld_iretz E (Or.inl rfl) dX2_isAskedOfSeason_26 ?_
        exact ⟨(ld_b_f (by omega)).symm, rfl⟩
      · refine ld_iload_n O (pc := 15) 0 dX2_isAskedOfSeason_15 rfl rfl ?_
        refine ld_bipush O (pc := 16) (v := nI 18) dX2_isAskedOfSeason_16 (by decide) ?_
        refine ld_icmp_ge O (pc := 18) (k).toInt 18 rfl (by decide) 25 dX2_isAskedOfSeason_18 (by decide) (fun c6 => ?_) (fun c6 => ?_)
        · refine ld_iconst O (pc := 25) (v := nI 0) dX2_isAskedOfSeason_25 (by decide) ?_
          refine ld_iretz E (Or.inl rfl) dX2_isAskedOfSeason_26 ?_
          exact ⟨(ld_b_f (by omega)).symm, rfl⟩
        · refine ld_iconst O (pc := 21) (v := nI 1) dX2_isAskedOfSeason_21 (by decide) ?_
          refine ld_goto O (pc := 22) 26 dX2_isAskedOfSeason_22 (by decide) ?_
          refine ld_iretz E (Or.inr rfl) dX2_isAskedOfSeason_26 ?_
          exact ⟨(ld_b_t (by omega)).symm, rfl⟩
set_option maxHeartbeats 4000000 in
set_option maxRecDepth 100000 in
theorem c_X2_kindByLetter (l : Launch) (ad : Nat → Nat) (σ : ld_St) (k : Int32) : ld_Ctr l yX2_kindByLetter cX2_kindByLetter 1 (some .int) (0, 0) [.int k] ad σ (ld_I (fun (r : Int32) (σ2 : ld_St) => r = ld_kl k ∧ σ2 = σ)) := by
  refine ld_entry (by decide +kernel) (Nat.le_of_ble_eq_true rfl) (fun K O E => ?_)
  have O : ld_Ok l K ad cX2_kindByLetter 1 RX2 (ld_rm (0, 0)) := O
  show K σ [(0, .int k)] [] 0
  refine ld_iload_n O (pc := 0) 0 dX2_kindByLetter_0 rfl rfl ?_
  by_cases t1 : (k).toInt = 98
  · refine ld_look O (pc := 1) 40 dX2_kindByLetter_1 (by decide) (off := 39) (by rw [t1]; rfl) (by decide) ?_
    refine ld_iconst O (pc := 40) (v := nI 2) dX2_kindByLetter_40 (by decide) ?_
    refine ld_ireti E dX2_kindByLetter_41 ?_
    exact ⟨by simp [ld_kl, t1], rfl⟩
  by_cases t2 : (k).toInt = 112
  · refine ld_look O (pc := 1) 36 dX2_kindByLetter_1 (by decide) (off := 35) (by rw [t2]; rfl) (by decide) ?_
    refine ld_iconst O (pc := 36) (v := nI 0) dX2_kindByLetter_36 (by decide) ?_
    refine ld_ireti E dX2_kindByLetter_37 ?_
    exact ⟨by simp [ld_kl, t1, t2], rfl⟩
  by_cases t3 : (k).toInt = 116
  · refine ld_look O (pc := 1) 38 dX2_kindByLetter_1 (by decide) (off := 37) (by rw [t3]; rfl) (by decide) ?_
    refine ld_iconst O (pc := 38) (v := nI 1) dX2_kindByLetter_38 (by decide) ?_
    refine ld_ireti E dX2_kindByLetter_39 ?_
    exact ⟨by simp [ld_kl, t1, t2, t3], rfl⟩
  refine ld_look O (pc := 1) 42 dX2_kindByLetter_1 (by decide) (off := 41) (by show Op.lookupswitch.offset [((98 : Int), (39 : Int)), ((112 : Int), (35 : Int)), ((116 : Int), (37 : Int))] (41) _ = _; rw [Op.lookupswitch.offset_cons, if_neg (fun z => t1 z.symm), Op.lookupswitch.offset_cons, if_neg (fun z => t2 z.symm), Op.lookupswitch.offset_cons, if_neg (fun z => t3 z.symm)]; rfl) (by decide) ?_
  refine ld_bipush O (pc := 42) (v := (-9 : Int32)) dX2_kindByLetter_42 (by decide) ?_
  refine ld_ireti E dX2_kindByLetter_44 ?_
  exact ⟨by simp [ld_kl, t1, t2, t3], rfl⟩
set_option maxHeartbeats 4000000 in
set_option maxRecDepth 100000 in
theorem c_X2_isHouse (l : Launch) (ad : Nat → Nat) (σ : ld_St) (k : Int32) (h : Nat) (hh : σ 110 0 = nI h) (h8 : h ≤ 8) : ld_Ctr l yX2_isHouse cX2_isHouse 2 (some .boolean) (0, 0) [.ref (ad 0), .int k] ad σ (ld_I (fun (r : Int32) (σ2 : ld_St) => r = ld_b (0 ≤ k.toInt ∧ k.toInt < (h : Int)) ∧ σ2 = σ)) := by
  refine ld_entry (by decide +kernel) (Nat.le_of_ble_eq_true rfl) (fun K O E => ?_)
  have O : ld_Ok l K ad cX2_isHouse 2 RX2 (ld_rm (0, 0)) := O
  show K σ [(0, .ref (ad 0)), (1, .int k)] [] 0
  refine ld_iload_n O (pc := 0) 1 dX2_isHouse_0 rfl rfl ?_
  refine ld_if_lt O (pc := 1) (k).toInt rfl 19 dX2_isHouse_1 (by decide) (fun c1 => ?_) (fun c1 => ?_)
  · refine ld_iconst O (pc := 19) (v := nI 0) dX2_isHouse_19 (by decide) ?_
    refine ld_iretz E (Or.inl rfl) dX2_isHouse_20 ?_
    exact ⟨(ld_b_f (by omega)).symm, rfl⟩
  · refine ld_iload_n O (pc := 4) 1 dX2_isHouse_4 rfl rfl ?_
    refine ld_aload_n O (pc := 5) 0 dX2_isHouse_5 rfl rfl ?_
    refine ld_g_LD_now O (pc := 6) ld_w15 dX2_isHouse_6 ?_
    refine ld_g_now_housesN O (pc := 9) (v := nI h) (List.mem_of_getElem? (i := 1) rfl) hh dX2_isHouse_9 ?_
    refine ld_icmp_ge O (pc := 12) (k).toInt ((h : Nat) : Int) rfl (nI_toInt (by omega)) 19 dX2_isHouse_12 (by decide) (fun c2 => ?_) (fun c2 => ?_)
    · refine ld_iconst O (pc := 19) (v := nI 0) dX2_isHouse_19 (by decide) ?_
      refine ld_iretz E (Or.inl rfl) dX2_isHouse_20 ?_
      exact ⟨(ld_b_f (by omega)).symm, rfl⟩
    · refine ld_iconst O (pc := 15) (v := nI 1) dX2_isHouse_15 (by decide) ?_
      refine ld_goto O (pc := 16) 20 dX2_isHouse_16 (by decide) ?_
      refine ld_iretz E (Or.inr rfl) dX2_isHouse_20 ?_
      exact ⟨(ld_b_t (by omega)).symm, rfl⟩
set_option maxHeartbeats 4000000 in
set_option maxRecDepth 100000 in
theorem c_X2_hasStreet (l : Launch) (ad : Nat → Nat) (σ : ld_St) (h : Nat) (hh : σ 110 0 = nI h) (h8 : h ≤ 8) : ld_Ctr l yX2_hasStreet cX2_hasStreet 1 (some .boolean) (0, 0) [.ref (ad 0)] ad σ (ld_I (fun (r : Int32) (σ2 : ld_St) => r = ld_b (0 < h) ∧ σ2 = σ)) := by
  refine ld_entry (by decide +kernel) (Nat.le_of_ble_eq_true rfl) (fun K O E => ?_)
  have O : ld_Ok l K ad cX2_hasStreet 1 RX2 (ld_rm (0, 0)) := O
  show K σ [(0, .ref (ad 0))] [] 0
  refine ld_aload_n O (pc := 0) 0 dX2_hasStreet_0 rfl rfl ?_
  refine ld_g_LD_now O (pc := 1) ld_w15 dX2_hasStreet_1 ?_
  refine ld_g_now_housesN O (pc := 4) (v := nI h) (List.mem_of_getElem? (i := 1) rfl) hh dX2_hasStreet_4 ?_
  refine ld_if_le O (pc := 7) ((h : Nat) : Int) (nI_toInt (by omega)) 14 dX2_hasStreet_7 (by decide) (fun c1 => ?_) (fun c1 => ?_)
  · refine ld_iconst O (pc := 14) (v := nI 0) dX2_hasStreet_14 (by decide) ?_
    refine ld_iretz E (Or.inl rfl) dX2_hasStreet_15 ?_
    exact ⟨(ld_b_f (by omega)).symm, rfl⟩
  · refine ld_iconst O (pc := 10) (v := nI 1) dX2_hasStreet_10 (by decide) ?_
    refine ld_goto O (pc := 11) 15 dX2_hasStreet_11 (by decide) ?_
    refine ld_iretz E (Or.inr rfl) dX2_hasStreet_15 ?_
    exact ⟨(ld_b_t (by omega)).symm, rfl⟩
set_option maxHeartbeats 4000000 in
set_option maxRecDepth 100000 in
theorem c_X2_fails (l : Launch) (ad : Nat → Nat) (σ : ld_St) (w : Int32) : ld_Ctr l yX2_fails cX2_fails 2 (some .int) (0, 0) [.ref (ad 0), .int w] ad σ (ld_I (fun (r : Int32) (σ2 : ld_St) => r = (-10 : Int32) - w ∧ σ2 = us σ 102 (fun _ => w))) := by
  refine ld_entry (by decide +kernel) (Nat.le_of_ble_eq_true rfl) (fun K O E => ?_)
  have O : ld_Ok l K ad cX2_fails 2 RX2 (ld_rm (0, 0)) := O
  show K σ [(0, .ref (ad 0)), (1, .int w)] [] 0
  refine ld_aload_n O (pc := 0) 0 dX2_fails_0 rfl rfl ?_
  refine ld_iload_n O (pc := 1) 1 dX2_fails_1 rfl rfl ?_
  refine ld_p_LD_lastFault O (pc := 2) ld_w24 dX2_fails_2 ?_
  refine ld_bipush O (pc := 5) (v := (-10 : Int32)) dX2_fails_5 (by decide) ?_
  refine ld_iload_n O (pc := 7) 1 dX2_fails_7 rfl rfl ?_
  refine ld_isub O (pc := 8) dX2_fails_8 ?_
  refine ld_ireti E dX2_fails_9 ?_
  exact ⟨rfl, rfl⟩
set_option maxHeartbeats 4000000 in
set_option maxRecDepth 100000 in
theorem c_X2_leaveInTrace (l : Launch) (ad : Nat → Nat) (σ : ld_St) (w : Int32) : ld_Ctr l yX2_leaveInTrace cX2_leaveInTrace 2 none (0, 0) [.ref (ad 0), .int w] ad σ (ld_V (fun (σ2 : ld_St) => σ2 = us σ 101 (fun _ => nI 31 * σ 101 0 + w))) := by
  refine ld_entry (by decide +kernel) (Nat.le_of_ble_eq_true rfl) (fun K O E => ?_)
  have O : ld_Ok l K ad cX2_leaveInTrace 2 RX2 (ld_rm (0, 0)) := O
  show K σ [(0, .ref (ad 0)), (1, .int w)] [] 0
  refine ld_aload_n O (pc := 0) 0 dX2_leaveInTrace_0 rfl rfl ?_
  refine ld_bipush O (pc := 1) (v := nI 31) dX2_leaveInTrace_1 (by decide) ?_
  refine ld_aload_n O (pc := 3) 0 dX2_leaveInTrace_3 rfl rfl ?_
  refine ld_g_LD_traced O (pc := 4) (v := σ 101 0) ld_w23 rfl dX2_leaveInTrace_4 ?_
  refine ld_imul O (pc := 7) dX2_leaveInTrace_7 ?_
  refine ld_iload_n O (pc := 8) 1 dX2_leaveInTrace_8 rfl rfl ?_
  refine ld_iadd O (pc := 9) dX2_leaveInTrace_9 ?_
  refine ld_p_LD_traced O (pc := 10) ld_w23 dX2_leaveInTrace_10 ?_
  refine ld_vret E dX2_leaveInTrace_13 ?_
  exact rfl
set_option maxHeartbeats 4000000 in
set_option maxRecDepth 100000 in
theorem c_X1_treesOf_0 (l : Launch) (ad : Nat → Nat) (σ : ld_St) (k : Nat) (hk : k < 8) : ld_Ctr l yX1_treesOf cX1_treesOf 2 (some .int) (0, 0) [.ref (ad 1), .int (nI k)] ad σ (ld_I (fun (r : Int32) (σ2 : ld_St) => r = σ 3 k / nI 4 ∧ σ2 = σ)) := by
  refine ld_entry (by decide +kernel) (Nat.le_of_ble_eq_true rfl) (fun K O E => ?_)
  have O : ld_Ok l K ad cX1_treesOf 2 RX1 (ld_rm (0, 0)) := O
  show K σ [(0, .ref (ad 1)), (1, .int (nI k))] [] 0
  refine ld_aload_n O (pc := 0) 0 dX1_treesOf_0 rfl rfl ?_
  refine ld_g_now_pips O (pc := 1) ld_w37 dX1_treesOf_1 ?_
  refine ld_iload_n O (pc := 4) 1 dX1_treesOf_4 rfl rfl ?_
  refine ld_iald O (pc := 5) 3 k (v := σ 3 k) rfl (by decide) (show k < 8 by omega) rfl dX1_treesOf_5 ?_
  refine ld_iconst O (pc := 6) (v := nI 4) dX1_treesOf_6 (by decide) ?_
  refine ld_idiv O (pc := 7) dX1_treesOf_7 (by decide) ?_
  refine ld_ireti E dX1_treesOf_8 ?_
  exact ⟨rfl, rfl⟩
set_option maxHeartbeats 4000000 in
set_option maxRecDepth 100000 in
theorem c_X1_sourOf_0 (l : Launch) (ad : Nat → Nat) (σ : ld_St) (k : Nat) (hk : k < 8) : ld_Ctr l yX1_sourOf cX1_sourOf 2 (some .int) (0, 0) [.ref (ad 1), .int (nI k)] ad σ (ld_I (fun (r : Int32) (σ2 : ld_St) => r = ld_sr (σ 0 k) (σ 1 k) ∧ σ2 = σ)) := by
  refine ld_entry (by decide +kernel) (Nat.le_of_ble_eq_true rfl) (fun K O E => ?_)
  have O : ld_Ok l K ad cX1_sourOf 2 RX1 (ld_rm (0, 0)) := O
  show K σ [(0, .ref (ad 1)), (1, .int (nI k))] [] 0
  refine ld_aload_n O (pc := 0) 0 dX1_sourOf_0 rfl rfl ?_
  refine ld_g_now_kind O (pc := 1) ld_w34 dX1_sourOf_1 ?_
  refine ld_iload_n O (pc := 4) 1 dX1_sourOf_4 rfl rfl ?_
  refine ld_iald O (pc := 5) 0 k (v := σ 0 k) rfl (by decide) (show k < 8 by omega) rfl dX1_sourOf_5 ?_
  by_cases t1 : (σ 0 k).toInt = 1
  · refine ld_look O (pc := 6) 32 dX1_sourOf_6 (by decide) (off := 26) (by rw [t1]; rfl) (by decide) ?_
    refine ld_aload_n O (pc := 32) 0 dX1_sourOf_32 rfl rfl ?_
    refine ld_g_now_temper O (pc := 33) ld_w35 dX1_sourOf_33 ?_
    refine ld_iload_n O (pc := 36) 1 dX1_sourOf_36 rfl rfl ?_
    refine ld_iald O (pc := 37) 1 k (v := σ 1 k) rfl (by decide) (show k < 8 by omega) rfl dX1_sourOf_37 ?_
    refine ld_iconst O (pc := 38) (v := nI 1) dX1_sourOf_38 (by decide) ?_
    refine ld_iadd O (pc := 39) dX1_sourOf_39 ?_
    refine ld_ireti E dX1_sourOf_40 ?_
    exact ⟨by simp [ld_sr, t1], rfl⟩
  by_cases t2 : (σ 0 k).toInt = 2
  · refine ld_look O (pc := 6) 41 dX1_sourOf_6 (by decide) (off := 35) (by rw [t2]; rfl) (by decide) ?_
    refine ld_iconst O (pc := 41) (v := nI 2) dX1_sourOf_41 (by decide) ?_
    refine ld_aload_n O (pc := 42) 0 dX1_sourOf_42 rfl rfl ?_
    refine ld_g_now_temper O (pc := 43) ld_w35 dX1_sourOf_43 ?_
    refine ld_iload_n O (pc := 46) 1 dX1_sourOf_46 rfl rfl ?_
    refine ld_iald O (pc := 47) 1 k (v := σ 1 k) rfl (by decide) (show k < 8 by omega) rfl dX1_sourOf_47 ?_
    refine ld_iconst O (pc := 48) (v := nI 1) dX1_sourOf_48 (by decide) ?_
    refine ld_iadd O (pc := 49) dX1_sourOf_49 ?_
    refine ld_imul O (pc := 50) dX1_sourOf_50 ?_
    refine ld_ireti E dX1_sourOf_51 ?_
    exact ⟨by simp [ld_sr, t1, t2], rfl⟩
  refine ld_look O (pc := 6) 52 dX1_sourOf_6 (by decide) (off := 46) (by show Op.lookupswitch.offset [((1 : Int), (26 : Int)), ((2 : Int), (35 : Int))] (46) _ = _; rw [Op.lookupswitch.offset_cons, if_neg (fun z => t1 z.symm), Op.lookupswitch.offset_cons, if_neg (fun z => t2 z.symm)]; rfl) (by decide) ?_
  refine ld_aload_n O (pc := 52) 0 dX1_sourOf_52 rfl rfl ?_
  refine ld_g_now_temper O (pc := 53) ld_w35 dX1_sourOf_53 ?_
  refine ld_iload_n O (pc := 56) 1 dX1_sourOf_56 rfl rfl ?_
  refine ld_iald O (pc := 57) 1 k (v := σ 1 k) rfl (by decide) (show k < 8 by omega) rfl dX1_sourOf_57 ?_
  refine ld_ireti E dX1_sourOf_58 ?_
  exact ⟨by simp [ld_sr, t1, t2], rfl⟩
set_option maxHeartbeats 4000000 in
set_option maxRecDepth 100000 in
theorem c_X1_treesOf_1 (l : Launch) (ad : Nat → Nat) (σ : ld_St) (k : Nat) (hk : k < 8) : ld_Ctr l yX1_treesOf cX1_treesOf 2 (some .int) (0, 0) [.ref (ad 2), .int (nI k)] ad σ (ld_I (fun (r : Int32) (σ2 : ld_St) => r = σ 10 k / nI 4 ∧ σ2 = σ)) := by
  refine ld_entry (by decide +kernel) (Nat.le_of_ble_eq_true rfl) (fun K O E => ?_)
  have O : ld_Ok l K ad cX1_treesOf 2 RX1 (ld_rm (0, 0)) := O
  show K σ [(0, .ref (ad 2)), (1, .int (nI k))] [] 0
  refine ld_aload_n O (pc := 0) 0 dX1_treesOf_0 rfl rfl ?_
  refine ld_g_trial_pips O (pc := 1) ld_w37 dX1_treesOf_1 ?_
  refine ld_iload_n O (pc := 4) 1 dX1_treesOf_4 rfl rfl ?_
  refine ld_iald O (pc := 5) 10 k (v := σ 10 k) rfl (by decide) (show k < 8 by omega) rfl dX1_treesOf_5 ?_
  refine ld_iconst O (pc := 6) (v := nI 4) dX1_treesOf_6 (by decide) ?_
  refine ld_idiv O (pc := 7) dX1_treesOf_7 (by decide) ?_
  refine ld_ireti E dX1_treesOf_8 ?_
  exact ⟨rfl, rfl⟩
set_option maxHeartbeats 4000000 in
set_option maxRecDepth 100000 in
theorem c_X1_sourOf_1 (l : Launch) (ad : Nat → Nat) (σ : ld_St) (k : Nat) (hk : k < 8) : ld_Ctr l yX1_sourOf cX1_sourOf 2 (some .int) (0, 0) [.ref (ad 2), .int (nI k)] ad σ (ld_I (fun (r : Int32) (σ2 : ld_St) => r = ld_sr (σ 7 k) (σ 8 k) ∧ σ2 = σ)) := by
  refine ld_entry (by decide +kernel) (Nat.le_of_ble_eq_true rfl) (fun K O E => ?_)
  have O : ld_Ok l K ad cX1_sourOf 2 RX1 (ld_rm (0, 0)) := O
  show K σ [(0, .ref (ad 2)), (1, .int (nI k))] [] 0
  refine ld_aload_n O (pc := 0) 0 dX1_sourOf_0 rfl rfl ?_
  refine ld_g_trial_kind O (pc := 1) ld_w34 dX1_sourOf_1 ?_
  refine ld_iload_n O (pc := 4) 1 dX1_sourOf_4 rfl rfl ?_
  refine ld_iald O (pc := 5) 7 k (v := σ 7 k) rfl (by decide) (show k < 8 by omega) rfl dX1_sourOf_5 ?_
  by_cases t1 : (σ 7 k).toInt = 1
  · refine ld_look O (pc := 6) 32 dX1_sourOf_6 (by decide) (off := 26) (by rw [t1]; rfl) (by decide) ?_
    refine ld_aload_n O (pc := 32) 0 dX1_sourOf_32 rfl rfl ?_
    refine ld_g_trial_temper O (pc := 33) ld_w35 dX1_sourOf_33 ?_
    refine ld_iload_n O (pc := 36) 1 dX1_sourOf_36 rfl rfl ?_
    refine ld_iald O (pc := 37) 8 k (v := σ 8 k) rfl (by decide) (show k < 8 by omega) rfl dX1_sourOf_37 ?_
    refine ld_iconst O (pc := 38) (v := nI 1) dX1_sourOf_38 (by decide) ?_
    refine ld_iadd O (pc := 39) dX1_sourOf_39 ?_
    refine ld_ireti E dX1_sourOf_40 ?_
    exact ⟨by simp [ld_sr, t1], rfl⟩
  by_cases t2 : (σ 7 k).toInt = 2
  · refine ld_look O (pc := 6) 41 dX1_sourOf_6 (by decide) (off := 35) (by rw [t2]; rfl) (by decide) ?_
    refine ld_iconst O (pc := 41) (v := nI 2) dX1_sourOf_41 (by decide) ?_
    refine ld_aload_n O (pc := 42) 0 dX1_sourOf_42 rfl rfl ?_
    refine ld_g_trial_temper O (pc := 43) ld_w35 dX1_sourOf_43 ?_
    refine ld_iload_n O (pc := 46) 1 dX1_sourOf_46 rfl rfl ?_
    refine ld_iald O (pc := 47) 8 k (v := σ 8 k) rfl (by decide) (show k < 8 by omega) rfl dX1_sourOf_47 ?_
    refine ld_iconst O (pc := 48) (v := nI 1) dX1_sourOf_48 (by decide) ?_
    refine ld_iadd O (pc := 49) dX1_sourOf_49 ?_
    refine ld_imul O (pc := 50) dX1_sourOf_50 ?_
    refine ld_ireti E dX1_sourOf_51 ?_
    exact ⟨by simp [ld_sr, t1, t2], rfl⟩
  refine ld_look O (pc := 6) 52 dX1_sourOf_6 (by decide) (off := 46) (by show Op.lookupswitch.offset [((1 : Int), (26 : Int)), ((2 : Int), (35 : Int))] (46) _ = _; rw [Op.lookupswitch.offset_cons, if_neg (fun z => t1 z.symm), Op.lookupswitch.offset_cons, if_neg (fun z => t2 z.symm)]; rfl) (by decide) ?_
  refine ld_aload_n O (pc := 52) 0 dX1_sourOf_52 rfl rfl ?_
  refine ld_g_trial_temper O (pc := 53) ld_w35 dX1_sourOf_53 ?_
  refine ld_iload_n O (pc := 56) 1 dX1_sourOf_56 rfl rfl ?_
  refine ld_iald O (pc := 57) 8 k (v := σ 8 k) rfl (by decide) (show k < 8 by omega) rfl dX1_sourOf_57 ?_
  refine ld_ireti E dX1_sourOf_58 ?_
  exact ⟨by simp [ld_sr, t1, t2], rfl⟩
end
section
/-! pure words: a street's deal and its weeks, as the class computes them -/
def ld_q (a c : Int32) (s : Nat → Int32) (k : Nat) : Int32 := if a.toInt ≤ 0 then nI 0 else c * s k / a
def ld_r (a c : Int32) (s : Nat → Int32) (k : Nat) : Int32 := if a.toInt ≤ 0 then nI 0 else c * s k - c * s k / a * a
def ld_lf (a c : Int32) (s : Nat → Int32) : Nat → Int32
  | 0 => if a.toInt ≤ 0 then nI 0 else c
  | n + 1 => ld_lf a c s n - ld_q a c s n
def ld_ap (f : Nat → Int32) (k x : Nat) : Bool := decide ((f k).toInt < (f x).toInt ∨ ((f x).toInt = (f k).toInt ∧ x < k))
def ld_ah (f : Nat → Int32) (h k : Nat) : Nat := fb_ct (ld_ap f k) h
def ld_dl (h : Nat) (a c : Int32) (s : Nat → Int32) (k : Nat) : Int32 := if ((ld_ah (ld_r a c s) h k : Nat) : Int) < (ld_lf a c s h).toInt then ld_q a c s k + nI 1 else ld_q a c s k
def ld_ss (kd t : Nat → Int32) : Nat → Int32 := fun x => ld_sr (kd x) (t x)
def ld_dt (h : Nat) (kd t : Nat → Int32) (c : Int32) (k : Nat) : Int32 := ld_dl h (l_sum (ld_ss kd t) h) c (ld_ss kd t) k
theorem ld_ext {f g : Nat → Int32} {i : Nat} {v : Int32} (h : ∀ x, x < i → f x = g x) (hv : v = g i) : ∀ x, x < i + 1 → upd f i v x = g x := by
  intro x hx
  by_cases e : x = i
  · subst e; rw [pk_us, hv]
  · rw [pk_un e]; exact h x (by omega)
theorem ld_exk {f : Nat → Int32} {g : Nat → Int32} {i h : Nat} {v : Int32} (hk : ∀ x, i ≤ x → x < h → f x = g x) : ∀ x, i + 1 ≤ x → x < h → upd f i v x = g x := by
  intro x h1 h2
  rw [pk_un (by omega)]
  exact hk x (by omega) h2
theorem ld_lsum_cong {f g : Nat → Int32} {h : Nat} (e : ∀ x, x < h → f x = g x) : l_sum f h = l_sum g h := by
  induction h with
  | zero => rfl
  | succ n ih => show l_sum f n + f n = l_sum g n + g n; rw [ih (fun x hx => e x (by omega)), e n (by omega)]
theorem ld_q_cong {a c : Int32} {f g : Nat → Int32} {k : Nat} (e : f k = g k) : ld_q a c f k = ld_q a c g k := by unfold ld_q; rw [e]
theorem ld_r_cong {a c : Int32} {f g : Nat → Int32} {k : Nat} (e : f k = g k) : ld_r a c f k = ld_r a c g k := by unfold ld_r; rw [e]
theorem ld_lf_cong {a c : Int32} {f g : Nat → Int32} {h : Nat} (e : ∀ x, x < h → f x = g x) : ld_lf a c f h = ld_lf a c g h := by
  induction h with
  | zero => rfl
  | succ n ih => show ld_lf a c f n - ld_q a c f n = ld_lf a c g n - ld_q a c g n; rw [ih (fun x hx => e x (by omega)), ld_q_cong (e n (by omega))]
theorem ld_ah_cong {f g : Nat → Int32} {h k : Nat} (e : ∀ x, x < h → f x = g x) (hk : k < h) : ld_ah f h k = ld_ah g h k :=
  fb_ct_cong (fun x hx => by unfold ld_ap; rw [e x hx, e k hk])
theorem ld_ah_le (f : Nat → Int32) (h k : Nat) : ld_ah f h k ≤ h := fb_ct_le _ _
theorem ld_dl_cong {h : Nat} {a c : Int32} {f g : Nat → Int32} {k : Nat} (e : ∀ x, x < h → f x = g x) (hk : k < h) : ld_dl h a c f k = ld_dl h a c g k := by
  unfold ld_dl
  rw [ld_lf_cong e, ld_q_cong (e k hk), ld_ah_cong (fun x hx => ld_r_cong (e x hx)) hk]
theorem ld_dt_cong {h : Nat} {kd t kd2 t2 : Nat → Int32} {c : Int32} {k : Nat} (e1 : ∀ x, x < h → kd x = kd2 x) (e2 : ∀ x, x < h → t x = t2 x) (hk : k < h) : ld_dt h kd t c k = ld_dt h kd2 t2 c k := by
  have e : ∀ x, x < h → ld_ss kd t x = ld_ss kd2 t2 x := fun x hx => by unfold ld_ss; rw [e1 x hx, e2 x hx]
  unfold ld_dt
  rw [ld_lsum_cong e, ld_dl_cong e hk]
theorem ld_ct_t {p : Nat → Bool} {m i : Nat} (hm : m = fb_ct p i) (h : p i = true) : m + 1 = fb_ct p (i + 1) := by rw [fb_ct_succ, ← hm, h]; rfl
theorem ld_ct_f {p : Nat → Bool} {m i : Nat} (hm : m = fb_ct p i) (h : ¬ p i = true) : m = fb_ct p (i + 1) := by
  rw [fb_ct_succ, ← hm, if_neg h]; rfl
/-- a week: what a house then has, its stock, temper and pips -/
def ld_wg (h : Nat) (c : Int32) (kd t s p : Nat → Int32) (x : Nat) : Int32 := s x + (ld_dt h kd t c x + p x / nI 4)
def ld_wS (h : Nat) (c : Int32) (kd t s p : Nat → Int32) (x : Nat) : Int32 := if (ld_wg h c kd t s p x).toInt ≤ 0 then ld_wg h c kd t s p x else ld_wg h c kd t s p x - nI 1
def ld_wT (h : Nat) (c : Int32) (kd t s p : Nat → Int32) (x : Nat) : Int32 := if (ld_wg h c kd t s p x).toInt ≤ 0 then (if nI 9 < t x + nI 1 then nI 9 else t x + nI 1) else (if t x - nI 1 < nI 0 then nI 0 else t x - nI 1)
def ld_wP (h : Nat) (c : Int32) (kd t s p : Nat → Int32) (x : Nat) : Int32 := if (ld_wg h c kd t s p x).toInt ≤ 0 then p x else p x + nI 1
abbrev ld_Tr : Type := (Nat → Int32) × (Nat → Int32) × (Nat → Int32)
/-- a week on (temper, stock, pips) -/
def ld_wk (h : Nat) (c : Int32) (kd : Nat → Int32) (V : ld_Tr) : ld_Tr := (ld_wT h c kd V.1 V.2.1 V.2.2, ld_wS h c kd V.1 V.2.1 V.2.2, ld_wP h c kd V.1 V.2.1 V.2.2)
def ld_wks (h : Nat) (c : Int32) (kd : Nat → Int32) (V : ld_Tr) : Nat → ld_Tr
  | 0 => V
  | n + 1 => ld_wk h c kd (ld_wks h c kd V n)
def ld_eqv (h : Nat) (V U : ld_Tr) : Prop := ∀ x, x < h → V.1 x = U.1 x ∧ V.2.1 x = U.2.1 x ∧ V.2.2 x = U.2.2 x
theorem ld_eqv.rf {h : Nat} {V : ld_Tr} : ld_eqv h V V := fun _ _ => ⟨rfl, rfl, rfl⟩
theorem ld_eqv.tr {h : Nat} {V U Z : ld_Tr} (a : ld_eqv h V U) (b : ld_eqv h U Z) : ld_eqv h V Z := fun x hx => ⟨(a x hx).1.trans (b x hx).1, (a x hx).2.1.trans (b x hx).2.1, (a x hx).2.2.trans (b x hx).2.2⟩
theorem ld_eqv.sy {h : Nat} {V U : ld_Tr} (a : ld_eqv h V U) : ld_eqv h U V := fun x hx => ⟨(a x hx).1.symm, (a x hx).2.1.symm, (a x hx).2.2.symm⟩
theorem ld_wg_cong {h : Nat} {c : Int32} {kd : Nat → Int32} {V U : ld_Tr} (e : ld_eqv h V U) {x : Nat} (hx : x < h) : ld_wg h c kd V.1 V.2.1 V.2.2 x = ld_wg h c kd U.1 U.2.1 U.2.2 x := by
  unfold ld_wg
  rw [(e x hx).2.1, (e x hx).2.2, ld_dt_cong (fun _ _ => rfl) (fun y hy => (e y hy).1) hx]
theorem ld_wk_cong {h : Nat} {c : Int32} {kd : Nat → Int32} {V U : ld_Tr} (e : ld_eqv h V U) : ld_eqv h (ld_wk h c kd V) (ld_wk h c kd U) := by
  intro x hx
  simp only [ld_wk, ld_wT, ld_wS, ld_wP]
  rw [ld_wg_cong e hx, (e x hx).1, (e x hx).2.2]
  exact ⟨rfl, rfl, rfl⟩
theorem ld_wks_cong {h : Nat} {c : Int32} {kd : Nat → Int32} {V U : ld_Tr} (e : ld_eqv h V U) : ∀ n, ld_eqv h (ld_wks h c kd V n) (ld_wks h c kd U n)
  | 0 => e
  | n + 1 => ld_wk_cong (ld_wks_cong e n)
theorem ld_wks_add (h : Nat) (c : Int32) (kd : Nat → Int32) (V : ld_Tr) (n : Nat) : ∀ m, ld_wks h c kd (ld_wks h c kd V n) m = ld_wks h c kd V (n + m)
  | 0 => rfl
  | m + 1 => congrArg (ld_wk h c kd) (ld_wks_add h c kd V n m)
/-- houses without stock -/
def ld_wp (s : Nat → Int32) (x : Nat) : Bool := decide ((s x).toInt ≤ 0)
def ld_wo (h : Nat) (s : Nat → Int32) : Nat := fb_ct (ld_wp s) h
theorem ld_wo_cong {h : Nat} {s s2 : Nat → Int32} (e : ∀ x, x < h → s x = s2 x) : ld_wo h s = ld_wo h s2 := fb_ct_cong (fun x hx => by unfold ld_wp; rw [e x hx])
theorem ld_wo_le (h : Nat) (s : Nat → Int32) : ld_wo h s ≤ h := fb_ct_le _ _
/-- how many of the n weeks left somebody without stock -/
def ld_lw (h : Nat) (c : Int32) (kd : Nat → Int32) (V : ld_Tr) : Nat → Nat
  | 0 => 0
  | n + 1 => ld_lw h c kd V n + (if 0 < ld_wo h (ld_wks h c kd V (n + 1)).2.1 then 1 else 0)
def ld_wm (t : Nat → Int32) : Nat → Int32
  | 0 => nI 0
  | n + 1 => if ld_wm t n < t n then t n else ld_wm t n
theorem ld_wm_cong {t t2 : Nat → Int32} {h : Nat} (e : ∀ x, x < h → t x = t2 x) : ld_wm t h = ld_wm t2 h := by
  induction h with
  | zero => rfl
  | succ n ih => simp only [ld_wm]; rw [ih (fun x hx => e x (by omega)), e n (by omega)]
def ld_nb (h k : Nat) : Nat := if k + 1 < h then k + 1 else 0
def ld_gv (h : Nat) (s : Nat → Int32) (k : Nat) : Nat → Int32 := upd (upd s k (s k - nI 1)) (ld_nb h k) (upd s k (s k - nI 1) (ld_nb h k) + nI 1)
theorem ld_nb_lt {h k : Nat} (hk : k < h) : ld_nb h k < h := by unfold ld_nb; split <;> omega
/-- one by one -/
def ld_ao (s d : Nat → Int32) (k o : Nat) : Prop := (s o * (d k + nI 1)).toInt < (s k * (d o + nI 1)).toInt
noncomputable def ld_nx (s d : Nat → Int32) : Nat → Option Nat
  | 0 => none
  | n + 1 => @ite _ (0 < (s n).toInt ∧ (∀ o, ld_nx s d n = some o → ld_ao s d n o)) (Classical.propDecidable _) (some n) (ld_nx s d n)
def ld_nv (o : Option Nat) : Int32 := match o with
  | none => (-9 : Int32)
  | some j => nI j
theorem ld_nx_lt {s d : Nat → Int32} : ∀ {n j : Nat}, ld_nx s d n = some j → j < n
  | 0, j, h => by cases h
  | n + 1, j, h => by
    unfold ld_nx at h
    by_cases e : (0 < (s n).toInt ∧ (∀ o, ld_nx s d n = some o → ld_ao s d n o))
    · rw [if_pos e] at h; cases h; omega
    · rw [if_neg e] at h; have := ld_nx_lt h; omega
theorem ld_nx_t {s d : Nat → Int32} {n : Nat} {o : Option Nat} (ho : o = ld_nx s d n) (h : 0 < (s n).toInt) (h2 : ∀ j, o = some j → ld_ao s d n j) : some n = ld_nx s d (n + 1) := by
  subst ho
  unfold ld_nx; exact (if_pos ⟨h, h2⟩).symm
theorem ld_nx_f {s d : Nat → Int32} {n : Nat} {o : Option Nat} (ho : o = ld_nx s d n) (h : ¬ (0 < (s n).toInt ∧ ∀ j, o = some j → ld_ao s d n j)) : o = ld_nx s d (n + 1) := by
  subst ho
  conv => rhs; unfold ld_nx
  exact (if_neg h).symm
theorem ld_nx_cong {s d s2 d2 : Nat → Int32} : ∀ {h : Nat}, (∀ x, x < h → s x = s2 x ∧ d x = d2 x) → ld_nx s d h = ld_nx s2 d2 h
  | 0, _ => rfl
  | n + 1, e => by
    have ih := ld_nx_cong (s := s) (d := d) (s2 := s2) (d2 := d2) (h := n) (fun x hx => e x (by omega))
    unfold ld_nx
    rw [ih, (e n (by omega)).1]
    have e2 : (∀ o, ld_nx s2 d2 n = some o → ld_ao s d n o) ↔ (∀ o, ld_nx s2 d2 n = some o → ld_ao s2 d2 n o) := by
      have e3 : ∀ o, o < n → (ld_ao s d n o ↔ ld_ao s2 d2 n o) := fun o ho => by
        unfold ld_ao
        rw [(e o (by omega)).1, (e o (by omega)).2, (e n (by omega)).1, (e n (by omega)).2]
      exact ⟨fun z o ho => (e3 o (ld_nx_lt ho)).mp (z o ho), fun z o ho => (e3 o (ld_nx_lt ho)).mpr (z o ho)⟩
    rw [propext (and_congr_right (fun _ => e2))]
noncomputable def ld_o1 (h : Nat) (s : Nat → Int32) : Nat → Nat → Int32
  | 0 => fun _ => nI 0
  | n + 1 => match ld_nx s (ld_o1 h s n) h with
    | none => ld_o1 h s n
    | some j => upd (ld_o1 h s n) j (ld_o1 h s n j + nI 1)
theorem ld_o1_cong {h : Nat} {s s2 : Nat → Int32} (e : ∀ x, x < h → s x = s2 x) : ∀ n, ld_o1 h s n = ld_o1 h s2 n
  | 0 => rfl
  | n + 1 => by
    have ih := ld_o1_cong e n
    simp only [ld_o1]
    rw [ih, ld_nx_cong (s := s) (s2 := s2) (d := ld_o1 h s2 n) (d2 := ld_o1 h s2 n) (fun x hx => ⟨e x hx, rfl⟩)]
theorem ld_o1_n {h n : Nat} {s : Nat → Int32} (e : ld_nx s (ld_o1 h s n) h = none) : ld_o1 h s (n + 1) = ld_o1 h s n := by simp only [ld_o1, e]
theorem ld_o1_s {h n j : Nat} {s : Nat → Int32} (e : ld_nx s (ld_o1 h s n) h = some j) : ld_o1 h s (n + 1) = upd (ld_o1 h s n) j (ld_o1 h s n j + nI 1) := by simp only [ld_o1, e]
theorem ld_len8 {a : Nat} (h : a < 16) : ld_len a = 8 := by unfold ld_len; rw [if_pos h]
end
section
set_option maxHeartbeats 4000000 in
set_option maxRecDepth 100000 in
theorem c_X1_ahead_0 (l : Launch) (ad : Nat → Nat) (σ : ld_St) (h : Nat) (hh : σ 110 0 = nI h) (h8 : h ≤ 8) (k : Nat) (hk : k < h) : ld_Ctr l yX1_aheadByRemainder cX1_aheadByRemainder 4 (some .int) (0, 0) [.ref (ad 1), .int (nI k)] ad σ (ld_I (fun (r : Int32) (σ2 : ld_St) => r = nI (ld_ah (σ 6) h k) ∧ σ2 = σ)) := by
  refine ld_entry (by decide +kernel) (Nat.le_of_ble_eq_true rfl) (fun K O E => ?_)
  have O : ld_Ok l K ad cX1_aheadByRemainder 4 RX1 (ld_rm (0, 0)) := O
  show K σ [(0, .ref (ad 1)), (1, .int (nI k))] [] 0
  refine ld_iconst O (pc := 0) (v := nI 0) dX1_aheadByRemainder_0 (by decide) ?_
  refine ld_istore_n O (pc := 1) [(2, .int (nI 0)), (0, .ref (ad 1)), (1, .int (nI k))] dX1_aheadByRemainder_1 rfl (by decide) rfl ?_
  refine ld_iconst O (pc := 2) (v := nI 0) dX1_aheadByRemainder_2 (by decide) ?_
  refine ld_istore_n O (pc := 3) [(3, .int (nI 0)), (2, .int (nI 0)), (0, .ref (ad 1)), (1, .int (nI k))] dX1_aheadByRemainder_3 rfl (by decide) rfl ?_
  have L4 : ∀ (m_4 : Nat) (i : Nat) (m : Nat), h - i < m_4 → (i ≤ h) → (m = fb_ct (ld_ap (σ 6) k) i) → (m ≤ i) → K σ [(0, .ref (ad 1)), (1, .int (nI k)), (2, .int (nI m)), (3, .int (nI i))] [] 4 := by
    intro m_4
    induction m_4 with
    | zero => intro i m hm_; exact absurd hm_ (Nat.not_lt_zero _)
    | succ m_4 ih4 =>
      intro i m hm_4 hi hm hmi
      refine ld_iload_n O (pc := 4) 3 dX1_aheadByRemainder_4 rfl rfl ?_
      refine ld_aload_n O (pc := 5) 0 dX1_aheadByRemainder_5 rfl rfl ?_
      refine ld_g_now_houses O (pc := 6) (v := nI h) ld_w30 hh dX1_aheadByRemainder_6 ?_
      refine ld_icmp_ge O (pc := 9) ((i : Nat) : Int) ((h : Nat) : Int) (nI_toInt (by omega)) (nI_toInt (by omega)) 56 dX1_aheadByRemainder_9 (by decide) (fun c1 => ?_) (fun c1 => ?_)
      · refine ld_iload_n O (pc := 56) 2 dX1_aheadByRemainder_56 rfl rfl ?_
        refine ld_ireti E dX1_aheadByRemainder_57 ?_
        exact ⟨by rw [hm, show i = h by omega]; rfl, rfl⟩
      · refine ld_aload_n O (pc := 12) 0 dX1_aheadByRemainder_12 rfl rfl ?_
        refine ld_g_now_remainder O (pc := 13) ld_w40 dX1_aheadByRemainder_13 ?_
        refine ld_iload_n O (pc := 16) 3 dX1_aheadByRemainder_16 rfl rfl ?_
        refine ld_iald O (pc := 17) 6 i (v := σ 6 i) rfl (by decide) (show i < 8 by omega) rfl dX1_aheadByRemainder_17 ?_
        refine ld_aload_n O (pc := 18) 0 dX1_aheadByRemainder_18 rfl rfl ?_
        refine ld_g_now_remainder O (pc := 19) ld_w40 dX1_aheadByRemainder_19 ?_
        refine ld_iload_n O (pc := 22) 1 dX1_aheadByRemainder_22 rfl rfl ?_
        refine ld_iald O (pc := 23) 6 k (v := σ 6 k) rfl (by decide) (show k < 8 by omega) rfl dX1_aheadByRemainder_23 ?_
        refine ld_icmp_gt O (pc := 24) (σ 6 i).toInt (σ 6 k).toInt rfl rfl 47 dX1_aheadByRemainder_24 (by decide) (fun c2 => ?_) (fun c2 => ?_)
        · refine ld_iincN O (pc := 47) [(2, .int (nI (m + 1))), (0, .ref (ad 1)), (1, .int (nI k)), (3, .int (nI i))] 2 dX1_aheadByRemainder_47 rfl (by decide) rfl ?_
          refine ld_iincN O (pc := 50) [(3, .int (nI (i + 1))), (2, .int (nI (m + 1))), (0, .ref (ad 1)), (1, .int (nI k))] 3 dX1_aheadByRemainder_50 rfl (by decide) rfl ?_
          refine ld_goto O (pc := 53) 4 dX1_aheadByRemainder_53 (by decide) ?_
          refine ld_less O [2, 3, 1, 0] (lv2 := [(0, .ref (ad 1)), (1, .int (nI k)), (2, .int (nI (m + 1))), (3, .int (nI (i + 1)))]) rfl ?_
          exact ih4 (i + 1) (m + 1) (by omega) (by omega) (ld_ct_t hm (by unfold ld_ap; exact decide_eq_true (by omega))) (by omega)
        · refine ld_aload_n O (pc := 27) 0 dX1_aheadByRemainder_27 rfl rfl ?_
          refine ld_g_now_remainder O (pc := 28) ld_w40 dX1_aheadByRemainder_28 ?_
          refine ld_iload_n O (pc := 31) 3 dX1_aheadByRemainder_31 rfl rfl ?_
          refine ld_iald O (pc := 32) 6 i (v := σ 6 i) rfl (by decide) (show i < 8 by omega) rfl dX1_aheadByRemainder_32 ?_
          refine ld_aload_n O (pc := 33) 0 dX1_aheadByRemainder_33 rfl rfl ?_
          refine ld_g_now_remainder O (pc := 34) ld_w40 dX1_aheadByRemainder_34 ?_
          refine ld_iload_n O (pc := 37) 1 dX1_aheadByRemainder_37 rfl rfl ?_
          refine ld_iald O (pc := 38) 6 k (v := σ 6 k) rfl (by decide) (show k < 8 by omega) rfl dX1_aheadByRemainder_38 ?_
          refine ld_icmp_ne O (pc := 39) (σ 6 i).toInt (σ 6 k).toInt rfl rfl 50 dX1_aheadByRemainder_39 (by decide) (fun c3 => ?_) (fun c3 => ?_)
          · refine ld_iincN O (pc := 50) [(3, .int (nI (i + 1))), (0, .ref (ad 1)), (1, .int (nI k)), (2, .int (nI m))] 3 dX1_aheadByRemainder_50 rfl (by decide) rfl ?_
            refine ld_goto O (pc := 53) 4 dX1_aheadByRemainder_53 (by decide) ?_
            refine ld_less O [1, 2, 3, 0] (lv2 := [(0, .ref (ad 1)), (1, .int (nI k)), (2, .int (nI m)), (3, .int (nI (i + 1)))]) rfl ?_
            exact ih4 (i + 1) m (by omega) (by omega) (ld_ct_f hm (by unfold ld_ap; intro z; have z2 := of_decide_eq_true z; omega)) (by omega)
          · refine ld_iload_n O (pc := 42) 3 dX1_aheadByRemainder_42 rfl rfl ?_
            refine ld_iload_n O (pc := 43) 1 dX1_aheadByRemainder_43 rfl rfl ?_
            refine ld_icmp_ge O (pc := 44) ((i : Nat) : Int) ((k : Nat) : Int) (nI_toInt (by omega)) (nI_toInt (by omega)) 50 dX1_aheadByRemainder_44 (by decide) (fun c4 => ?_) (fun c4 => ?_)
            · refine ld_iincN O (pc := 50) [(3, .int (nI (i + 1))), (0, .ref (ad 1)), (1, .int (nI k)), (2, .int (nI m))] 3 dX1_aheadByRemainder_50 rfl (by decide) rfl ?_
              refine ld_goto O (pc := 53) 4 dX1_aheadByRemainder_53 (by decide) ?_
              refine ld_less O [1, 2, 3, 0] (lv2 := [(0, .ref (ad 1)), (1, .int (nI k)), (2, .int (nI m)), (3, .int (nI (i + 1)))]) rfl ?_
              exact ih4 (i + 1) m (by omega) (by omega) (ld_ct_f hm (by unfold ld_ap; intro z; have z2 := of_decide_eq_true z; omega)) (by omega)
            · refine ld_iincN O (pc := 47) [(2, .int (nI (m + 1))), (0, .ref (ad 1)), (1, .int (nI k)), (3, .int (nI i))] 2 dX1_aheadByRemainder_47 rfl (by decide) rfl ?_
              refine ld_iincN O (pc := 50) [(3, .int (nI (i + 1))), (2, .int (nI (m + 1))), (0, .ref (ad 1)), (1, .int (nI k))] 3 dX1_aheadByRemainder_50 rfl (by decide) rfl ?_
              refine ld_goto O (pc := 53) 4 dX1_aheadByRemainder_53 (by decide) ?_
              refine ld_less O [2, 3, 1, 0] (lv2 := [(0, .ref (ad 1)), (1, .int (nI k)), (2, .int (nI (m + 1))), (3, .int (nI (i + 1)))]) rfl ?_
              exact ih4 (i + 1) (m + 1) (by omega) (by omega) (ld_ct_t hm (by unfold ld_ap; exact decide_eq_true (by omega))) (by omega)
  refine ld_less O [2, 3, 1, 0] (lv2 := [(0, .ref (ad 1)), (1, .int (nI k)), (2, .int (nI 0)), (3, .int (nI 0))]) rfl ?_
  exact L4 _ 0 0 (Nat.lt_succ_self _) (Nat.zero_le _) rfl (Nat.zero_le _)
set_option maxHeartbeats 4000000 in
set_option maxRecDepth 100000 in
theorem c_X1_dealOut_0 (l : Launch) (ad : Nat → Nat) (σ : ld_St) (h : Nat) (hh : σ 110 0 = nI h) (h8 : h ≤ 8) (c : Int32) : ld_Ctr l yX1_dealOut cX1_dealOut 5 none (1, 40) [.ref (ad 1), .int c] ad σ (ld_V (fun (σ2 : ld_St) => ∃ f4 f5 f6 : Nat → Int32, σ2 = us (us (us σ 4 f4) 5 f5) 6 f6 ∧ ∀ x, x < h → f5 x = ld_dt h (σ 0) (σ 1) c x)) := by
  refine ld_entry (by decide +kernel) (Nat.le_of_ble_eq_true rfl) (fun K O E => ?_)
  have O : ld_Ok l K ad cX1_dealOut 5 RX1 (ld_rm (1, 40)) := O
  show K σ [(0, .ref (ad 1)), (1, .int c)] [] 0
  refine ld_iconst O (pc := 0) (v := nI 0) dX1_dealOut_0 (by decide) ?_
  refine ld_istore_n O (pc := 1) [(2, .int (nI 0)), (0, .ref (ad 1)), (1, .int c)] dX1_dealOut_1 rfl (by decide) rfl ?_
  refine ld_iconst O (pc := 2) (v := nI 0) dX1_dealOut_2 (by decide) ?_
  refine ld_istore_n O (pc := 3) [(3, .int (nI 0)), (2, .int (nI 0)), (0, .ref (ad 1)), (1, .int c)] dX1_dealOut_3 rfl (by decide) rfl ?_
  have L4 : ∀ (m_4 : Nat) (i : Nat) (f : Nat → Int32) (a : Int32), h - i < m_4 → (i ≤ h) → (∀ x, x < i → f x = ld_ss (σ 0) (σ 1) x) → (a = l_sum (ld_ss (σ 0) (σ 1)) i) → K (us σ 4 f) [(0, .ref (ad 1)), (1, .int c), (2, .int a), (3, .int (nI i))] [] 4 := by
    intro m_4
    induction m_4 with
    | zero => intro i f a hm_; exact absurd hm_ (Nat.not_lt_zero _)
    | succ m_4 ih4 =>
      intro i f a hm_4 hi hf ha
      refine ld_iload_n O (pc := 4) 3 dX1_dealOut_4 rfl rfl ?_
      refine ld_aload_n O (pc := 5) 0 dX1_dealOut_5 rfl rfl ?_
      refine ld_g_now_houses O (pc := 6) (v := nI h) ld_w30 hh dX1_dealOut_6 ?_
      refine ld_icmp_ge O (pc := 9) ((i : Nat) : Int) ((h : Nat) : Int) (nI_toInt (by omega)) (nI_toInt (by omega)) 38 dX1_dealOut_9 (by decide) (fun c1 => ?_) (fun c1 => ?_)
      · have ei : i = h := by omega
        rw [ei] at hf ha
        have L51 : ∀ (m_51 : Nat) (i2 : Nat) (d : Nat → Int32) (r : Nat → Int32) (w : Int32), h - i2 < m_51 → (i2 ≤ h) → (∀ x, x < i2 → d x = ld_q a c f x) → (∀ x, x < i2 → r x = ld_r a c f x) → (w = ld_lf a c f i2) → K (us (us (us σ 4 f) 5 d) 6 r) [(0, .ref (ad 1)), (1, .int c), (2, .int a), (3, .int w), (4, .int (nI i2))] [] 51 := by
          intro m_51
          induction m_51 with
          | zero => intro i2 d r w hm_; exact absurd hm_ (Nat.not_lt_zero _)
          | succ m_51 ih51 =>
            intro i2 d r w hm_51 hi2 hd hr hw
            refine ld_iload O (pc := 51) 4 dX1_dealOut_51 rfl ?_
            refine ld_aload_n O (pc := 53) 0 dX1_dealOut_53 rfl rfl ?_
            refine ld_g_now_houses O (pc := 54) (v := nI h) ld_w30 hh dX1_dealOut_54 ?_
            refine ld_icmp_ge O (pc := 57) ((i2 : Nat) : Int) ((h : Nat) : Int) (nI_toInt (by omega)) (nI_toInt (by omega)) 128 dX1_dealOut_57 (by decide) (fun c2 => ?_) (fun c2 => ?_)
            · have ei2 : i2 = h := by omega
              rw [ei2] at hd hr hw
              refine ld_iconst O (pc := 128) (v := nI 0) dX1_dealOut_128 (by decide) ?_
              refine ld_istore O (pc := 129) [(4, .int (nI 0)), (0, .ref (ad 1)), (1, .int c), (2, .int a), (3, .int w)] dX1_dealOut_129 (by decide) rfl ?_
              have L131 : ∀ (m_131 : Nat) (i3 : Nat) (d2 : Nat → Int32), h - i3 < m_131 → (i3 ≤ h) → (∀ x, x < i3 → d2 x = ld_dl h a c f x) → (∀ x, i3 ≤ x → x < h → d2 x = ld_q a c f x) → K (us (us (us σ 4 f) 5 d2) 6 r) [(0, .ref (ad 1)), (1, .int c), (2, .int a), (3, .int w), (4, .int (nI i3))] [] 131 := by
                intro m_131
                induction m_131 with
                | zero => intro i3 d2 hm_; exact absurd hm_ (Nat.not_lt_zero _)
                | succ m_131 ih131 =>
                  intro i3 d2 hm_131 hi3 hd2 hd3
                  refine ld_iload O (pc := 131) 4 dX1_dealOut_131 rfl ?_
                  refine ld_aload_n O (pc := 133) 0 dX1_dealOut_133 rfl rfl ?_
                  refine ld_g_now_houses O (pc := 134) (v := nI h) ld_w30 hh dX1_dealOut_134 ?_
                  refine ld_icmp_ge O (pc := 137) ((i3 : Nat) : Int) ((h : Nat) : Int) (nI_toInt (by omega)) (nI_toInt (by omega)) 167 dX1_dealOut_137 (by decide) (fun c3 => ?_) (fun c3 => ?_)
                  · refine ld_vret E dX1_dealOut_167 ?_
                    exact ⟨f, d2, r, rfl, fun x hx => (hd2 x (by omega)).trans (by unfold ld_dt; rw [← ha]; exact ld_dl_cong hf hx)⟩
                  · refine ld_aload_n O (pc := 140) 0 dX1_dealOut_140 rfl rfl ?_
                    refine ld_iload O (pc := 141) 4 dX1_dealOut_141 rfl ?_
                    refine ld_callVi O (pc := 143) (As := [.int (nI i3)]) (st := []) ld_recv1 (c_X1_ahead_0 l ad (us (us (us σ 4 f) 5 d2) 6 r) h hh h8 i3 (by omega)) ld_mw_X1_aheadByRemainder ld_w186 rfl rfl ⟨by decide, by decide⟩ (Nat.le_of_ble_eq_true rfl) dX1_dealOut_143 (fun r_u4 σ_u4 h_u4 => ?_)
                    obtain ⟨rfl, rfl⟩ := h_u4
                    show K (us (us (us σ 4 f) 5 d2) 6 r) [(0, .ref (ad 1)), (1, .int c), (2, .int a), (3, .int w), (4, .int (nI i3))] [.int (nI (ld_ah r h i3))] 146
                    refine ld_iload_n O (pc := 146) 3 dX1_dealOut_146 rfl rfl ?_
                    have hb_ := ld_ah_le r h i3
                    refine ld_icmp_ge O (pc := 147) ((ld_ah r h i3 : Nat) : Int) (w).toInt (nI_toInt (by omega)) rfl 161 dX1_dealOut_147 (by decide) (fun c5 => ?_) (fun c5 => ?_)
                    · refine ld_iincN O (pc := 161) [(4, .int (nI (i3 + 1))), (0, .ref (ad 1)), (1, .int c), (2, .int a), (3, .int w)] 4 dX1_dealOut_161 rfl (by decide) rfl ?_
                      refine ld_goto O (pc := 164) 131 dX1_dealOut_164 (by decide) ?_
                      refine ld_less O [1, 2, 3, 4, 0] (lv2 := [(0, .ref (ad 1)), (1, .int c), (2, .int a), (3, .int w), (4, .int (nI (i3 + 1)))]) rfl ?_
                      exact ih131 (i3 + 1) d2 (by omega) (by omega) (lt_s hd2 (by rw [hd3 i3 (Nat.le_refl _) (by omega)]; unfold ld_dl; rw [if_neg (by rw [← ld_ah_cong hr (by omega), ← hw]; omega)])) (fun x h1 h2 => hd3 x (by omega) h2)
                    · refine ld_aload_n O (pc := 150) 0 dX1_dealOut_150 rfl rfl ?_
                      refine ld_g_now_dealt O (pc := 151) ld_w39 dX1_dealOut_151 ?_
                      refine ld_iload O (pc := 154) 4 dX1_dealOut_154 rfl ?_
                      refine ld_dup2 O (pc := 156) dX1_dealOut_156 rfl rfl ?_
                      refine ld_iald O (pc := 157) 5 i3 (v := d2 i3) rfl (by decide) (show i3 < 8 by omega) rfl dX1_dealOut_157 ?_
                      refine ld_iconst O (pc := 158) (v := nI 1) dX1_dealOut_158 (by decide) ?_
                      refine ld_iadd O (pc := 159) dX1_dealOut_159 ?_
                      refine ld_iast O (pc := 160) 5 i3 rfl (by decide) (show i3 < 8 by omega) dX1_dealOut_160 ?_
                      refine ld_iincN O (pc := 161) [(4, .int (nI (i3 + 1))), (0, .ref (ad 1)), (1, .int c), (2, .int a), (3, .int w)] 4 dX1_dealOut_161 rfl (by decide) rfl ?_
                      refine ld_goto O (pc := 164) 131 dX1_dealOut_164 (by decide) ?_
                      refine ld_less O [1, 2, 3, 4, 0] (lv2 := [(0, .ref (ad 1)), (1, .int c), (2, .int a), (3, .int w), (4, .int (nI (i3 + 1)))]) rfl ?_
                      have hs6 : us (us (us (us σ 4 f) 5 d2) 6 r) 5 (upd (d2) i3 ((d2 i3) + (nI 1))) = us (us (us σ 4 f) 5 (upd (d2) i3 ((d2 i3) + (nI 1)))) 6 r := by
                        funext b_
                        by_cases h0_ : b_ = 4
                        · subst h0_; rfl
                        by_cases h1_ : b_ = 5
                        · subst h1_; rfl
                        by_cases h2_ : b_ = 6
                        · subst h2_; rfl
                        simp only [us, h0_, h1_, h2_, if_false]
                      refine ld_cv hs6 ?_
                      exact ih131 (i3 + 1) (upd (d2) i3 ((d2 i3) + (nI 1))) (by omega) (by omega) (ld_ext hd2 (by rw [hd3 i3 (Nat.le_refl _) (by omega)]; unfold ld_dl; rw [if_pos (by rw [← ld_ah_cong hr (by omega), ← hw]; omega)])) (ld_exk hd3)
              refine ld_less O [1, 2, 3, 4, 0] (lv2 := [(0, .ref (ad 1)), (1, .int c), (2, .int a), (3, .int w), (4, .int (nI 0))]) rfl ?_
              exact L131 _ 0 d (Nat.lt_succ_self _) (Nat.zero_le _) (fun x hx => absurd hx (Nat.not_lt_zero x)) (fun x _ h2 => hd x h2)
            · refine ld_aload_n O (pc := 60) 0 dX1_dealOut_60 rfl rfl ?_
              refine ld_g_now_dealt O (pc := 61) ld_w39 dX1_dealOut_61 ?_
              refine ld_iload O (pc := 64) 4 dX1_dealOut_64 rfl ?_
              refine ld_iload_n O (pc := 66) 2 dX1_dealOut_66 rfl rfl ?_
              refine ld_if_le O (pc := 67) (a).toInt rfl 84 dX1_dealOut_67 (by decide) (fun c7 => ?_) (fun c7 => ?_)
              · refine ld_iconst O (pc := 84) (v := nI 0) dX1_dealOut_84 (by decide) ?_
                refine ld_iast O (pc := 85) 5 i2 rfl (by decide) (show i2 < 8 by omega) dX1_dealOut_85 ?_
                refine ld_aload_n O (pc := 86) 0 dX1_dealOut_86 rfl rfl ?_
                refine ld_g_now_remainder O (pc := 87) ld_w40 dX1_dealOut_87 ?_
                refine ld_iload O (pc := 90) 4 dX1_dealOut_90 rfl ?_
                refine ld_iload_n O (pc := 92) 2 dX1_dealOut_92 rfl rfl ?_
                refine ld_if_le O (pc := 93) (a).toInt rfl 110 dX1_dealOut_93 (by decide) (fun c8 => ?_) (fun z => absurd c7 z)
                refine ld_iconst O (pc := 110) (v := nI 0) dX1_dealOut_110 (by decide) ?_
                refine ld_iast O (pc := 111) 6 i2 rfl (by decide) (show i2 < 8 by omega) dX1_dealOut_111 ?_
                refine ld_iload_n O (pc := 112) 3 dX1_dealOut_112 rfl rfl ?_
                refine ld_aload_n O (pc := 113) 0 dX1_dealOut_113 rfl rfl ?_
                refine ld_g_now_dealt O (pc := 114) ld_w39 dX1_dealOut_114 ?_
                refine ld_iload O (pc := 117) 4 dX1_dealOut_117 rfl ?_
                refine ld_iald O (pc := 119) 5 i2 (v := nI 0) rfl (by decide) (show i2 < 8 by omega) (by show (upd (d) i2 (nI 0)) i2 = _; exact pk_us) dX1_dealOut_119 ?_
                refine ld_isub O (pc := 120) dX1_dealOut_120 ?_
                refine ld_istore_n O (pc := 121) [(3, .int (w - (nI 0))), (0, .ref (ad 1)), (1, .int c), (2, .int a), (4, .int (nI i2))] dX1_dealOut_121 rfl (by decide) rfl ?_
                refine ld_iincN O (pc := 122) [(4, .int (nI (i2 + 1))), (3, .int (w - (nI 0))), (0, .ref (ad 1)), (1, .int c), (2, .int a)] 4 dX1_dealOut_122 rfl (by decide) rfl ?_
                refine ld_goto O (pc := 125) 51 dX1_dealOut_125 (by decide) ?_
                refine ld_less O [2, 3, 4, 1, 0] (lv2 := [(0, .ref (ad 1)), (1, .int c), (2, .int a), (3, .int (w - (nI 0))), (4, .int (nI (i2 + 1)))]) rfl ?_
                have hs9 : us (us (us (us (us σ 4 f) 5 d) 6 r) 5 (upd (d) i2 (nI 0))) 6 (upd (r) i2 (nI 0)) = us (us (us σ 4 f) 5 (upd (d) i2 (nI 0))) 6 (upd (r) i2 (nI 0)) := by
                  funext b_
                  by_cases h0_ : b_ = 4
                  · subst h0_; rfl
                  by_cases h1_ : b_ = 5
                  · subst h1_; rfl
                  by_cases h2_ : b_ = 6
                  · subst h2_; rfl
                  simp only [us, h0_, h1_, h2_, if_false]
                refine ld_cv hs9 ?_
                exact ih51 (i2 + 1) (upd (d) i2 (nI 0)) (upd (r) i2 (nI 0)) (w - (nI 0)) (by omega) (by omega) (ld_ext hd (by simp [ld_q, c1, c2, c7])) (ld_ext hr (by simp [ld_r, c1, c2, c7])) (by rw [hw]; simp [ld_lf, ld_q, c1, c2, c7])
              · refine ld_iload_n O (pc := 70) 1 dX1_dealOut_70 rfl rfl ?_
                refine ld_aload_n O (pc := 71) 0 dX1_dealOut_71 rfl rfl ?_
                refine ld_g_now_sour O (pc := 72) ld_w38 dX1_dealOut_72 ?_
                refine ld_iload O (pc := 75) 4 dX1_dealOut_75 rfl ?_
                refine ld_iald O (pc := 77) 4 i2 (v := f i2) rfl (by decide) (show i2 < 8 by omega) rfl dX1_dealOut_77 ?_
                refine ld_imul O (pc := 78) dX1_dealOut_78 ?_
                refine ld_iload_n O (pc := 79) 2 dX1_dealOut_79 rfl rfl ?_
                refine ld_idiv O (pc := 80) dX1_dealOut_80 (fun z => c7 (by rw [z]; decide)) ?_
                refine ld_goto O (pc := 81) 85 dX1_dealOut_81 (by decide) ?_
                refine ld_iast O (pc := 85) 5 i2 rfl (by decide) (show i2 < 8 by omega) dX1_dealOut_85 ?_
                refine ld_aload_n O (pc := 86) 0 dX1_dealOut_86 rfl rfl ?_
                refine ld_g_now_remainder O (pc := 87) ld_w40 dX1_dealOut_87 ?_
                refine ld_iload O (pc := 90) 4 dX1_dealOut_90 rfl ?_
                refine ld_iload_n O (pc := 92) 2 dX1_dealOut_92 rfl rfl ?_
                refine ld_if_le O (pc := 93) (a).toInt rfl 110 dX1_dealOut_93 (by decide) (fun z => absurd z c7) (fun c10 => ?_)
                refine ld_iload_n O (pc := 96) 1 dX1_dealOut_96 rfl rfl ?_
                refine ld_aload_n O (pc := 97) 0 dX1_dealOut_97 rfl rfl ?_
                refine ld_g_now_sour O (pc := 98) ld_w38 dX1_dealOut_98 ?_
                refine ld_iload O (pc := 101) 4 dX1_dealOut_101 rfl ?_
                refine ld_iald O (pc := 103) 4 i2 (v := f i2) rfl (by decide) (show i2 < 8 by omega) rfl dX1_dealOut_103 ?_
                refine ld_imul O (pc := 104) dX1_dealOut_104 ?_
                refine ld_iload_n O (pc := 105) 2 dX1_dealOut_105 rfl rfl ?_
                refine ld_irem O (pc := 106) dX1_dealOut_106 (fun z => c7 (by rw [z]; decide)) ?_
                refine ld_goto O (pc := 107) 111 dX1_dealOut_107 (by decide) ?_
                refine ld_iast O (pc := 111) 6 i2 rfl (by decide) (show i2 < 8 by omega) dX1_dealOut_111 ?_
                refine ld_iload_n O (pc := 112) 3 dX1_dealOut_112 rfl rfl ?_
                refine ld_aload_n O (pc := 113) 0 dX1_dealOut_113 rfl rfl ?_
                refine ld_g_now_dealt O (pc := 114) ld_w39 dX1_dealOut_114 ?_
                refine ld_iload O (pc := 117) 4 dX1_dealOut_117 rfl ?_
                refine ld_iald O (pc := 119) 5 i2 (v := (c * (f i2)) / a) rfl (by decide) (show i2 < 8 by omega) (by show (upd (d) i2 ((c * (f i2)) / a)) i2 = _; exact pk_us) dX1_dealOut_119 ?_
                refine ld_isub O (pc := 120) dX1_dealOut_120 ?_
                refine ld_istore_n O (pc := 121) [(3, .int (w - ((c * (f i2)) / a))), (0, .ref (ad 1)), (1, .int c), (2, .int a), (4, .int (nI i2))] dX1_dealOut_121 rfl (by decide) rfl ?_
                refine ld_iincN O (pc := 122) [(4, .int (nI (i2 + 1))), (3, .int (w - ((c * (f i2)) / a))), (0, .ref (ad 1)), (1, .int c), (2, .int a)] 4 dX1_dealOut_122 rfl (by decide) rfl ?_
                refine ld_goto O (pc := 125) 51 dX1_dealOut_125 (by decide) ?_
                refine ld_less O [2, 3, 4, 1, 0] (lv2 := [(0, .ref (ad 1)), (1, .int c), (2, .int a), (3, .int (w - ((c * (f i2)) / a))), (4, .int (nI (i2 + 1)))]) rfl ?_
                have hs11 : us (us (us (us (us σ 4 f) 5 d) 6 r) 5 (upd (d) i2 ((c * (f i2)) / a))) 6 (upd (r) i2 ((c * (f i2)) - (c * (f i2)) / a * a)) = us (us (us σ 4 f) 5 (upd (d) i2 ((c * (f i2)) / a))) 6 (upd (r) i2 ((c * (f i2)) - (c * (f i2)) / a * a)) := by
                  funext b_
                  by_cases h0_ : b_ = 4
                  · subst h0_; rfl
                  by_cases h1_ : b_ = 5
                  · subst h1_; rfl
                  by_cases h2_ : b_ = 6
                  · subst h2_; rfl
                  simp only [us, h0_, h1_, h2_, if_false]
                refine ld_cv hs11 ?_
                exact ih51 (i2 + 1) (upd (d) i2 ((c * (f i2)) / a)) (upd (r) i2 ((c * (f i2)) - (c * (f i2)) / a * a)) (w - ((c * (f i2)) / a)) (by omega) (by omega) (ld_ext hd (by simp [ld_q, c1, c2, c7])) (ld_ext hr (by simp [ld_r, c1, c2, c7])) (by rw [hw]; simp [ld_lf, ld_q, c1, c2, c7])
        refine ld_iload_n O (pc := 38) 2 dX1_dealOut_38 rfl rfl ?_
        refine ld_if_le O (pc := 39) (a).toInt rfl 46 dX1_dealOut_39 (by decide) (fun c12 => ?_) (fun c12 => ?_)
        · refine ld_iconst O (pc := 46) (v := nI 0) dX1_dealOut_46 (by decide) ?_
          refine ld_istore_n O (pc := 47) [(3, .int (nI 0)), (0, .ref (ad 1)), (1, .int c), (2, .int a)] dX1_dealOut_47 rfl (by decide) rfl ?_
          refine ld_iconst O (pc := 48) (v := nI 0) dX1_dealOut_48 (by decide) ?_
          refine ld_istore O (pc := 49) [(4, .int (nI 0)), (3, .int (nI 0)), (0, .ref (ad 1)), (1, .int c), (2, .int a)] dX1_dealOut_49 (by decide) rfl ?_
          refine ld_less O [2, 3, 4, 1, 0] (lv2 := [(0, .ref (ad 1)), (1, .int c), (2, .int a), (3, .int (nI 0)), (4, .int (nI 0))]) rfl ?_
          have hs13 : us σ 4 f = us (us (us σ 4 f) 5 (σ 5)) 6 (σ 6) := by
            funext b_
            by_cases h0_ : b_ = 4
            · subst h0_; rfl
            by_cases h1_ : b_ = 5
            · subst h1_; rfl
            by_cases h2_ : b_ = 6
            · subst h2_; rfl
            simp only [us, h0_, h1_, h2_, if_false]
          refine ld_cv hs13 ?_
          exact L51 _ 0 (σ 5) (σ 6) (nI 0) (Nat.lt_succ_self _) (Nat.zero_le _) (fun x hx => absurd hx (Nat.not_lt_zero x)) (fun x hx => absurd hx (Nat.not_lt_zero x)) (by simp [ld_lf, c1, c12])
        · refine ld_iload_n O (pc := 42) 1 dX1_dealOut_42 rfl rfl ?_
          refine ld_goto O (pc := 43) 47 dX1_dealOut_43 (by decide) ?_
          refine ld_istore_n O (pc := 47) [(3, .int c), (0, .ref (ad 1)), (1, .int c), (2, .int a)] dX1_dealOut_47 rfl (by decide) rfl ?_
          refine ld_iconst O (pc := 48) (v := nI 0) dX1_dealOut_48 (by decide) ?_
          refine ld_istore O (pc := 49) [(4, .int (nI 0)), (3, .int c), (0, .ref (ad 1)), (1, .int c), (2, .int a)] dX1_dealOut_49 (by decide) rfl ?_
          refine ld_less O [2, 3, 4, 1, 0] (lv2 := [(0, .ref (ad 1)), (1, .int c), (2, .int a), (3, .int c), (4, .int (nI 0))]) rfl ?_
          have hs14 : us σ 4 f = us (us (us σ 4 f) 5 (σ 5)) 6 (σ 6) := by
            funext b_
            by_cases h0_ : b_ = 4
            · subst h0_; rfl
            by_cases h1_ : b_ = 5
            · subst h1_; rfl
            by_cases h2_ : b_ = 6
            · subst h2_; rfl
            simp only [us, h0_, h1_, h2_, if_false]
          refine ld_cv hs14 ?_
          exact L51 _ 0 (σ 5) (σ 6) c (Nat.lt_succ_self _) (Nat.zero_le _) (fun x hx => absurd hx (Nat.not_lt_zero x)) (fun x hx => absurd hx (Nat.not_lt_zero x)) (by simp [ld_lf, c1, c12])
      · refine ld_aload_n O (pc := 12) 0 dX1_dealOut_12 rfl rfl ?_
        refine ld_g_now_sour O (pc := 13) ld_w38 dX1_dealOut_13 ?_
        refine ld_iload_n O (pc := 16) 3 dX1_dealOut_16 rfl rfl ?_
        refine ld_aload_n O (pc := 17) 0 dX1_dealOut_17 rfl rfl ?_
        refine ld_iload_n O (pc := 18) 3 dX1_dealOut_18 rfl rfl ?_
        refine ld_callVi O (pc := 19) (As := [.int (nI i)]) (st := [.int (nI i), .ref (ad (9 + 4))]) ld_recv1 (c_X1_sourOf_0 l ad (us σ 4 f) i (by omega)) ld_mw_X1_sourOf ld_w185 rfl rfl ⟨by decide, by decide⟩ (Nat.le_of_ble_eq_true rfl) dX1_dealOut_19 (fun r_u15 σ_u15 h_u15 => ?_)
        obtain ⟨rfl, rfl⟩ := h_u15
        show K (us σ 4 f) [(0, .ref (ad 1)), (1, .int c), (2, .int a), (3, .int (nI i))] [.int (ld_sr (σ 0 i) (σ 1 i)), .int (nI i), .ref (ad (9 + 4))] 22
        refine ld_iast O (pc := 22) 4 i rfl (by decide) (show i < 8 by omega) dX1_dealOut_22 ?_
        refine ld_iload_n O (pc := 23) 2 dX1_dealOut_23 rfl rfl ?_
        refine ld_aload_n O (pc := 24) 0 dX1_dealOut_24 rfl rfl ?_
        refine ld_g_now_sour O (pc := 25) ld_w38 dX1_dealOut_25 ?_
        refine ld_iload_n O (pc := 28) 3 dX1_dealOut_28 rfl rfl ?_
        refine ld_iald O (pc := 29) 4 i (v := ld_sr (σ 0 i) (σ 1 i)) rfl (by decide) (show i < 8 by omega) (by show (upd (f) i (ld_sr (σ 0 i) (σ 1 i))) i = _; exact pk_us) dX1_dealOut_29 ?_
        refine ld_iadd O (pc := 30) dX1_dealOut_30 ?_
        refine ld_istore_n O (pc := 31) [(2, .int (a + (ld_sr (σ 0 i) (σ 1 i)))), (0, .ref (ad 1)), (1, .int c), (3, .int (nI i))] dX1_dealOut_31 rfl (by decide) rfl ?_
        refine ld_iincN O (pc := 32) [(3, .int (nI (i + 1))), (2, .int (a + (ld_sr (σ 0 i) (σ 1 i)))), (0, .ref (ad 1)), (1, .int c)] 3 dX1_dealOut_32 rfl (by decide) rfl ?_
        refine ld_goto O (pc := 35) 4 dX1_dealOut_35 (by decide) ?_
        refine ld_less O [2, 3, 1, 0] (lv2 := [(0, .ref (ad 1)), (1, .int c), (2, .int (a + (ld_sr (σ 0 i) (σ 1 i)))), (3, .int (nI (i + 1)))]) rfl ?_
        have hs16 : us (us σ 4 f) 4 (upd (f) i (ld_sr (σ 0 i) (σ 1 i))) = us σ 4 (upd (f) i (ld_sr (σ 0 i) (σ 1 i))) := by
          funext b_
          by_cases h0_ : b_ = 4
          · subst h0_; rfl
          simp only [us, h0_, if_false]
        refine ld_cv hs16 ?_
        exact ih4 (i + 1) (upd (f) i (ld_sr (σ 0 i) (σ 1 i))) (a + (ld_sr (σ 0 i) (σ 1 i))) (by omega) (by omega) (ld_ext hf rfl) (by rw [ha]; rfl)
  refine ld_less O [2, 3, 1, 0] (lv2 := [(0, .ref (ad 1)), (1, .int c), (2, .int (nI 0)), (3, .int (nI 0))]) rfl ?_
  have hs17 : σ = us σ 4 (σ 4) := by
    funext b_
    by_cases h0_ : b_ = 4
    · subst h0_; rfl
    simp only [us, h0_, if_false]
  refine ld_cv hs17 ?_
  exact L4 _ 0 (σ 4) (nI 0) (Nat.lt_succ_self _) (Nat.zero_le _) (fun x hx => absurd hx (Nat.not_lt_zero x)) rfl
set_option maxHeartbeats 4000000 in
set_option maxRecDepth 100000 in
theorem c_X1_ahead_1 (l : Launch) (ad : Nat → Nat) (σ : ld_St) (h : Nat) (hh : σ 120 0 = nI h) (h8 : h ≤ 8) (k : Nat) (hk : k < h) : ld_Ctr l yX1_aheadByRemainder cX1_aheadByRemainder 4 (some .int) (0, 0) [.ref (ad 2), .int (nI k)] ad σ (ld_I (fun (r : Int32) (σ2 : ld_St) => r = nI (ld_ah (σ 13) h k) ∧ σ2 = σ)) := by
  refine ld_entry (by decide +kernel) (Nat.le_of_ble_eq_true rfl) (fun K O E => ?_)
  have O : ld_Ok l K ad cX1_aheadByRemainder 4 RX1 (ld_rm (0, 0)) := O
  show K σ [(0, .ref (ad 2)), (1, .int (nI k))] [] 0
  refine ld_iconst O (pc := 0) (v := nI 0) dX1_aheadByRemainder_0 (by decide) ?_
  refine ld_istore_n O (pc := 1) [(2, .int (nI 0)), (0, .ref (ad 2)), (1, .int (nI k))] dX1_aheadByRemainder_1 rfl (by decide) rfl ?_
  refine ld_iconst O (pc := 2) (v := nI 0) dX1_aheadByRemainder_2 (by decide) ?_
  refine ld_istore_n O (pc := 3) [(3, .int (nI 0)), (2, .int (nI 0)), (0, .ref (ad 2)), (1, .int (nI k))] dX1_aheadByRemainder_3 rfl (by decide) rfl ?_
  have L4 : ∀ (m_4 : Nat) (i : Nat) (m : Nat), h - i < m_4 → (i ≤ h) → (m = fb_ct (ld_ap (σ 13) k) i) → (m ≤ i) → K σ [(0, .ref (ad 2)), (1, .int (nI k)), (2, .int (nI m)), (3, .int (nI i))] [] 4 := by
    intro m_4
    induction m_4 with
    | zero => intro i m hm_; exact absurd hm_ (Nat.not_lt_zero _)
    | succ m_4 ih4 =>
      intro i m hm_4 hi hm hmi
      refine ld_iload_n O (pc := 4) 3 dX1_aheadByRemainder_4 rfl rfl ?_
      refine ld_aload_n O (pc := 5) 0 dX1_aheadByRemainder_5 rfl rfl ?_
      refine ld_g_trial_houses O (pc := 6) (v := nI h) ld_w30 hh dX1_aheadByRemainder_6 ?_
      refine ld_icmp_ge O (pc := 9) ((i : Nat) : Int) ((h : Nat) : Int) (nI_toInt (by omega)) (nI_toInt (by omega)) 56 dX1_aheadByRemainder_9 (by decide) (fun c1 => ?_) (fun c1 => ?_)
      · refine ld_iload_n O (pc := 56) 2 dX1_aheadByRemainder_56 rfl rfl ?_
        refine ld_ireti E dX1_aheadByRemainder_57 ?_
        exact ⟨by rw [hm, show i = h by omega]; rfl, rfl⟩
      · refine ld_aload_n O (pc := 12) 0 dX1_aheadByRemainder_12 rfl rfl ?_
        refine ld_g_trial_remainder O (pc := 13) ld_w40 dX1_aheadByRemainder_13 ?_
        refine ld_iload_n O (pc := 16) 3 dX1_aheadByRemainder_16 rfl rfl ?_
        refine ld_iald O (pc := 17) 13 i (v := σ 13 i) rfl (by decide) (show i < 8 by omega) rfl dX1_aheadByRemainder_17 ?_
        refine ld_aload_n O (pc := 18) 0 dX1_aheadByRemainder_18 rfl rfl ?_
        refine ld_g_trial_remainder O (pc := 19) ld_w40 dX1_aheadByRemainder_19 ?_
        refine ld_iload_n O (pc := 22) 1 dX1_aheadByRemainder_22 rfl rfl ?_
        refine ld_iald O (pc := 23) 13 k (v := σ 13 k) rfl (by decide) (show k < 8 by omega) rfl dX1_aheadByRemainder_23 ?_
        refine ld_icmp_gt O (pc := 24) (σ 13 i).toInt (σ 13 k).toInt rfl rfl 47 dX1_aheadByRemainder_24 (by decide) (fun c2 => ?_) (fun c2 => ?_)
        · refine ld_iincN O (pc := 47) [(2, .int (nI (m + 1))), (0, .ref (ad 2)), (1, .int (nI k)), (3, .int (nI i))] 2 dX1_aheadByRemainder_47 rfl (by decide) rfl ?_
          refine ld_iincN O (pc := 50) [(3, .int (nI (i + 1))), (2, .int (nI (m + 1))), (0, .ref (ad 2)), (1, .int (nI k))] 3 dX1_aheadByRemainder_50 rfl (by decide) rfl ?_
          refine ld_goto O (pc := 53) 4 dX1_aheadByRemainder_53 (by decide) ?_
          refine ld_less O [2, 3, 1, 0] (lv2 := [(0, .ref (ad 2)), (1, .int (nI k)), (2, .int (nI (m + 1))), (3, .int (nI (i + 1)))]) rfl ?_
          exact ih4 (i + 1) (m + 1) (by omega) (by omega) (ld_ct_t hm (by unfold ld_ap; exact decide_eq_true (by omega))) (by omega)
        · refine ld_aload_n O (pc := 27) 0 dX1_aheadByRemainder_27 rfl rfl ?_
          refine ld_g_trial_remainder O (pc := 28) ld_w40 dX1_aheadByRemainder_28 ?_
          refine ld_iload_n O (pc := 31) 3 dX1_aheadByRemainder_31 rfl rfl ?_
          refine ld_iald O (pc := 32) 13 i (v := σ 13 i) rfl (by decide) (show i < 8 by omega) rfl dX1_aheadByRemainder_32 ?_
          refine ld_aload_n O (pc := 33) 0 dX1_aheadByRemainder_33 rfl rfl ?_
          refine ld_g_trial_remainder O (pc := 34) ld_w40 dX1_aheadByRemainder_34 ?_
          refine ld_iload_n O (pc := 37) 1 dX1_aheadByRemainder_37 rfl rfl ?_
          refine ld_iald O (pc := 38) 13 k (v := σ 13 k) rfl (by decide) (show k < 8 by omega) rfl dX1_aheadByRemainder_38 ?_
          refine ld_icmp_ne O (pc := 39) (σ 13 i).toInt (σ 13 k).toInt rfl rfl 50 dX1_aheadByRemainder_39 (by decide) (fun c3 => ?_) (fun c3 => ?_)
          · refine ld_iincN O (pc := 50) [(3, .int (nI (i + 1))), (0, .ref (ad 2)), (1, .int (nI k)), (2, .int (nI m))] 3 dX1_aheadByRemainder_50 rfl (by decide) rfl ?_
            refine ld_goto O (pc := 53) 4 dX1_aheadByRemainder_53 (by decide) ?_
            refine ld_less O [1, 2, 3, 0] (lv2 := [(0, .ref (ad 2)), (1, .int (nI k)), (2, .int (nI m)), (3, .int (nI (i + 1)))]) rfl ?_
            exact ih4 (i + 1) m (by omega) (by omega) (ld_ct_f hm (by unfold ld_ap; intro z; have z2 := of_decide_eq_true z; omega)) (by omega)
          · refine ld_iload_n O (pc := 42) 3 dX1_aheadByRemainder_42 rfl rfl ?_
            refine ld_iload_n O (pc := 43) 1 dX1_aheadByRemainder_43 rfl rfl ?_
            refine ld_icmp_ge O (pc := 44) ((i : Nat) : Int) ((k : Nat) : Int) (nI_toInt (by omega)) (nI_toInt (by omega)) 50 dX1_aheadByRemainder_44 (by decide) (fun c4 => ?_) (fun c4 => ?_)
            · refine ld_iincN O (pc := 50) [(3, .int (nI (i + 1))), (0, .ref (ad 2)), (1, .int (nI k)), (2, .int (nI m))] 3 dX1_aheadByRemainder_50 rfl (by decide) rfl ?_
              refine ld_goto O (pc := 53) 4 dX1_aheadByRemainder_53 (by decide) ?_
              refine ld_less O [1, 2, 3, 0] (lv2 := [(0, .ref (ad 2)), (1, .int (nI k)), (2, .int (nI m)), (3, .int (nI (i + 1)))]) rfl ?_
              exact ih4 (i + 1) m (by omega) (by omega) (ld_ct_f hm (by unfold ld_ap; intro z; have z2 := of_decide_eq_true z; omega)) (by omega)
            · refine ld_iincN O (pc := 47) [(2, .int (nI (m + 1))), (0, .ref (ad 2)), (1, .int (nI k)), (3, .int (nI i))] 2 dX1_aheadByRemainder_47 rfl (by decide) rfl ?_
              refine ld_iincN O (pc := 50) [(3, .int (nI (i + 1))), (2, .int (nI (m + 1))), (0, .ref (ad 2)), (1, .int (nI k))] 3 dX1_aheadByRemainder_50 rfl (by decide) rfl ?_
              refine ld_goto O (pc := 53) 4 dX1_aheadByRemainder_53 (by decide) ?_
              refine ld_less O [2, 3, 1, 0] (lv2 := [(0, .ref (ad 2)), (1, .int (nI k)), (2, .int (nI (m + 1))), (3, .int (nI (i + 1)))]) rfl ?_
              exact ih4 (i + 1) (m + 1) (by omega) (by omega) (ld_ct_t hm (by unfold ld_ap; exact decide_eq_true (by omega))) (by omega)
  refine ld_less O [2, 3, 1, 0] (lv2 := [(0, .ref (ad 2)), (1, .int (nI k)), (2, .int (nI 0)), (3, .int (nI 0))]) rfl ?_
  exact L4 _ 0 0 (Nat.lt_succ_self _) (Nat.zero_le _) rfl (Nat.zero_le _)
set_option maxHeartbeats 4000000 in
set_option maxRecDepth 100000 in
theorem c_X1_dealOut_1 (l : Launch) (ad : Nat → Nat) (σ : ld_St) (h : Nat) (hh : σ 120 0 = nI h) (h8 : h ≤ 8) (c : Int32) : ld_Ctr l yX1_dealOut cX1_dealOut 5 none (1, 40) [.ref (ad 2), .int c] ad σ (ld_V (fun (σ2 : ld_St) => ∃ f4 f5 f6 : Nat → Int32, σ2 = us (us (us σ 11 f4) 12 f5) 13 f6 ∧ ∀ x, x < h → f5 x = ld_dt h (σ 7) (σ 8) c x)) := by
  refine ld_entry (by decide +kernel) (Nat.le_of_ble_eq_true rfl) (fun K O E => ?_)
  have O : ld_Ok l K ad cX1_dealOut 5 RX1 (ld_rm (1, 40)) := O
  show K σ [(0, .ref (ad 2)), (1, .int c)] [] 0
  refine ld_iconst O (pc := 0) (v := nI 0) dX1_dealOut_0 (by decide) ?_
  refine ld_istore_n O (pc := 1) [(2, .int (nI 0)), (0, .ref (ad 2)), (1, .int c)] dX1_dealOut_1 rfl (by decide) rfl ?_
  refine ld_iconst O (pc := 2) (v := nI 0) dX1_dealOut_2 (by decide) ?_
  refine ld_istore_n O (pc := 3) [(3, .int (nI 0)), (2, .int (nI 0)), (0, .ref (ad 2)), (1, .int c)] dX1_dealOut_3 rfl (by decide) rfl ?_
  have L4 : ∀ (m_4 : Nat) (i : Nat) (f : Nat → Int32) (a : Int32), h - i < m_4 → (i ≤ h) → (∀ x, x < i → f x = ld_ss (σ 7) (σ 8) x) → (a = l_sum (ld_ss (σ 7) (σ 8)) i) → K (us σ 11 f) [(0, .ref (ad 2)), (1, .int c), (2, .int a), (3, .int (nI i))] [] 4 := by
    intro m_4
    induction m_4 with
    | zero => intro i f a hm_; exact absurd hm_ (Nat.not_lt_zero _)
    | succ m_4 ih4 =>
      intro i f a hm_4 hi hf ha
      refine ld_iload_n O (pc := 4) 3 dX1_dealOut_4 rfl rfl ?_
      refine ld_aload_n O (pc := 5) 0 dX1_dealOut_5 rfl rfl ?_
      refine ld_g_trial_houses O (pc := 6) (v := nI h) ld_w30 hh dX1_dealOut_6 ?_
      refine ld_icmp_ge O (pc := 9) ((i : Nat) : Int) ((h : Nat) : Int) (nI_toInt (by omega)) (nI_toInt (by omega)) 38 dX1_dealOut_9 (by decide) (fun c1 => ?_) (fun c1 => ?_)
      · have ei : i = h := by omega
        rw [ei] at hf ha
        have L51 : ∀ (m_51 : Nat) (i2 : Nat) (d : Nat → Int32) (r : Nat → Int32) (w : Int32), h - i2 < m_51 → (i2 ≤ h) → (∀ x, x < i2 → d x = ld_q a c f x) → (∀ x, x < i2 → r x = ld_r a c f x) → (w = ld_lf a c f i2) → K (us (us (us σ 11 f) 12 d) 13 r) [(0, .ref (ad 2)), (1, .int c), (2, .int a), (3, .int w), (4, .int (nI i2))] [] 51 := by
          intro m_51
          induction m_51 with
          | zero => intro i2 d r w hm_; exact absurd hm_ (Nat.not_lt_zero _)
          | succ m_51 ih51 =>
            intro i2 d r w hm_51 hi2 hd hr hw
            refine ld_iload O (pc := 51) 4 dX1_dealOut_51 rfl ?_
            refine ld_aload_n O (pc := 53) 0 dX1_dealOut_53 rfl rfl ?_
            refine ld_g_trial_houses O (pc := 54) (v := nI h) ld_w30 hh dX1_dealOut_54 ?_
            refine ld_icmp_ge O (pc := 57) ((i2 : Nat) : Int) ((h : Nat) : Int) (nI_toInt (by omega)) (nI_toInt (by omega)) 128 dX1_dealOut_57 (by decide) (fun c2 => ?_) (fun c2 => ?_)
            · have ei2 : i2 = h := by omega
              rw [ei2] at hd hr hw
              refine ld_iconst O (pc := 128) (v := nI 0) dX1_dealOut_128 (by decide) ?_
              refine ld_istore O (pc := 129) [(4, .int (nI 0)), (0, .ref (ad 2)), (1, .int c), (2, .int a), (3, .int w)] dX1_dealOut_129 (by decide) rfl ?_
              have L131 : ∀ (m_131 : Nat) (i3 : Nat) (d2 : Nat → Int32), h - i3 < m_131 → (i3 ≤ h) → (∀ x, x < i3 → d2 x = ld_dl h a c f x) → (∀ x, i3 ≤ x → x < h → d2 x = ld_q a c f x) → K (us (us (us σ 11 f) 12 d2) 13 r) [(0, .ref (ad 2)), (1, .int c), (2, .int a), (3, .int w), (4, .int (nI i3))] [] 131 := by
                intro m_131
                induction m_131 with
                | zero => intro i3 d2 hm_; exact absurd hm_ (Nat.not_lt_zero _)
                | succ m_131 ih131 =>
                  intro i3 d2 hm_131 hi3 hd2 hd3
                  refine ld_iload O (pc := 131) 4 dX1_dealOut_131 rfl ?_
                  refine ld_aload_n O (pc := 133) 0 dX1_dealOut_133 rfl rfl ?_
                  refine ld_g_trial_houses O (pc := 134) (v := nI h) ld_w30 hh dX1_dealOut_134 ?_
                  refine ld_icmp_ge O (pc := 137) ((i3 : Nat) : Int) ((h : Nat) : Int) (nI_toInt (by omega)) (nI_toInt (by omega)) 167 dX1_dealOut_137 (by decide) (fun c3 => ?_) (fun c3 => ?_)
                  · refine ld_vret E dX1_dealOut_167 ?_
                    exact ⟨f, d2, r, rfl, fun x hx => (hd2 x (by omega)).trans (by unfold ld_dt; rw [← ha]; exact ld_dl_cong hf hx)⟩
                  · refine ld_aload_n O (pc := 140) 0 dX1_dealOut_140 rfl rfl ?_
                    refine ld_iload O (pc := 141) 4 dX1_dealOut_141 rfl ?_
                    refine ld_callVi O (pc := 143) (As := [.int (nI i3)]) (st := []) ld_recv2 (c_X1_ahead_1 l ad (us (us (us σ 11 f) 12 d2) 13 r) h hh h8 i3 (by omega)) ld_mw_X1_aheadByRemainder ld_w186 rfl rfl ⟨by decide, by decide⟩ (Nat.le_of_ble_eq_true rfl) dX1_dealOut_143 (fun r_u4 σ_u4 h_u4 => ?_)
                    obtain ⟨rfl, rfl⟩ := h_u4
                    show K (us (us (us σ 11 f) 12 d2) 13 r) [(0, .ref (ad 2)), (1, .int c), (2, .int a), (3, .int w), (4, .int (nI i3))] [.int (nI (ld_ah r h i3))] 146
                    refine ld_iload_n O (pc := 146) 3 dX1_dealOut_146 rfl rfl ?_
                    have hb_ := ld_ah_le r h i3
                    refine ld_icmp_ge O (pc := 147) ((ld_ah r h i3 : Nat) : Int) (w).toInt (nI_toInt (by omega)) rfl 161 dX1_dealOut_147 (by decide) (fun c5 => ?_) (fun c5 => ?_)
                    · refine ld_iincN O (pc := 161) [(4, .int (nI (i3 + 1))), (0, .ref (ad 2)), (1, .int c), (2, .int a), (3, .int w)] 4 dX1_dealOut_161 rfl (by decide) rfl ?_
                      refine ld_goto O (pc := 164) 131 dX1_dealOut_164 (by decide) ?_
                      refine ld_less O [1, 2, 3, 4, 0] (lv2 := [(0, .ref (ad 2)), (1, .int c), (2, .int a), (3, .int w), (4, .int (nI (i3 + 1)))]) rfl ?_
                      exact ih131 (i3 + 1) d2 (by omega) (by omega) (lt_s hd2 (by rw [hd3 i3 (Nat.le_refl _) (by omega)]; unfold ld_dl; rw [if_neg (by rw [← ld_ah_cong hr (by omega), ← hw]; omega)])) (fun x h1 h2 => hd3 x (by omega) h2)
                    · refine ld_aload_n O (pc := 150) 0 dX1_dealOut_150 rfl rfl ?_
                      refine ld_g_trial_dealt O (pc := 151) ld_w39 dX1_dealOut_151 ?_
                      refine ld_iload O (pc := 154) 4 dX1_dealOut_154 rfl ?_
                      refine ld_dup2 O (pc := 156) dX1_dealOut_156 rfl rfl ?_
                      refine ld_iald O (pc := 157) 12 i3 (v := d2 i3) rfl (by decide) (show i3 < 8 by omega) rfl dX1_dealOut_157 ?_
                      refine ld_iconst O (pc := 158) (v := nI 1) dX1_dealOut_158 (by decide) ?_
                      refine ld_iadd O (pc := 159) dX1_dealOut_159 ?_
                      refine ld_iast O (pc := 160) 12 i3 rfl (by decide) (show i3 < 8 by omega) dX1_dealOut_160 ?_
                      refine ld_iincN O (pc := 161) [(4, .int (nI (i3 + 1))), (0, .ref (ad 2)), (1, .int c), (2, .int a), (3, .int w)] 4 dX1_dealOut_161 rfl (by decide) rfl ?_
                      refine ld_goto O (pc := 164) 131 dX1_dealOut_164 (by decide) ?_
                      refine ld_less O [1, 2, 3, 4, 0] (lv2 := [(0, .ref (ad 2)), (1, .int c), (2, .int a), (3, .int w), (4, .int (nI (i3 + 1)))]) rfl ?_
                      have hs6 : us (us (us (us σ 11 f) 12 d2) 13 r) 12 (upd (d2) i3 ((d2 i3) + (nI 1))) = us (us (us σ 11 f) 12 (upd (d2) i3 ((d2 i3) + (nI 1)))) 13 r := by
                        funext b_
                        by_cases h0_ : b_ = 11
                        · subst h0_; rfl
                        by_cases h1_ : b_ = 12
                        · subst h1_; rfl
                        by_cases h2_ : b_ = 13
                        · subst h2_; rfl
                        simp only [us, h0_, h1_, h2_, if_false]
                      refine ld_cv hs6 ?_
                      exact ih131 (i3 + 1) (upd (d2) i3 ((d2 i3) + (nI 1))) (by omega) (by omega) (ld_ext hd2 (by rw [hd3 i3 (Nat.le_refl _) (by omega)]; unfold ld_dl; rw [if_pos (by rw [← ld_ah_cong hr (by omega), ← hw]; omega)])) (ld_exk hd3)
              refine ld_less O [1, 2, 3, 4, 0] (lv2 := [(0, .ref (ad 2)), (1, .int c), (2, .int a), (3, .int w), (4, .int (nI 0))]) rfl ?_
              exact L131 _ 0 d (Nat.lt_succ_self _) (Nat.zero_le _) (fun x hx => absurd hx (Nat.not_lt_zero x)) (fun x _ h2 => hd x h2)
            · refine ld_aload_n O (pc := 60) 0 dX1_dealOut_60 rfl rfl ?_
              refine ld_g_trial_dealt O (pc := 61) ld_w39 dX1_dealOut_61 ?_
              refine ld_iload O (pc := 64) 4 dX1_dealOut_64 rfl ?_
              refine ld_iload_n O (pc := 66) 2 dX1_dealOut_66 rfl rfl ?_
              refine ld_if_le O (pc := 67) (a).toInt rfl 84 dX1_dealOut_67 (by decide) (fun c7 => ?_) (fun c7 => ?_)
              · refine ld_iconst O (pc := 84) (v := nI 0) dX1_dealOut_84 (by decide) ?_
                refine ld_iast O (pc := 85) 12 i2 rfl (by decide) (show i2 < 8 by omega) dX1_dealOut_85 ?_
                refine ld_aload_n O (pc := 86) 0 dX1_dealOut_86 rfl rfl ?_
                refine ld_g_trial_remainder O (pc := 87) ld_w40 dX1_dealOut_87 ?_
                refine ld_iload O (pc := 90) 4 dX1_dealOut_90 rfl ?_
                refine ld_iload_n O (pc := 92) 2 dX1_dealOut_92 rfl rfl ?_
                refine ld_if_le O (pc := 93) (a).toInt rfl 110 dX1_dealOut_93 (by decide) (fun c8 => ?_) (fun z => absurd c7 z)
                refine ld_iconst O (pc := 110) (v := nI 0) dX1_dealOut_110 (by decide) ?_
                refine ld_iast O (pc := 111) 13 i2 rfl (by decide) (show i2 < 8 by omega) dX1_dealOut_111 ?_
                refine ld_iload_n O (pc := 112) 3 dX1_dealOut_112 rfl rfl ?_
                refine ld_aload_n O (pc := 113) 0 dX1_dealOut_113 rfl rfl ?_
                refine ld_g_trial_dealt O (pc := 114) ld_w39 dX1_dealOut_114 ?_
                refine ld_iload O (pc := 117) 4 dX1_dealOut_117 rfl ?_
                refine ld_iald O (pc := 119) 12 i2 (v := nI 0) rfl (by decide) (show i2 < 8 by omega) (by show (upd (d) i2 (nI 0)) i2 = _; exact pk_us) dX1_dealOut_119 ?_
                refine ld_isub O (pc := 120) dX1_dealOut_120 ?_
                refine ld_istore_n O (pc := 121) [(3, .int (w - (nI 0))), (0, .ref (ad 2)), (1, .int c), (2, .int a), (4, .int (nI i2))] dX1_dealOut_121 rfl (by decide) rfl ?_
                refine ld_iincN O (pc := 122) [(4, .int (nI (i2 + 1))), (3, .int (w - (nI 0))), (0, .ref (ad 2)), (1, .int c), (2, .int a)] 4 dX1_dealOut_122 rfl (by decide) rfl ?_
                refine ld_goto O (pc := 125) 51 dX1_dealOut_125 (by decide) ?_
                refine ld_less O [2, 3, 4, 1, 0] (lv2 := [(0, .ref (ad 2)), (1, .int c), (2, .int a), (3, .int (w - (nI 0))), (4, .int (nI (i2 + 1)))]) rfl ?_
                have hs9 : us (us (us (us (us σ 11 f) 12 d) 13 r) 12 (upd (d) i2 (nI 0))) 13 (upd (r) i2 (nI 0)) = us (us (us σ 11 f) 12 (upd (d) i2 (nI 0))) 13 (upd (r) i2 (nI 0)) := by
                  funext b_
                  by_cases h0_ : b_ = 11
                  · subst h0_; rfl
                  by_cases h1_ : b_ = 12
                  · subst h1_; rfl
                  by_cases h2_ : b_ = 13
                  · subst h2_; rfl
                  simp only [us, h0_, h1_, h2_, if_false]
                refine ld_cv hs9 ?_
                exact ih51 (i2 + 1) (upd (d) i2 (nI 0)) (upd (r) i2 (nI 0)) (w - (nI 0)) (by omega) (by omega) (ld_ext hd (by simp [ld_q, c1, c2, c7])) (ld_ext hr (by simp [ld_r, c1, c2, c7])) (by rw [hw]; simp [ld_lf, ld_q, c1, c2, c7])
              · refine ld_iload_n O (pc := 70) 1 dX1_dealOut_70 rfl rfl ?_
                refine ld_aload_n O (pc := 71) 0 dX1_dealOut_71 rfl rfl ?_
                refine ld_g_trial_sour O (pc := 72) ld_w38 dX1_dealOut_72 ?_
                refine ld_iload O (pc := 75) 4 dX1_dealOut_75 rfl ?_
                refine ld_iald O (pc := 77) 11 i2 (v := f i2) rfl (by decide) (show i2 < 8 by omega) rfl dX1_dealOut_77 ?_
                refine ld_imul O (pc := 78) dX1_dealOut_78 ?_
                refine ld_iload_n O (pc := 79) 2 dX1_dealOut_79 rfl rfl ?_
                refine ld_idiv O (pc := 80) dX1_dealOut_80 (fun z => c7 (by rw [z]; decide)) ?_
                refine ld_goto O (pc := 81) 85 dX1_dealOut_81 (by decide) ?_
                refine ld_iast O (pc := 85) 12 i2 rfl (by decide) (show i2 < 8 by omega) dX1_dealOut_85 ?_
                refine ld_aload_n O (pc := 86) 0 dX1_dealOut_86 rfl rfl ?_
                refine ld_g_trial_remainder O (pc := 87) ld_w40 dX1_dealOut_87 ?_
                refine ld_iload O (pc := 90) 4 dX1_dealOut_90 rfl ?_
                refine ld_iload_n O (pc := 92) 2 dX1_dealOut_92 rfl rfl ?_
                refine ld_if_le O (pc := 93) (a).toInt rfl 110 dX1_dealOut_93 (by decide) (fun z => absurd z c7) (fun c10 => ?_)
                refine ld_iload_n O (pc := 96) 1 dX1_dealOut_96 rfl rfl ?_
                refine ld_aload_n O (pc := 97) 0 dX1_dealOut_97 rfl rfl ?_
                refine ld_g_trial_sour O (pc := 98) ld_w38 dX1_dealOut_98 ?_
                refine ld_iload O (pc := 101) 4 dX1_dealOut_101 rfl ?_
                refine ld_iald O (pc := 103) 11 i2 (v := f i2) rfl (by decide) (show i2 < 8 by omega) rfl dX1_dealOut_103 ?_
                refine ld_imul O (pc := 104) dX1_dealOut_104 ?_
                refine ld_iload_n O (pc := 105) 2 dX1_dealOut_105 rfl rfl ?_
                refine ld_irem O (pc := 106) dX1_dealOut_106 (fun z => c7 (by rw [z]; decide)) ?_
                refine ld_goto O (pc := 107) 111 dX1_dealOut_107 (by decide) ?_
                refine ld_iast O (pc := 111) 13 i2 rfl (by decide) (show i2 < 8 by omega) dX1_dealOut_111 ?_
                refine ld_iload_n O (pc := 112) 3 dX1_dealOut_112 rfl rfl ?_
                refine ld_aload_n O (pc := 113) 0 dX1_dealOut_113 rfl rfl ?_
                refine ld_g_trial_dealt O (pc := 114) ld_w39 dX1_dealOut_114 ?_
                refine ld_iload O (pc := 117) 4 dX1_dealOut_117 rfl ?_
                refine ld_iald O (pc := 119) 12 i2 (v := (c * (f i2)) / a) rfl (by decide) (show i2 < 8 by omega) (by show (upd (d) i2 ((c * (f i2)) / a)) i2 = _; exact pk_us) dX1_dealOut_119 ?_
                refine ld_isub O (pc := 120) dX1_dealOut_120 ?_
                refine ld_istore_n O (pc := 121) [(3, .int (w - ((c * (f i2)) / a))), (0, .ref (ad 2)), (1, .int c), (2, .int a), (4, .int (nI i2))] dX1_dealOut_121 rfl (by decide) rfl ?_
                refine ld_iincN O (pc := 122) [(4, .int (nI (i2 + 1))), (3, .int (w - ((c * (f i2)) / a))), (0, .ref (ad 2)), (1, .int c), (2, .int a)] 4 dX1_dealOut_122 rfl (by decide) rfl ?_
                refine ld_goto O (pc := 125) 51 dX1_dealOut_125 (by decide) ?_
                refine ld_less O [2, 3, 4, 1, 0] (lv2 := [(0, .ref (ad 2)), (1, .int c), (2, .int a), (3, .int (w - ((c * (f i2)) / a))), (4, .int (nI (i2 + 1)))]) rfl ?_
                have hs11 : us (us (us (us (us σ 11 f) 12 d) 13 r) 12 (upd (d) i2 ((c * (f i2)) / a))) 13 (upd (r) i2 ((c * (f i2)) - (c * (f i2)) / a * a)) = us (us (us σ 11 f) 12 (upd (d) i2 ((c * (f i2)) / a))) 13 (upd (r) i2 ((c * (f i2)) - (c * (f i2)) / a * a)) := by
                  funext b_
                  by_cases h0_ : b_ = 11
                  · subst h0_; rfl
                  by_cases h1_ : b_ = 12
                  · subst h1_; rfl
                  by_cases h2_ : b_ = 13
                  · subst h2_; rfl
                  simp only [us, h0_, h1_, h2_, if_false]
                refine ld_cv hs11 ?_
                exact ih51 (i2 + 1) (upd (d) i2 ((c * (f i2)) / a)) (upd (r) i2 ((c * (f i2)) - (c * (f i2)) / a * a)) (w - ((c * (f i2)) / a)) (by omega) (by omega) (ld_ext hd (by simp [ld_q, c1, c2, c7])) (ld_ext hr (by simp [ld_r, c1, c2, c7])) (by rw [hw]; simp [ld_lf, ld_q, c1, c2, c7])
        refine ld_iload_n O (pc := 38) 2 dX1_dealOut_38 rfl rfl ?_
        refine ld_if_le O (pc := 39) (a).toInt rfl 46 dX1_dealOut_39 (by decide) (fun c12 => ?_) (fun c12 => ?_)
        · refine ld_iconst O (pc := 46) (v := nI 0) dX1_dealOut_46 (by decide) ?_
          refine ld_istore_n O (pc := 47) [(3, .int (nI 0)), (0, .ref (ad 2)), (1, .int c), (2, .int a)] dX1_dealOut_47 rfl (by decide) rfl ?_
          refine ld_iconst O (pc := 48) (v := nI 0) dX1_dealOut_48 (by decide) ?_
          refine ld_istore O (pc := 49) [(4, .int (nI 0)), (3, .int (nI 0)), (0, .ref (ad 2)), (1, .int c), (2, .int a)] dX1_dealOut_49 (by decide) rfl ?_
          refine ld_less O [2, 3, 4, 1, 0] (lv2 := [(0, .ref (ad 2)), (1, .int c), (2, .int a), (3, .int (nI 0)), (4, .int (nI 0))]) rfl ?_
          have hs13 : us σ 11 f = us (us (us σ 11 f) 12 (σ 12)) 13 (σ 13) := by
            funext b_
            by_cases h0_ : b_ = 11
            · subst h0_; rfl
            by_cases h1_ : b_ = 12
            · subst h1_; rfl
            by_cases h2_ : b_ = 13
            · subst h2_; rfl
            simp only [us, h0_, h1_, h2_, if_false]
          refine ld_cv hs13 ?_
          exact L51 _ 0 (σ 12) (σ 13) (nI 0) (Nat.lt_succ_self _) (Nat.zero_le _) (fun x hx => absurd hx (Nat.not_lt_zero x)) (fun x hx => absurd hx (Nat.not_lt_zero x)) (by simp [ld_lf, c1, c12])
        · refine ld_iload_n O (pc := 42) 1 dX1_dealOut_42 rfl rfl ?_
          refine ld_goto O (pc := 43) 47 dX1_dealOut_43 (by decide) ?_
          refine ld_istore_n O (pc := 47) [(3, .int c), (0, .ref (ad 2)), (1, .int c), (2, .int a)] dX1_dealOut_47 rfl (by decide) rfl ?_
          refine ld_iconst O (pc := 48) (v := nI 0) dX1_dealOut_48 (by decide) ?_
          refine ld_istore O (pc := 49) [(4, .int (nI 0)), (3, .int c), (0, .ref (ad 2)), (1, .int c), (2, .int a)] dX1_dealOut_49 (by decide) rfl ?_
          refine ld_less O [2, 3, 4, 1, 0] (lv2 := [(0, .ref (ad 2)), (1, .int c), (2, .int a), (3, .int c), (4, .int (nI 0))]) rfl ?_
          have hs14 : us σ 11 f = us (us (us σ 11 f) 12 (σ 12)) 13 (σ 13) := by
            funext b_
            by_cases h0_ : b_ = 11
            · subst h0_; rfl
            by_cases h1_ : b_ = 12
            · subst h1_; rfl
            by_cases h2_ : b_ = 13
            · subst h2_; rfl
            simp only [us, h0_, h1_, h2_, if_false]
          refine ld_cv hs14 ?_
          exact L51 _ 0 (σ 12) (σ 13) c (Nat.lt_succ_self _) (Nat.zero_le _) (fun x hx => absurd hx (Nat.not_lt_zero x)) (fun x hx => absurd hx (Nat.not_lt_zero x)) (by simp [ld_lf, c1, c12])
      · refine ld_aload_n O (pc := 12) 0 dX1_dealOut_12 rfl rfl ?_
        refine ld_g_trial_sour O (pc := 13) ld_w38 dX1_dealOut_13 ?_
        refine ld_iload_n O (pc := 16) 3 dX1_dealOut_16 rfl rfl ?_
        refine ld_aload_n O (pc := 17) 0 dX1_dealOut_17 rfl rfl ?_
        refine ld_iload_n O (pc := 18) 3 dX1_dealOut_18 rfl rfl ?_
        refine ld_callVi O (pc := 19) (As := [.int (nI i)]) (st := [.int (nI i), .ref (ad (9 + 11))]) ld_recv2 (c_X1_sourOf_1 l ad (us σ 11 f) i (by omega)) ld_mw_X1_sourOf ld_w185 rfl rfl ⟨by decide, by decide⟩ (Nat.le_of_ble_eq_true rfl) dX1_dealOut_19 (fun r_u15 σ_u15 h_u15 => ?_)
        obtain ⟨rfl, rfl⟩ := h_u15
        show K (us σ 11 f) [(0, .ref (ad 2)), (1, .int c), (2, .int a), (3, .int (nI i))] [.int (ld_sr (σ 7 i) (σ 8 i)), .int (nI i), .ref (ad (9 + 11))] 22
        refine ld_iast O (pc := 22) 11 i rfl (by decide) (show i < 8 by omega) dX1_dealOut_22 ?_
        refine ld_iload_n O (pc := 23) 2 dX1_dealOut_23 rfl rfl ?_
        refine ld_aload_n O (pc := 24) 0 dX1_dealOut_24 rfl rfl ?_
        refine ld_g_trial_sour O (pc := 25) ld_w38 dX1_dealOut_25 ?_
        refine ld_iload_n O (pc := 28) 3 dX1_dealOut_28 rfl rfl ?_
        refine ld_iald O (pc := 29) 11 i (v := ld_sr (σ 7 i) (σ 8 i)) rfl (by decide) (show i < 8 by omega) (by show (upd (f) i (ld_sr (σ 7 i) (σ 8 i))) i = _; exact pk_us) dX1_dealOut_29 ?_
        refine ld_iadd O (pc := 30) dX1_dealOut_30 ?_
        refine ld_istore_n O (pc := 31) [(2, .int (a + (ld_sr (σ 7 i) (σ 8 i)))), (0, .ref (ad 2)), (1, .int c), (3, .int (nI i))] dX1_dealOut_31 rfl (by decide) rfl ?_
        refine ld_iincN O (pc := 32) [(3, .int (nI (i + 1))), (2, .int (a + (ld_sr (σ 7 i) (σ 8 i)))), (0, .ref (ad 2)), (1, .int c)] 3 dX1_dealOut_32 rfl (by decide) rfl ?_
        refine ld_goto O (pc := 35) 4 dX1_dealOut_35 (by decide) ?_
        refine ld_less O [2, 3, 1, 0] (lv2 := [(0, .ref (ad 2)), (1, .int c), (2, .int (a + (ld_sr (σ 7 i) (σ 8 i)))), (3, .int (nI (i + 1)))]) rfl ?_
        have hs16 : us (us σ 11 f) 11 (upd (f) i (ld_sr (σ 7 i) (σ 8 i))) = us σ 11 (upd (f) i (ld_sr (σ 7 i) (σ 8 i))) := by
          funext b_
          by_cases h0_ : b_ = 11
          · subst h0_; rfl
          simp only [us, h0_, if_false]
        refine ld_cv hs16 ?_
        exact ih4 (i + 1) (upd (f) i (ld_sr (σ 7 i) (σ 8 i))) (a + (ld_sr (σ 7 i) (σ 8 i))) (by omega) (by omega) (ld_ext hf rfl) (by rw [ha]; rfl)
  refine ld_less O [2, 3, 1, 0] (lv2 := [(0, .ref (ad 2)), (1, .int c), (2, .int (nI 0)), (3, .int (nI 0))]) rfl ?_
  have hs17 : σ = us σ 11 (σ 11) := by
    funext b_
    by_cases h0_ : b_ = 11
    · subst h0_; rfl
    simp only [us, h0_, if_false]
  refine ld_cv hs17 ?_
  exact L4 _ 0 (σ 11) (nI 0) (Nat.lt_succ_self _) (Nat.zero_le _) (fun x hx => absurd hx (Nat.not_lt_zero x)) rfl
end
