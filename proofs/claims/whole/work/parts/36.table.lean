set_option maxRecDepth 100000 in
theorem ld_t0 : Cond.classLink RL 7 RX2 ∈ lw_tbl := List.mem_of_getElem? (i := 72) rfl
set_option maxRecDepth 100000 in
theorem ld_t1 : Cond.instantiable RX2 8 ∈ lw_tbl := List.mem_of_getElem? (i := 73) rfl
set_option maxRecDepth 100000 in
theorem ld_t2 : Cond.initialized RX2 ∈ lw_tbl := List.mem_of_getElem? (i := 66) rfl
set_option maxRecDepth 100000 in
theorem ld_t3 : Cond.classLink RL 10 RX3 ∈ lw_tbl := List.mem_of_getElem? (i := 489) rfl
set_option maxRecDepth 100000 in
theorem ld_t4 : Cond.instantiable RX3 30 ∈ lw_tbl := List.mem_of_getElem? (i := 490) rfl
set_option maxRecDepth 100000 in
theorem ld_t5 : Cond.initialized RX3 ∈ lw_tbl := List.mem_of_getElem? (i := 69) rfl
set_option maxRecDepth 100000 in
theorem ld_t6 : Cond.methodLink RL 9 yX2_init ∈ lw_tbl := List.mem_of_getElem? (i := 74) rfl
set_option maxRecDepth 100000 in
theorem ld_t7 : Cond.instanceMethod yX2_init ∈ lw_tbl := List.mem_of_getElem? (i := 75) rfl
set_option maxRecDepth 100000 in
theorem ld_t8 : Cond.code yX2_init cX2_init 2 none ∈ lw_tbl := List.mem_of_getElem? (i := 76) rfl
set_option maxRecDepth 100000 in
theorem ld_t9 : Cond.methodLink RX2 5 objectInit ∈ lw_tbl := List.mem_of_getElem? (i := 77) rfl
set_option maxRecDepth 100000 in
theorem ld_t10 : Cond.instanceMethod objectInit ∈ lw_tbl := List.mem_of_getElem? (i := 78) rfl
set_option maxRecDepth 100000 in
theorem ld_t11 : Cond.code objectInit ⟨#[0xb1]⟩ 1 none ∈ lw_tbl := List.mem_of_getElem? (i := 79) rfl
set_option maxRecDepth 100000 in
theorem ld_t12 : Cond.classLink RX2 11 RX1 ∈ lw_tbl := List.mem_of_getElem? (i := 80) rfl
set_option maxRecDepth 100000 in
theorem ld_t13 : Cond.instantiable RX1 11 ∈ lw_tbl := List.mem_of_getElem? (i := 81) rfl
set_option maxRecDepth 100000 in
theorem ld_t14 : Cond.initialized RX1 ∈ lw_tbl := List.mem_of_getElem? (i := 67) rfl
set_option maxRecDepth 100000 in
theorem ld_t15 : Cond.fieldLink RX2 14 "LemonDeals" "now" "LLemonDeals$Street;" ∈ lw_tbl := List.mem_of_getElem? (i := 150) rfl
set_option maxRecDepth 100000 in
theorem ld_t16 : Cond.fieldLink RX2 18 "LemonDeals" "trial" "LLemonDeals$Street;" ∈ lw_tbl := List.mem_of_getElem? (i := 151) rfl
set_option maxRecDepth 100000 in
theorem ld_t17 : Cond.classLink RX2 21 RX0 ∈ lw_tbl := List.mem_of_getElem? (i := 130) rfl
set_option maxRecDepth 100000 in
theorem ld_t18 : Cond.fieldLink RX2 23 "LemonDeals" "sheets" "[LLemonDeals$Sheet;" ∈ lw_tbl := List.mem_of_getElem? (i := 152) rfl
set_option maxRecDepth 100000 in
theorem ld_t19 : Cond.arrayClass .int ∈ lw_tbl := List.mem_of_getElem? (i := 129) rfl
set_option maxRecDepth 100000 in
theorem ld_t20 : Cond.fieldLink RX2 27 "LemonDeals" "readHouse" "[I" ∈ lw_tbl := List.mem_of_getElem? (i := 153) rfl
set_option maxRecDepth 100000 in
theorem ld_t21 : Cond.fieldLink RX2 31 "LemonDeals" "readDealt" "[I" ∈ lw_tbl := List.mem_of_getElem? (i := 154) rfl
set_option maxRecDepth 100000 in
theorem ld_t22 : Cond.fieldLink RX2 34 "LemonDeals" "readings" "I" ∈ lw_tbl := List.mem_of_getElem? (i := 155) rfl
set_option maxRecDepth 100000 in
theorem ld_t23 : Cond.fieldLink RX2 38 "LemonDeals" "traced" "I" ∈ lw_tbl := List.mem_of_getElem? (i := 156) rfl
theorem ld_tk1 : ∀ w ∈ wsL_law_r1, w ∈ lw_tbl := List.forall_mem_cons.mpr ⟨ld_t0, List.forall_mem_cons.mpr ⟨ld_t1, List.forall_mem_cons.mpr ⟨ld_t2, List.forall_mem_cons.mpr ⟨ld_t3, List.forall_mem_cons.mpr ⟨ld_t4, List.forall_mem_cons.mpr ⟨ld_t5, List.forall_mem_cons.mpr ⟨ld_t6, List.forall_mem_cons.mpr ⟨ld_t7, List.forall_mem_cons.mpr ⟨ld_t8, List.forall_mem_cons.mpr ⟨ld_t9, List.forall_mem_cons.mpr ⟨ld_t10, List.forall_mem_cons.mpr ⟨ld_t11, List.forall_mem_cons.mpr ⟨ld_t12, List.forall_mem_cons.mpr ⟨ld_t13, List.forall_mem_cons.mpr ⟨ld_t14, List.forall_mem_cons.mpr ⟨ld_t15, List.forall_mem_cons.mpr ⟨ld_t16, List.forall_mem_cons.mpr ⟨ld_t17, List.forall_mem_cons.mpr ⟨ld_t18, List.forall_mem_cons.mpr ⟨ld_t19, List.forall_mem_cons.mpr ⟨ld_t20, List.forall_mem_cons.mpr ⟨ld_t21, List.forall_mem_cons.mpr ⟨ld_t22, List.forall_mem_cons.mpr ⟨ld_t23, (fun _ h => absurd h List.not_mem_nil)⟩⟩⟩⟩⟩⟩⟩⟩⟩⟩⟩⟩⟩⟩⟩⟩⟩⟩⟩⟩⟩⟩⟩⟩
set_option maxRecDepth 100000 in
theorem ld_t24 : Cond.fieldLink RX2 41 "LemonDeals" "lastFault" "I" ∈ lw_tbl := List.mem_of_getElem? (i := 157) rfl
set_option maxRecDepth 100000 in
theorem ld_t25 : Cond.instantiable RX0 3 ∈ lw_tbl := List.mem_of_getElem? (i := 132) rfl
set_option maxRecDepth 100000 in
theorem ld_t26 : Cond.initialized RX0 ∈ lw_tbl := List.mem_of_getElem? (i := 68) rfl
set_option maxRecDepth 100000 in
theorem ld_t27 : Cond.instanceMethod yX1_init ∈ lw_tbl := List.mem_of_getElem? (i := 83) rfl
set_option maxRecDepth 100000 in
theorem ld_t28 : Cond.code yX1_init cX1_init 1 none ∈ lw_tbl := List.mem_of_getElem? (i := 84) rfl
set_option maxRecDepth 100000 in
theorem ld_t29 : Cond.methodLink RX1 3 objectInit ∈ lw_tbl := List.mem_of_getElem? (i := 85) rfl
set_option maxRecDepth 100000 in
theorem ld_t30 : Cond.fieldLink RX1 9 "LemonDeals$Street" "houses" "I" ∈ lw_tbl := List.mem_of_getElem? (i := 86) rfl
set_option maxRecDepth 100000 in
theorem ld_t31 : Cond.fieldLink RX1 15 "LemonDeals$Street" "crate" "I" ∈ lw_tbl := List.mem_of_getElem? (i := 88) rfl
set_option maxRecDepth 100000 in
theorem ld_t32 : Cond.fieldLink RX1 18 "LemonDeals$Street" "week" "I" ∈ lw_tbl := List.mem_of_getElem? (i := 90) rfl
set_option maxRecDepth 100000 in
theorem ld_t33 : Cond.fieldLink RX1 21 "LemonDeals$Street" "leanWeeks" "I" ∈ lw_tbl := List.mem_of_getElem? (i := 92) rfl
set_option maxRecDepth 100000 in
theorem ld_t34 : Cond.fieldLink RX1 24 "LemonDeals$Street" "kind" "[I" ∈ lw_tbl := List.mem_of_getElem? (i := 94) rfl
set_option maxRecDepth 100000 in
theorem ld_t35 : Cond.fieldLink RX1 28 "LemonDeals$Street" "temper" "[I" ∈ lw_tbl := List.mem_of_getElem? (i := 96) rfl
set_option maxRecDepth 100000 in
theorem ld_t36 : Cond.fieldLink RX1 31 "LemonDeals$Street" "stock" "[I" ∈ lw_tbl := List.mem_of_getElem? (i := 98) rfl
set_option maxRecDepth 100000 in
theorem ld_t37 : Cond.fieldLink RX1 34 "LemonDeals$Street" "pips" "[I" ∈ lw_tbl := List.mem_of_getElem? (i := 100) rfl
set_option maxRecDepth 100000 in
theorem ld_t38 : Cond.fieldLink RX1 37 "LemonDeals$Street" "sour" "[I" ∈ lw_tbl := List.mem_of_getElem? (i := 102) rfl
set_option maxRecDepth 100000 in
theorem ld_t39 : Cond.fieldLink RX1 40 "LemonDeals$Street" "dealt" "[I" ∈ lw_tbl := List.mem_of_getElem? (i := 103) rfl
set_option maxRecDepth 100000 in
theorem ld_t40 : Cond.fieldLink RX1 43 "LemonDeals$Street" "remainder" "[I" ∈ lw_tbl := List.mem_of_getElem? (i := 105) rfl
set_option maxRecDepth 100000 in
theorem ld_t41 : Cond.instanceMethod yX0_init ∈ lw_tbl := List.mem_of_getElem? (i := 134) rfl
set_option maxRecDepth 100000 in
theorem ld_t42 : Cond.code yX0_init cX0_init 1 none ∈ lw_tbl := List.mem_of_getElem? (i := 135) rfl
set_option maxRecDepth 100000 in
theorem ld_t43 : Cond.methodLink RX0 3 objectInit ∈ lw_tbl := List.mem_of_getElem? (i := 136) rfl
set_option maxRecDepth 100000 in
theorem ld_t44 : Cond.fieldLink RX0 9 "LemonDeals$Sheet" "cells" "[I" ∈ lw_tbl := List.mem_of_getElem? (i := 137) rfl
set_option maxRecDepth 100000 in
theorem ld_t45 : Cond.fieldLink RX0 15 "LemonDeals$Sheet" "lane" "I" ∈ lw_tbl := List.mem_of_getElem? (i := 139) rfl
set_option maxRecDepth 100000 in
theorem ld_t46 : Cond.fieldLink RX0 19 "LemonDeals$Sheet" "length" "I" ∈ lw_tbl := List.mem_of_getElem? (i := 141) rfl
set_option maxRecDepth 100000 in
theorem ld_t47 : Cond.methodLink RL 12 yX3_init ∈ lw_tbl := List.mem_of_getElem? (i := 491) rfl
theorem ld_tk2 : ∀ w ∈ wsL_law_r2, w ∈ lw_tbl := List.forall_mem_cons.mpr ⟨ld_t24, List.forall_mem_cons.mpr ⟨ld_t25, List.forall_mem_cons.mpr ⟨ld_t26, List.forall_mem_cons.mpr ⟨ld_t27, List.forall_mem_cons.mpr ⟨ld_t28, List.forall_mem_cons.mpr ⟨ld_t29, List.forall_mem_cons.mpr ⟨ld_t30, List.forall_mem_cons.mpr ⟨ld_t31, List.forall_mem_cons.mpr ⟨ld_t32, List.forall_mem_cons.mpr ⟨ld_t33, List.forall_mem_cons.mpr ⟨ld_t34, List.forall_mem_cons.mpr ⟨ld_t35, List.forall_mem_cons.mpr ⟨ld_t36, List.forall_mem_cons.mpr ⟨ld_t37, List.forall_mem_cons.mpr ⟨ld_t38, List.forall_mem_cons.mpr ⟨ld_t39, List.forall_mem_cons.mpr ⟨ld_t40, List.forall_mem_cons.mpr ⟨ld_t41, List.forall_mem_cons.mpr ⟨ld_t42, List.forall_mem_cons.mpr ⟨ld_t43, List.forall_mem_cons.mpr ⟨ld_t44, List.forall_mem_cons.mpr ⟨ld_t45, List.forall_mem_cons.mpr ⟨ld_t46, List.forall_mem_cons.mpr ⟨ld_t47, (fun _ h => absurd h List.not_mem_nil)⟩⟩⟩⟩⟩⟩⟩⟩⟩⟩⟩⟩⟩⟩⟩⟩⟩⟩⟩⟩⟩⟩⟩⟩
set_option maxRecDepth 100000 in
theorem ld_t48 : Cond.instanceMethod yX3_init ∈ lw_tbl := List.mem_of_getElem? (i := 492) rfl
set_option maxRecDepth 100000 in
theorem ld_t49 : Cond.code yX3_init cX3_init 2 none ∈ lw_tbl := List.mem_of_getElem? (i := 493) rfl
set_option maxRecDepth 100000 in
theorem ld_t50 : Cond.methodLink RX3 1 objectInit ∈ lw_tbl := List.mem_of_getElem? (i := 494) rfl
set_option maxRecDepth 100000 in
theorem ld_t51 : Cond.fieldLink RX3 7 "LemonDealsModel" "kindOf" "[I" ∈ lw_tbl := List.mem_of_getElem? (i := 499) rfl
set_option maxRecDepth 100000 in
theorem ld_t52 : Cond.fieldLink RX3 13 "LemonDealsModel" "temperOf" "[I" ∈ lw_tbl := List.mem_of_getElem? (i := 500) rfl
set_option maxRecDepth 100000 in
theorem ld_t53 : Cond.fieldLink RX3 16 "LemonDealsModel" "stockOf" "[I" ∈ lw_tbl := List.mem_of_getElem? (i := 501) rfl
set_option maxRecDepth 100000 in
theorem ld_t54 : Cond.fieldLink RX3 19 "LemonDealsModel" "pipsOf" "[I" ∈ lw_tbl := List.mem_of_getElem? (i := 502) rfl
set_option maxRecDepth 100000 in
theorem ld_t55 : Cond.fieldLink RX3 22 "LemonDealsModel" "readKind" "[I" ∈ lw_tbl := List.mem_of_getElem? (i := 506) rfl
set_option maxRecDepth 100000 in
theorem ld_t56 : Cond.fieldLink RX3 25 "LemonDealsModel" "readTemper" "[I" ∈ lw_tbl := List.mem_of_getElem? (i := 507) rfl
set_option maxRecDepth 100000 in
theorem ld_t57 : Cond.fieldLink RX3 28 "LemonDealsModel" "readStock" "[I" ∈ lw_tbl := List.mem_of_getElem? (i := 508) rfl
set_option maxRecDepth 100000 in
theorem ld_t58 : Cond.fieldLink RX3 31 "LemonDealsModel" "dealtNow" "[I" ∈ lw_tbl := List.mem_of_getElem? (i := 509) rfl
set_option maxRecDepth 100000 in
theorem ld_t59 : Cond.fieldLink RX3 34 "LemonDealsModel" "temperKept" "[I" ∈ lw_tbl := List.mem_of_getElem? (i := 512) rfl
set_option maxRecDepth 100000 in
theorem ld_t60 : Cond.fieldLink RX3 37 "LemonDealsModel" "stockKept" "[I" ∈ lw_tbl := List.mem_of_getElem? (i := 513) rfl
set_option maxRecDepth 100000 in
theorem ld_t61 : Cond.fieldLink RX3 40 "LemonDealsModel" "pipsKept" "[I" ∈ lw_tbl := List.mem_of_getElem? (i := 514) rfl
set_option maxRecDepth 100000 in
theorem ld_t62 : Cond.fieldLink RX3 43 "LemonDealsModel" "gotSoFar" "[I" ∈ lw_tbl := List.mem_of_getElem? (i := 516) rfl
set_option maxRecDepth 100000 in
theorem ld_t63 : Cond.fieldLink RX3 46 "LemonDealsModel" "readingOf" "[I" ∈ lw_tbl := List.mem_of_getElem? (i := 518) rfl
set_option maxRecDepth 100000 in
theorem ld_t64 : Cond.fieldLink RX3 49 "LemonDealsModel" "readingWas" "[I" ∈ lw_tbl := List.mem_of_getElem? (i := 519) rfl
set_option maxRecDepth 100000 in
theorem ld_t65 : Cond.fieldLink RX3 52 "LemonDealsModel" "sheetSize" "[I" ∈ lw_tbl := List.mem_of_getElem? (i := 520) rfl
set_option maxRecDepth 100000 in
theorem ld_t66 : Cond.fieldLink RX3 55 "LemonDealsModel" "sheetLane" "[I" ∈ lw_tbl := List.mem_of_getElem? (i := 521) rfl
set_option maxRecDepth 100000 in
theorem ld_t67 : Cond.fieldLink RX3 58 "LemonDealsModel" "sheet" "[I" ∈ lw_tbl := List.mem_of_getElem? (i := 522) rfl
set_option maxRecDepth 100000 in
theorem ld_t68 : Cond.fieldLink RX3 61 "LemonDealsModel" "hands" "[I" ∈ lw_tbl := List.mem_of_getElem? (i := 523) rfl
set_option maxRecDepth 100000 in
theorem ld_t69 : Cond.methodLink RL 13 yX2_street ∈ lw_tbl := List.mem_of_getElem? (i := 175) rfl
set_option maxRecDepth 100000 in
theorem ld_t70 : Cond.instanceMethod yX2_street ∈ lw_tbl := List.mem_of_getElem? (i := 176) rfl
set_option maxRecDepth 100000 in
theorem ld_t71 : Cond.selects RX2 yX2_street yX2_street ∈ lw_tbl := List.mem_of_getElem? (i := 177) rfl
theorem ld_tk3 : ∀ w ∈ wsL_law_r3, w ∈ lw_tbl := List.forall_mem_cons.mpr ⟨ld_t48, List.forall_mem_cons.mpr ⟨ld_t49, List.forall_mem_cons.mpr ⟨ld_t50, List.forall_mem_cons.mpr ⟨ld_t51, List.forall_mem_cons.mpr ⟨ld_t52, List.forall_mem_cons.mpr ⟨ld_t53, List.forall_mem_cons.mpr ⟨ld_t54, List.forall_mem_cons.mpr ⟨ld_t55, List.forall_mem_cons.mpr ⟨ld_t56, List.forall_mem_cons.mpr ⟨ld_t57, List.forall_mem_cons.mpr ⟨ld_t58, List.forall_mem_cons.mpr ⟨ld_t59, List.forall_mem_cons.mpr ⟨ld_t60, List.forall_mem_cons.mpr ⟨ld_t61, List.forall_mem_cons.mpr ⟨ld_t62, List.forall_mem_cons.mpr ⟨ld_t63, List.forall_mem_cons.mpr ⟨ld_t64, List.forall_mem_cons.mpr ⟨ld_t65, List.forall_mem_cons.mpr ⟨ld_t66, List.forall_mem_cons.mpr ⟨ld_t67, List.forall_mem_cons.mpr ⟨ld_t68, List.forall_mem_cons.mpr ⟨ld_t69, List.forall_mem_cons.mpr ⟨ld_t70, List.forall_mem_cons.mpr ⟨ld_t71, (fun _ h => absurd h List.not_mem_nil)⟩⟩⟩⟩⟩⟩⟩⟩⟩⟩⟩⟩⟩⟩⟩⟩⟩⟩⟩⟩⟩⟩⟩⟩
set_option maxRecDepth 100000 in
theorem ld_t72 : Cond.code yX2_street cX2_street 8 (some .int) ∈ lw_tbl := List.mem_of_getElem? (i := 178) rfl
set_option maxRecDepth 100000 in
theorem ld_t73 : Cond.methodLink RX2 45 yX2_isSheet ∈ lw_tbl := List.mem_of_getElem? (i := 179) rfl
set_option maxRecDepth 100000 in
theorem ld_t74 : Cond.static yX2_isSheet ∈ lw_tbl := List.mem_of_getElem? (i := 180) rfl
set_option maxRecDepth 100000 in
theorem ld_t75 : Cond.code yX2_isSheet cX2_isSheet 1 (some .boolean) ∈ lw_tbl := List.mem_of_getElem? (i := 181) rfl
set_option maxRecDepth 100000 in
theorem ld_t76 : Cond.methodLink RX2 49 yX2_isLane ∈ lw_tbl := List.mem_of_getElem? (i := 182) rfl
set_option maxRecDepth 100000 in
theorem ld_t77 : Cond.static yX2_isLane ∈ lw_tbl := List.mem_of_getElem? (i := 183) rfl
set_option maxRecDepth 100000 in
theorem ld_t78 : Cond.code yX2_isLane cX2_isLane 1 (some .boolean) ∈ lw_tbl := List.mem_of_getElem? (i := 184) rfl
set_option maxRecDepth 100000 in
theorem ld_t79 : Cond.instanceMethod yX0_faultAs ∈ lw_tbl := List.mem_of_getElem? (i := 187) rfl
set_option maxRecDepth 100000 in
theorem ld_t80 : Cond.selects RX0 yX0_faultAs yX0_faultAs ∈ lw_tbl := List.mem_of_getElem? (i := 0) rfl
set_option maxRecDepth 100000 in
theorem ld_t81 : Cond.code yX0_faultAs cX0_faultAs 2 (some .int) ∈ lw_tbl := List.mem_of_getElem? (i := 188) rfl
set_option maxRecDepth 100000 in
theorem ld_t82 : Cond.methodLink RX0 22 yX0_isThere ∈ lw_tbl := List.mem_of_getElem? (i := 189) rfl
set_option maxRecDepth 100000 in
theorem ld_t83 : Cond.instanceMethod yX0_isThere ∈ lw_tbl := List.mem_of_getElem? (i := 191) rfl
set_option maxRecDepth 100000 in
theorem ld_t84 : Cond.selects RX0 yX0_isThere yX0_isThere ∈ lw_tbl := List.mem_of_getElem? (i := 1) rfl
set_option maxRecDepth 100000 in
theorem ld_t85 : Cond.code yX0_isThere cX0_isThere 1 (some .boolean) ∈ lw_tbl := List.mem_of_getElem? (i := 192) rfl
set_option maxRecDepth 100000 in
theorem ld_t86 : Cond.instanceMethod yX0_lacks ∈ lw_tbl := List.mem_of_getElem? (i := 195) rfl
set_option maxRecDepth 100000 in
theorem ld_t87 : Cond.selects RX0 yX0_lacks yX0_lacks ∈ lw_tbl := List.mem_of_getElem? (i := 2) rfl
set_option maxRecDepth 100000 in
theorem ld_t88 : Cond.code yX0_lacks cX0_lacks 3 (some .boolean) ∈ lw_tbl := List.mem_of_getElem? (i := 196) rfl
set_option maxRecDepth 100000 in
theorem ld_t89 : Cond.methodLink RX2 60 yX2_fails ∈ lw_tbl := List.mem_of_getElem? (i := 197) rfl
set_option maxRecDepth 100000 in
theorem ld_t90 : Cond.instanceMethod yX2_fails ∈ lw_tbl := List.mem_of_getElem? (i := 199) rfl
set_option maxRecDepth 100000 in
theorem ld_t91 : Cond.selects RX2 yX2_fails yX2_fails ∈ lw_tbl := List.mem_of_getElem? (i := 3) rfl
set_option maxRecDepth 100000 in
theorem ld_t92 : Cond.code yX2_fails cX2_fails 2 (some .int) ∈ lw_tbl := List.mem_of_getElem? (i := 200) rfl
set_option maxRecDepth 100000 in
theorem ld_t93 : Cond.methodLink RX2 66 yX2_firstTextFault ∈ lw_tbl := List.mem_of_getElem? (i := 201) rfl
set_option maxRecDepth 100000 in
theorem ld_t94 : Cond.static yX2_firstTextFault ∈ lw_tbl := List.mem_of_getElem? (i := 202) rfl
set_option maxRecDepth 100000 in
theorem ld_t95 : Cond.code yX2_firstTextFault cX2_firstTextFault 4 (some .int) ∈ lw_tbl := List.mem_of_getElem? (i := 203) rfl
theorem ld_tk4 : ∀ w ∈ wsL_law_r4, w ∈ lw_tbl := List.forall_mem_cons.mpr ⟨ld_t72, List.forall_mem_cons.mpr ⟨ld_t73, List.forall_mem_cons.mpr ⟨ld_t74, List.forall_mem_cons.mpr ⟨ld_t75, List.forall_mem_cons.mpr ⟨ld_t76, List.forall_mem_cons.mpr ⟨ld_t77, List.forall_mem_cons.mpr ⟨ld_t78, List.forall_mem_cons.mpr ⟨ld_t79, List.forall_mem_cons.mpr ⟨ld_t80, List.forall_mem_cons.mpr ⟨ld_t81, List.forall_mem_cons.mpr ⟨ld_t82, List.forall_mem_cons.mpr ⟨ld_t83, List.forall_mem_cons.mpr ⟨ld_t84, List.forall_mem_cons.mpr ⟨ld_t85, List.forall_mem_cons.mpr ⟨ld_t86, List.forall_mem_cons.mpr ⟨ld_t87, List.forall_mem_cons.mpr ⟨ld_t88, List.forall_mem_cons.mpr ⟨ld_t89, List.forall_mem_cons.mpr ⟨ld_t90, List.forall_mem_cons.mpr ⟨ld_t91, List.forall_mem_cons.mpr ⟨ld_t92, List.forall_mem_cons.mpr ⟨ld_t93, List.forall_mem_cons.mpr ⟨ld_t94, List.forall_mem_cons.mpr ⟨ld_t95, (fun _ h => absurd h List.not_mem_nil)⟩⟩⟩⟩⟩⟩⟩⟩⟩⟩⟩⟩⟩⟩⟩⟩⟩⟩⟩⟩⟩⟩⟩⟩
set_option maxRecDepth 100000 in
theorem ld_t96 : Cond.methodLink RX2 202 yX2_goesOn ∈ lw_tbl := List.mem_of_getElem? (i := 204) rfl
set_option maxRecDepth 100000 in
theorem ld_t97 : Cond.static yX2_goesOn ∈ lw_tbl := List.mem_of_getElem? (i := 205) rfl
set_option maxRecDepth 100000 in
theorem ld_t98 : Cond.code yX2_goesOn cX2_goesOn 2 (some .boolean) ∈ lw_tbl := List.mem_of_getElem? (i := 206) rfl
set_option maxRecDepth 100000 in
theorem ld_t99 : Cond.methodLink RX2 205 yX2_isDigit ∈ lw_tbl := List.mem_of_getElem? (i := 207) rfl
set_option maxRecDepth 100000 in
theorem ld_t100 : Cond.static yX2_isDigit ∈ lw_tbl := List.mem_of_getElem? (i := 208) rfl
set_option maxRecDepth 100000 in
theorem ld_t101 : Cond.code yX2_isDigit cX2_isDigit 1 (some .boolean) ∈ lw_tbl := List.mem_of_getElem? (i := 209) rfl
set_option maxRecDepth 100000 in
theorem ld_t102 : Cond.methodLink RX2 208 yX2_kindByLetter ∈ lw_tbl := List.mem_of_getElem? (i := 210) rfl
set_option maxRecDepth 100000 in
theorem ld_t103 : Cond.static yX2_kindByLetter ∈ lw_tbl := List.mem_of_getElem? (i := 211) rfl
set_option maxRecDepth 100000 in
theorem ld_t104 : Cond.code yX2_kindByLetter cX2_kindByLetter 1 (some .int) ∈ lw_tbl := List.mem_of_getElem? (i := 212) rfl
set_option maxRecDepth 100000 in
theorem ld_t105 : Cond.instanceMethod yX1_beginByText ∈ lw_tbl := List.mem_of_getElem? (i := 215) rfl
set_option maxRecDepth 100000 in
theorem ld_t106 : Cond.selects RX1 yX1_beginByText yX1_beginByText ∈ lw_tbl := List.mem_of_getElem? (i := 4) rfl
set_option maxRecDepth 100000 in
theorem ld_t107 : Cond.code yX1_beginByText cX1_beginByText 6 none ∈ lw_tbl := List.mem_of_getElem? (i := 216) rfl
set_option maxRecDepth 100000 in
theorem ld_t108 : Cond.methodLink RX1 46 Lib.Math.min.name ∈ lw_tbl := List.mem_of_getElem? (i := 217) rfl
set_option maxRecDepth 100000 in
theorem ld_t109 : Cond.static Lib.Math.min.name ∈ lw_tbl := List.mem_of_getElem? (i := 218) rfl
set_option maxRecDepth 100000 in
theorem ld_t110 : Cond.initialized "java/lang/Math" ∈ lw_tbl := List.mem_of_getElem? (i := 70) rfl
set_option maxRecDepth 100000 in
theorem ld_t111 : Cond.code Lib.Math.min.name Lib.Math.min.code 2 (some .int) ∈ lw_tbl := List.mem_of_getElem? (i := 219) rfl
set_option maxRecDepth 100000 in
theorem ld_t112 : Cond.methodLink RL 17 yX3_street ∈ lw_tbl := List.mem_of_getElem? (i := 586) rfl
set_option maxRecDepth 100000 in
theorem ld_t113 : Cond.instanceMethod yX3_street ∈ lw_tbl := List.mem_of_getElem? (i := 587) rfl
set_option maxRecDepth 100000 in
theorem ld_t114 : Cond.selects RX3 yX3_street yX3_street ∈ lw_tbl := List.mem_of_getElem? (i := 588) rfl
set_option maxRecDepth 100000 in
theorem ld_t115 : Cond.code yX3_street cX3_street 7 (some .int) ∈ lw_tbl := List.mem_of_getElem? (i := 589) rfl
set_option maxRecDepth 100000 in
theorem ld_t116 : Cond.constantLong RX3 121 (2) ∈ lw_tbl := List.mem_of_getElem? (i := 601) rfl
set_option maxRecDepth 100000 in
theorem ld_t117 : Cond.fieldLink RX3 83 "LemonDealsModel" "readAt" "I" ∈ lw_tbl := List.mem_of_getElem? (i := 503) rfl
set_option maxRecDepth 100000 in
theorem ld_t118 : Cond.fieldLink RX3 92 "LemonDealsModel" "readHouses" "I" ∈ lw_tbl := List.mem_of_getElem? (i := 504) rfl
set_option maxRecDepth 100000 in
theorem ld_t119 : Cond.fieldLink RX3 74 "LemonDealsModel" "houses" "I" ∈ lw_tbl := List.mem_of_getElem? (i := 496) rfl
theorem ld_tk5 : ∀ w ∈ wsL_law_r5, w ∈ lw_tbl := List.forall_mem_cons.mpr ⟨ld_t96, List.forall_mem_cons.mpr ⟨ld_t97, List.forall_mem_cons.mpr ⟨ld_t98, List.forall_mem_cons.mpr ⟨ld_t99, List.forall_mem_cons.mpr ⟨ld_t100, List.forall_mem_cons.mpr ⟨ld_t101, List.forall_mem_cons.mpr ⟨ld_t102, List.forall_mem_cons.mpr ⟨ld_t103, List.forall_mem_cons.mpr ⟨ld_t104, List.forall_mem_cons.mpr ⟨ld_t105, List.forall_mem_cons.mpr ⟨ld_t106, List.forall_mem_cons.mpr ⟨ld_t107, List.forall_mem_cons.mpr ⟨ld_t108, List.forall_mem_cons.mpr ⟨ld_t109, List.forall_mem_cons.mpr ⟨ld_t110, List.forall_mem_cons.mpr ⟨ld_t111, List.forall_mem_cons.mpr ⟨ld_t112, List.forall_mem_cons.mpr ⟨ld_t113, List.forall_mem_cons.mpr ⟨ld_t114, List.forall_mem_cons.mpr ⟨ld_t115, List.forall_mem_cons.mpr ⟨ld_t116, List.forall_mem_cons.mpr ⟨ld_t117, List.forall_mem_cons.mpr ⟨ld_t118, List.forall_mem_cons.mpr ⟨ld_t119, (fun _ h => absurd h List.not_mem_nil)⟩⟩⟩⟩⟩⟩⟩⟩⟩⟩⟩⟩⟩⟩⟩⟩⟩⟩⟩⟩⟩⟩⟩⟩
set_option maxRecDepth 100000 in
theorem ld_t120 : Cond.fieldLink RX3 99 "LemonDealsModel" "readCrate" "I" ∈ lw_tbl := List.mem_of_getElem? (i := 505) rfl
set_option maxRecDepth 100000 in
theorem ld_t121 : Cond.fieldLink RX3 130 "LemonDealsModel" "crateNow" "I" ∈ lw_tbl := List.mem_of_getElem? (i := 497) rfl
set_option maxRecDepth 100000 in
theorem ld_t122 : Cond.fieldLink RX3 133 "LemonDealsModel" "weekNow" "I" ∈ lw_tbl := List.mem_of_getElem? (i := 498) rfl
set_option maxRecDepth 100000 in
theorem ld_t123 : Cond.fieldLink RX3 136 "LemonDealsModel" "readings" "I" ∈ lw_tbl := List.mem_of_getElem? (i := 517) rfl
set_option maxRecDepth 100000 in
theorem ld_t124 : Cond.methodLink RX3 114 yX3_noSheet ∈ lw_tbl := List.mem_of_getElem? (i := 590) rfl
set_option maxRecDepth 100000 in
theorem ld_t125 : Cond.static yX3_noSheet ∈ lw_tbl := List.mem_of_getElem? (i := 591) rfl
set_option maxRecDepth 100000 in
theorem ld_t126 : Cond.code yX3_noSheet cX3_noSheet 1 (some .boolean) ∈ lw_tbl := List.mem_of_getElem? (i := 592) rfl
set_option maxRecDepth 100000 in
theorem ld_t127 : Cond.constantLong RX3 225 (3) ∈ lw_tbl := List.mem_of_getElem? (i := 593) rfl
set_option maxRecDepth 100000 in
theorem ld_t128 : Cond.methodLink RX3 77 yX3_in ∈ lw_tbl := List.mem_of_getElem? (i := 594) rfl
set_option maxRecDepth 100000 in
theorem ld_t129 : Cond.static yX3_in ∈ lw_tbl := List.mem_of_getElem? (i := 595) rfl
set_option maxRecDepth 100000 in
theorem ld_t130 : Cond.code yX3_in cX3_in 6 (some .boolean) ∈ lw_tbl := List.mem_of_getElem? (i := 596) rfl
set_option maxRecDepth 100000 in
theorem ld_t131 : Cond.methodLink RX3 118 yX3_refused ∈ lw_tbl := List.mem_of_getElem? (i := 597) rfl
set_option maxRecDepth 100000 in
theorem ld_t132 : Cond.instanceMethod yX3_refused ∈ lw_tbl := List.mem_of_getElem? (i := 599) rfl
set_option maxRecDepth 100000 in
theorem ld_t133 : Cond.selects RX3 yX3_refused yX3_refused ∈ lw_tbl := List.mem_of_getElem? (i := 38) rfl
set_option maxRecDepth 100000 in
theorem ld_t134 : Cond.code yX3_refused cX3_refused 2 (some .int) ∈ lw_tbl := List.mem_of_getElem? (i := 600) rfl
set_option maxRecDepth 100000 in
theorem ld_t135 : Cond.fieldLink RX3 66 "LemonDealsModel" "fault" "I" ∈ lw_tbl := List.mem_of_getElem? (i := 495) rfl
set_option maxRecDepth 100000 in
theorem ld_t136 : Cond.methodLink RX3 123 yX3_cellsBarred ∈ lw_tbl := List.mem_of_getElem? (i := 602) rfl
set_option maxRecDepth 100000 in
theorem ld_t137 : Cond.instanceMethod yX3_cellsBarred ∈ lw_tbl := List.mem_of_getElem? (i := 604) rfl
set_option maxRecDepth 100000 in
theorem ld_t138 : Cond.selects RX3 yX3_cellsBarred yX3_cellsBarred ∈ lw_tbl := List.mem_of_getElem? (i := 39) rfl
set_option maxRecDepth 100000 in
theorem ld_t139 : Cond.code yX3_cellsBarred cX3_cellsBarred 6 (some .int) ∈ lw_tbl := List.mem_of_getElem? (i := 605) rfl
set_option maxRecDepth 100000 in
theorem ld_t140 : Cond.methodLink RX3 106 yX3_failed ∈ lw_tbl := List.mem_of_getElem? (i := 606) rfl
set_option maxRecDepth 100000 in
theorem ld_t141 : Cond.instanceMethod yX3_failed ∈ lw_tbl := List.mem_of_getElem? (i := 608) rfl
set_option maxRecDepth 100000 in
theorem ld_t142 : Cond.selects RX3 yX3_failed yX3_failed ∈ lw_tbl := List.mem_of_getElem? (i := 40) rfl
set_option maxRecDepth 100000 in
theorem ld_t143 : Cond.code yX3_failed cX3_failed 2 (some .int) ∈ lw_tbl := List.mem_of_getElem? (i := 609) rfl
theorem ld_tk6 : ∀ w ∈ wsL_law_r6, w ∈ lw_tbl := List.forall_mem_cons.mpr ⟨ld_t120, List.forall_mem_cons.mpr ⟨ld_t121, List.forall_mem_cons.mpr ⟨ld_t122, List.forall_mem_cons.mpr ⟨ld_t123, List.forall_mem_cons.mpr ⟨ld_t124, List.forall_mem_cons.mpr ⟨ld_t125, List.forall_mem_cons.mpr ⟨ld_t126, List.forall_mem_cons.mpr ⟨ld_t127, List.forall_mem_cons.mpr ⟨ld_t128, List.forall_mem_cons.mpr ⟨ld_t129, List.forall_mem_cons.mpr ⟨ld_t130, List.forall_mem_cons.mpr ⟨ld_t131, List.forall_mem_cons.mpr ⟨ld_t132, List.forall_mem_cons.mpr ⟨ld_t133, List.forall_mem_cons.mpr ⟨ld_t134, List.forall_mem_cons.mpr ⟨ld_t135, List.forall_mem_cons.mpr ⟨ld_t136, List.forall_mem_cons.mpr ⟨ld_t137, List.forall_mem_cons.mpr ⟨ld_t138, List.forall_mem_cons.mpr ⟨ld_t139, List.forall_mem_cons.mpr ⟨ld_t140, List.forall_mem_cons.mpr ⟨ld_t141, List.forall_mem_cons.mpr ⟨ld_t142, List.forall_mem_cons.mpr ⟨ld_t143, (fun _ h => absurd h List.not_mem_nil)⟩⟩⟩⟩⟩⟩⟩⟩⟩⟩⟩⟩⟩⟩⟩⟩⟩⟩⟩⟩⟩⟩⟩⟩
set_option maxRecDepth 100000 in
theorem ld_t144 : Cond.methodLink RX3 110 yX3_isBeyond ∈ lw_tbl := List.mem_of_getElem? (i := 610) rfl
set_option maxRecDepth 100000 in
theorem ld_t145 : Cond.static yX3_isBeyond ∈ lw_tbl := List.mem_of_getElem? (i := 611) rfl
set_option maxRecDepth 100000 in
theorem ld_t146 : Cond.code yX3_isBeyond cX3_isBeyond 4 (some .boolean) ∈ lw_tbl := List.mem_of_getElem? (i := 612) rfl
set_option maxRecDepth 100000 in
theorem ld_t147 : Cond.methodLink RX3 127 yX3_readsStreet ∈ lw_tbl := List.mem_of_getElem? (i := 613) rfl
set_option maxRecDepth 100000 in
theorem ld_t148 : Cond.instanceMethod yX3_readsStreet ∈ lw_tbl := List.mem_of_getElem? (i := 615) rfl
set_option maxRecDepth 100000 in
theorem ld_t149 : Cond.selects RX3 yX3_readsStreet yX3_readsStreet ∈ lw_tbl := List.mem_of_getElem? (i := 41) rfl
set_option maxRecDepth 100000 in
theorem ld_t150 : Cond.code yX3_readsStreet cX3_readsStreet 6 (some .boolean) ∈ lw_tbl := List.mem_of_getElem? (i := 616) rfl
set_option maxRecDepth 100000 in
theorem ld_t151 : Cond.methodLink RX3 86 yX3_codeAt ∈ lw_tbl := List.mem_of_getElem? (i := 617) rfl
set_option maxRecDepth 100000 in
theorem ld_t152 : Cond.instanceMethod yX3_codeAt ∈ lw_tbl := List.mem_of_getElem? (i := 619) rfl
set_option maxRecDepth 100000 in
theorem ld_t153 : Cond.selects RX3 yX3_codeAt yX3_codeAt ∈ lw_tbl := List.mem_of_getElem? (i := 42) rfl
set_option maxRecDepth 100000 in
theorem ld_t154 : Cond.code yX3_codeAt cX3_codeAt 3 (some .int) ∈ lw_tbl := List.mem_of_getElem? (i := 620) rfl
set_option maxRecDepth 100000 in
theorem ld_t155 : Cond.methodLink RX3 95 yX3_figure ∈ lw_tbl := List.mem_of_getElem? (i := 621) rfl
set_option maxRecDepth 100000 in
theorem ld_t156 : Cond.instanceMethod yX3_figure ∈ lw_tbl := List.mem_of_getElem? (i := 623) rfl
set_option maxRecDepth 100000 in
theorem ld_t157 : Cond.selects RX3 yX3_figure yX3_figure ∈ lw_tbl := List.mem_of_getElem? (i := 43) rfl
set_option maxRecDepth 100000 in
theorem ld_t158 : Cond.code yX3_figure cX3_figure 6 (some .int) ∈ lw_tbl := List.mem_of_getElem? (i := 624) rfl
set_option maxRecDepth 100000 in
theorem ld_t159 : Cond.constantLong RX3 90 (9) ∈ lw_tbl := List.mem_of_getElem? (i := 625) rfl
set_option maxRecDepth 100000 in
theorem ld_t160 : Cond.methodLink RX3 102 yX3_readsHouse ∈ lw_tbl := List.mem_of_getElem? (i := 626) rfl
set_option maxRecDepth 100000 in
theorem ld_t161 : Cond.instanceMethod yX3_readsHouse ∈ lw_tbl := List.mem_of_getElem? (i := 628) rfl
set_option maxRecDepth 100000 in
theorem ld_t162 : Cond.selects RX3 yX3_readsHouse yX3_readsHouse ∈ lw_tbl := List.mem_of_getElem? (i := 44) rfl
set_option maxRecDepth 100000 in
theorem ld_t163 : Cond.code yX3_readsHouse cX3_readsHouse 6 (some .boolean) ∈ lw_tbl := List.mem_of_getElem? (i := 629) rfl
set_option maxRecDepth 100000 in
theorem ld_t164 : Cond.methodLink RL 18 yX2_ofHouse ∈ lw_tbl := List.mem_of_getElem? (i := 221) rfl
set_option maxRecDepth 100000 in
theorem ld_t165 : Cond.instanceMethod yX2_ofHouse ∈ lw_tbl := List.mem_of_getElem? (i := 222) rfl
set_option maxRecDepth 100000 in
theorem ld_t166 : Cond.selects RX2 yX2_ofHouse yX2_ofHouse ∈ lw_tbl := List.mem_of_getElem? (i := 223) rfl
set_option maxRecDepth 100000 in
theorem ld_t167 : Cond.code yX2_ofHouse cX2_ofHouse 3 (some .int) ∈ lw_tbl := List.mem_of_getElem? (i := 224) rfl
theorem ld_tk7 : ∀ w ∈ wsL_law_r7, w ∈ lw_tbl := List.forall_mem_cons.mpr ⟨ld_t144, List.forall_mem_cons.mpr ⟨ld_t145, List.forall_mem_cons.mpr ⟨ld_t146, List.forall_mem_cons.mpr ⟨ld_t147, List.forall_mem_cons.mpr ⟨ld_t148, List.forall_mem_cons.mpr ⟨ld_t149, List.forall_mem_cons.mpr ⟨ld_t150, List.forall_mem_cons.mpr ⟨ld_t151, List.forall_mem_cons.mpr ⟨ld_t152, List.forall_mem_cons.mpr ⟨ld_t153, List.forall_mem_cons.mpr ⟨ld_t154, List.forall_mem_cons.mpr ⟨ld_t155, List.forall_mem_cons.mpr ⟨ld_t156, List.forall_mem_cons.mpr ⟨ld_t157, List.forall_mem_cons.mpr ⟨ld_t158, List.forall_mem_cons.mpr ⟨ld_t159, List.forall_mem_cons.mpr ⟨ld_t160, List.forall_mem_cons.mpr ⟨ld_t161, List.forall_mem_cons.mpr ⟨ld_t162, List.forall_mem_cons.mpr ⟨ld_t163, List.forall_mem_cons.mpr ⟨ld_t164, List.forall_mem_cons.mpr ⟨ld_t165, List.forall_mem_cons.mpr ⟨ld_t166, List.forall_mem_cons.mpr ⟨ld_t167, (fun _ h => absurd h List.not_mem_nil)⟩⟩⟩⟩⟩⟩⟩⟩⟩⟩⟩⟩⟩⟩⟩⟩⟩⟩⟩⟩⟩⟩⟩⟩
set_option maxRecDepth 100000 in
theorem ld_t168 : Cond.methodLink RX2 77 yX2_isHouse ∈ lw_tbl := List.mem_of_getElem? (i := 225) rfl
set_option maxRecDepth 100000 in
theorem ld_t169 : Cond.instanceMethod yX2_isHouse ∈ lw_tbl := List.mem_of_getElem? (i := 227) rfl
set_option maxRecDepth 100000 in
theorem ld_t170 : Cond.selects RX2 yX2_isHouse yX2_isHouse ∈ lw_tbl := List.mem_of_getElem? (i := 5) rfl
set_option maxRecDepth 100000 in
theorem ld_t171 : Cond.code yX2_isHouse cX2_isHouse 2 (some .boolean) ∈ lw_tbl := List.mem_of_getElem? (i := 228) rfl
set_option maxRecDepth 100000 in
theorem ld_t172 : Cond.instanceMethod yX1_treesOf ∈ lw_tbl := List.mem_of_getElem? (i := 231) rfl
set_option maxRecDepth 100000 in
theorem ld_t173 : Cond.selects RX1 yX1_treesOf yX1_treesOf ∈ lw_tbl := List.mem_of_getElem? (i := 6) rfl
set_option maxRecDepth 100000 in
theorem ld_t174 : Cond.code yX1_treesOf cX1_treesOf 2 (some .int) ∈ lw_tbl := List.mem_of_getElem? (i := 232) rfl
set_option maxRecDepth 100000 in
theorem ld_t175 : Cond.instanceMethod yX1_sourOf ∈ lw_tbl := List.mem_of_getElem? (i := 235) rfl
set_option maxRecDepth 100000 in
theorem ld_t176 : Cond.selects RX1 yX1_sourOf yX1_sourOf ∈ lw_tbl := List.mem_of_getElem? (i := 7) rfl
set_option maxRecDepth 100000 in
theorem ld_t177 : Cond.code yX1_sourOf cX1_sourOf 2 (some .int) ∈ lw_tbl := List.mem_of_getElem? (i := 236) rfl
set_option maxRecDepth 100000 in
theorem ld_t178 : Cond.instanceMethod yX1_dealtTo ∈ lw_tbl := List.mem_of_getElem? (i := 239) rfl
set_option maxRecDepth 100000 in
theorem ld_t179 : Cond.selects RX1 yX1_dealtTo yX1_dealtTo ∈ lw_tbl := List.mem_of_getElem? (i := 8) rfl
set_option maxRecDepth 100000 in
theorem ld_t180 : Cond.code yX1_dealtTo cX1_dealtTo 3 (some .int) ∈ lw_tbl := List.mem_of_getElem? (i := 240) rfl
set_option maxRecDepth 100000 in
theorem ld_t181 : Cond.methodLink RX1 56 yX1_dealOut ∈ lw_tbl := List.mem_of_getElem? (i := 241) rfl
set_option maxRecDepth 100000 in
theorem ld_t182 : Cond.instanceMethod yX1_dealOut ∈ lw_tbl := List.mem_of_getElem? (i := 243) rfl
set_option maxRecDepth 100000 in
theorem ld_t183 : Cond.selects RX1 yX1_dealOut yX1_dealOut ∈ lw_tbl := List.mem_of_getElem? (i := 9) rfl
set_option maxRecDepth 100000 in
theorem ld_t184 : Cond.code yX1_dealOut cX1_dealOut 5 none ∈ lw_tbl := List.mem_of_getElem? (i := 244) rfl
set_option maxRecDepth 100000 in
theorem ld_t185 : Cond.methodLink RX1 60 yX1_sourOf ∈ lw_tbl := List.mem_of_getElem? (i := 245) rfl
set_option maxRecDepth 100000 in
theorem ld_t186 : Cond.methodLink RX1 63 yX1_aheadByRemainder ∈ lw_tbl := List.mem_of_getElem? (i := 246) rfl
set_option maxRecDepth 100000 in
theorem ld_t187 : Cond.instanceMethod yX1_aheadByRemainder ∈ lw_tbl := List.mem_of_getElem? (i := 248) rfl
set_option maxRecDepth 100000 in
theorem ld_t188 : Cond.selects RX1 yX1_aheadByRemainder yX1_aheadByRemainder ∈ lw_tbl := List.mem_of_getElem? (i := 10) rfl
set_option maxRecDepth 100000 in
theorem ld_t189 : Cond.code yX1_aheadByRemainder cX1_aheadByRemainder 4 (some .int) ∈ lw_tbl := List.mem_of_getElem? (i := 249) rfl
set_option maxRecDepth 100000 in
theorem ld_t190 : Cond.methodLink RL 22 yX3_ofHouse ∈ lw_tbl := List.mem_of_getElem? (i := 630) rfl
set_option maxRecDepth 100000 in
theorem ld_t191 : Cond.instanceMethod yX3_ofHouse ∈ lw_tbl := List.mem_of_getElem? (i := 631) rfl
theorem ld_tk8 : ∀ w ∈ wsL_law_r8, w ∈ lw_tbl := List.forall_mem_cons.mpr ⟨ld_t168, List.forall_mem_cons.mpr ⟨ld_t169, List.forall_mem_cons.mpr ⟨ld_t170, List.forall_mem_cons.mpr ⟨ld_t171, List.forall_mem_cons.mpr ⟨ld_t172, List.forall_mem_cons.mpr ⟨ld_t173, List.forall_mem_cons.mpr ⟨ld_t174, List.forall_mem_cons.mpr ⟨ld_t175, List.forall_mem_cons.mpr ⟨ld_t176, List.forall_mem_cons.mpr ⟨ld_t177, List.forall_mem_cons.mpr ⟨ld_t178, List.forall_mem_cons.mpr ⟨ld_t179, List.forall_mem_cons.mpr ⟨ld_t180, List.forall_mem_cons.mpr ⟨ld_t181, List.forall_mem_cons.mpr ⟨ld_t182, List.forall_mem_cons.mpr ⟨ld_t183, List.forall_mem_cons.mpr ⟨ld_t184, List.forall_mem_cons.mpr ⟨ld_t185, List.forall_mem_cons.mpr ⟨ld_t186, List.forall_mem_cons.mpr ⟨ld_t187, List.forall_mem_cons.mpr ⟨ld_t188, List.forall_mem_cons.mpr ⟨ld_t189, List.forall_mem_cons.mpr ⟨ld_t190, List.forall_mem_cons.mpr ⟨ld_t191, (fun _ h => absurd h List.not_mem_nil)⟩⟩⟩⟩⟩⟩⟩⟩⟩⟩⟩⟩⟩⟩⟩⟩⟩⟩⟩⟩⟩⟩⟩⟩
set_option maxRecDepth 100000 in
theorem ld_t192 : Cond.selects RX3 yX3_ofHouse yX3_ofHouse ∈ lw_tbl := List.mem_of_getElem? (i := 632) rfl
set_option maxRecDepth 100000 in
theorem ld_t193 : Cond.code yX3_ofHouse cX3_ofHouse 3 (some .int) ∈ lw_tbl := List.mem_of_getElem? (i := 633) rfl
set_option maxRecDepth 100000 in
theorem ld_t194 : Cond.methodLink RX3 149 yX3_noHouse ∈ lw_tbl := List.mem_of_getElem? (i := 634) rfl
set_option maxRecDepth 100000 in
theorem ld_t195 : Cond.instanceMethod yX3_noHouse ∈ lw_tbl := List.mem_of_getElem? (i := 636) rfl
set_option maxRecDepth 100000 in
theorem ld_t196 : Cond.selects RX3 yX3_noHouse yX3_noHouse ∈ lw_tbl := List.mem_of_getElem? (i := 45) rfl
set_option maxRecDepth 100000 in
theorem ld_t197 : Cond.code yX3_noHouse cX3_noHouse 2 (some .boolean) ∈ lw_tbl := List.mem_of_getElem? (i := 637) rfl
set_option maxRecDepth 100000 in
theorem ld_t198 : Cond.methodLink RX3 139 yX3_sourOf ∈ lw_tbl := List.mem_of_getElem? (i := 638) rfl
set_option maxRecDepth 100000 in
theorem ld_t199 : Cond.instanceMethod yX3_sourOf ∈ lw_tbl := List.mem_of_getElem? (i := 640) rfl
set_option maxRecDepth 100000 in
theorem ld_t200 : Cond.selects RX3 yX3_sourOf yX3_sourOf ∈ lw_tbl := List.mem_of_getElem? (i := 46) rfl
set_option maxRecDepth 100000 in
theorem ld_t201 : Cond.code yX3_sourOf cX3_sourOf 3 (some .int) ∈ lw_tbl := List.mem_of_getElem? (i := 641) rfl
set_option maxRecDepth 100000 in
theorem ld_t202 : Cond.methodLink RX3 152 yX3_dealtTo ∈ lw_tbl := List.mem_of_getElem? (i := 642) rfl
set_option maxRecDepth 100000 in
theorem ld_t203 : Cond.instanceMethod yX3_dealtTo ∈ lw_tbl := List.mem_of_getElem? (i := 644) rfl
set_option maxRecDepth 100000 in
theorem ld_t204 : Cond.selects RX3 yX3_dealtTo yX3_dealtTo ∈ lw_tbl := List.mem_of_getElem? (i := 47) rfl
set_option maxRecDepth 100000 in
theorem ld_t205 : Cond.code yX3_dealtTo cX3_dealtTo 6 (some .int) ∈ lw_tbl := List.mem_of_getElem? (i := 645) rfl
set_option maxRecDepth 100000 in
theorem ld_t206 : Cond.methodLink RX3 142 yX3_sourOfAll ∈ lw_tbl := List.mem_of_getElem? (i := 646) rfl
set_option maxRecDepth 100000 in
theorem ld_t207 : Cond.instanceMethod yX3_sourOfAll ∈ lw_tbl := List.mem_of_getElem? (i := 648) rfl
set_option maxRecDepth 100000 in
theorem ld_t208 : Cond.selects RX3 yX3_sourOfAll yX3_sourOfAll ∈ lw_tbl := List.mem_of_getElem? (i := 48) rfl
set_option maxRecDepth 100000 in
theorem ld_t209 : Cond.code yX3_sourOfAll cX3_sourOfAll 3 (some .int) ∈ lw_tbl := List.mem_of_getElem? (i := 649) rfl
set_option maxRecDepth 100000 in
theorem ld_t210 : Cond.methodLink RX3 146 yX3_aheadOf ∈ lw_tbl := List.mem_of_getElem? (i := 650) rfl
set_option maxRecDepth 100000 in
theorem ld_t211 : Cond.instanceMethod yX3_aheadOf ∈ lw_tbl := List.mem_of_getElem? (i := 652) rfl
set_option maxRecDepth 100000 in
theorem ld_t212 : Cond.selects RX3 yX3_aheadOf yX3_aheadOf ∈ lw_tbl := List.mem_of_getElem? (i := 49) rfl
set_option maxRecDepth 100000 in
theorem ld_t213 : Cond.code yX3_aheadOf cX3_aheadOf 8 (some .int) ∈ lw_tbl := List.mem_of_getElem? (i := 653) rfl
set_option maxRecDepth 100000 in
theorem ld_t214 : Cond.methodLink RL 23 yX2_anger ∈ lw_tbl := List.mem_of_getElem? (i := 250) rfl
set_option maxRecDepth 100000 in
theorem ld_t215 : Cond.instanceMethod yX2_anger ∈ lw_tbl := List.mem_of_getElem? (i := 251) rfl
theorem ld_tk9 : ∀ w ∈ wsL_law_r9, w ∈ lw_tbl := List.forall_mem_cons.mpr ⟨ld_t192, List.forall_mem_cons.mpr ⟨ld_t193, List.forall_mem_cons.mpr ⟨ld_t194, List.forall_mem_cons.mpr ⟨ld_t195, List.forall_mem_cons.mpr ⟨ld_t196, List.forall_mem_cons.mpr ⟨ld_t197, List.forall_mem_cons.mpr ⟨ld_t198, List.forall_mem_cons.mpr ⟨ld_t199, List.forall_mem_cons.mpr ⟨ld_t200, List.forall_mem_cons.mpr ⟨ld_t201, List.forall_mem_cons.mpr ⟨ld_t202, List.forall_mem_cons.mpr ⟨ld_t203, List.forall_mem_cons.mpr ⟨ld_t204, List.forall_mem_cons.mpr ⟨ld_t205, List.forall_mem_cons.mpr ⟨ld_t206, List.forall_mem_cons.mpr ⟨ld_t207, List.forall_mem_cons.mpr ⟨ld_t208, List.forall_mem_cons.mpr ⟨ld_t209, List.forall_mem_cons.mpr ⟨ld_t210, List.forall_mem_cons.mpr ⟨ld_t211, List.forall_mem_cons.mpr ⟨ld_t212, List.forall_mem_cons.mpr ⟨ld_t213, List.forall_mem_cons.mpr ⟨ld_t214, List.forall_mem_cons.mpr ⟨ld_t215, (fun _ h => absurd h List.not_mem_nil)⟩⟩⟩⟩⟩⟩⟩⟩⟩⟩⟩⟩⟩⟩⟩⟩⟩⟩⟩⟩⟩⟩⟩⟩
set_option maxRecDepth 100000 in
theorem ld_t216 : Cond.selects RX2 yX2_anger yX2_anger ∈ lw_tbl := List.mem_of_getElem? (i := 252) rfl
set_option maxRecDepth 100000 in
theorem ld_t217 : Cond.code yX2_anger cX2_anger 4 (some .int) ∈ lw_tbl := List.mem_of_getElem? (i := 253) rfl
set_option maxRecDepth 100000 in
theorem ld_t218 : Cond.methodLink RX2 105 yX2_isTemper ∈ lw_tbl := List.mem_of_getElem? (i := 254) rfl
set_option maxRecDepth 100000 in
theorem ld_t219 : Cond.static yX2_isTemper ∈ lw_tbl := List.mem_of_getElem? (i := 255) rfl
set_option maxRecDepth 100000 in
theorem ld_t220 : Cond.code yX2_isTemper cX2_isTemper 1 (some .boolean) ∈ lw_tbl := List.mem_of_getElem? (i := 256) rfl
set_option maxRecDepth 100000 in
theorem ld_t221 : Cond.methodLink RL 26 yX3_anger ∈ lw_tbl := List.mem_of_getElem? (i := 654) rfl
set_option maxRecDepth 100000 in
theorem ld_t222 : Cond.instanceMethod yX3_anger ∈ lw_tbl := List.mem_of_getElem? (i := 655) rfl
set_option maxRecDepth 100000 in
theorem ld_t223 : Cond.selects RX3 yX3_anger yX3_anger ∈ lw_tbl := List.mem_of_getElem? (i := 656) rfl
set_option maxRecDepth 100000 in
theorem ld_t224 : Cond.code yX3_anger cX3_anger 4 (some .int) ∈ lw_tbl := List.mem_of_getElem? (i := 657) rfl
set_option maxRecDepth 100000 in
theorem ld_t225 : Cond.methodLink RL 27 yX2_crate ∈ lw_tbl := List.mem_of_getElem? (i := 257) rfl
set_option maxRecDepth 100000 in
theorem ld_t226 : Cond.instanceMethod yX2_crate ∈ lw_tbl := List.mem_of_getElem? (i := 258) rfl
set_option maxRecDepth 100000 in
theorem ld_t227 : Cond.selects RX2 yX2_crate yX2_crate ∈ lw_tbl := List.mem_of_getElem? (i := 259) rfl
set_option maxRecDepth 100000 in
theorem ld_t228 : Cond.code yX2_crate cX2_crate 3 (some .int) ∈ lw_tbl := List.mem_of_getElem? (i := 260) rfl
set_option maxRecDepth 100000 in
theorem ld_t229 : Cond.methodLink RX2 108 yX2_hasStreet ∈ lw_tbl := List.mem_of_getElem? (i := 261) rfl
set_option maxRecDepth 100000 in
theorem ld_t230 : Cond.instanceMethod yX2_hasStreet ∈ lw_tbl := List.mem_of_getElem? (i := 263) rfl
set_option maxRecDepth 100000 in
theorem ld_t231 : Cond.selects RX2 yX2_hasStreet yX2_hasStreet ∈ lw_tbl := List.mem_of_getElem? (i := 11) rfl
set_option maxRecDepth 100000 in
theorem ld_t232 : Cond.code yX2_hasStreet cX2_hasStreet 1 (some .boolean) ∈ lw_tbl := List.mem_of_getElem? (i := 264) rfl
set_option maxRecDepth 100000 in
theorem ld_t233 : Cond.methodLink RX2 112 yX2_isCrate ∈ lw_tbl := List.mem_of_getElem? (i := 265) rfl
set_option maxRecDepth 100000 in
theorem ld_t234 : Cond.static yX2_isCrate ∈ lw_tbl := List.mem_of_getElem? (i := 266) rfl
set_option maxRecDepth 100000 in
theorem ld_t235 : Cond.code yX2_isCrate cX2_isCrate 1 (some .boolean) ∈ lw_tbl := List.mem_of_getElem? (i := 267) rfl
set_option maxRecDepth 100000 in
theorem ld_t236 : Cond.methodLink RL 31 yX3_crate ∈ lw_tbl := List.mem_of_getElem? (i := 658) rfl
set_option maxRecDepth 100000 in
theorem ld_t237 : Cond.instanceMethod yX3_crate ∈ lw_tbl := List.mem_of_getElem? (i := 659) rfl
set_option maxRecDepth 100000 in
theorem ld_t238 : Cond.selects RX3 yX3_crate yX3_crate ∈ lw_tbl := List.mem_of_getElem? (i := 660) rfl
set_option maxRecDepth 100000 in
theorem ld_t239 : Cond.code yX3_crate cX3_crate 3 (some .int) ∈ lw_tbl := List.mem_of_getElem? (i := 661) rfl
theorem ld_tk10 : ∀ w ∈ wsL_law_r10, w ∈ lw_tbl := List.forall_mem_cons.mpr ⟨ld_t216, List.forall_mem_cons.mpr ⟨ld_t217, List.forall_mem_cons.mpr ⟨ld_t218, List.forall_mem_cons.mpr ⟨ld_t219, List.forall_mem_cons.mpr ⟨ld_t220, List.forall_mem_cons.mpr ⟨ld_t221, List.forall_mem_cons.mpr ⟨ld_t222, List.forall_mem_cons.mpr ⟨ld_t223, List.forall_mem_cons.mpr ⟨ld_t224, List.forall_mem_cons.mpr ⟨ld_t225, List.forall_mem_cons.mpr ⟨ld_t226, List.forall_mem_cons.mpr ⟨ld_t227, List.forall_mem_cons.mpr ⟨ld_t228, List.forall_mem_cons.mpr ⟨ld_t229, List.forall_mem_cons.mpr ⟨ld_t230, List.forall_mem_cons.mpr ⟨ld_t231, List.forall_mem_cons.mpr ⟨ld_t232, List.forall_mem_cons.mpr ⟨ld_t233, List.forall_mem_cons.mpr ⟨ld_t234, List.forall_mem_cons.mpr ⟨ld_t235, List.forall_mem_cons.mpr ⟨ld_t236, List.forall_mem_cons.mpr ⟨ld_t237, List.forall_mem_cons.mpr ⟨ld_t238, List.forall_mem_cons.mpr ⟨ld_t239, (fun _ h => absurd h List.not_mem_nil)⟩⟩⟩⟩⟩⟩⟩⟩⟩⟩⟩⟩⟩⟩⟩⟩⟩⟩⟩⟩⟩⟩⟩⟩
set_option maxRecDepth 100000 in
theorem ld_t240 : Cond.methodLink RX3 155 yX3_isCrate ∈ lw_tbl := List.mem_of_getElem? (i := 662) rfl
set_option maxRecDepth 100000 in
theorem ld_t241 : Cond.static yX3_isCrate ∈ lw_tbl := List.mem_of_getElem? (i := 663) rfl
set_option maxRecDepth 100000 in
theorem ld_t242 : Cond.code yX3_isCrate cX3_isCrate 1 (some .boolean) ∈ lw_tbl := List.mem_of_getElem? (i := 664) rfl
set_option maxRecDepth 100000 in
theorem ld_t243 : Cond.constantLong RX3 81 (99) ∈ lw_tbl := List.mem_of_getElem? (i := 665) rfl
set_option maxRecDepth 100000 in
theorem ld_t244 : Cond.methodLink RL 32 yX2_deal ∈ lw_tbl := List.mem_of_getElem? (i := 268) rfl
set_option maxRecDepth 100000 in
theorem ld_t245 : Cond.instanceMethod yX2_deal ∈ lw_tbl := List.mem_of_getElem? (i := 269) rfl
set_option maxRecDepth 100000 in
theorem ld_t246 : Cond.selects RX2 yX2_deal yX2_deal ∈ lw_tbl := List.mem_of_getElem? (i := 270) rfl
set_option maxRecDepth 100000 in
theorem ld_t247 : Cond.code yX2_deal cX2_deal 3 (some .int) ∈ lw_tbl := List.mem_of_getElem? (i := 271) rfl
set_option maxRecDepth 100000 in
theorem ld_t248 : Cond.methodLink RL 35 yX3_deal ∈ lw_tbl := List.mem_of_getElem? (i := 666) rfl
set_option maxRecDepth 100000 in
theorem ld_t249 : Cond.instanceMethod yX3_deal ∈ lw_tbl := List.mem_of_getElem? (i := 667) rfl
set_option maxRecDepth 100000 in
theorem ld_t250 : Cond.selects RX3 yX3_deal yX3_deal ∈ lw_tbl := List.mem_of_getElem? (i := 668) rfl
set_option maxRecDepth 100000 in
theorem ld_t251 : Cond.code yX3_deal cX3_deal 3 (some .int) ∈ lw_tbl := List.mem_of_getElem? (i := 669) rfl
set_option maxRecDepth 100000 in
theorem ld_t252 : Cond.methodLink RL 36 yX2_weeks ∈ lw_tbl := List.mem_of_getElem? (i := 272) rfl
set_option maxRecDepth 100000 in
theorem ld_t253 : Cond.instanceMethod yX2_weeks ∈ lw_tbl := List.mem_of_getElem? (i := 273) rfl
set_option maxRecDepth 100000 in
theorem ld_t254 : Cond.selects RX2 yX2_weeks yX2_weeks ∈ lw_tbl := List.mem_of_getElem? (i := 274) rfl
set_option maxRecDepth 100000 in
theorem ld_t255 : Cond.code yX2_weeks cX2_weeks 2 (some .int) ∈ lw_tbl := List.mem_of_getElem? (i := 275) rfl
set_option maxRecDepth 100000 in
theorem ld_t256 : Cond.instanceMethod yX1_passWeeks ∈ lw_tbl := List.mem_of_getElem? (i := 278) rfl
set_option maxRecDepth 100000 in
theorem ld_t257 : Cond.selects RX1 yX1_passWeeks yX1_passWeeks ∈ lw_tbl := List.mem_of_getElem? (i := 12) rfl
set_option maxRecDepth 100000 in
theorem ld_t258 : Cond.code yX1_passWeeks cX1_passWeeks 3 none ∈ lw_tbl := List.mem_of_getElem? (i := 279) rfl
set_option maxRecDepth 100000 in
theorem ld_t259 : Cond.methodLink RX1 74 yX1_passWeek ∈ lw_tbl := List.mem_of_getElem? (i := 280) rfl
set_option maxRecDepth 100000 in
theorem ld_t260 : Cond.instanceMethod yX1_passWeek ∈ lw_tbl := List.mem_of_getElem? (i := 282) rfl
set_option maxRecDepth 100000 in
theorem ld_t261 : Cond.selects RX1 yX1_passWeek yX1_passWeek ∈ lw_tbl := List.mem_of_getElem? (i := 13) rfl
set_option maxRecDepth 100000 in
theorem ld_t262 : Cond.code yX1_passWeek cX1_passWeek 2 none ∈ lw_tbl := List.mem_of_getElem? (i := 283) rfl
set_option maxRecDepth 100000 in
theorem ld_t263 : Cond.methodLink RX1 77 yX1_treesOf ∈ lw_tbl := List.mem_of_getElem? (i := 284) rfl
theorem ld_tk11 : ∀ w ∈ wsL_law_r11, w ∈ lw_tbl := List.forall_mem_cons.mpr ⟨ld_t240, List.forall_mem_cons.mpr ⟨ld_t241, List.forall_mem_cons.mpr ⟨ld_t242, List.forall_mem_cons.mpr ⟨ld_t243, List.forall_mem_cons.mpr ⟨ld_t244, List.forall_mem_cons.mpr ⟨ld_t245, List.forall_mem_cons.mpr ⟨ld_t246, List.forall_mem_cons.mpr ⟨ld_t247, List.forall_mem_cons.mpr ⟨ld_t248, List.forall_mem_cons.mpr ⟨ld_t249, List.forall_mem_cons.mpr ⟨ld_t250, List.forall_mem_cons.mpr ⟨ld_t251, List.forall_mem_cons.mpr ⟨ld_t252, List.forall_mem_cons.mpr ⟨ld_t253, List.forall_mem_cons.mpr ⟨ld_t254, List.forall_mem_cons.mpr ⟨ld_t255, List.forall_mem_cons.mpr ⟨ld_t256, List.forall_mem_cons.mpr ⟨ld_t257, List.forall_mem_cons.mpr ⟨ld_t258, List.forall_mem_cons.mpr ⟨ld_t259, List.forall_mem_cons.mpr ⟨ld_t260, List.forall_mem_cons.mpr ⟨ld_t261, List.forall_mem_cons.mpr ⟨ld_t262, List.forall_mem_cons.mpr ⟨ld_t263, (fun _ h => absurd h List.not_mem_nil)⟩⟩⟩⟩⟩⟩⟩⟩⟩⟩⟩⟩⟩⟩⟩⟩⟩⟩⟩⟩⟩⟩⟩⟩
set_option maxRecDepth 100000 in
theorem ld_t264 : Cond.methodLink RX1 80 yX1_suck ∈ lw_tbl := List.mem_of_getElem? (i := 285) rfl
set_option maxRecDepth 100000 in
theorem ld_t265 : Cond.instanceMethod yX1_suck ∈ lw_tbl := List.mem_of_getElem? (i := 287) rfl
set_option maxRecDepth 100000 in
theorem ld_t266 : Cond.selects RX1 yX1_suck yX1_suck ∈ lw_tbl := List.mem_of_getElem? (i := 14) rfl
set_option maxRecDepth 100000 in
theorem ld_t267 : Cond.code yX1_suck cX1_suck 2 none ∈ lw_tbl := List.mem_of_getElem? (i := 288) rfl
set_option maxRecDepth 100000 in
theorem ld_t268 : Cond.methodLink RX1 86 Lib.Math.max.name ∈ lw_tbl := List.mem_of_getElem? (i := 289) rfl
set_option maxRecDepth 100000 in
theorem ld_t269 : Cond.static Lib.Math.max.name ∈ lw_tbl := List.mem_of_getElem? (i := 290) rfl
set_option maxRecDepth 100000 in
theorem ld_t270 : Cond.code Lib.Math.max.name Lib.Math.max.code 2 (some .int) ∈ lw_tbl := List.mem_of_getElem? (i := 291) rfl
set_option maxRecDepth 100000 in
theorem ld_t271 : Cond.methodLink RX1 83 yX1_withoutStock ∈ lw_tbl := List.mem_of_getElem? (i := 292) rfl
set_option maxRecDepth 100000 in
theorem ld_t272 : Cond.instanceMethod yX1_withoutStock ∈ lw_tbl := List.mem_of_getElem? (i := 294) rfl
set_option maxRecDepth 100000 in
theorem ld_t273 : Cond.selects RX1 yX1_withoutStock yX1_withoutStock ∈ lw_tbl := List.mem_of_getElem? (i := 15) rfl
set_option maxRecDepth 100000 in
theorem ld_t274 : Cond.code yX1_withoutStock cX1_withoutStock 3 (some .int) ∈ lw_tbl := List.mem_of_getElem? (i := 295) rfl
set_option maxRecDepth 100000 in
theorem ld_t275 : Cond.methodLink RL 39 yX3_weeks ∈ lw_tbl := List.mem_of_getElem? (i := 670) rfl
set_option maxRecDepth 100000 in
theorem ld_t276 : Cond.instanceMethod yX3_weeks ∈ lw_tbl := List.mem_of_getElem? (i := 671) rfl
set_option maxRecDepth 100000 in
theorem ld_t277 : Cond.selects RX3 yX3_weeks yX3_weeks ∈ lw_tbl := List.mem_of_getElem? (i := 672) rfl
set_option maxRecDepth 100000 in
theorem ld_t278 : Cond.code yX3_weeks cX3_weeks 3 (some .int) ∈ lw_tbl := List.mem_of_getElem? (i := 673) rfl
set_option maxRecDepth 100000 in
theorem ld_t279 : Cond.constantLong RX3 158 (60) ∈ lw_tbl := List.mem_of_getElem? (i := 674) rfl
set_option maxRecDepth 100000 in
theorem ld_t280 : Cond.methodLink RX3 160 yX3_passes ∈ lw_tbl := List.mem_of_getElem? (i := 675) rfl
set_option maxRecDepth 100000 in
theorem ld_t281 : Cond.instanceMethod yX3_passes ∈ lw_tbl := List.mem_of_getElem? (i := 677) rfl
set_option maxRecDepth 100000 in
theorem ld_t282 : Cond.selects RX3 yX3_passes yX3_passes ∈ lw_tbl := List.mem_of_getElem? (i := 50) rfl
set_option maxRecDepth 100000 in
theorem ld_t283 : Cond.code yX3_passes cX3_passes 4 none ∈ lw_tbl := List.mem_of_getElem? (i := 678) rfl
set_option maxRecDepth 100000 in
theorem ld_t284 : Cond.methodLink RX3 163 yX3_without ∈ lw_tbl := List.mem_of_getElem? (i := 679) rfl
set_option maxRecDepth 100000 in
theorem ld_t285 : Cond.instanceMethod yX3_without ∈ lw_tbl := List.mem_of_getElem? (i := 681) rfl
set_option maxRecDepth 100000 in
theorem ld_t286 : Cond.selects RX3 yX3_without yX3_without ∈ lw_tbl := List.mem_of_getElem? (i := 51) rfl
set_option maxRecDepth 100000 in
theorem ld_t287 : Cond.code yX3_without cX3_without 3 (some .int) ∈ lw_tbl := List.mem_of_getElem? (i := 682) rfl
theorem ld_tk12 : ∀ w ∈ wsL_law_r12, w ∈ lw_tbl := List.forall_mem_cons.mpr ⟨ld_t264, List.forall_mem_cons.mpr ⟨ld_t265, List.forall_mem_cons.mpr ⟨ld_t266, List.forall_mem_cons.mpr ⟨ld_t267, List.forall_mem_cons.mpr ⟨ld_t268, List.forall_mem_cons.mpr ⟨ld_t269, List.forall_mem_cons.mpr ⟨ld_t270, List.forall_mem_cons.mpr ⟨ld_t271, List.forall_mem_cons.mpr ⟨ld_t272, List.forall_mem_cons.mpr ⟨ld_t273, List.forall_mem_cons.mpr ⟨ld_t274, List.forall_mem_cons.mpr ⟨ld_t275, List.forall_mem_cons.mpr ⟨ld_t276, List.forall_mem_cons.mpr ⟨ld_t277, List.forall_mem_cons.mpr ⟨ld_t278, List.forall_mem_cons.mpr ⟨ld_t279, List.forall_mem_cons.mpr ⟨ld_t280, List.forall_mem_cons.mpr ⟨ld_t281, List.forall_mem_cons.mpr ⟨ld_t282, List.forall_mem_cons.mpr ⟨ld_t283, List.forall_mem_cons.mpr ⟨ld_t284, List.forall_mem_cons.mpr ⟨ld_t285, List.forall_mem_cons.mpr ⟨ld_t286, List.forall_mem_cons.mpr ⟨ld_t287, (fun _ h => absurd h List.not_mem_nil)⟩⟩⟩⟩⟩⟩⟩⟩⟩⟩⟩⟩⟩⟩⟩⟩⟩⟩⟩⟩⟩⟩⟩⟩
set_option maxRecDepth 100000 in
theorem ld_t288 : Cond.methodLink RL 40 yX2_gift ∈ lw_tbl := List.mem_of_getElem? (i := 297) rfl
set_option maxRecDepth 100000 in
theorem ld_t289 : Cond.instanceMethod yX2_gift ∈ lw_tbl := List.mem_of_getElem? (i := 298) rfl
set_option maxRecDepth 100000 in
theorem ld_t290 : Cond.selects RX2 yX2_gift yX2_gift ∈ lw_tbl := List.mem_of_getElem? (i := 299) rfl
set_option maxRecDepth 100000 in
theorem ld_t291 : Cond.code yX2_gift cX2_gift 2 (some .int) ∈ lw_tbl := List.mem_of_getElem? (i := 300) rfl
set_option maxRecDepth 100000 in
theorem ld_t292 : Cond.instanceMethod yX1_giveOneFrom ∈ lw_tbl := List.mem_of_getElem? (i := 303) rfl
set_option maxRecDepth 100000 in
theorem ld_t293 : Cond.selects RX1 yX1_giveOneFrom yX1_giveOneFrom ∈ lw_tbl := List.mem_of_getElem? (i := 16) rfl
set_option maxRecDepth 100000 in
theorem ld_t294 : Cond.code yX1_giveOneFrom cX1_giveOneFrom 2 (some .boolean) ∈ lw_tbl := List.mem_of_getElem? (i := 304) rfl
set_option maxRecDepth 100000 in
theorem ld_t295 : Cond.methodLink RL 43 yX3_gift ∈ lw_tbl := List.mem_of_getElem? (i := 683) rfl
set_option maxRecDepth 100000 in
theorem ld_t296 : Cond.instanceMethod yX3_gift ∈ lw_tbl := List.mem_of_getElem? (i := 684) rfl
set_option maxRecDepth 100000 in
theorem ld_t297 : Cond.selects RX3 yX3_gift yX3_gift ∈ lw_tbl := List.mem_of_getElem? (i := 685) rfl
set_option maxRecDepth 100000 in
theorem ld_t298 : Cond.code yX3_gift cX3_gift 2 (some .int) ∈ lw_tbl := List.mem_of_getElem? (i := 686) rfl
set_option maxRecDepth 100000 in
theorem ld_t299 : Cond.methodLink RX3 166 yX3_gave ∈ lw_tbl := List.mem_of_getElem? (i := 687) rfl
set_option maxRecDepth 100000 in
theorem ld_t300 : Cond.instanceMethod yX3_gave ∈ lw_tbl := List.mem_of_getElem? (i := 689) rfl
set_option maxRecDepth 100000 in
theorem ld_t301 : Cond.selects RX3 yX3_gave yX3_gave ∈ lw_tbl := List.mem_of_getElem? (i := 52) rfl
set_option maxRecDepth 100000 in
theorem ld_t302 : Cond.code yX3_gave cX3_gave 4 (some .boolean) ∈ lw_tbl := List.mem_of_getElem? (i := 690) rfl
set_option maxRecDepth 100000 in
theorem ld_t303 : Cond.methodLink RL 44 yX2_season ∈ lw_tbl := List.mem_of_getElem? (i := 305) rfl
set_option maxRecDepth 100000 in
theorem ld_t304 : Cond.instanceMethod yX2_season ∈ lw_tbl := List.mem_of_getElem? (i := 306) rfl
set_option maxRecDepth 100000 in
theorem ld_t305 : Cond.selects RX2 yX2_season yX2_season ∈ lw_tbl := List.mem_of_getElem? (i := 307) rfl
set_option maxRecDepth 100000 in
theorem ld_t306 : Cond.code yX2_season cX2_season 10 (some .int) ∈ lw_tbl := List.mem_of_getElem? (i := 308) rfl
set_option maxRecDepth 100000 in
theorem ld_t307 : Cond.methodLink RX2 126 yX2_isAskedOfSeason ∈ lw_tbl := List.mem_of_getElem? (i := 309) rfl
set_option maxRecDepth 100000 in
theorem ld_t308 : Cond.static yX2_isAskedOfSeason ∈ lw_tbl := List.mem_of_getElem? (i := 310) rfl
set_option maxRecDepth 100000 in
theorem ld_t309 : Cond.code yX2_isAskedOfSeason cX2_isAskedOfSeason 1 (some .boolean) ∈ lw_tbl := List.mem_of_getElem? (i := 311) rfl
set_option maxRecDepth 100000 in
theorem ld_t310 : Cond.methodLink RX2 129 yX2_refusalOfPairs ∈ lw_tbl := List.mem_of_getElem? (i := 312) rfl
set_option maxRecDepth 100000 in
theorem ld_t311 : Cond.instanceMethod yX2_refusalOfPairs ∈ lw_tbl := List.mem_of_getElem? (i := 314) rfl
theorem ld_tk13 : ∀ w ∈ wsL_law_r13, w ∈ lw_tbl := List.forall_mem_cons.mpr ⟨ld_t288, List.forall_mem_cons.mpr ⟨ld_t289, List.forall_mem_cons.mpr ⟨ld_t290, List.forall_mem_cons.mpr ⟨ld_t291, List.forall_mem_cons.mpr ⟨ld_t292, List.forall_mem_cons.mpr ⟨ld_t293, List.forall_mem_cons.mpr ⟨ld_t294, List.forall_mem_cons.mpr ⟨ld_t295, List.forall_mem_cons.mpr ⟨ld_t296, List.forall_mem_cons.mpr ⟨ld_t297, List.forall_mem_cons.mpr ⟨ld_t298, List.forall_mem_cons.mpr ⟨ld_t299, List.forall_mem_cons.mpr ⟨ld_t300, List.forall_mem_cons.mpr ⟨ld_t301, List.forall_mem_cons.mpr ⟨ld_t302, List.forall_mem_cons.mpr ⟨ld_t303, List.forall_mem_cons.mpr ⟨ld_t304, List.forall_mem_cons.mpr ⟨ld_t305, List.forall_mem_cons.mpr ⟨ld_t306, List.forall_mem_cons.mpr ⟨ld_t307, List.forall_mem_cons.mpr ⟨ld_t308, List.forall_mem_cons.mpr ⟨ld_t309, List.forall_mem_cons.mpr ⟨ld_t310, List.forall_mem_cons.mpr ⟨ld_t311, (fun _ h => absurd h List.not_mem_nil)⟩⟩⟩⟩⟩⟩⟩⟩⟩⟩⟩⟩⟩⟩⟩⟩⟩⟩⟩⟩⟩⟩⟩⟩
set_option maxRecDepth 100000 in
theorem ld_t312 : Cond.selects RX2 yX2_refusalOfPairs yX2_refusalOfPairs ∈ lw_tbl := List.mem_of_getElem? (i := 17) rfl
set_option maxRecDepth 100000 in
theorem ld_t313 : Cond.code yX2_refusalOfPairs cX2_refusalOfPairs 6 (some .int) ∈ lw_tbl := List.mem_of_getElem? (i := 315) rfl
set_option maxRecDepth 100000 in
theorem ld_t314 : Cond.methodLink RX2 211 yX2_refusalOfPair ∈ lw_tbl := List.mem_of_getElem? (i := 316) rfl
set_option maxRecDepth 100000 in
theorem ld_t315 : Cond.instanceMethod yX2_refusalOfPair ∈ lw_tbl := List.mem_of_getElem? (i := 318) rfl
set_option maxRecDepth 100000 in
theorem ld_t316 : Cond.selects RX2 yX2_refusalOfPair yX2_refusalOfPair ∈ lw_tbl := List.mem_of_getElem? (i := 18) rfl
set_option maxRecDepth 100000 in
theorem ld_t317 : Cond.code yX2_refusalOfPair cX2_refusalOfPair 3 (some .int) ∈ lw_tbl := List.mem_of_getElem? (i := 319) rfl
set_option maxRecDepth 100000 in
theorem ld_t318 : Cond.instanceMethod yX1_becomeLike ∈ lw_tbl := List.mem_of_getElem? (i := 322) rfl
set_option maxRecDepth 100000 in
theorem ld_t319 : Cond.selects RX1 yX1_becomeLike yX1_becomeLike ∈ lw_tbl := List.mem_of_getElem? (i := 19) rfl
set_option maxRecDepth 100000 in
theorem ld_t320 : Cond.code yX1_becomeLike cX1_becomeLike 3 none ∈ lw_tbl := List.mem_of_getElem? (i := 323) rfl
set_option maxRecDepth 100000 in
theorem ld_t321 : Cond.methodLink RX2 136 yX2_actPairs ∈ lw_tbl := List.mem_of_getElem? (i := 324) rfl
set_option maxRecDepth 100000 in
theorem ld_t322 : Cond.instanceMethod yX2_actPairs ∈ lw_tbl := List.mem_of_getElem? (i := 326) rfl
set_option maxRecDepth 100000 in
theorem ld_t323 : Cond.selects RX2 yX2_actPairs yX2_actPairs ∈ lw_tbl := List.mem_of_getElem? (i := 20) rfl
set_option maxRecDepth 100000 in
theorem ld_t324 : Cond.code yX2_actPairs cX2_actPairs 5 (some .int) ∈ lw_tbl := List.mem_of_getElem? (i := 327) rfl
set_option maxRecDepth 100000 in
theorem ld_t325 : Cond.methodLink RX2 214 yX2_actPair ∈ lw_tbl := List.mem_of_getElem? (i := 328) rfl
set_option maxRecDepth 100000 in
theorem ld_t326 : Cond.instanceMethod yX2_actPair ∈ lw_tbl := List.mem_of_getElem? (i := 330) rfl
set_option maxRecDepth 100000 in
theorem ld_t327 : Cond.selects RX2 yX2_actPair yX2_actPair ∈ lw_tbl := List.mem_of_getElem? (i := 21) rfl
set_option maxRecDepth 100000 in
theorem ld_t328 : Cond.code yX2_actPair cX2_actPair 3 (some .boolean) ∈ lw_tbl := List.mem_of_getElem? (i := 331) rfl
set_option maxRecDepth 100000 in
theorem ld_t329 : Cond.methodLink RX2 139 yX2_answerOfSeason ∈ lw_tbl := List.mem_of_getElem? (i := 332) rfl
set_option maxRecDepth 100000 in
theorem ld_t330 : Cond.instanceMethod yX2_answerOfSeason ∈ lw_tbl := List.mem_of_getElem? (i := 334) rfl
set_option maxRecDepth 100000 in
theorem ld_t331 : Cond.selects RX2 yX2_answerOfSeason yX2_answerOfSeason ∈ lw_tbl := List.mem_of_getElem? (i := 22) rfl
set_option maxRecDepth 100000 in
theorem ld_t332 : Cond.code yX2_answerOfSeason cX2_answerOfSeason 3 (some .int) ∈ lw_tbl := List.mem_of_getElem? (i := 335) rfl
set_option maxRecDepth 100000 in
theorem ld_t333 : Cond.instanceMethod yX1_sumOf ∈ lw_tbl := List.mem_of_getElem? (i := 338) rfl
set_option maxRecDepth 100000 in
theorem ld_t334 : Cond.selects RX1 yX1_sumOf yX1_sumOf ∈ lw_tbl := List.mem_of_getElem? (i := 23) rfl
set_option maxRecDepth 100000 in
theorem ld_t335 : Cond.code yX1_sumOf cX1_sumOf 4 (some .int) ∈ lw_tbl := List.mem_of_getElem? (i := 339) rfl
theorem ld_tk14 : ∀ w ∈ wsL_law_r14, w ∈ lw_tbl := List.forall_mem_cons.mpr ⟨ld_t312, List.forall_mem_cons.mpr ⟨ld_t313, List.forall_mem_cons.mpr ⟨ld_t314, List.forall_mem_cons.mpr ⟨ld_t315, List.forall_mem_cons.mpr ⟨ld_t316, List.forall_mem_cons.mpr ⟨ld_t317, List.forall_mem_cons.mpr ⟨ld_t318, List.forall_mem_cons.mpr ⟨ld_t319, List.forall_mem_cons.mpr ⟨ld_t320, List.forall_mem_cons.mpr ⟨ld_t321, List.forall_mem_cons.mpr ⟨ld_t322, List.forall_mem_cons.mpr ⟨ld_t323, List.forall_mem_cons.mpr ⟨ld_t324, List.forall_mem_cons.mpr ⟨ld_t325, List.forall_mem_cons.mpr ⟨ld_t326, List.forall_mem_cons.mpr ⟨ld_t327, List.forall_mem_cons.mpr ⟨ld_t328, List.forall_mem_cons.mpr ⟨ld_t329, List.forall_mem_cons.mpr ⟨ld_t330, List.forall_mem_cons.mpr ⟨ld_t331, List.forall_mem_cons.mpr ⟨ld_t332, List.forall_mem_cons.mpr ⟨ld_t333, List.forall_mem_cons.mpr ⟨ld_t334, List.forall_mem_cons.mpr ⟨ld_t335, (fun _ h => absurd h List.not_mem_nil)⟩⟩⟩⟩⟩⟩⟩⟩⟩⟩⟩⟩⟩⟩⟩⟩⟩⟩⟩⟩⟩⟩⟩⟩
set_option maxRecDepth 100000 in
theorem ld_t336 : Cond.methodLink RL 48 yX3_season ∈ lw_tbl := List.mem_of_getElem? (i := 691) rfl
set_option maxRecDepth 100000 in
theorem ld_t337 : Cond.instanceMethod yX3_season ∈ lw_tbl := List.mem_of_getElem? (i := 692) rfl
set_option maxRecDepth 100000 in
theorem ld_t338 : Cond.selects RX3 yX3_season yX3_season ∈ lw_tbl := List.mem_of_getElem? (i := 693) rfl
set_option maxRecDepth 100000 in
theorem ld_t339 : Cond.code yX3_season cX3_season 8 (some .int) ∈ lw_tbl := List.mem_of_getElem? (i := 694) rfl
set_option maxRecDepth 100000 in
theorem ld_t340 : Cond.constantLong RX3 181 (20) ∈ lw_tbl := List.mem_of_getElem? (i := 695) rfl
set_option maxRecDepth 100000 in
theorem ld_t341 : Cond.constantLong RX3 183 (4) ∈ lw_tbl := List.mem_of_getElem? (i := 696) rfl
set_option maxRecDepth 100000 in
theorem ld_t342 : Cond.constantLong RX3 185 (10) ∈ lw_tbl := List.mem_of_getElem? (i := 697) rfl
set_option maxRecDepth 100000 in
theorem ld_t343 : Cond.constantLong RX3 187 (17) ∈ lw_tbl := List.mem_of_getElem? (i := 698) rfl
set_option maxRecDepth 100000 in
theorem ld_t344 : Cond.methodLink RX3 189 yX3_pairsBarred ∈ lw_tbl := List.mem_of_getElem? (i := 699) rfl
set_option maxRecDepth 100000 in
theorem ld_t345 : Cond.instanceMethod yX3_pairsBarred ∈ lw_tbl := List.mem_of_getElem? (i := 701) rfl
set_option maxRecDepth 100000 in
theorem ld_t346 : Cond.selects RX3 yX3_pairsBarred yX3_pairsBarred ∈ lw_tbl := List.mem_of_getElem? (i := 53) rfl
set_option maxRecDepth 100000 in
theorem ld_t347 : Cond.code yX3_pairsBarred cX3_pairsBarred 6 (some .int) ∈ lw_tbl := List.mem_of_getElem? (i := 702) rfl
set_option maxRecDepth 100000 in
theorem ld_t348 : Cond.methodLink RX3 192 yX3_keepAll ∈ lw_tbl := List.mem_of_getElem? (i := 703) rfl
set_option maxRecDepth 100000 in
theorem ld_t349 : Cond.instanceMethod yX3_keepAll ∈ lw_tbl := List.mem_of_getElem? (i := 705) rfl
set_option maxRecDepth 100000 in
theorem ld_t350 : Cond.selects RX3 yX3_keepAll yX3_keepAll ∈ lw_tbl := List.mem_of_getElem? (i := 54) rfl
set_option maxRecDepth 100000 in
theorem ld_t351 : Cond.code yX3_keepAll cX3_keepAll 2 none ∈ lw_tbl := List.mem_of_getElem? (i := 706) rfl
set_option maxRecDepth 100000 in
theorem ld_t352 : Cond.fieldLink RX3 169 "LemonDealsModel" "crateKept" "I" ∈ lw_tbl := List.mem_of_getElem? (i := 510) rfl
set_option maxRecDepth 100000 in
theorem ld_t353 : Cond.fieldLink RX3 172 "LemonDealsModel" "weekKept" "I" ∈ lw_tbl := List.mem_of_getElem? (i := 511) rfl
set_option maxRecDepth 100000 in
theorem ld_t354 : Cond.methodLink RX3 195 yX3_seasonBy ∈ lw_tbl := List.mem_of_getElem? (i := 707) rfl
set_option maxRecDepth 100000 in
theorem ld_t355 : Cond.instanceMethod yX3_seasonBy ∈ lw_tbl := List.mem_of_getElem? (i := 709) rfl
set_option maxRecDepth 100000 in
theorem ld_t356 : Cond.selects RX3 yX3_seasonBy yX3_seasonBy ∈ lw_tbl := List.mem_of_getElem? (i := 55) rfl
set_option maxRecDepth 100000 in
theorem ld_t357 : Cond.code yX3_seasonBy cX3_seasonBy 9 (some .int) ∈ lw_tbl := List.mem_of_getElem? (i := 710) rfl
set_option maxRecDepth 100000 in
theorem ld_t358 : Cond.fieldLink RX3 175 "LemonDealsModel" "weeksWithout" "I" ∈ lw_tbl := List.mem_of_getElem? (i := 515) rfl
set_option maxRecDepth 100000 in
theorem ld_t359 : Cond.methodLink RX3 178 yX3_did ∈ lw_tbl := List.mem_of_getElem? (i := 711) rfl
theorem ld_tk15 : ∀ w ∈ wsL_law_r15, w ∈ lw_tbl := List.forall_mem_cons.mpr ⟨ld_t336, List.forall_mem_cons.mpr ⟨ld_t337, List.forall_mem_cons.mpr ⟨ld_t338, List.forall_mem_cons.mpr ⟨ld_t339, List.forall_mem_cons.mpr ⟨ld_t340, List.forall_mem_cons.mpr ⟨ld_t341, List.forall_mem_cons.mpr ⟨ld_t342, List.forall_mem_cons.mpr ⟨ld_t343, List.forall_mem_cons.mpr ⟨ld_t344, List.forall_mem_cons.mpr ⟨ld_t345, List.forall_mem_cons.mpr ⟨ld_t346, List.forall_mem_cons.mpr ⟨ld_t347, List.forall_mem_cons.mpr ⟨ld_t348, List.forall_mem_cons.mpr ⟨ld_t349, List.forall_mem_cons.mpr ⟨ld_t350, List.forall_mem_cons.mpr ⟨ld_t351, List.forall_mem_cons.mpr ⟨ld_t352, List.forall_mem_cons.mpr ⟨ld_t353, List.forall_mem_cons.mpr ⟨ld_t354, List.forall_mem_cons.mpr ⟨ld_t355, List.forall_mem_cons.mpr ⟨ld_t356, List.forall_mem_cons.mpr ⟨ld_t357, List.forall_mem_cons.mpr ⟨ld_t358, List.forall_mem_cons.mpr ⟨ld_t359, (fun _ h => absurd h List.not_mem_nil)⟩⟩⟩⟩⟩⟩⟩⟩⟩⟩⟩⟩⟩⟩⟩⟩⟩⟩⟩⟩⟩⟩⟩⟩
set_option maxRecDepth 100000 in
theorem ld_t360 : Cond.instanceMethod yX3_did ∈ lw_tbl := List.mem_of_getElem? (i := 713) rfl
set_option maxRecDepth 100000 in
theorem ld_t361 : Cond.selects RX3 yX3_did yX3_did ∈ lw_tbl := List.mem_of_getElem? (i := 56) rfl
set_option maxRecDepth 100000 in
theorem ld_t362 : Cond.code yX3_did cX3_did 4 (some .boolean) ∈ lw_tbl := List.mem_of_getElem? (i := 714) rfl
set_option maxRecDepth 100000 in
theorem ld_t363 : Cond.methodLink RX3 198 yX3_bringBack ∈ lw_tbl := List.mem_of_getElem? (i := 715) rfl
set_option maxRecDepth 100000 in
theorem ld_t364 : Cond.instanceMethod yX3_bringBack ∈ lw_tbl := List.mem_of_getElem? (i := 717) rfl
set_option maxRecDepth 100000 in
theorem ld_t365 : Cond.selects RX3 yX3_bringBack yX3_bringBack ∈ lw_tbl := List.mem_of_getElem? (i := 57) rfl
set_option maxRecDepth 100000 in
theorem ld_t366 : Cond.code yX3_bringBack cX3_bringBack 2 none ∈ lw_tbl := List.mem_of_getElem? (i := 718) rfl
set_option maxRecDepth 100000 in
theorem ld_t367 : Cond.methodLink RL 49 yX2_calm ∈ lw_tbl := List.mem_of_getElem? (i := 340) rfl
set_option maxRecDepth 100000 in
theorem ld_t368 : Cond.instanceMethod yX2_calm ∈ lw_tbl := List.mem_of_getElem? (i := 341) rfl
set_option maxRecDepth 100000 in
theorem ld_t369 : Cond.selects RX2 yX2_calm yX2_calm ∈ lw_tbl := List.mem_of_getElem? (i := 342) rfl
set_option maxRecDepth 100000 in
theorem ld_t370 : Cond.code yX2_calm cX2_calm 4 (some .int) ∈ lw_tbl := List.mem_of_getElem? (i := 343) rfl
set_option maxRecDepth 100000 in
theorem ld_t371 : Cond.instanceMethod yX1_worstTemper ∈ lw_tbl := List.mem_of_getElem? (i := 346) rfl
set_option maxRecDepth 100000 in
theorem ld_t372 : Cond.selects RX1 yX1_worstTemper yX1_worstTemper ∈ lw_tbl := List.mem_of_getElem? (i := 24) rfl
set_option maxRecDepth 100000 in
theorem ld_t373 : Cond.code yX1_worstTemper cX1_worstTemper 3 (some .int) ∈ lw_tbl := List.mem_of_getElem? (i := 347) rfl
set_option maxRecDepth 100000 in
theorem ld_t374 : Cond.methodLink RL 52 yX3_calm ∈ lw_tbl := List.mem_of_getElem? (i := 719) rfl
set_option maxRecDepth 100000 in
theorem ld_t375 : Cond.instanceMethod yX3_calm ∈ lw_tbl := List.mem_of_getElem? (i := 720) rfl
set_option maxRecDepth 100000 in
theorem ld_t376 : Cond.selects RX3 yX3_calm yX3_calm ∈ lw_tbl := List.mem_of_getElem? (i := 721) rfl
set_option maxRecDepth 100000 in
theorem ld_t377 : Cond.code yX3_calm cX3_calm 6 (some .int) ∈ lw_tbl := List.mem_of_getElem? (i := 722) rfl
set_option maxRecDepth 100000 in
theorem ld_t378 : Cond.constantLong RX3 201 (12) ∈ lw_tbl := List.mem_of_getElem? (i := 723) rfl
set_option maxRecDepth 100000 in
theorem ld_t379 : Cond.methodLink RX3 203 yX3_worstTemper ∈ lw_tbl := List.mem_of_getElem? (i := 724) rfl
set_option maxRecDepth 100000 in
theorem ld_t380 : Cond.instanceMethod yX3_worstTemper ∈ lw_tbl := List.mem_of_getElem? (i := 726) rfl
set_option maxRecDepth 100000 in
theorem ld_t381 : Cond.selects RX3 yX3_worstTemper yX3_worstTemper ∈ lw_tbl := List.mem_of_getElem? (i := 58) rfl
set_option maxRecDepth 100000 in
theorem ld_t382 : Cond.code yX3_worstTemper cX3_worstTemper 3 (some .int) ∈ lw_tbl := List.mem_of_getElem? (i := 727) rfl
set_option maxRecDepth 100000 in
theorem ld_t383 : Cond.methodLink RL 53 yX2_wonder ∈ lw_tbl := List.mem_of_getElem? (i := 348) rfl
theorem ld_tk16 : ∀ w ∈ wsL_law_r16, w ∈ lw_tbl := List.forall_mem_cons.mpr ⟨ld_t360, List.forall_mem_cons.mpr ⟨ld_t361, List.forall_mem_cons.mpr ⟨ld_t362, List.forall_mem_cons.mpr ⟨ld_t363, List.forall_mem_cons.mpr ⟨ld_t364, List.forall_mem_cons.mpr ⟨ld_t365, List.forall_mem_cons.mpr ⟨ld_t366, List.forall_mem_cons.mpr ⟨ld_t367, List.forall_mem_cons.mpr ⟨ld_t368, List.forall_mem_cons.mpr ⟨ld_t369, List.forall_mem_cons.mpr ⟨ld_t370, List.forall_mem_cons.mpr ⟨ld_t371, List.forall_mem_cons.mpr ⟨ld_t372, List.forall_mem_cons.mpr ⟨ld_t373, List.forall_mem_cons.mpr ⟨ld_t374, List.forall_mem_cons.mpr ⟨ld_t375, List.forall_mem_cons.mpr ⟨ld_t376, List.forall_mem_cons.mpr ⟨ld_t377, List.forall_mem_cons.mpr ⟨ld_t378, List.forall_mem_cons.mpr ⟨ld_t379, List.forall_mem_cons.mpr ⟨ld_t380, List.forall_mem_cons.mpr ⟨ld_t381, List.forall_mem_cons.mpr ⟨ld_t382, List.forall_mem_cons.mpr ⟨ld_t383, (fun _ h => absurd h List.not_mem_nil)⟩⟩⟩⟩⟩⟩⟩⟩⟩⟩⟩⟩⟩⟩⟩⟩⟩⟩⟩⟩⟩⟩⟩⟩
set_option maxRecDepth 100000 in
theorem ld_t384 : Cond.instanceMethod yX2_wonder ∈ lw_tbl := List.mem_of_getElem? (i := 349) rfl
set_option maxRecDepth 100000 in
theorem ld_t385 : Cond.selects RX2 yX2_wonder yX2_wonder ∈ lw_tbl := List.mem_of_getElem? (i := 350) rfl
set_option maxRecDepth 100000 in
theorem ld_t386 : Cond.code yX2_wonder cX2_wonder 4 (some .int) ∈ lw_tbl := List.mem_of_getElem? (i := 351) rfl
set_option maxRecDepth 100000 in
theorem ld_t387 : Cond.methodLink RX2 145 yX2_loserByOneMore ∈ lw_tbl := List.mem_of_getElem? (i := 352) rfl
set_option maxRecDepth 100000 in
theorem ld_t388 : Cond.instanceMethod yX2_loserByOneMore ∈ lw_tbl := List.mem_of_getElem? (i := 354) rfl
set_option maxRecDepth 100000 in
theorem ld_t389 : Cond.selects RX2 yX2_loserByOneMore yX2_loserByOneMore ∈ lw_tbl := List.mem_of_getElem? (i := 25) rfl
set_option maxRecDepth 100000 in
theorem ld_t390 : Cond.code yX2_loserByOneMore cX2_loserByOneMore 3 (some .int) ∈ lw_tbl := List.mem_of_getElem? (i := 355) rfl
set_option maxRecDepth 100000 in
theorem ld_t391 : Cond.methodLink RL 56 yX3_wonder ∈ lw_tbl := List.mem_of_getElem? (i := 728) rfl
set_option maxRecDepth 100000 in
theorem ld_t392 : Cond.instanceMethod yX3_wonder ∈ lw_tbl := List.mem_of_getElem? (i := 729) rfl
set_option maxRecDepth 100000 in
theorem ld_t393 : Cond.selects RX3 yX3_wonder yX3_wonder ∈ lw_tbl := List.mem_of_getElem? (i := 730) rfl
set_option maxRecDepth 100000 in
theorem ld_t394 : Cond.code yX3_wonder cX3_wonder 6 (some .int) ∈ lw_tbl := List.mem_of_getElem? (i := 731) rfl
set_option maxRecDepth 100000 in
theorem ld_t395 : Cond.methodLink RL 57 yX2_otherwise ∈ lw_tbl := List.mem_of_getElem? (i := 357) rfl
set_option maxRecDepth 100000 in
theorem ld_t396 : Cond.instanceMethod yX2_otherwise ∈ lw_tbl := List.mem_of_getElem? (i := 358) rfl
set_option maxRecDepth 100000 in
theorem ld_t397 : Cond.selects RX2 yX2_otherwise yX2_otherwise ∈ lw_tbl := List.mem_of_getElem? (i := 359) rfl
set_option maxRecDepth 100000 in
theorem ld_t398 : Cond.code yX2_otherwise cX2_otherwise 2 (some .int) ∈ lw_tbl := List.mem_of_getElem? (i := 360) rfl
set_option maxRecDepth 100000 in
theorem ld_t399 : Cond.instanceMethod yX1_dealOneByOne ∈ lw_tbl := List.mem_of_getElem? (i := 363) rfl
set_option maxRecDepth 100000 in
theorem ld_t400 : Cond.selects RX1 yX1_dealOneByOne yX1_dealOneByOne ∈ lw_tbl := List.mem_of_getElem? (i := 26) rfl
set_option maxRecDepth 100000 in
theorem ld_t401 : Cond.code yX1_dealOneByOne cX1_dealOneByOne 4 none ∈ lw_tbl := List.mem_of_getElem? (i := 364) rfl
set_option maxRecDepth 100000 in
theorem ld_t402 : Cond.methodLink RX1 66 yX1_nextOneByOne ∈ lw_tbl := List.mem_of_getElem? (i := 365) rfl
set_option maxRecDepth 100000 in
theorem ld_t403 : Cond.instanceMethod yX1_nextOneByOne ∈ lw_tbl := List.mem_of_getElem? (i := 367) rfl
set_option maxRecDepth 100000 in
theorem ld_t404 : Cond.selects RX1 yX1_nextOneByOne yX1_nextOneByOne ∈ lw_tbl := List.mem_of_getElem? (i := 27) rfl
set_option maxRecDepth 100000 in
theorem ld_t405 : Cond.code yX1_nextOneByOne cX1_nextOneByOne 3 (some .int) ∈ lw_tbl := List.mem_of_getElem? (i := 368) rfl
set_option maxRecDepth 100000 in
theorem ld_t406 : Cond.methodLink RX1 70 yX1_isAheadOneByOne ∈ lw_tbl := List.mem_of_getElem? (i := 369) rfl
set_option maxRecDepth 100000 in
theorem ld_t407 : Cond.instanceMethod yX1_isAheadOneByOne ∈ lw_tbl := List.mem_of_getElem? (i := 371) rfl
theorem ld_tk17 : ∀ w ∈ wsL_law_r17, w ∈ lw_tbl := List.forall_mem_cons.mpr ⟨ld_t384, List.forall_mem_cons.mpr ⟨ld_t385, List.forall_mem_cons.mpr ⟨ld_t386, List.forall_mem_cons.mpr ⟨ld_t387, List.forall_mem_cons.mpr ⟨ld_t388, List.forall_mem_cons.mpr ⟨ld_t389, List.forall_mem_cons.mpr ⟨ld_t390, List.forall_mem_cons.mpr ⟨ld_t391, List.forall_mem_cons.mpr ⟨ld_t392, List.forall_mem_cons.mpr ⟨ld_t393, List.forall_mem_cons.mpr ⟨ld_t394, List.forall_mem_cons.mpr ⟨ld_t395, List.forall_mem_cons.mpr ⟨ld_t396, List.forall_mem_cons.mpr ⟨ld_t397, List.forall_mem_cons.mpr ⟨ld_t398, List.forall_mem_cons.mpr ⟨ld_t399, List.forall_mem_cons.mpr ⟨ld_t400, List.forall_mem_cons.mpr ⟨ld_t401, List.forall_mem_cons.mpr ⟨ld_t402, List.forall_mem_cons.mpr ⟨ld_t403, List.forall_mem_cons.mpr ⟨ld_t404, List.forall_mem_cons.mpr ⟨ld_t405, List.forall_mem_cons.mpr ⟨ld_t406, List.forall_mem_cons.mpr ⟨ld_t407, (fun _ h => absurd h List.not_mem_nil)⟩⟩⟩⟩⟩⟩⟩⟩⟩⟩⟩⟩⟩⟩⟩⟩⟩⟩⟩⟩⟩⟩⟩⟩
set_option maxRecDepth 100000 in
theorem ld_t408 : Cond.selects RX1 yX1_isAheadOneByOne yX1_isAheadOneByOne ∈ lw_tbl := List.mem_of_getElem? (i := 28) rfl
set_option maxRecDepth 100000 in
theorem ld_t409 : Cond.code yX1_isAheadOneByOne cX1_isAheadOneByOne 3 (some .boolean) ∈ lw_tbl := List.mem_of_getElem? (i := 372) rfl
set_option maxRecDepth 100000 in
theorem ld_t410 : Cond.methodLink RL 60 yX3_otherwise ∈ lw_tbl := List.mem_of_getElem? (i := 732) rfl
set_option maxRecDepth 100000 in
theorem ld_t411 : Cond.instanceMethod yX3_otherwise ∈ lw_tbl := List.mem_of_getElem? (i := 733) rfl
set_option maxRecDepth 100000 in
theorem ld_t412 : Cond.selects RX3 yX3_otherwise yX3_otherwise ∈ lw_tbl := List.mem_of_getElem? (i := 734) rfl
set_option maxRecDepth 100000 in
theorem ld_t413 : Cond.code yX3_otherwise cX3_otherwise 4 (some .int) ∈ lw_tbl := List.mem_of_getElem? (i := 735) rfl
set_option maxRecDepth 100000 in
theorem ld_t414 : Cond.methodLink RX3 206 yX3_nextOne ∈ lw_tbl := List.mem_of_getElem? (i := 736) rfl
set_option maxRecDepth 100000 in
theorem ld_t415 : Cond.instanceMethod yX3_nextOne ∈ lw_tbl := List.mem_of_getElem? (i := 738) rfl
set_option maxRecDepth 100000 in
theorem ld_t416 : Cond.selects RX3 yX3_nextOne yX3_nextOne ∈ lw_tbl := List.mem_of_getElem? (i := 59) rfl
set_option maxRecDepth 100000 in
theorem ld_t417 : Cond.code yX3_nextOne cX3_nextOne 4 (some .int) ∈ lw_tbl := List.mem_of_getElem? (i := 739) rfl
set_option maxRecDepth 100000 in
theorem ld_t418 : Cond.methodLink RL 61 yX2_halves ∈ lw_tbl := List.mem_of_getElem? (i := 373) rfl
set_option maxRecDepth 100000 in
theorem ld_t419 : Cond.instanceMethod yX2_halves ∈ lw_tbl := List.mem_of_getElem? (i := 374) rfl
set_option maxRecDepth 100000 in
theorem ld_t420 : Cond.selects RX2 yX2_halves yX2_halves ∈ lw_tbl := List.mem_of_getElem? (i := 375) rfl
set_option maxRecDepth 100000 in
theorem ld_t421 : Cond.code yX2_halves cX2_halves 6 (some .int) ∈ lw_tbl := List.mem_of_getElem? (i := 376) rfl
set_option maxRecDepth 100000 in
theorem ld_t422 : Cond.methodLink RX2 154 yX2_apartBy ∈ lw_tbl := List.mem_of_getElem? (i := 377) rfl
set_option maxRecDepth 100000 in
theorem ld_t423 : Cond.instanceMethod yX2_apartBy ∈ lw_tbl := List.mem_of_getElem? (i := 379) rfl
set_option maxRecDepth 100000 in
theorem ld_t424 : Cond.selects RX2 yX2_apartBy yX2_apartBy ∈ lw_tbl := List.mem_of_getElem? (i := 29) rfl
set_option maxRecDepth 100000 in
theorem ld_t425 : Cond.code yX2_apartBy cX2_apartBy 5 (some .int) ∈ lw_tbl := List.mem_of_getElem? (i := 380) rfl
set_option maxRecDepth 100000 in
theorem ld_t426 : Cond.methodLink RX2 227 Lib.Math.abs.name ∈ lw_tbl := List.mem_of_getElem? (i := 381) rfl
set_option maxRecDepth 100000 in
theorem ld_t427 : Cond.static Lib.Math.abs.name ∈ lw_tbl := List.mem_of_getElem? (i := 382) rfl
set_option maxRecDepth 100000 in
theorem ld_t428 : Cond.code Lib.Math.abs.name Lib.Math.abs.code 1 (some .int) ∈ lw_tbl := List.mem_of_getElem? (i := 383) rfl
set_option maxRecDepth 100000 in
theorem ld_t429 : Cond.methodLink RL 64 yX3_halves ∈ lw_tbl := List.mem_of_getElem? (i := 740) rfl
set_option maxRecDepth 100000 in
theorem ld_t430 : Cond.instanceMethod yX3_halves ∈ lw_tbl := List.mem_of_getElem? (i := 741) rfl
set_option maxRecDepth 100000 in
theorem ld_t431 : Cond.selects RX3 yX3_halves yX3_halves ∈ lw_tbl := List.mem_of_getElem? (i := 742) rfl
theorem ld_tk18 : ∀ w ∈ wsL_law_r18, w ∈ lw_tbl := List.forall_mem_cons.mpr ⟨ld_t408, List.forall_mem_cons.mpr ⟨ld_t409, List.forall_mem_cons.mpr ⟨ld_t410, List.forall_mem_cons.mpr ⟨ld_t411, List.forall_mem_cons.mpr ⟨ld_t412, List.forall_mem_cons.mpr ⟨ld_t413, List.forall_mem_cons.mpr ⟨ld_t414, List.forall_mem_cons.mpr ⟨ld_t415, List.forall_mem_cons.mpr ⟨ld_t416, List.forall_mem_cons.mpr ⟨ld_t417, List.forall_mem_cons.mpr ⟨ld_t418, List.forall_mem_cons.mpr ⟨ld_t419, List.forall_mem_cons.mpr ⟨ld_t420, List.forall_mem_cons.mpr ⟨ld_t421, List.forall_mem_cons.mpr ⟨ld_t422, List.forall_mem_cons.mpr ⟨ld_t423, List.forall_mem_cons.mpr ⟨ld_t424, List.forall_mem_cons.mpr ⟨ld_t425, List.forall_mem_cons.mpr ⟨ld_t426, List.forall_mem_cons.mpr ⟨ld_t427, List.forall_mem_cons.mpr ⟨ld_t428, List.forall_mem_cons.mpr ⟨ld_t429, List.forall_mem_cons.mpr ⟨ld_t430, List.forall_mem_cons.mpr ⟨ld_t431, (fun _ h => absurd h List.not_mem_nil)⟩⟩⟩⟩⟩⟩⟩⟩⟩⟩⟩⟩⟩⟩⟩⟩⟩⟩⟩⟩⟩⟩⟩⟩
set_option maxRecDepth 100000 in
theorem ld_t432 : Cond.code yX3_halves cX3_halves 4 (some .int) ∈ lw_tbl := List.mem_of_getElem? (i := 743) rfl
set_option maxRecDepth 100000 in
theorem ld_t433 : Cond.methodLink RX3 212 yX3_apart ∈ lw_tbl := List.mem_of_getElem? (i := 744) rfl
set_option maxRecDepth 100000 in
theorem ld_t434 : Cond.instanceMethod yX3_apart ∈ lw_tbl := List.mem_of_getElem? (i := 746) rfl
set_option maxRecDepth 100000 in
theorem ld_t435 : Cond.selects RX3 yX3_apart yX3_apart ∈ lw_tbl := List.mem_of_getElem? (i := 60) rfl
set_option maxRecDepth 100000 in
theorem ld_t436 : Cond.code yX3_apart cX3_apart 4 (some .int) ∈ lw_tbl := List.mem_of_getElem? (i := 747) rfl
set_option maxRecDepth 100000 in
theorem ld_t437 : Cond.methodLink RX3 209 yX3_isIn ∈ lw_tbl := List.mem_of_getElem? (i := 748) rfl
set_option maxRecDepth 100000 in
theorem ld_t438 : Cond.static yX3_isIn ∈ lw_tbl := List.mem_of_getElem? (i := 749) rfl
set_option maxRecDepth 100000 in
theorem ld_t439 : Cond.code yX3_isIn cX3_isIn 2 (some .boolean) ∈ lw_tbl := List.mem_of_getElem? (i := 750) rfl
set_option maxRecDepth 100000 in
theorem ld_t440 : Cond.methodLink RL 65 yX2_reading ∈ lw_tbl := List.mem_of_getElem? (i := 384) rfl
set_option maxRecDepth 100000 in
theorem ld_t441 : Cond.instanceMethod yX2_reading ∈ lw_tbl := List.mem_of_getElem? (i := 385) rfl
set_option maxRecDepth 100000 in
theorem ld_t442 : Cond.selects RX2 yX2_reading yX2_reading ∈ lw_tbl := List.mem_of_getElem? (i := 386) rfl
set_option maxRecDepth 100000 in
theorem ld_t443 : Cond.code yX2_reading cX2_reading 3 (some .int) ∈ lw_tbl := List.mem_of_getElem? (i := 387) rfl
set_option maxRecDepth 100000 in
theorem ld_t444 : Cond.methodLink RL 68 yX3_reading ∈ lw_tbl := List.mem_of_getElem? (i := 751) rfl
set_option maxRecDepth 100000 in
theorem ld_t445 : Cond.instanceMethod yX3_reading ∈ lw_tbl := List.mem_of_getElem? (i := 752) rfl
set_option maxRecDepth 100000 in
theorem ld_t446 : Cond.selects RX3 yX3_reading yX3_reading ∈ lw_tbl := List.mem_of_getElem? (i := 753) rfl
set_option maxRecDepth 100000 in
theorem ld_t447 : Cond.code yX3_reading cX3_reading 3 (some .int) ∈ lw_tbl := List.mem_of_getElem? (i := 754) rfl
set_option maxRecDepth 100000 in
theorem ld_t448 : Cond.methodLink RL 69 yX2_back ∈ lw_tbl := List.mem_of_getElem? (i := 388) rfl
set_option maxRecDepth 100000 in
theorem ld_t449 : Cond.instanceMethod yX2_back ∈ lw_tbl := List.mem_of_getElem? (i := 389) rfl
set_option maxRecDepth 100000 in
theorem ld_t450 : Cond.selects RX2 yX2_back yX2_back ∈ lw_tbl := List.mem_of_getElem? (i := 390) rfl
set_option maxRecDepth 100000 in
theorem ld_t451 : Cond.code yX2_back cX2_back 2 (some .int) ∈ lw_tbl := List.mem_of_getElem? (i := 391) rfl
set_option maxRecDepth 100000 in
theorem ld_t452 : Cond.methodLink RL 72 yX3_back ∈ lw_tbl := List.mem_of_getElem? (i := 755) rfl
set_option maxRecDepth 100000 in
theorem ld_t453 : Cond.instanceMethod yX3_back ∈ lw_tbl := List.mem_of_getElem? (i := 756) rfl
set_option maxRecDepth 100000 in
theorem ld_t454 : Cond.selects RX3 yX3_back yX3_back ∈ lw_tbl := List.mem_of_getElem? (i := 757) rfl
set_option maxRecDepth 100000 in
theorem ld_t455 : Cond.code yX3_back cX3_back 2 (some .int) ∈ lw_tbl := List.mem_of_getElem? (i := 758) rfl
theorem ld_tk19 : ∀ w ∈ wsL_law_r19, w ∈ lw_tbl := List.forall_mem_cons.mpr ⟨ld_t432, List.forall_mem_cons.mpr ⟨ld_t433, List.forall_mem_cons.mpr ⟨ld_t434, List.forall_mem_cons.mpr ⟨ld_t435, List.forall_mem_cons.mpr ⟨ld_t436, List.forall_mem_cons.mpr ⟨ld_t437, List.forall_mem_cons.mpr ⟨ld_t438, List.forall_mem_cons.mpr ⟨ld_t439, List.forall_mem_cons.mpr ⟨ld_t440, List.forall_mem_cons.mpr ⟨ld_t441, List.forall_mem_cons.mpr ⟨ld_t442, List.forall_mem_cons.mpr ⟨ld_t443, List.forall_mem_cons.mpr ⟨ld_t444, List.forall_mem_cons.mpr ⟨ld_t445, List.forall_mem_cons.mpr ⟨ld_t446, List.forall_mem_cons.mpr ⟨ld_t447, List.forall_mem_cons.mpr ⟨ld_t448, List.forall_mem_cons.mpr ⟨ld_t449, List.forall_mem_cons.mpr ⟨ld_t450, List.forall_mem_cons.mpr ⟨ld_t451, List.forall_mem_cons.mpr ⟨ld_t452, List.forall_mem_cons.mpr ⟨ld_t453, List.forall_mem_cons.mpr ⟨ld_t454, List.forall_mem_cons.mpr ⟨ld_t455, (fun _ h => absurd h List.not_mem_nil)⟩⟩⟩⟩⟩⟩⟩⟩⟩⟩⟩⟩⟩⟩⟩⟩⟩⟩⟩⟩⟩⟩⟩⟩
set_option maxRecDepth 100000 in
theorem ld_t456 : Cond.methodLink RL 73 yX2_tempers ∈ lw_tbl := List.mem_of_getElem? (i := 392) rfl
set_option maxRecDepth 100000 in
theorem ld_t457 : Cond.instanceMethod yX2_tempers ∈ lw_tbl := List.mem_of_getElem? (i := 393) rfl
set_option maxRecDepth 100000 in
theorem ld_t458 : Cond.selects RX2 yX2_tempers yX2_tempers ∈ lw_tbl := List.mem_of_getElem? (i := 394) rfl
set_option maxRecDepth 100000 in
theorem ld_t459 : Cond.code yX2_tempers cX2_tempers 4 (some .int) ∈ lw_tbl := List.mem_of_getElem? (i := 395) rfl
set_option maxRecDepth 100000 in
theorem ld_t460 : Cond.methodLink RX2 157 yX2_readingsHoldInTrial ∈ lw_tbl := List.mem_of_getElem? (i := 396) rfl
set_option maxRecDepth 100000 in
theorem ld_t461 : Cond.instanceMethod yX2_readingsHoldInTrial ∈ lw_tbl := List.mem_of_getElem? (i := 398) rfl
set_option maxRecDepth 100000 in
theorem ld_t462 : Cond.selects RX2 yX2_readingsHoldInTrial yX2_readingsHoldInTrial ∈ lw_tbl := List.mem_of_getElem? (i := 30) rfl
set_option maxRecDepth 100000 in
theorem ld_t463 : Cond.code yX2_readingsHoldInTrial cX2_readingsHoldInTrial 2 (some .boolean) ∈ lw_tbl := List.mem_of_getElem? (i := 399) rfl
set_option maxRecDepth 100000 in
theorem ld_t464 : Cond.methodLink RL 76 yX3_tempers ∈ lw_tbl := List.mem_of_getElem? (i := 759) rfl
set_option maxRecDepth 100000 in
theorem ld_t465 : Cond.instanceMethod yX3_tempers ∈ lw_tbl := List.mem_of_getElem? (i := 760) rfl
set_option maxRecDepth 100000 in
theorem ld_t466 : Cond.selects RX3 yX3_tempers yX3_tempers ∈ lw_tbl := List.mem_of_getElem? (i := 761) rfl
set_option maxRecDepth 100000 in
theorem ld_t467 : Cond.code yX3_tempers cX3_tempers 5 (some .int) ∈ lw_tbl := List.mem_of_getElem? (i := 762) rfl
set_option maxRecDepth 100000 in
theorem ld_t468 : Cond.methodLink RX3 215 yX3_areSo ∈ lw_tbl := List.mem_of_getElem? (i := 763) rfl
set_option maxRecDepth 100000 in
theorem ld_t469 : Cond.instanceMethod yX3_areSo ∈ lw_tbl := List.mem_of_getElem? (i := 765) rfl
set_option maxRecDepth 100000 in
theorem ld_t470 : Cond.selects RX3 yX3_areSo yX3_areSo ∈ lw_tbl := List.mem_of_getElem? (i := 61) rfl
set_option maxRecDepth 100000 in
theorem ld_t471 : Cond.code yX3_areSo cX3_areSo 3 (some .boolean) ∈ lw_tbl := List.mem_of_getElem? (i := 766) rfl
set_option maxRecDepth 100000 in
theorem ld_t472 : Cond.methodLink RL 77 yX2_kinds ∈ lw_tbl := List.mem_of_getElem? (i := 400) rfl
set_option maxRecDepth 100000 in
theorem ld_t473 : Cond.instanceMethod yX2_kinds ∈ lw_tbl := List.mem_of_getElem? (i := 401) rfl
set_option maxRecDepth 100000 in
theorem ld_t474 : Cond.selects RX2 yX2_kinds yX2_kinds ∈ lw_tbl := List.mem_of_getElem? (i := 402) rfl
set_option maxRecDepth 100000 in
theorem ld_t475 : Cond.code yX2_kinds cX2_kinds 4 (some .int) ∈ lw_tbl := List.mem_of_getElem? (i := 403) rfl
set_option maxRecDepth 100000 in
theorem ld_t476 : Cond.methodLink RL 80 yX3_kinds ∈ lw_tbl := List.mem_of_getElem? (i := 767) rfl
set_option maxRecDepth 100000 in
theorem ld_t477 : Cond.instanceMethod yX3_kinds ∈ lw_tbl := List.mem_of_getElem? (i := 768) rfl
set_option maxRecDepth 100000 in
theorem ld_t478 : Cond.selects RX3 yX3_kinds yX3_kinds ∈ lw_tbl := List.mem_of_getElem? (i := 769) rfl
set_option maxRecDepth 100000 in
theorem ld_t479 : Cond.code yX3_kinds cX3_kinds 5 (some .int) ∈ lw_tbl := List.mem_of_getElem? (i := 770) rfl
theorem ld_tk20 : ∀ w ∈ wsL_law_r20, w ∈ lw_tbl := List.forall_mem_cons.mpr ⟨ld_t456, List.forall_mem_cons.mpr ⟨ld_t457, List.forall_mem_cons.mpr ⟨ld_t458, List.forall_mem_cons.mpr ⟨ld_t459, List.forall_mem_cons.mpr ⟨ld_t460, List.forall_mem_cons.mpr ⟨ld_t461, List.forall_mem_cons.mpr ⟨ld_t462, List.forall_mem_cons.mpr ⟨ld_t463, List.forall_mem_cons.mpr ⟨ld_t464, List.forall_mem_cons.mpr ⟨ld_t465, List.forall_mem_cons.mpr ⟨ld_t466, List.forall_mem_cons.mpr ⟨ld_t467, List.forall_mem_cons.mpr ⟨ld_t468, List.forall_mem_cons.mpr ⟨ld_t469, List.forall_mem_cons.mpr ⟨ld_t470, List.forall_mem_cons.mpr ⟨ld_t471, List.forall_mem_cons.mpr ⟨ld_t472, List.forall_mem_cons.mpr ⟨ld_t473, List.forall_mem_cons.mpr ⟨ld_t474, List.forall_mem_cons.mpr ⟨ld_t475, List.forall_mem_cons.mpr ⟨ld_t476, List.forall_mem_cons.mpr ⟨ld_t477, List.forall_mem_cons.mpr ⟨ld_t478, List.forall_mem_cons.mpr ⟨ld_t479, (fun _ h => absurd h List.not_mem_nil)⟩⟩⟩⟩⟩⟩⟩⟩⟩⟩⟩⟩⟩⟩⟩⟩⟩⟩⟩⟩⟩⟩⟩⟩
set_option maxRecDepth 100000 in
theorem ld_t480 : Cond.methodLink RL 81 yX2_crates ∈ lw_tbl := List.mem_of_getElem? (i := 404) rfl
set_option maxRecDepth 100000 in
theorem ld_t481 : Cond.instanceMethod yX2_crates ∈ lw_tbl := List.mem_of_getElem? (i := 405) rfl
set_option maxRecDepth 100000 in
theorem ld_t482 : Cond.selects RX2 yX2_crates yX2_crates ∈ lw_tbl := List.mem_of_getElem? (i := 406) rfl
set_option maxRecDepth 100000 in
theorem ld_t483 : Cond.code yX2_crates cX2_crates 6 (some .int) ∈ lw_tbl := List.mem_of_getElem? (i := 407) rfl
set_option maxRecDepth 100000 in
theorem ld_t484 : Cond.methodLink RL 84 yX3_crates ∈ lw_tbl := List.mem_of_getElem? (i := 771) rfl
set_option maxRecDepth 100000 in
theorem ld_t485 : Cond.instanceMethod yX3_crates ∈ lw_tbl := List.mem_of_getElem? (i := 772) rfl
set_option maxRecDepth 100000 in
theorem ld_t486 : Cond.selects RX3 yX3_crates yX3_crates ∈ lw_tbl := List.mem_of_getElem? (i := 773) rfl
set_option maxRecDepth 100000 in
theorem ld_t487 : Cond.code yX3_crates cX3_crates 8 (some .int) ∈ lw_tbl := List.mem_of_getElem? (i := 774) rfl
set_option maxRecDepth 100000 in
theorem ld_t488 : Cond.methodLink RL 85 yX2_odds ∈ lw_tbl := List.mem_of_getElem? (i := 408) rfl
set_option maxRecDepth 100000 in
theorem ld_t489 : Cond.instanceMethod yX2_odds ∈ lw_tbl := List.mem_of_getElem? (i := 409) rfl
set_option maxRecDepth 100000 in
theorem ld_t490 : Cond.selects RX2 yX2_odds yX2_odds ∈ lw_tbl := List.mem_of_getElem? (i := 410) rfl
set_option maxRecDepth 100000 in
theorem ld_t491 : Cond.code yX2_odds cX2_odds 6 (some .long) ∈ lw_tbl := List.mem_of_getElem? (i := 411) rfl
set_option maxRecDepth 100000 in
theorem ld_t492 : Cond.constantLong RX2 160 (-9223372036854775808) ∈ lw_tbl := List.mem_of_getElem? (i := 412) rfl
set_option maxRecDepth 100000 in
theorem ld_t493 : Cond.methodLink RL 89 yX3_odds ∈ lw_tbl := List.mem_of_getElem? (i := 775) rfl
set_option maxRecDepth 100000 in
theorem ld_t494 : Cond.instanceMethod yX3_odds ∈ lw_tbl := List.mem_of_getElem? (i := 776) rfl
set_option maxRecDepth 100000 in
theorem ld_t495 : Cond.selects RX3 yX3_odds yX3_odds ∈ lw_tbl := List.mem_of_getElem? (i := 777) rfl
set_option maxRecDepth 100000 in
theorem ld_t496 : Cond.code yX3_odds cX3_odds 7 (some .long) ∈ lw_tbl := List.mem_of_getElem? (i := 778) rfl
set_option maxRecDepth 100000 in
theorem ld_t497 : Cond.constantLong RX3 219 (100) ∈ lw_tbl := List.mem_of_getElem? (i := 783) rfl
set_option maxRecDepth 100000 in
theorem ld_t498 : Cond.methodLink RX3 70 yX3_lost ∈ lw_tbl := List.mem_of_getElem? (i := 779) rfl
set_option maxRecDepth 100000 in
theorem ld_t499 : Cond.static yX3_lost ∈ lw_tbl := List.mem_of_getElem? (i := 780) rfl
set_option maxRecDepth 100000 in
theorem ld_t500 : Cond.code yX3_lost cX3_lost 0 (some .long) ∈ lw_tbl := List.mem_of_getElem? (i := 781) rfl
set_option maxRecDepth 100000 in
theorem ld_t501 : Cond.constantLong RX3 64 (-9223372036854775808) ∈ lw_tbl := List.mem_of_getElem? (i := 782) rfl
set_option maxRecDepth 100000 in
theorem ld_t502 : Cond.methodLink RX3 221 yX3_share ∈ lw_tbl := List.mem_of_getElem? (i := 784) rfl
set_option maxRecDepth 100000 in
theorem ld_t503 : Cond.static yX3_share ∈ lw_tbl := List.mem_of_getElem? (i := 785) rfl
theorem ld_tk21 : ∀ w ∈ wsL_law_r21, w ∈ lw_tbl := List.forall_mem_cons.mpr ⟨ld_t480, List.forall_mem_cons.mpr ⟨ld_t481, List.forall_mem_cons.mpr ⟨ld_t482, List.forall_mem_cons.mpr ⟨ld_t483, List.forall_mem_cons.mpr ⟨ld_t484, List.forall_mem_cons.mpr ⟨ld_t485, List.forall_mem_cons.mpr ⟨ld_t486, List.forall_mem_cons.mpr ⟨ld_t487, List.forall_mem_cons.mpr ⟨ld_t488, List.forall_mem_cons.mpr ⟨ld_t489, List.forall_mem_cons.mpr ⟨ld_t490, List.forall_mem_cons.mpr ⟨ld_t491, List.forall_mem_cons.mpr ⟨ld_t492, List.forall_mem_cons.mpr ⟨ld_t493, List.forall_mem_cons.mpr ⟨ld_t494, List.forall_mem_cons.mpr ⟨ld_t495, List.forall_mem_cons.mpr ⟨ld_t496, List.forall_mem_cons.mpr ⟨ld_t497, List.forall_mem_cons.mpr ⟨ld_t498, List.forall_mem_cons.mpr ⟨ld_t499, List.forall_mem_cons.mpr ⟨ld_t500, List.forall_mem_cons.mpr ⟨ld_t501, List.forall_mem_cons.mpr ⟨ld_t502, List.forall_mem_cons.mpr ⟨ld_t503, (fun _ h => absurd h List.not_mem_nil)⟩⟩⟩⟩⟩⟩⟩⟩⟩⟩⟩⟩⟩⟩⟩⟩⟩⟩⟩⟩⟩⟩⟩⟩
set_option maxRecDepth 100000 in
theorem ld_t504 : Cond.code yX3_share cX3_share 11 (some .long) ∈ lw_tbl := List.mem_of_getElem? (i := 786) rfl
set_option maxRecDepth 100000 in
theorem ld_t505 : Cond.methodLink RL 90 yX2_sheet ∈ lw_tbl := List.mem_of_getElem? (i := 413) rfl
set_option maxRecDepth 100000 in
theorem ld_t506 : Cond.instanceMethod yX2_sheet ∈ lw_tbl := List.mem_of_getElem? (i := 414) rfl
set_option maxRecDepth 100000 in
theorem ld_t507 : Cond.selects RX2 yX2_sheet yX2_sheet ∈ lw_tbl := List.mem_of_getElem? (i := 415) rfl
set_option maxRecDepth 100000 in
theorem ld_t508 : Cond.code yX2_sheet cX2_sheet 4 (some .int) ∈ lw_tbl := List.mem_of_getElem? (i := 416) rfl
set_option maxRecDepth 100000 in
theorem ld_t509 : Cond.instanceMethod yX0_begin ∈ lw_tbl := List.mem_of_getElem? (i := 419) rfl
set_option maxRecDepth 100000 in
theorem ld_t510 : Cond.selects RX0 yX0_begin yX0_begin ∈ lw_tbl := List.mem_of_getElem? (i := 31) rfl
set_option maxRecDepth 100000 in
theorem ld_t511 : Cond.code yX0_begin cX0_begin 4 none ∈ lw_tbl := List.mem_of_getElem? (i := 420) rfl
set_option maxRecDepth 100000 in
theorem ld_t512 : Cond.methodLink RL 94 yX3_sheet ∈ lw_tbl := List.mem_of_getElem? (i := 787) rfl
set_option maxRecDepth 100000 in
theorem ld_t513 : Cond.instanceMethod yX3_sheet ∈ lw_tbl := List.mem_of_getElem? (i := 788) rfl
set_option maxRecDepth 100000 in
theorem ld_t514 : Cond.selects RX3 yX3_sheet yX3_sheet ∈ lw_tbl := List.mem_of_getElem? (i := 789) rfl
set_option maxRecDepth 100000 in
theorem ld_t515 : Cond.code yX3_sheet cX3_sheet 5 (some .int) ∈ lw_tbl := List.mem_of_getElem? (i := 790) rfl
set_option maxRecDepth 100000 in
theorem ld_t516 : Cond.methodLink RL 95 yX2_lose ∈ lw_tbl := List.mem_of_getElem? (i := 421) rfl
set_option maxRecDepth 100000 in
theorem ld_t517 : Cond.instanceMethod yX2_lose ∈ lw_tbl := List.mem_of_getElem? (i := 422) rfl
set_option maxRecDepth 100000 in
theorem ld_t518 : Cond.selects RX2 yX2_lose yX2_lose ∈ lw_tbl := List.mem_of_getElem? (i := 423) rfl
set_option maxRecDepth 100000 in
theorem ld_t519 : Cond.code yX2_lose cX2_lose 3 (some .int) ∈ lw_tbl := List.mem_of_getElem? (i := 424) rfl
set_option maxRecDepth 100000 in
theorem ld_t520 : Cond.methodLink RL 98 yX3_lose ∈ lw_tbl := List.mem_of_getElem? (i := 791) rfl
set_option maxRecDepth 100000 in
theorem ld_t521 : Cond.instanceMethod yX3_lose ∈ lw_tbl := List.mem_of_getElem? (i := 792) rfl
set_option maxRecDepth 100000 in
theorem ld_t522 : Cond.selects RX3 yX3_lose yX3_lose ∈ lw_tbl := List.mem_of_getElem? (i := 793) rfl
set_option maxRecDepth 100000 in
theorem ld_t523 : Cond.code yX3_lose cX3_lose 3 (some .int) ∈ lw_tbl := List.mem_of_getElem? (i := 794) rfl
set_option maxRecDepth 100000 in
theorem ld_t524 : Cond.methodLink RL 99 yX2_put ∈ lw_tbl := List.mem_of_getElem? (i := 426) rfl
set_option maxRecDepth 100000 in
theorem ld_t525 : Cond.instanceMethod yX2_put ∈ lw_tbl := List.mem_of_getElem? (i := 427) rfl
set_option maxRecDepth 100000 in
theorem ld_t526 : Cond.selects RX2 yX2_put yX2_put ∈ lw_tbl := List.mem_of_getElem? (i := 428) rfl
set_option maxRecDepth 100000 in
theorem ld_t527 : Cond.code yX2_put cX2_put 5 (some .int) ∈ lw_tbl := List.mem_of_getElem? (i := 429) rfl
theorem ld_tk22 : ∀ w ∈ wsL_law_r22, w ∈ lw_tbl := List.forall_mem_cons.mpr ⟨ld_t504, List.forall_mem_cons.mpr ⟨ld_t505, List.forall_mem_cons.mpr ⟨ld_t506, List.forall_mem_cons.mpr ⟨ld_t507, List.forall_mem_cons.mpr ⟨ld_t508, List.forall_mem_cons.mpr ⟨ld_t509, List.forall_mem_cons.mpr ⟨ld_t510, List.forall_mem_cons.mpr ⟨ld_t511, List.forall_mem_cons.mpr ⟨ld_t512, List.forall_mem_cons.mpr ⟨ld_t513, List.forall_mem_cons.mpr ⟨ld_t514, List.forall_mem_cons.mpr ⟨ld_t515, List.forall_mem_cons.mpr ⟨ld_t516, List.forall_mem_cons.mpr ⟨ld_t517, List.forall_mem_cons.mpr ⟨ld_t518, List.forall_mem_cons.mpr ⟨ld_t519, List.forall_mem_cons.mpr ⟨ld_t520, List.forall_mem_cons.mpr ⟨ld_t521, List.forall_mem_cons.mpr ⟨ld_t522, List.forall_mem_cons.mpr ⟨ld_t523, List.forall_mem_cons.mpr ⟨ld_t524, List.forall_mem_cons.mpr ⟨ld_t525, List.forall_mem_cons.mpr ⟨ld_t526, List.forall_mem_cons.mpr ⟨ld_t527, (fun _ h => absurd h List.not_mem_nil)⟩⟩⟩⟩⟩⟩⟩⟩⟩⟩⟩⟩⟩⟩⟩⟩⟩⟩⟩⟩⟩⟩⟩⟩
set_option maxRecDepth 100000 in
theorem ld_t528 : Cond.instanceMethod yX0_hasCell ∈ lw_tbl := List.mem_of_getElem? (i := 432) rfl
set_option maxRecDepth 100000 in
theorem ld_t529 : Cond.selects RX0 yX0_hasCell yX0_hasCell ∈ lw_tbl := List.mem_of_getElem? (i := 32) rfl
set_option maxRecDepth 100000 in
theorem ld_t530 : Cond.code yX0_hasCell cX0_hasCell 2 (some .boolean) ∈ lw_tbl := List.mem_of_getElem? (i := 433) rfl
set_option maxRecDepth 100000 in
theorem ld_t531 : Cond.instanceMethod yX0_cutToLane ∈ lw_tbl := List.mem_of_getElem? (i := 436) rfl
set_option maxRecDepth 100000 in
theorem ld_t532 : Cond.selects RX0 yX0_cutToLane yX0_cutToLane ∈ lw_tbl := List.mem_of_getElem? (i := 33) rfl
set_option maxRecDepth 100000 in
theorem ld_t533 : Cond.code yX0_cutToLane cX0_cutToLane 2 (some .int) ∈ lw_tbl := List.mem_of_getElem? (i := 437) rfl
set_option maxRecDepth 100000 in
theorem ld_t534 : Cond.methodLink RL 102 yX3_put ∈ lw_tbl := List.mem_of_getElem? (i := 795) rfl
set_option maxRecDepth 100000 in
theorem ld_t535 : Cond.instanceMethod yX3_put ∈ lw_tbl := List.mem_of_getElem? (i := 796) rfl
set_option maxRecDepth 100000 in
theorem ld_t536 : Cond.selects RX3 yX3_put yX3_put ∈ lw_tbl := List.mem_of_getElem? (i := 797) rfl
set_option maxRecDepth 100000 in
theorem ld_t537 : Cond.code yX3_put cX3_put 4 (some .int) ∈ lw_tbl := List.mem_of_getElem? (i := 798) rfl
set_option maxRecDepth 100000 in
theorem ld_t538 : Cond.methodLink RX3 227 yX3_noCell ∈ lw_tbl := List.mem_of_getElem? (i := 799) rfl
set_option maxRecDepth 100000 in
theorem ld_t539 : Cond.instanceMethod yX3_noCell ∈ lw_tbl := List.mem_of_getElem? (i := 801) rfl
set_option maxRecDepth 100000 in
theorem ld_t540 : Cond.selects RX3 yX3_noCell yX3_noCell ∈ lw_tbl := List.mem_of_getElem? (i := 62) rfl
set_option maxRecDepth 100000 in
theorem ld_t541 : Cond.code yX3_noCell cX3_noCell 3 (some .int) ∈ lw_tbl := List.mem_of_getElem? (i := 802) rfl
set_option maxRecDepth 100000 in
theorem ld_t542 : Cond.methodLink RL 103 yX2_cell ∈ lw_tbl := List.mem_of_getElem? (i := 438) rfl
set_option maxRecDepth 100000 in
theorem ld_t543 : Cond.instanceMethod yX2_cell ∈ lw_tbl := List.mem_of_getElem? (i := 439) rfl
set_option maxRecDepth 100000 in
theorem ld_t544 : Cond.selects RX2 yX2_cell yX2_cell ∈ lw_tbl := List.mem_of_getElem? (i := 440) rfl
set_option maxRecDepth 100000 in
theorem ld_t545 : Cond.code yX2_cell cX2_cell 6 (some .long) ∈ lw_tbl := List.mem_of_getElem? (i := 441) rfl
set_option maxRecDepth 100000 in
theorem ld_t546 : Cond.methodLink RL 106 yX3_cell ∈ lw_tbl := List.mem_of_getElem? (i := 803) rfl
set_option maxRecDepth 100000 in
theorem ld_t547 : Cond.instanceMethod yX3_cell ∈ lw_tbl := List.mem_of_getElem? (i := 804) rfl
set_option maxRecDepth 100000 in
theorem ld_t548 : Cond.selects RX3 yX3_cell yX3_cell ∈ lw_tbl := List.mem_of_getElem? (i := 805) rfl
set_option maxRecDepth 100000 in
theorem ld_t549 : Cond.code yX3_cell cX3_cell 4 (some .long) ∈ lw_tbl := List.mem_of_getElem? (i := 806) rfl
set_option maxRecDepth 100000 in
theorem ld_t550 : Cond.methodLink RX3 230 yX3_failedLong ∈ lw_tbl := List.mem_of_getElem? (i := 807) rfl
set_option maxRecDepth 100000 in
theorem ld_t551 : Cond.instanceMethod yX3_failedLong ∈ lw_tbl := List.mem_of_getElem? (i := 809) rfl
theorem ld_tk23 : ∀ w ∈ wsL_law_r23, w ∈ lw_tbl := List.forall_mem_cons.mpr ⟨ld_t528, List.forall_mem_cons.mpr ⟨ld_t529, List.forall_mem_cons.mpr ⟨ld_t530, List.forall_mem_cons.mpr ⟨ld_t531, List.forall_mem_cons.mpr ⟨ld_t532, List.forall_mem_cons.mpr ⟨ld_t533, List.forall_mem_cons.mpr ⟨ld_t534, List.forall_mem_cons.mpr ⟨ld_t535, List.forall_mem_cons.mpr ⟨ld_t536, List.forall_mem_cons.mpr ⟨ld_t537, List.forall_mem_cons.mpr ⟨ld_t538, List.forall_mem_cons.mpr ⟨ld_t539, List.forall_mem_cons.mpr ⟨ld_t540, List.forall_mem_cons.mpr ⟨ld_t541, List.forall_mem_cons.mpr ⟨ld_t542, List.forall_mem_cons.mpr ⟨ld_t543, List.forall_mem_cons.mpr ⟨ld_t544, List.forall_mem_cons.mpr ⟨ld_t545, List.forall_mem_cons.mpr ⟨ld_t546, List.forall_mem_cons.mpr ⟨ld_t547, List.forall_mem_cons.mpr ⟨ld_t548, List.forall_mem_cons.mpr ⟨ld_t549, List.forall_mem_cons.mpr ⟨ld_t550, List.forall_mem_cons.mpr ⟨ld_t551, (fun _ h => absurd h List.not_mem_nil)⟩⟩⟩⟩⟩⟩⟩⟩⟩⟩⟩⟩⟩⟩⟩⟩⟩⟩⟩⟩⟩⟩⟩⟩
set_option maxRecDepth 100000 in
theorem ld_t552 : Cond.selects RX3 yX3_failedLong yX3_failedLong ∈ lw_tbl := List.mem_of_getElem? (i := 63) rfl
set_option maxRecDepth 100000 in
theorem ld_t553 : Cond.code yX3_failedLong cX3_failedLong 2 (some .long) ∈ lw_tbl := List.mem_of_getElem? (i := 810) rfl
set_option maxRecDepth 100000 in
theorem ld_t554 : Cond.methodLink RL 107 yX2_copy ∈ lw_tbl := List.mem_of_getElem? (i := 442) rfl
set_option maxRecDepth 100000 in
theorem ld_t555 : Cond.instanceMethod yX2_copy ∈ lw_tbl := List.mem_of_getElem? (i := 443) rfl
set_option maxRecDepth 100000 in
theorem ld_t556 : Cond.selects RX2 yX2_copy yX2_copy ∈ lw_tbl := List.mem_of_getElem? (i := 444) rfl
set_option maxRecDepth 100000 in
theorem ld_t557 : Cond.code yX2_copy cX2_copy 8 (some .int) ∈ lw_tbl := List.mem_of_getElem? (i := 445) rfl
set_option maxRecDepth 100000 in
theorem ld_t558 : Cond.methodLink RX2 181 arraycopyName ∈ lw_tbl := List.mem_of_getElem? (i := 446) rfl
set_option maxRecDepth 100000 in
theorem ld_t559 : Cond.native arraycopyName ∈ lw_tbl := List.mem_of_getElem? (i := 448) rfl
set_option maxRecDepth 100000 in
theorem ld_t560 : Cond.static arraycopyName ∈ lw_tbl := List.mem_of_getElem? (i := 447) rfl
set_option maxRecDepth 100000 in
theorem ld_t561 : Cond.initialized "java/lang/System" ∈ lw_tbl := List.mem_of_getElem? (i := 71) rfl
set_option maxRecDepth 100000 in
theorem ld_t562 : Cond.methodLink RL 110 yX3_copy ∈ lw_tbl := List.mem_of_getElem? (i := 811) rfl
set_option maxRecDepth 100000 in
theorem ld_t563 : Cond.instanceMethod yX3_copy ∈ lw_tbl := List.mem_of_getElem? (i := 812) rfl
set_option maxRecDepth 100000 in
theorem ld_t564 : Cond.selects RX3 yX3_copy yX3_copy ∈ lw_tbl := List.mem_of_getElem? (i := 813) rfl
set_option maxRecDepth 100000 in
theorem ld_t565 : Cond.code yX3_copy cX3_copy 7 (some .int) ∈ lw_tbl := List.mem_of_getElem? (i := 814) rfl
set_option maxRecDepth 100000 in
theorem ld_t566 : Cond.methodLink RL 111 yX2_tell ∈ lw_tbl := List.mem_of_getElem? (i := 449) rfl
set_option maxRecDepth 100000 in
theorem ld_t567 : Cond.instanceMethod yX2_tell ∈ lw_tbl := List.mem_of_getElem? (i := 450) rfl
set_option maxRecDepth 100000 in
theorem ld_t568 : Cond.selects RX2 yX2_tell yX2_tell ∈ lw_tbl := List.mem_of_getElem? (i := 451) rfl
set_option maxRecDepth 100000 in
theorem ld_t569 : Cond.code yX2_tell cX2_tell 2 (some .int) ∈ lw_tbl := List.mem_of_getElem? (i := 452) rfl
set_option maxRecDepth 100000 in
theorem ld_t570 : Cond.methodLink RX2 187 yX2_tellAsTart ∈ lw_tbl := List.mem_of_getElem? (i := 453) rfl
set_option maxRecDepth 100000 in
theorem ld_t571 : Cond.instanceMethod yX2_tellAsTart ∈ lw_tbl := List.mem_of_getElem? (i := 455) rfl
set_option maxRecDepth 100000 in
theorem ld_t572 : Cond.selects RX2 yX2_tellAsTart yX2_tellAsTart ∈ lw_tbl := List.mem_of_getElem? (i := 34) rfl
set_option maxRecDepth 100000 in
theorem ld_t573 : Cond.code yX2_tellAsTart cX2_tellAsTart 2 (some .int) ∈ lw_tbl := List.mem_of_getElem? (i := 456) rfl
set_option maxRecDepth 100000 in
theorem ld_t574 : Cond.methodLink RX2 196 yX2_leaveInTrace ∈ lw_tbl := List.mem_of_getElem? (i := 457) rfl
set_option maxRecDepth 100000 in
theorem ld_t575 : Cond.instanceMethod yX2_leaveInTrace ∈ lw_tbl := List.mem_of_getElem? (i := 459) rfl
theorem ld_tk24 : ∀ w ∈ wsL_law_r24, w ∈ lw_tbl := List.forall_mem_cons.mpr ⟨ld_t552, List.forall_mem_cons.mpr ⟨ld_t553, List.forall_mem_cons.mpr ⟨ld_t554, List.forall_mem_cons.mpr ⟨ld_t555, List.forall_mem_cons.mpr ⟨ld_t556, List.forall_mem_cons.mpr ⟨ld_t557, List.forall_mem_cons.mpr ⟨ld_t558, List.forall_mem_cons.mpr ⟨ld_t559, List.forall_mem_cons.mpr ⟨ld_t560, List.forall_mem_cons.mpr ⟨ld_t561, List.forall_mem_cons.mpr ⟨ld_t562, List.forall_mem_cons.mpr ⟨ld_t563, List.forall_mem_cons.mpr ⟨ld_t564, List.forall_mem_cons.mpr ⟨ld_t565, List.forall_mem_cons.mpr ⟨ld_t566, List.forall_mem_cons.mpr ⟨ld_t567, List.forall_mem_cons.mpr ⟨ld_t568, List.forall_mem_cons.mpr ⟨ld_t569, List.forall_mem_cons.mpr ⟨ld_t570, List.forall_mem_cons.mpr ⟨ld_t571, List.forall_mem_cons.mpr ⟨ld_t572, List.forall_mem_cons.mpr ⟨ld_t573, List.forall_mem_cons.mpr ⟨ld_t574, List.forall_mem_cons.mpr ⟨ld_t575, (fun _ h => absurd h List.not_mem_nil)⟩⟩⟩⟩⟩⟩⟩⟩⟩⟩⟩⟩⟩⟩⟩⟩⟩⟩⟩⟩⟩⟩⟩⟩
set_option maxRecDepth 100000 in
theorem ld_t576 : Cond.selects RX2 yX2_leaveInTrace yX2_leaveInTrace ∈ lw_tbl := List.mem_of_getElem? (i := 35) rfl
set_option maxRecDepth 100000 in
theorem ld_t577 : Cond.code yX2_leaveInTrace cX2_leaveInTrace 2 none ∈ lw_tbl := List.mem_of_getElem? (i := 460) rfl
set_option maxRecDepth 100000 in
theorem ld_t578 : Cond.methodLink RX2 193 yX2_tellAsPlain ∈ lw_tbl := List.mem_of_getElem? (i := 461) rfl
set_option maxRecDepth 100000 in
theorem ld_t579 : Cond.instanceMethod yX2_tellAsPlain ∈ lw_tbl := List.mem_of_getElem? (i := 463) rfl
set_option maxRecDepth 100000 in
theorem ld_t580 : Cond.selects RX2 yX2_tellAsPlain yX2_tellAsPlain ∈ lw_tbl := List.mem_of_getElem? (i := 36) rfl
set_option maxRecDepth 100000 in
theorem ld_t581 : Cond.code yX2_tellAsPlain cX2_tellAsPlain 2 (some .int) ∈ lw_tbl := List.mem_of_getElem? (i := 464) rfl
set_option maxRecDepth 100000 in
theorem ld_t582 : Cond.methodLink RX2 190 yX2_tellAsBitter ∈ lw_tbl := List.mem_of_getElem? (i := 465) rfl
set_option maxRecDepth 100000 in
theorem ld_t583 : Cond.instanceMethod yX2_tellAsBitter ∈ lw_tbl := List.mem_of_getElem? (i := 467) rfl
set_option maxRecDepth 100000 in
theorem ld_t584 : Cond.selects RX2 yX2_tellAsBitter yX2_tellAsBitter ∈ lw_tbl := List.mem_of_getElem? (i := 37) rfl
set_option maxRecDepth 100000 in
theorem ld_t585 : Cond.code yX2_tellAsBitter cX2_tellAsBitter 3 (some .int) ∈ lw_tbl := List.mem_of_getElem? (i := 468) rfl
set_option maxRecDepth 100000 in
theorem ld_t586 : Cond.methodLink RL 114 yX3_tell ∈ lw_tbl := List.mem_of_getElem? (i := 815) rfl
set_option maxRecDepth 100000 in
theorem ld_t587 : Cond.instanceMethod yX3_tell ∈ lw_tbl := List.mem_of_getElem? (i := 816) rfl
set_option maxRecDepth 100000 in
theorem ld_t588 : Cond.selects RX3 yX3_tell yX3_tell ∈ lw_tbl := List.mem_of_getElem? (i := 817) rfl
set_option maxRecDepth 100000 in
theorem ld_t589 : Cond.code yX3_tell cX3_tell 4 (some .int) ∈ lw_tbl := List.mem_of_getElem? (i := 818) rfl
set_option maxRecDepth 100000 in
theorem ld_t590 : Cond.methodLink RX3 237 yX3_traced ∈ lw_tbl := List.mem_of_getElem? (i := 819) rfl
set_option maxRecDepth 100000 in
theorem ld_t591 : Cond.instanceMethod yX3_traced ∈ lw_tbl := List.mem_of_getElem? (i := 821) rfl
set_option maxRecDepth 100000 in
theorem ld_t592 : Cond.selects RX3 yX3_traced yX3_traced ∈ lw_tbl := List.mem_of_getElem? (i := 64) rfl
set_option maxRecDepth 100000 in
theorem ld_t593 : Cond.code yX3_traced cX3_traced 2 none ∈ lw_tbl := List.mem_of_getElem? (i := 822) rfl
set_option maxRecDepth 100000 in
theorem ld_t594 : Cond.fieldLink RX3 234 "LemonDealsModel" "traceNow" "I" ∈ lw_tbl := List.mem_of_getElem? (i := 524) rfl
set_option maxRecDepth 100000 in
theorem ld_t595 : Cond.methodLink RL 115 yX2_knock ∈ lw_tbl := List.mem_of_getElem? (i := 469) rfl
set_option maxRecDepth 100000 in
theorem ld_t596 : Cond.instanceMethod yX2_knock ∈ lw_tbl := List.mem_of_getElem? (i := 470) rfl
set_option maxRecDepth 100000 in
theorem ld_t597 : Cond.selects RX2 yX2_knock yX2_knock ∈ lw_tbl := List.mem_of_getElem? (i := 471) rfl
set_option maxRecDepth 100000 in
theorem ld_t598 : Cond.code yX2_knock cX2_knock 3 (some .int) ∈ lw_tbl := List.mem_of_getElem? (i := 472) rfl
set_option maxRecDepth 100000 in
theorem ld_t599 : Cond.methodLink RL 118 yX3_knock ∈ lw_tbl := List.mem_of_getElem? (i := 823) rfl
theorem ld_tk25 : ∀ w ∈ wsL_law_r25, w ∈ lw_tbl := List.forall_mem_cons.mpr ⟨ld_t576, List.forall_mem_cons.mpr ⟨ld_t577, List.forall_mem_cons.mpr ⟨ld_t578, List.forall_mem_cons.mpr ⟨ld_t579, List.forall_mem_cons.mpr ⟨ld_t580, List.forall_mem_cons.mpr ⟨ld_t581, List.forall_mem_cons.mpr ⟨ld_t582, List.forall_mem_cons.mpr ⟨ld_t583, List.forall_mem_cons.mpr ⟨ld_t584, List.forall_mem_cons.mpr ⟨ld_t585, List.forall_mem_cons.mpr ⟨ld_t586, List.forall_mem_cons.mpr ⟨ld_t587, List.forall_mem_cons.mpr ⟨ld_t588, List.forall_mem_cons.mpr ⟨ld_t589, List.forall_mem_cons.mpr ⟨ld_t590, List.forall_mem_cons.mpr ⟨ld_t591, List.forall_mem_cons.mpr ⟨ld_t592, List.forall_mem_cons.mpr ⟨ld_t593, List.forall_mem_cons.mpr ⟨ld_t594, List.forall_mem_cons.mpr ⟨ld_t595, List.forall_mem_cons.mpr ⟨ld_t596, List.forall_mem_cons.mpr ⟨ld_t597, List.forall_mem_cons.mpr ⟨ld_t598, List.forall_mem_cons.mpr ⟨ld_t599, (fun _ h => absurd h List.not_mem_nil)⟩⟩⟩⟩⟩⟩⟩⟩⟩⟩⟩⟩⟩⟩⟩⟩⟩⟩⟩⟩⟩⟩⟩⟩
set_option maxRecDepth 100000 in
theorem ld_t600 : Cond.instanceMethod yX3_knock ∈ lw_tbl := List.mem_of_getElem? (i := 824) rfl
set_option maxRecDepth 100000 in
theorem ld_t601 : Cond.selects RX3 yX3_knock yX3_knock ∈ lw_tbl := List.mem_of_getElem? (i := 825) rfl
set_option maxRecDepth 100000 in
theorem ld_t602 : Cond.code yX3_knock cX3_knock 2 (some .int) ∈ lw_tbl := List.mem_of_getElem? (i := 826) rfl
set_option maxRecDepth 100000 in
theorem ld_t603 : Cond.methodLink RL 119 yX2_as ∈ lw_tbl := List.mem_of_getElem? (i := 473) rfl
set_option maxRecDepth 100000 in
theorem ld_t604 : Cond.instanceMethod yX2_as ∈ lw_tbl := List.mem_of_getElem? (i := 474) rfl
set_option maxRecDepth 100000 in
theorem ld_t605 : Cond.selects RX2 yX2_as yX2_as ∈ lw_tbl := List.mem_of_getElem? (i := 475) rfl
set_option maxRecDepth 100000 in
theorem ld_t606 : Cond.code yX2_as cX2_as 3 (some .int) ∈ lw_tbl := List.mem_of_getElem? (i := 476) rfl
set_option maxRecDepth 100000 in
theorem ld_t607 : Cond.methodLink RL 122 yX3_as ∈ lw_tbl := List.mem_of_getElem? (i := 827) rfl
set_option maxRecDepth 100000 in
theorem ld_t608 : Cond.instanceMethod yX3_as ∈ lw_tbl := List.mem_of_getElem? (i := 828) rfl
set_option maxRecDepth 100000 in
theorem ld_t609 : Cond.selects RX3 yX3_as yX3_as ∈ lw_tbl := List.mem_of_getElem? (i := 829) rfl
set_option maxRecDepth 100000 in
theorem ld_t610 : Cond.code yX3_as cX3_as 3 (some .int) ∈ lw_tbl := List.mem_of_getElem? (i := 830) rfl
set_option maxRecDepth 100000 in
theorem ld_t611 : Cond.methodLink RL 123 yX2_trace ∈ lw_tbl := List.mem_of_getElem? (i := 477) rfl
set_option maxRecDepth 100000 in
theorem ld_t612 : Cond.instanceMethod yX2_trace ∈ lw_tbl := List.mem_of_getElem? (i := 478) rfl
set_option maxRecDepth 100000 in
theorem ld_t613 : Cond.selects RX2 yX2_trace yX2_trace ∈ lw_tbl := List.mem_of_getElem? (i := 479) rfl
set_option maxRecDepth 100000 in
theorem ld_t614 : Cond.code yX2_trace cX2_trace 1 (some .int) ∈ lw_tbl := List.mem_of_getElem? (i := 480) rfl
set_option maxRecDepth 100000 in
theorem ld_t615 : Cond.methodLink RL 127 yX3_trace ∈ lw_tbl := List.mem_of_getElem? (i := 831) rfl
set_option maxRecDepth 100000 in
theorem ld_t616 : Cond.instanceMethod yX3_trace ∈ lw_tbl := List.mem_of_getElem? (i := 832) rfl
set_option maxRecDepth 100000 in
theorem ld_t617 : Cond.selects RX3 yX3_trace yX3_trace ∈ lw_tbl := List.mem_of_getElem? (i := 833) rfl
set_option maxRecDepth 100000 in
theorem ld_t618 : Cond.code yX3_trace cX3_trace 1 (some .int) ∈ lw_tbl := List.mem_of_getElem? (i := 834) rfl
set_option maxRecDepth 100000 in
theorem ld_t619 : Cond.methodLink RL 128 yX2_fault ∈ lw_tbl := List.mem_of_getElem? (i := 481) rfl
set_option maxRecDepth 100000 in
theorem ld_t620 : Cond.instanceMethod yX2_fault ∈ lw_tbl := List.mem_of_getElem? (i := 482) rfl
set_option maxRecDepth 100000 in
theorem ld_t621 : Cond.selects RX2 yX2_fault yX2_fault ∈ lw_tbl := List.mem_of_getElem? (i := 483) rfl
set_option maxRecDepth 100000 in
theorem ld_t622 : Cond.code yX2_fault cX2_fault 1 (some .int) ∈ lw_tbl := List.mem_of_getElem? (i := 484) rfl
set_option maxRecDepth 100000 in
theorem ld_t623 : Cond.methodLink RL 131 yX3_fault ∈ lw_tbl := List.mem_of_getElem? (i := 835) rfl
theorem ld_tk26 : ∀ w ∈ wsL_law_r26, w ∈ lw_tbl := List.forall_mem_cons.mpr ⟨ld_t600, List.forall_mem_cons.mpr ⟨ld_t601, List.forall_mem_cons.mpr ⟨ld_t602, List.forall_mem_cons.mpr ⟨ld_t603, List.forall_mem_cons.mpr ⟨ld_t604, List.forall_mem_cons.mpr ⟨ld_t605, List.forall_mem_cons.mpr ⟨ld_t606, List.forall_mem_cons.mpr ⟨ld_t607, List.forall_mem_cons.mpr ⟨ld_t608, List.forall_mem_cons.mpr ⟨ld_t609, List.forall_mem_cons.mpr ⟨ld_t610, List.forall_mem_cons.mpr ⟨ld_t611, List.forall_mem_cons.mpr ⟨ld_t612, List.forall_mem_cons.mpr ⟨ld_t613, List.forall_mem_cons.mpr ⟨ld_t614, List.forall_mem_cons.mpr ⟨ld_t615, List.forall_mem_cons.mpr ⟨ld_t616, List.forall_mem_cons.mpr ⟨ld_t617, List.forall_mem_cons.mpr ⟨ld_t618, List.forall_mem_cons.mpr ⟨ld_t619, List.forall_mem_cons.mpr ⟨ld_t620, List.forall_mem_cons.mpr ⟨ld_t621, List.forall_mem_cons.mpr ⟨ld_t622, List.forall_mem_cons.mpr ⟨ld_t623, (fun _ h => absurd h List.not_mem_nil)⟩⟩⟩⟩⟩⟩⟩⟩⟩⟩⟩⟩⟩⟩⟩⟩⟩⟩⟩⟩⟩⟩⟩⟩
set_option maxRecDepth 100000 in
theorem ld_t624 : Cond.instanceMethod yX3_fault ∈ lw_tbl := List.mem_of_getElem? (i := 836) rfl
set_option maxRecDepth 100000 in
theorem ld_t625 : Cond.selects RX3 yX3_fault yX3_fault ∈ lw_tbl := List.mem_of_getElem? (i := 837) rfl
set_option maxRecDepth 100000 in
theorem ld_t626 : Cond.code yX3_fault cX3_fault 1 (some .int) ∈ lw_tbl := List.mem_of_getElem? (i := 838) rfl
set_option maxRecDepth 100000 in
theorem ld_t627 : Cond.methodLink RL 132 yX2_many ∈ lw_tbl := List.mem_of_getElem? (i := 485) rfl
set_option maxRecDepth 100000 in
theorem ld_t628 : Cond.instanceMethod yX2_many ∈ lw_tbl := List.mem_of_getElem? (i := 486) rfl
set_option maxRecDepth 100000 in
theorem ld_t629 : Cond.selects RX2 yX2_many yX2_many ∈ lw_tbl := List.mem_of_getElem? (i := 487) rfl
set_option maxRecDepth 100000 in
theorem ld_t630 : Cond.code yX2_many cX2_many 2 (some .int) ∈ lw_tbl := List.mem_of_getElem? (i := 488) rfl
set_option maxRecDepth 100000 in
theorem ld_t631 : Cond.methodLink RL 135 yX3_many ∈ lw_tbl := List.mem_of_getElem? (i := 839) rfl
set_option maxRecDepth 100000 in
theorem ld_t632 : Cond.instanceMethod yX3_many ∈ lw_tbl := List.mem_of_getElem? (i := 840) rfl
set_option maxRecDepth 100000 in
theorem ld_t633 : Cond.selects RX3 yX3_many yX3_many ∈ lw_tbl := List.mem_of_getElem? (i := 841) rfl
set_option maxRecDepth 100000 in
theorem ld_t634 : Cond.code yX3_many cX3_many 2 (some .int) ∈ lw_tbl := List.mem_of_getElem? (i := 842) rfl
theorem ld_tk27 : ∀ w ∈ wsL_law_r27, w ∈ lw_tbl := List.forall_mem_cons.mpr ⟨ld_t624, List.forall_mem_cons.mpr ⟨ld_t625, List.forall_mem_cons.mpr ⟨ld_t626, List.forall_mem_cons.mpr ⟨ld_t627, List.forall_mem_cons.mpr ⟨ld_t628, List.forall_mem_cons.mpr ⟨ld_t629, List.forall_mem_cons.mpr ⟨ld_t630, List.forall_mem_cons.mpr ⟨ld_t631, List.forall_mem_cons.mpr ⟨ld_t632, List.forall_mem_cons.mpr ⟨ld_t633, List.forall_mem_cons.mpr ⟨ld_t634, (fun _ h => absurd h List.not_mem_nil)⟩⟩⟩⟩⟩⟩⟩⟩⟩⟩⟩
set_option maxRecDepth 100000 in
theorem ld_tX0 : ∀ w ∈ wsX00, w ∈ lw_tbl := by decide +kernel
