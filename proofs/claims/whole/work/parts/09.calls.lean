theorem ld_mw_X0_begin : ld_MW true yX0_begin cX0_begin 4 none 2 := by
  refine ⟨?_, ld_w26, ld_w511, ⟨by decide, by decide⟩, by decide +kernel⟩
  rw [if_pos rfl]; exact ⟨ld_w509, ld_w510⟩
theorem ld_mw_X0_isThere : ld_MW true yX0_isThere cX0_isThere 1 (some .boolean) 0 := by
  refine ⟨?_, ld_w26, ld_w85, ⟨by decide, by decide⟩, by decide +kernel⟩
  rw [if_pos rfl]; exact ⟨ld_w83, ld_w84⟩
theorem ld_mw_X0_faultAs : ld_MW true yX0_faultAs cX0_faultAs 2 (some .int) 1 := by
  refine ⟨?_, ld_w26, ld_w81, ⟨by decide, by decide⟩, by decide +kernel⟩
  rw [if_pos rfl]; exact ⟨ld_w79, ld_w80⟩
theorem ld_mw_X0_hasCell : ld_MW true yX0_hasCell cX0_hasCell 2 (some .boolean) 1 := by
  refine ⟨?_, ld_w26, ld_w530, ⟨by decide, by decide⟩, by decide +kernel⟩
  rw [if_pos rfl]; exact ⟨ld_w528, ld_w529⟩
theorem ld_mw_X0_lacks : ld_MW true yX0_lacks cX0_lacks 3 (some .boolean) 2 := by
  refine ⟨?_, ld_w26, ld_w88, ⟨by decide, by decide⟩, by decide +kernel⟩
  rw [if_pos rfl]; exact ⟨ld_w86, ld_w87⟩
theorem ld_mw_X0_cutToLane : ld_MW true yX0_cutToLane cX0_cutToLane 2 (some .int) 1 := by
  refine ⟨?_, ld_w26, ld_w533, ⟨by decide, by decide⟩, by decide +kernel⟩
  rw [if_pos rfl]; exact ⟨ld_w531, ld_w532⟩
theorem ld_mw_X1_beginByText : ld_MW true yX1_beginByText cX1_beginByText 6 none 3 := by
  refine ⟨?_, ld_w14, ld_w107, ⟨by decide, by decide⟩, by decide +kernel⟩
  rw [if_pos rfl]; exact ⟨ld_w105, ld_w106⟩
theorem ld_mw_X1_becomeLike : ld_MW true yX1_becomeLike cX1_becomeLike 3 none 1 := by
  refine ⟨?_, ld_w14, ld_w320, ⟨by decide, by decide⟩, by decide +kernel⟩
  rw [if_pos rfl]; exact ⟨ld_w318, ld_w319⟩
theorem ld_mw_X1_treesOf : ld_MW true yX1_treesOf cX1_treesOf 2 (some .int) 1 := by
  refine ⟨?_, ld_w14, ld_w174, ⟨by decide, by decide⟩, by decide +kernel⟩
  rw [if_pos rfl]; exact ⟨ld_w172, ld_w173⟩
theorem ld_mw_X1_sourOf : ld_MW true yX1_sourOf cX1_sourOf 2 (some .int) 1 := by
  refine ⟨?_, ld_w14, ld_w177, ⟨by decide, by decide⟩, by decide +kernel⟩
  rw [if_pos rfl]; exact ⟨ld_w175, ld_w176⟩
theorem ld_mw_X1_dealtTo : ld_MW true yX1_dealtTo cX1_dealtTo 3 (some .int) 2 := by
  refine ⟨?_, ld_w14, ld_w180, ⟨by decide, by decide⟩, by decide +kernel⟩
  rw [if_pos rfl]; exact ⟨ld_w178, ld_w179⟩
theorem ld_mw_X1_dealOut : ld_MW true yX1_dealOut cX1_dealOut 5 none 1 := by
  refine ⟨?_, ld_w14, ld_w184, ⟨by decide, by decide⟩, by decide +kernel⟩
  rw [if_pos rfl]; exact ⟨ld_w182, ld_w183⟩
theorem ld_mw_X1_aheadByRemainder : ld_MW true yX1_aheadByRemainder cX1_aheadByRemainder 4 (some .int) 1 := by
  refine ⟨?_, ld_w14, ld_w189, ⟨by decide, by decide⟩, by decide +kernel⟩
  rw [if_pos rfl]; exact ⟨ld_w187, ld_w188⟩
theorem ld_mw_X1_dealOneByOne : ld_MW true yX1_dealOneByOne cX1_dealOneByOne 4 none 1 := by
  refine ⟨?_, ld_w14, ld_w401, ⟨by decide, by decide⟩, by decide +kernel⟩
  rw [if_pos rfl]; exact ⟨ld_w399, ld_w400⟩
theorem ld_mw_X1_nextOneByOne : ld_MW true yX1_nextOneByOne cX1_nextOneByOne 3 (some .int) 0 := by
  refine ⟨?_, ld_w14, ld_w405, ⟨by decide, by decide⟩, by decide +kernel⟩
  rw [if_pos rfl]; exact ⟨ld_w403, ld_w404⟩
theorem ld_mw_X1_isAheadOneByOne : ld_MW true yX1_isAheadOneByOne cX1_isAheadOneByOne 3 (some .boolean) 2 := by
  refine ⟨?_, ld_w14, ld_w409, ⟨by decide, by decide⟩, by decide +kernel⟩
  rw [if_pos rfl]; exact ⟨ld_w407, ld_w408⟩
theorem ld_mw_X1_passWeeks : ld_MW true yX1_passWeeks cX1_passWeeks 3 none 1 := by
  refine ⟨?_, ld_w14, ld_w258, ⟨by decide, by decide⟩, by decide +kernel⟩
  rw [if_pos rfl]; exact ⟨ld_w256, ld_w257⟩
theorem ld_mw_X1_passWeek : ld_MW true yX1_passWeek cX1_passWeek 2 none 0 := by
  refine ⟨?_, ld_w14, ld_w262, ⟨by decide, by decide⟩, by decide +kernel⟩
  rw [if_pos rfl]; exact ⟨ld_w260, ld_w261⟩
theorem ld_mw_X1_suck : ld_MW true yX1_suck cX1_suck 2 none 1 := by
  refine ⟨?_, ld_w14, ld_w267, ⟨by decide, by decide⟩, by decide +kernel⟩
  rw [if_pos rfl]; exact ⟨ld_w265, ld_w266⟩
theorem ld_mw_X1_giveOneFrom : ld_MW true yX1_giveOneFrom cX1_giveOneFrom 2 (some .boolean) 1 := by
  refine ⟨?_, ld_w14, ld_w294, ⟨by decide, by decide⟩, by decide +kernel⟩
  rw [if_pos rfl]; exact ⟨ld_w292, ld_w293⟩
theorem ld_mw_X1_withoutStock : ld_MW true yX1_withoutStock cX1_withoutStock 3 (some .int) 0 := by
  refine ⟨?_, ld_w14, ld_w274, ⟨by decide, by decide⟩, by decide +kernel⟩
  rw [if_pos rfl]; exact ⟨ld_w272, ld_w273⟩
theorem ld_mw_X1_worstTemper : ld_MW true yX1_worstTemper cX1_worstTemper 3 (some .int) 0 := by
  refine ⟨?_, ld_w14, ld_w373, ⟨by decide, by decide⟩, by decide +kernel⟩
  rw [if_pos rfl]; exact ⟨ld_w371, ld_w372⟩
theorem ld_mw_X1_sumOf : ld_MW true yX1_sumOf cX1_sumOf 4 (some .int) 1 := by
  refine ⟨?_, ld_w14, ld_w335, ⟨by decide, by decide⟩, by decide +kernel⟩
  rw [if_pos rfl]; exact ⟨ld_w333, ld_w334⟩
theorem ld_mw_X2_street : ld_MW true yX2_street cX2_street 8 (some .int) 4 := by
  refine ⟨?_, ld_w2, ld_w72, ⟨by decide, by decide⟩, by decide +kernel⟩
  rw [if_pos rfl]; exact ⟨ld_w70, ld_w71⟩
theorem ld_mw_X2_ofHouse : ld_MW true yX2_ofHouse cX2_ofHouse 3 (some .int) 2 := by
  refine ⟨?_, ld_w2, ld_w167, ⟨by decide, by decide⟩, by decide +kernel⟩
  rw [if_pos rfl]; exact ⟨ld_w165, ld_w166⟩
theorem ld_mw_X2_anger : ld_MW true yX2_anger cX2_anger 4 (some .int) 2 := by
  refine ⟨?_, ld_w2, ld_w217, ⟨by decide, by decide⟩, by decide +kernel⟩
  rw [if_pos rfl]; exact ⟨ld_w215, ld_w216⟩
theorem ld_mw_X2_crate : ld_MW true yX2_crate cX2_crate 3 (some .int) 1 := by
  refine ⟨?_, ld_w2, ld_w228, ⟨by decide, by decide⟩, by decide +kernel⟩
  rw [if_pos rfl]; exact ⟨ld_w226, ld_w227⟩
theorem ld_mw_X2_deal : ld_MW true yX2_deal cX2_deal 3 (some .int) 2 := by
  refine ⟨?_, ld_w2, ld_w247, ⟨by decide, by decide⟩, by decide +kernel⟩
  rw [if_pos rfl]; exact ⟨ld_w245, ld_w246⟩
theorem ld_mw_X2_weeks : ld_MW true yX2_weeks cX2_weeks 2 (some .int) 1 := by
  refine ⟨?_, ld_w2, ld_w255, ⟨by decide, by decide⟩, by decide +kernel⟩
  rw [if_pos rfl]; exact ⟨ld_w253, ld_w254⟩
theorem ld_mw_X2_gift : ld_MW true yX2_gift cX2_gift 2 (some .int) 1 := by
  refine ⟨?_, ld_w2, ld_w291, ⟨by decide, by decide⟩, by decide +kernel⟩
  rw [if_pos rfl]; exact ⟨ld_w289, ld_w290⟩
theorem ld_mw_X2_season : ld_MW true yX2_season cX2_season 10 (some .int) 5 := by
  refine ⟨?_, ld_w2, ld_w306, ⟨by decide, by decide⟩, by decide +kernel⟩
  rw [if_pos rfl]; exact ⟨ld_w304, ld_w305⟩
theorem ld_mw_X2_calm : ld_MW true yX2_calm cX2_calm 4 (some .int) 2 := by
  refine ⟨?_, ld_w2, ld_w370, ⟨by decide, by decide⟩, by decide +kernel⟩
  rw [if_pos rfl]; exact ⟨ld_w368, ld_w369⟩
theorem ld_mw_X2_wonder : ld_MW true yX2_wonder cX2_wonder 4 (some .int) 1 := by
  refine ⟨?_, ld_w2, ld_w386, ⟨by decide, by decide⟩, by decide +kernel⟩
  rw [if_pos rfl]; exact ⟨ld_w384, ld_w385⟩
theorem ld_mw_X2_otherwise : ld_MW true yX2_otherwise cX2_otherwise 2 (some .int) 1 := by
  refine ⟨?_, ld_w2, ld_w398, ⟨by decide, by decide⟩, by decide +kernel⟩
  rw [if_pos rfl]; exact ⟨ld_w396, ld_w397⟩
theorem ld_mw_X2_halves : ld_MW true yX2_halves cX2_halves 6 (some .int) 1 := by
  refine ⟨?_, ld_w2, ld_w421, ⟨by decide, by decide⟩, by decide +kernel⟩
  rw [if_pos rfl]; exact ⟨ld_w419, ld_w420⟩
theorem ld_mw_X2_reading : ld_MW true yX2_reading cX2_reading 3 (some .int) 2 := by
  refine ⟨?_, ld_w2, ld_w443, ⟨by decide, by decide⟩, by decide +kernel⟩
  rw [if_pos rfl]; exact ⟨ld_w441, ld_w442⟩
theorem ld_mw_X2_back : ld_MW true yX2_back cX2_back 2 (some .int) 1 := by
  refine ⟨?_, ld_w2, ld_w451, ⟨by decide, by decide⟩, by decide +kernel⟩
  rw [if_pos rfl]; exact ⟨ld_w449, ld_w450⟩
theorem ld_mw_X2_tempers : ld_MW true yX2_tempers cX2_tempers 4 (some .int) 1 := by
  refine ⟨?_, ld_w2, ld_w459, ⟨by decide, by decide⟩, by decide +kernel⟩
  rw [if_pos rfl]; exact ⟨ld_w457, ld_w458⟩
theorem ld_mw_X2_kinds : ld_MW true yX2_kinds cX2_kinds 4 (some .int) 1 := by
  refine ⟨?_, ld_w2, ld_w475, ⟨by decide, by decide⟩, by decide +kernel⟩
  rw [if_pos rfl]; exact ⟨ld_w473, ld_w474⟩
theorem ld_mw_X2_crates : ld_MW true yX2_crates cX2_crates 6 (some .int) 1 := by
  refine ⟨?_, ld_w2, ld_w483, ⟨by decide, by decide⟩, by decide +kernel⟩
  rw [if_pos rfl]; exact ⟨ld_w481, ld_w482⟩
theorem ld_mw_X2_odds : ld_MW true yX2_odds cX2_odds 6 (some .long) 3 := by
  refine ⟨?_, ld_w2, ld_w491, ⟨by decide, by decide⟩, by decide +kernel⟩
  rw [if_pos rfl]; exact ⟨ld_w489, ld_w490⟩
theorem ld_mw_X2_sheet : ld_MW true yX2_sheet cX2_sheet 4 (some .int) 3 := by
  refine ⟨?_, ld_w2, ld_w508, ⟨by decide, by decide⟩, by decide +kernel⟩
  rw [if_pos rfl]; exact ⟨ld_w506, ld_w507⟩
theorem ld_mw_X2_lose : ld_MW true yX2_lose cX2_lose 3 (some .int) 1 := by
  refine ⟨?_, ld_w2, ld_w519, ⟨by decide, by decide⟩, by decide +kernel⟩
  rw [if_pos rfl]; exact ⟨ld_w517, ld_w518⟩
theorem ld_mw_X2_put : ld_MW true yX2_put cX2_put 5 (some .int) 3 := by
  refine ⟨?_, ld_w2, ld_w527, ⟨by decide, by decide⟩, by decide +kernel⟩
  rw [if_pos rfl]; exact ⟨ld_w525, ld_w526⟩
theorem ld_mw_X2_cell : ld_MW true yX2_cell cX2_cell 6 (some .long) 3 := by
  refine ⟨?_, ld_w2, ld_w545, ⟨by decide, by decide⟩, by decide +kernel⟩
  rw [if_pos rfl]; exact ⟨ld_w543, ld_w544⟩
theorem ld_mw_X2_copy : ld_MW true yX2_copy cX2_copy 8 (some .int) 5 := by
  refine ⟨?_, ld_w2, ld_w557, ⟨by decide, by decide⟩, by decide +kernel⟩
  rw [if_pos rfl]; exact ⟨ld_w555, ld_w556⟩
theorem ld_mw_X2_tell : ld_MW true yX2_tell cX2_tell 2 (some .int) 1 := by
  refine ⟨?_, ld_w2, ld_w569, ⟨by decide, by decide⟩, by decide +kernel⟩
  rw [if_pos rfl]; exact ⟨ld_w567, ld_w568⟩
theorem ld_mw_X2_knock : ld_MW true yX2_knock cX2_knock 3 (some .int) 1 := by
  refine ⟨?_, ld_w2, ld_w598, ⟨by decide, by decide⟩, by decide +kernel⟩
  rw [if_pos rfl]; exact ⟨ld_w596, ld_w597⟩
theorem ld_mw_X2_as : ld_MW true yX2_as cX2_as 3 (some .int) 2 := by
  refine ⟨?_, ld_w2, ld_w606, ⟨by decide, by decide⟩, by decide +kernel⟩
  rw [if_pos rfl]; exact ⟨ld_w604, ld_w605⟩
theorem ld_mw_X2_trace : ld_MW true yX2_trace cX2_trace 1 (some .int) 0 := by
  refine ⟨?_, ld_w2, ld_w614, ⟨by decide, by decide⟩, by decide +kernel⟩
  rw [if_pos rfl]; exact ⟨ld_w612, ld_w613⟩
theorem ld_mw_X2_fault : ld_MW true yX2_fault cX2_fault 1 (some .int) 0 := by
  refine ⟨?_, ld_w2, ld_w622, ⟨by decide, by decide⟩, by decide +kernel⟩
  rw [if_pos rfl]; exact ⟨ld_w620, ld_w621⟩
theorem ld_mw_X2_many : ld_MW true yX2_many cX2_many 2 (some .int) 1 := by
  refine ⟨?_, ld_w2, ld_w630, ⟨by decide, by decide⟩, by decide +kernel⟩
  rw [if_pos rfl]; exact ⟨ld_w628, ld_w629⟩
theorem ld_mw_X2_hasStreet : ld_MW true yX2_hasStreet cX2_hasStreet 1 (some .boolean) 0 := by
  refine ⟨?_, ld_w2, ld_w232, ⟨by decide, by decide⟩, by decide +kernel⟩
  rw [if_pos rfl]; exact ⟨ld_w230, ld_w231⟩
theorem ld_mw_X2_isHouse : ld_MW true yX2_isHouse cX2_isHouse 2 (some .boolean) 1 := by
  refine ⟨?_, ld_w2, ld_w171, ⟨by decide, by decide⟩, by decide +kernel⟩
  rw [if_pos rfl]; exact ⟨ld_w169, ld_w170⟩
theorem ld_mw_X2_isSheet : ld_MW false yX2_isSheet cX2_isSheet 1 (some .boolean) 1 := by
  refine ⟨?_, ld_w2, ld_w75, ⟨by decide, by decide⟩, by decide +kernel⟩
  rw [if_neg (by decide)]; exact ld_w74
theorem ld_mw_X2_isLane : ld_MW false yX2_isLane cX2_isLane 1 (some .boolean) 1 := by
  refine ⟨?_, ld_w2, ld_w78, ⟨by decide, by decide⟩, by decide +kernel⟩
  rw [if_neg (by decide)]; exact ld_w77
theorem ld_mw_X2_isTemper : ld_MW false yX2_isTemper cX2_isTemper 1 (some .boolean) 1 := by
  refine ⟨?_, ld_w2, ld_w220, ⟨by decide, by decide⟩, by decide +kernel⟩
  rw [if_neg (by decide)]; exact ld_w219
theorem ld_mw_X2_isCrate : ld_MW false yX2_isCrate cX2_isCrate 1 (some .boolean) 1 := by
  refine ⟨?_, ld_w2, ld_w235, ⟨by decide, by decide⟩, by decide +kernel⟩
  rw [if_neg (by decide)]; exact ld_w234
theorem ld_mw_X2_isAskedOfSeason : ld_MW false yX2_isAskedOfSeason cX2_isAskedOfSeason 1 (some .boolean) 1 := by
  refine ⟨?_, ld_w2, ld_w309, ⟨by decide, by decide⟩, by decide +kernel⟩
  rw [if_neg (by decide)]; exact ld_w308
theorem ld_mw_X2_fails : ld_MW true yX2_fails cX2_fails 2 (some .int) 1 := by
  refine ⟨?_, ld_w2, ld_w92, ⟨by decide, by decide⟩, by decide +kernel⟩
  rw [if_pos rfl]; exact ⟨ld_w90, ld_w91⟩
theorem ld_mw_X2_firstTextFault : ld_MW false yX2_firstTextFault cX2_firstTextFault 4 (some .int) 3 := by
  refine ⟨?_, ld_w2, ld_w95, ⟨by decide, by decide⟩, by decide +kernel⟩
  rw [if_neg (by decide)]; exact ld_w94
theorem ld_mw_X2_goesOn : ld_MW false yX2_goesOn cX2_goesOn 2 (some .boolean) 2 := by
  refine ⟨?_, ld_w2, ld_w98, ⟨by decide, by decide⟩, by decide +kernel⟩
  rw [if_neg (by decide)]; exact ld_w97
theorem ld_mw_X2_isDigit : ld_MW false yX2_isDigit cX2_isDigit 1 (some .boolean) 1 := by
  refine ⟨?_, ld_w2, ld_w101, ⟨by decide, by decide⟩, by decide +kernel⟩
  rw [if_neg (by decide)]; exact ld_w100
theorem ld_mw_X2_kindByLetter : ld_MW false yX2_kindByLetter cX2_kindByLetter 1 (some .int) 1 := by
  refine ⟨?_, ld_w2, ld_w104, ⟨by decide, by decide⟩, by decide +kernel⟩
  rw [if_neg (by decide)]; exact ld_w103
theorem ld_mw_X2_refusalOfPairs : ld_MW true yX2_refusalOfPairs cX2_refusalOfPairs 6 (some .int) 3 := by
  refine ⟨?_, ld_w2, ld_w313, ⟨by decide, by decide⟩, by decide +kernel⟩
  rw [if_pos rfl]; exact ⟨ld_w311, ld_w312⟩
theorem ld_mw_X2_refusalOfPair : ld_MW true yX2_refusalOfPair cX2_refusalOfPair 3 (some .int) 2 := by
  refine ⟨?_, ld_w2, ld_w317, ⟨by decide, by decide⟩, by decide +kernel⟩
  rw [if_pos rfl]; exact ⟨ld_w315, ld_w316⟩
theorem ld_mw_X2_actPairs : ld_MW true yX2_actPairs cX2_actPairs 5 (some .int) 3 := by
  refine ⟨?_, ld_w2, ld_w324, ⟨by decide, by decide⟩, by decide +kernel⟩
  rw [if_pos rfl]; exact ⟨ld_w322, ld_w323⟩
theorem ld_mw_X2_actPair : ld_MW true yX2_actPair cX2_actPair 3 (some .boolean) 2 := by
  refine ⟨?_, ld_w2, ld_w328, ⟨by decide, by decide⟩, by decide +kernel⟩
  rw [if_pos rfl]; exact ⟨ld_w326, ld_w327⟩
theorem ld_mw_X2_answerOfSeason : ld_MW true yX2_answerOfSeason cX2_answerOfSeason 3 (some .int) 1 := by
  refine ⟨?_, ld_w2, ld_w332, ⟨by decide, by decide⟩, by decide +kernel⟩
  rw [if_pos rfl]; exact ⟨ld_w330, ld_w331⟩
theorem ld_mw_X2_loserByOneMore : ld_MW true yX2_loserByOneMore cX2_loserByOneMore 3 (some .int) 1 := by
  refine ⟨?_, ld_w2, ld_w390, ⟨by decide, by decide⟩, by decide +kernel⟩
  rw [if_pos rfl]; exact ⟨ld_w388, ld_w389⟩
theorem ld_mw_X2_apartBy : ld_MW true yX2_apartBy cX2_apartBy 5 (some .int) 1 := by
  refine ⟨?_, ld_w2, ld_w425, ⟨by decide, by decide⟩, by decide +kernel⟩
  rw [if_pos rfl]; exact ⟨ld_w423, ld_w424⟩
theorem ld_mw_X2_readingsHoldInTrial : ld_MW true yX2_readingsHoldInTrial cX2_readingsHoldInTrial 2 (some .boolean) 0 := by
  refine ⟨?_, ld_w2, ld_w463, ⟨by decide, by decide⟩, by decide +kernel⟩
  rw [if_pos rfl]; exact ⟨ld_w461, ld_w462⟩
theorem ld_mw_X2_tellAsPlain : ld_MW true yX2_tellAsPlain cX2_tellAsPlain 2 (some .int) 1 := by
  refine ⟨?_, ld_w2, ld_w581, ⟨by decide, by decide⟩, by decide +kernel⟩
  rw [if_pos rfl]; exact ⟨ld_w579, ld_w580⟩
theorem ld_mw_X2_tellAsTart : ld_MW true yX2_tellAsTart cX2_tellAsTart 2 (some .int) 1 := by
  refine ⟨?_, ld_w2, ld_w573, ⟨by decide, by decide⟩, by decide +kernel⟩
  rw [if_pos rfl]; exact ⟨ld_w571, ld_w572⟩
theorem ld_mw_X2_tellAsBitter : ld_MW true yX2_tellAsBitter cX2_tellAsBitter 3 (some .int) 1 := by
  refine ⟨?_, ld_w2, ld_w585, ⟨by decide, by decide⟩, by decide +kernel⟩
  rw [if_pos rfl]; exact ⟨ld_w583, ld_w584⟩
theorem ld_mw_X2_leaveInTrace : ld_MW true yX2_leaveInTrace cX2_leaveInTrace 2 none 1 := by
  refine ⟨?_, ld_w2, ld_w577, ⟨by decide, by decide⟩, by decide +kernel⟩
  rw [if_pos rfl]; exact ⟨ld_w575, ld_w576⟩
theorem ld_mw_X3_in : ld_MW false yX3_in cX3_in 6 (some .boolean) 3 := by
  refine ⟨?_, ld_w5, ld_w130, ⟨by decide, by decide⟩, by decide +kernel⟩
  rw [if_neg (by decide)]; exact ld_w129
theorem ld_mw_X3_lost : ld_MW false yX3_lost cX3_lost 0 (some .long) 0 := by
  refine ⟨?_, ld_w5, ld_w500, ⟨by decide, by decide⟩, by decide +kernel⟩
  rw [if_neg (by decide)]; exact ld_w499
theorem ld_mw_X3_isIn : ld_MW false yX3_isIn cX3_isIn 2 (some .boolean) 2 := by
  refine ⟨?_, ld_w5, ld_w439, ⟨by decide, by decide⟩, by decide +kernel⟩
  rw [if_neg (by decide)]; exact ld_w438
theorem ld_mw_X3_share : ld_MW false yX3_share cX3_share 11 (some .long) 3 := by
  refine ⟨?_, ld_w5, ld_w504, ⟨by decide, by decide⟩, by decide +kernel⟩
  rw [if_neg (by decide)]; exact ld_w503
theorem ld_mw_X3_refused : ld_MW true yX3_refused cX3_refused 2 (some .int) 1 := by
  refine ⟨?_, ld_w5, ld_w134, ⟨by decide, by decide⟩, by decide +kernel⟩
  rw [if_pos rfl]; exact ⟨ld_w132, ld_w133⟩
theorem ld_mw_X3_failed : ld_MW true yX3_failed cX3_failed 2 (some .int) 1 := by
  refine ⟨?_, ld_w5, ld_w143, ⟨by decide, by decide⟩, by decide +kernel⟩
  rw [if_pos rfl]; exact ⟨ld_w141, ld_w142⟩
theorem ld_mw_X3_failedLong : ld_MW true yX3_failedLong cX3_failedLong 2 (some .long) 1 := by
  refine ⟨?_, ld_w5, ld_w553, ⟨by decide, by decide⟩, by decide +kernel⟩
  rw [if_pos rfl]; exact ⟨ld_w551, ld_w552⟩
theorem ld_mw_X3_noHouse : ld_MW true yX3_noHouse cX3_noHouse 2 (some .boolean) 1 := by
  refine ⟨?_, ld_w5, ld_w197, ⟨by decide, by decide⟩, by decide +kernel⟩
  rw [if_pos rfl]; exact ⟨ld_w195, ld_w196⟩
theorem ld_mw_X3_isCrate : ld_MW false yX3_isCrate cX3_isCrate 1 (some .boolean) 1 := by
  refine ⟨?_, ld_w5, ld_w242, ⟨by decide, by decide⟩, by decide +kernel⟩
  rw [if_neg (by decide)]; exact ld_w241
theorem ld_mw_X3_codeAt : ld_MW true yX3_codeAt cX3_codeAt 3 (some .int) 2 := by
  refine ⟨?_, ld_w5, ld_w154, ⟨by decide, by decide⟩, by decide +kernel⟩
  rw [if_pos rfl]; exact ⟨ld_w152, ld_w153⟩
theorem ld_mw_X3_figure : ld_MW true yX3_figure cX3_figure 6 (some .int) 3 := by
  refine ⟨?_, ld_w5, ld_w158, ⟨by decide, by decide⟩, by decide +kernel⟩
  rw [if_pos rfl]; exact ⟨ld_w156, ld_w157⟩
theorem ld_mw_X3_readsHouse : ld_MW true yX3_readsHouse cX3_readsHouse 6 (some .boolean) 2 := by
  refine ⟨?_, ld_w5, ld_w163, ⟨by decide, by decide⟩, by decide +kernel⟩
  rw [if_pos rfl]; exact ⟨ld_w161, ld_w162⟩
theorem ld_mw_X3_readsStreet : ld_MW true yX3_readsStreet cX3_readsStreet 6 (some .boolean) 2 := by
  refine ⟨?_, ld_w5, ld_w150, ⟨by decide, by decide⟩, by decide +kernel⟩
  rw [if_pos rfl]; exact ⟨ld_w148, ld_w149⟩
theorem ld_mw_X3_cellsBarred : ld_MW true yX3_cellsBarred cX3_cellsBarred 6 (some .int) 4 := by
  refine ⟨?_, ld_w5, ld_w139, ⟨by decide, by decide⟩, by decide +kernel⟩
  rw [if_pos rfl]; exact ⟨ld_w137, ld_w138⟩
theorem ld_mw_X3_street : ld_MW true yX3_street cX3_street 7 (some .int) 4 := by
  refine ⟨?_, ld_w5, ld_w115, ⟨by decide, by decide⟩, by decide +kernel⟩
  rw [if_pos rfl]; exact ⟨ld_w113, ld_w114⟩
theorem ld_mw_X3_sourOf : ld_MW true yX3_sourOf cX3_sourOf 3 (some .int) 1 := by
  refine ⟨?_, ld_w5, ld_w201, ⟨by decide, by decide⟩, by decide +kernel⟩
  rw [if_pos rfl]; exact ⟨ld_w199, ld_w200⟩
theorem ld_mw_X3_sourOfAll : ld_MW true yX3_sourOfAll cX3_sourOfAll 3 (some .int) 0 := by
  refine ⟨?_, ld_w5, ld_w209, ⟨by decide, by decide⟩, by decide +kernel⟩
  rw [if_pos rfl]; exact ⟨ld_w207, ld_w208⟩
theorem ld_mw_X3_aheadOf : ld_MW true yX3_aheadOf cX3_aheadOf 8 (some .int) 3 := by
  refine ⟨?_, ld_w5, ld_w213, ⟨by decide, by decide⟩, by decide +kernel⟩
  rw [if_pos rfl]; exact ⟨ld_w211, ld_w212⟩
theorem ld_mw_X3_dealtTo : ld_MW true yX3_dealtTo cX3_dealtTo 6 (some .int) 2 := by
  refine ⟨?_, ld_w5, ld_w205, ⟨by decide, by decide⟩, by decide +kernel⟩
  rw [if_pos rfl]; exact ⟨ld_w203, ld_w204⟩
theorem ld_mw_X3_ofHouse : ld_MW true yX3_ofHouse cX3_ofHouse 3 (some .int) 2 := by
  refine ⟨?_, ld_w5, ld_w193, ⟨by decide, by decide⟩, by decide +kernel⟩
  rw [if_pos rfl]; exact ⟨ld_w191, ld_w192⟩
theorem ld_mw_X3_anger : ld_MW true yX3_anger cX3_anger 4 (some .int) 2 := by
  refine ⟨?_, ld_w5, ld_w224, ⟨by decide, by decide⟩, by decide +kernel⟩
  rw [if_pos rfl]; exact ⟨ld_w222, ld_w223⟩
theorem ld_mw_X3_crate : ld_MW true yX3_crate cX3_crate 3 (some .int) 1 := by
  refine ⟨?_, ld_w5, ld_w239, ⟨by decide, by decide⟩, by decide +kernel⟩
  rw [if_pos rfl]; exact ⟨ld_w237, ld_w238⟩
theorem ld_mw_X3_deal : ld_MW true yX3_deal cX3_deal 3 (some .int) 2 := by
  refine ⟨?_, ld_w5, ld_w251, ⟨by decide, by decide⟩, by decide +kernel⟩
  rw [if_pos rfl]; exact ⟨ld_w249, ld_w250⟩
theorem ld_mw_X3_passes : ld_MW true yX3_passes cX3_passes 4 none 0 := by
  refine ⟨?_, ld_w5, ld_w283, ⟨by decide, by decide⟩, by decide +kernel⟩
  rw [if_pos rfl]; exact ⟨ld_w281, ld_w282⟩
theorem ld_mw_X3_without : ld_MW true yX3_without cX3_without 3 (some .int) 0 := by
  refine ⟨?_, ld_w5, ld_w287, ⟨by decide, by decide⟩, by decide +kernel⟩
  rw [if_pos rfl]; exact ⟨ld_w285, ld_w286⟩
theorem ld_mw_X3_weeks : ld_MW true yX3_weeks cX3_weeks 3 (some .int) 1 := by
  refine ⟨?_, ld_w5, ld_w278, ⟨by decide, by decide⟩, by decide +kernel⟩
  rw [if_pos rfl]; exact ⟨ld_w276, ld_w277⟩
theorem ld_mw_X3_gave : ld_MW true yX3_gave cX3_gave 4 (some .boolean) 1 := by
  refine ⟨?_, ld_w5, ld_w302, ⟨by decide, by decide⟩, by decide +kernel⟩
  rw [if_pos rfl]; exact ⟨ld_w300, ld_w301⟩
theorem ld_mw_X3_gift : ld_MW true yX3_gift cX3_gift 2 (some .int) 1 := by
  refine ⟨?_, ld_w5, ld_w298, ⟨by decide, by decide⟩, by decide +kernel⟩
  rw [if_pos rfl]; exact ⟨ld_w296, ld_w297⟩
theorem ld_mw_X3_keepAll : ld_MW true yX3_keepAll cX3_keepAll 2 none 0 := by
  refine ⟨?_, ld_w5, ld_w351, ⟨by decide, by decide⟩, by decide +kernel⟩
  rw [if_pos rfl]; exact ⟨ld_w349, ld_w350⟩
theorem ld_mw_X3_bringBack : ld_MW true yX3_bringBack cX3_bringBack 2 none 0 := by
  refine ⟨?_, ld_w5, ld_w366, ⟨by decide, by decide⟩, by decide +kernel⟩
  rw [if_pos rfl]; exact ⟨ld_w364, ld_w365⟩
theorem ld_mw_X3_pairsBarred : ld_MW true yX3_pairsBarred cX3_pairsBarred 6 (some .int) 2 := by
  refine ⟨?_, ld_w5, ld_w347, ⟨by decide, by decide⟩, by decide +kernel⟩
  rw [if_pos rfl]; exact ⟨ld_w345, ld_w346⟩
theorem ld_mw_X3_did : ld_MW true yX3_did cX3_did 4 (some .boolean) 2 := by
  refine ⟨?_, ld_w5, ld_w362, ⟨by decide, by decide⟩, by decide +kernel⟩
  rw [if_pos rfl]; exact ⟨ld_w360, ld_w361⟩
theorem ld_mw_X3_seasonBy : ld_MW true yX3_seasonBy cX3_seasonBy 9 (some .int) 3 := by
  refine ⟨?_, ld_w5, ld_w357, ⟨by decide, by decide⟩, by decide +kernel⟩
  rw [if_pos rfl]; exact ⟨ld_w355, ld_w356⟩
theorem ld_mw_X3_season : ld_MW true yX3_season cX3_season 8 (some .int) 5 := by
  refine ⟨?_, ld_w5, ld_w339, ⟨by decide, by decide⟩, by decide +kernel⟩
  rw [if_pos rfl]; exact ⟨ld_w337, ld_w338⟩
theorem ld_mw_X3_worstTemper : ld_MW true yX3_worstTemper cX3_worstTemper 3 (some .int) 0 := by
  refine ⟨?_, ld_w5, ld_w382, ⟨by decide, by decide⟩, by decide +kernel⟩
  rw [if_pos rfl]; exact ⟨ld_w380, ld_w381⟩
theorem ld_mw_X3_calm : ld_MW true yX3_calm cX3_calm 6 (some .int) 2 := by
  refine ⟨?_, ld_w5, ld_w377, ⟨by decide, by decide⟩, by decide +kernel⟩
  rw [if_pos rfl]; exact ⟨ld_w375, ld_w376⟩
theorem ld_mw_X3_wonder : ld_MW true yX3_wonder cX3_wonder 6 (some .int) 1 := by
  refine ⟨?_, ld_w5, ld_w394, ⟨by decide, by decide⟩, by decide +kernel⟩
  rw [if_pos rfl]; exact ⟨ld_w392, ld_w393⟩
theorem ld_mw_X3_nextOne : ld_MW true yX3_nextOne cX3_nextOne 4 (some .int) 0 := by
  refine ⟨?_, ld_w5, ld_w417, ⟨by decide, by decide⟩, by decide +kernel⟩
  rw [if_pos rfl]; exact ⟨ld_w415, ld_w416⟩
theorem ld_mw_X3_otherwise : ld_MW true yX3_otherwise cX3_otherwise 4 (some .int) 1 := by
  refine ⟨?_, ld_w5, ld_w413, ⟨by decide, by decide⟩, by decide +kernel⟩
  rw [if_pos rfl]; exact ⟨ld_w411, ld_w412⟩
theorem ld_mw_X3_apart : ld_MW true yX3_apart cX3_apart 4 (some .int) 1 := by
  refine ⟨?_, ld_w5, ld_w436, ⟨by decide, by decide⟩, by decide +kernel⟩
  rw [if_pos rfl]; exact ⟨ld_w434, ld_w435⟩
theorem ld_mw_X3_halves : ld_MW true yX3_halves cX3_halves 4 (some .int) 1 := by
  refine ⟨?_, ld_w5, ld_w432, ⟨by decide, by decide⟩, by decide +kernel⟩
  rw [if_pos rfl]; exact ⟨ld_w430, ld_w431⟩
theorem ld_mw_X3_reading : ld_MW true yX3_reading cX3_reading 3 (some .int) 2 := by
  refine ⟨?_, ld_w5, ld_w447, ⟨by decide, by decide⟩, by decide +kernel⟩
  rw [if_pos rfl]; exact ⟨ld_w445, ld_w446⟩
theorem ld_mw_X3_back : ld_MW true yX3_back cX3_back 2 (some .int) 1 := by
  refine ⟨?_, ld_w5, ld_w455, ⟨by decide, by decide⟩, by decide +kernel⟩
  rw [if_pos rfl]; exact ⟨ld_w453, ld_w454⟩
theorem ld_mw_X3_areSo : ld_MW true yX3_areSo cX3_areSo 3 (some .boolean) 0 := by
  refine ⟨?_, ld_w5, ld_w471, ⟨by decide, by decide⟩, by decide +kernel⟩
  rw [if_pos rfl]; exact ⟨ld_w469, ld_w470⟩
theorem ld_mw_X3_tempers : ld_MW true yX3_tempers cX3_tempers 5 (some .int) 1 := by
  refine ⟨?_, ld_w5, ld_w467, ⟨by decide, by decide⟩, by decide +kernel⟩
  rw [if_pos rfl]; exact ⟨ld_w465, ld_w466⟩
theorem ld_mw_X3_kinds : ld_MW true yX3_kinds cX3_kinds 5 (some .int) 1 := by
  refine ⟨?_, ld_w5, ld_w479, ⟨by decide, by decide⟩, by decide +kernel⟩
  rw [if_pos rfl]; exact ⟨ld_w477, ld_w478⟩
theorem ld_mw_X3_crates : ld_MW true yX3_crates cX3_crates 8 (some .int) 1 := by
  refine ⟨?_, ld_w5, ld_w487, ⟨by decide, by decide⟩, by decide +kernel⟩
  rw [if_pos rfl]; exact ⟨ld_w485, ld_w486⟩
theorem ld_mw_X3_odds : ld_MW true yX3_odds cX3_odds 7 (some .long) 3 := by
  refine ⟨?_, ld_w5, ld_w496, ⟨by decide, by decide⟩, by decide +kernel⟩
  rw [if_pos rfl]; exact ⟨ld_w494, ld_w495⟩
theorem ld_mw_X3_noSheet : ld_MW false yX3_noSheet cX3_noSheet 1 (some .boolean) 1 := by
  refine ⟨?_, ld_w5, ld_w126, ⟨by decide, by decide⟩, by decide +kernel⟩
  rw [if_neg (by decide)]; exact ld_w125
theorem ld_mw_X3_sheet : ld_MW true yX3_sheet cX3_sheet 5 (some .int) 3 := by
  refine ⟨?_, ld_w5, ld_w515, ⟨by decide, by decide⟩, by decide +kernel⟩
  rw [if_pos rfl]; exact ⟨ld_w513, ld_w514⟩
theorem ld_mw_X3_lose : ld_MW true yX3_lose cX3_lose 3 (some .int) 1 := by
  refine ⟨?_, ld_w5, ld_w523, ⟨by decide, by decide⟩, by decide +kernel⟩
  rw [if_pos rfl]; exact ⟨ld_w521, ld_w522⟩
theorem ld_mw_X3_noCell : ld_MW true yX3_noCell cX3_noCell 3 (some .int) 2 := by
  refine ⟨?_, ld_w5, ld_w541, ⟨by decide, by decide⟩, by decide +kernel⟩
  rw [if_pos rfl]; exact ⟨ld_w539, ld_w540⟩
theorem ld_mw_X3_put : ld_MW true yX3_put cX3_put 4 (some .int) 3 := by
  refine ⟨?_, ld_w5, ld_w537, ⟨by decide, by decide⟩, by decide +kernel⟩
  rw [if_pos rfl]; exact ⟨ld_w535, ld_w536⟩
theorem ld_mw_X3_cell : ld_MW true yX3_cell cX3_cell 4 (some .long) 3 := by
  refine ⟨?_, ld_w5, ld_w549, ⟨by decide, by decide⟩, by decide +kernel⟩
  rw [if_pos rfl]; exact ⟨ld_w547, ld_w548⟩
theorem ld_mw_X3_isBeyond : ld_MW false yX3_isBeyond cX3_isBeyond 4 (some .boolean) 3 := by
  refine ⟨?_, ld_w5, ld_w146, ⟨by decide, by decide⟩, by decide +kernel⟩
  rw [if_neg (by decide)]; exact ld_w145
theorem ld_mw_X3_copy : ld_MW true yX3_copy cX3_copy 7 (some .int) 5 := by
  refine ⟨?_, ld_w5, ld_w565, ⟨by decide, by decide⟩, by decide +kernel⟩
  rw [if_pos rfl]; exact ⟨ld_w563, ld_w564⟩
theorem ld_mw_X3_traced : ld_MW true yX3_traced cX3_traced 2 none 1 := by
  refine ⟨?_, ld_w5, ld_w593, ⟨by decide, by decide⟩, by decide +kernel⟩
  rw [if_pos rfl]; exact ⟨ld_w591, ld_w592⟩
theorem ld_mw_X3_tell : ld_MW true yX3_tell cX3_tell 4 (some .int) 1 := by
  refine ⟨?_, ld_w5, ld_w589, ⟨by decide, by decide⟩, by decide +kernel⟩
  rw [if_pos rfl]; exact ⟨ld_w587, ld_w588⟩
theorem ld_mw_X3_knock : ld_MW true yX3_knock cX3_knock 2 (some .int) 1 := by
  refine ⟨?_, ld_w5, ld_w602, ⟨by decide, by decide⟩, by decide +kernel⟩
  rw [if_pos rfl]; exact ⟨ld_w600, ld_w601⟩
theorem ld_mw_X3_as : ld_MW true yX3_as cX3_as 3 (some .int) 2 := by
  refine ⟨?_, ld_w5, ld_w610, ⟨by decide, by decide⟩, by decide +kernel⟩
  rw [if_pos rfl]; exact ⟨ld_w608, ld_w609⟩
theorem ld_mw_X3_trace : ld_MW true yX3_trace cX3_trace 1 (some .int) 0 := by
  refine ⟨?_, ld_w5, ld_w618, ⟨by decide, by decide⟩, by decide +kernel⟩
  rw [if_pos rfl]; exact ⟨ld_w616, ld_w617⟩
theorem ld_mw_X3_fault : ld_MW true yX3_fault cX3_fault 1 (some .int) 0 := by
  refine ⟨?_, ld_w5, ld_w626, ⟨by decide, by decide⟩, by decide +kernel⟩
  rw [if_pos rfl]; exact ⟨ld_w624, ld_w625⟩
theorem ld_mw_X3_many : ld_MW true yX3_many cX3_many 2 (some .int) 1 := by
  refine ⟨?_, ld_w5, ld_w634, ⟨by decide, by decide⟩, by decide +kernel⟩
  rw [if_pos rfl]; exact ⟨ld_w632, ld_w633⟩
