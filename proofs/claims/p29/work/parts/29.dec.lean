noncomputable def ch_wsX12_isMap : List (List Cond) := [([.code yX12_isMap cX12_isMap 2 (some .boolean)] : List Cond), ([.fieldLink RX12 277 "OlderSkinModel" "maps" "I", .methodLink RX12 136 yX12_within, .static yX12_within, .initialized RX12, .code yX12_within cX12_within 6 (some .boolean)] : List Cond), wsX120]
set_option maxRecDepth 20000 in
theorem ch_wsX12_isMap_flat : ch_wsX12_isMap.flatten = wsX12_isMap := by
  simp only [ch_wsX12_isMap, wsX12_isMap, List.flatten_cons, List.flatten_nil, List.append_nil, List.nil_append, List.cons_append, List.append_assoc]
set_option maxRecDepth 20000 in
theorem gd_wsX12_isMap : wsX12_isMap.all goodWord = true := by decide +kernel
noncomputable def ch_wsX12_map : List (List Cond) := [([.code yX12_map cX12_map 3 (some .int)] : List Cond), ([.constantLong RX12 280 (65535), .fieldLink RX12 277 "OlderSkinModel" "maps" "I", .fieldLink RX12 80 "OlderSkinModel" "yearOf" "[I", .fieldLink RX12 83 "OlderSkinModel" "slips" "[I", .methodLink RX12 147 yX12_isYear, .static yX12_isYear, .initialized RX12, .code yX12_isYear cX12_isYear 1 (some .boolean), .constantLong RX12 143 (2000), .methodLink RX12 136 yX12_within, .static yX12_within, .code yX12_within cX12_within 6 (some .boolean)] : List Cond), wsX120]
set_option maxRecDepth 20000 in
theorem ch_wsX12_map_flat : ch_wsX12_map.flatten = wsX12_map := by
  simp only [ch_wsX12_map, wsX12_map, List.flatten_cons, List.flatten_nil, List.append_nil, List.nil_append, List.cons_append, List.append_assoc]
set_option maxRecDepth 20000 in
theorem gd_wsX12_map : wsX12_map.all goodWord = true := by decide +kernel
noncomputable def ch_wsX12_unlike : List (List Cond) := [([.code yX12_unlike cX12_unlike 3 (some .int)] : List Cond), ([.fieldLink RX12 83 "OlderSkinModel" "slips" "[I", .methodLink RX12 282 yX12_bitsOf, .static yX12_bitsOf, .initialized RX12, .code yX12_bitsOf cX12_bitsOf 3 (some .int)] : List Cond), wsX120]
set_option maxRecDepth 20000 in
theorem ch_wsX12_unlike_flat : ch_wsX12_unlike.flatten = wsX12_unlike := by
  simp only [ch_wsX12_unlike, wsX12_unlike, List.flatten_cons, List.flatten_nil, List.append_nil, List.nil_append, List.cons_append, List.append_assoc]
set_option maxRecDepth 20000 in
theorem gd_wsX12_unlike : wsX12_unlike.all goodWord = true := by decide +kernel
noncomputable def ch_wsX12_fatherOf : List (List Cond) := [([.code yX12_fatherOf cX12_fatherOf 5 (some .int)] : List Cond), ([.fieldLink RX12 277 "OlderSkinModel" "maps" "I", .fieldLink RX12 80 "OlderSkinModel" "yearOf" "[I", .methodLink RX12 285 yX12_unlike, .instanceMethod yX12_unlike, .selects RX12 yX12_unlike yX12_unlike, .initialized RX12, .code yX12_unlike cX12_unlike 3 (some .int), .fieldLink RX12 83 "OlderSkinModel" "slips" "[I", .methodLink RX12 282 yX12_bitsOf, .static yX12_bitsOf, .code yX12_bitsOf cX12_bitsOf 3 (some .int)] : List Cond), wsX120]
set_option maxRecDepth 20000 in
theorem ch_wsX12_fatherOf_flat : ch_wsX12_fatherOf.flatten = wsX12_fatherOf := by
  simp only [ch_wsX12_fatherOf, wsX12_fatherOf, List.flatten_cons, List.flatten_nil, List.append_nil, List.nil_append, List.cons_append, List.append_assoc]
set_option maxRecDepth 20000 in
theorem gd_wsX12_fatherOf : wsX12_fatherOf.all goodWord = true := by decide +kernel
noncomputable def ch_wsX12_father : List (List Cond) := [([.code yX12_father cX12_father 4 (some .int)] : List Cond), ([.methodLink RX12 288 yX12_isMap, .instanceMethod yX12_isMap, .selects RX12 yX12_isMap yX12_isMap, .initialized RX12, .code yX12_isMap cX12_isMap 2 (some .boolean), .fieldLink RX12 277 "OlderSkinModel" "maps" "I", .methodLink RX12 136 yX12_within, .static yX12_within, .code yX12_within cX12_within 6 (some .boolean), .methodLink RX12 291 yX12_fatherOf, .instanceMethod yX12_fatherOf, .selects RX12 yX12_fatherOf yX12_fatherOf, .code yX12_fatherOf cX12_fatherOf 5 (some .int), .fieldLink RX12 80 "OlderSkinModel" "yearOf" "[I", .methodLink RX12 285 yX12_unlike, .instanceMethod yX12_unlike, .selects RX12 yX12_unlike yX12_unlike, .code yX12_unlike cX12_unlike 3 (some .int), .fieldLink RX12 83 "OlderSkinModel" "slips" "[I", .methodLink RX12 282 yX12_bitsOf, .static yX12_bitsOf, .code yX12_bitsOf cX12_bitsOf 3 (some .int)] : List Cond), wsX120]
set_option maxRecDepth 20000 in
theorem ch_wsX12_father_flat : ch_wsX12_father.flatten = wsX12_father := by
  simp only [ch_wsX12_father, wsX12_father, List.flatten_cons, List.flatten_nil, List.append_nil, List.nil_append, List.cons_append, List.append_assoc]
set_option maxRecDepth 20000 in
theorem gd_wsX12_father : wsX12_father.all goodWord = true := by decide +kernel
noncomputable def ch_wsX12_hangs : List (List Cond) := [([.code yX12_hangs cX12_hangs 3 (some .int)] : List Cond), ([.methodLink RX12 288 yX12_isMap, .instanceMethod yX12_isMap, .selects RX12 yX12_isMap yX12_isMap, .initialized RX12, .code yX12_isMap cX12_isMap 2 (some .boolean), .fieldLink RX12 277 "OlderSkinModel" "maps" "I", .methodLink RX12 136 yX12_within, .static yX12_within, .code yX12_within cX12_within 6 (some .boolean), .methodLink RX12 291 yX12_fatherOf, .instanceMethod yX12_fatherOf, .selects RX12 yX12_fatherOf yX12_fatherOf, .code yX12_fatherOf cX12_fatherOf 5 (some .int), .fieldLink RX12 80 "OlderSkinModel" "yearOf" "[I", .methodLink RX12 285 yX12_unlike, .instanceMethod yX12_unlike, .selects RX12 yX12_unlike yX12_unlike, .code yX12_unlike cX12_unlike 3 (some .int), .fieldLink RX12 83 "OlderSkinModel" "slips" "[I", .methodLink RX12 282 yX12_bitsOf, .static yX12_bitsOf, .code yX12_bitsOf cX12_bitsOf 3 (some .int)] : List Cond), wsX120]
set_option maxRecDepth 20000 in
theorem ch_wsX12_hangs_flat : ch_wsX12_hangs.flatten = wsX12_hangs := by
  simp only [ch_wsX12_hangs, wsX12_hangs, List.flatten_cons, List.flatten_nil, List.append_nil, List.nil_append, List.cons_append, List.append_assoc]
set_option maxRecDepth 20000 in
theorem gd_wsX12_hangs : wsX12_hangs.all goodWord = true := by decide +kernel
noncomputable def ch_wsX12_shared : List (List Cond) := [([.code yX12_shared cX12_shared 4 (some .int)] : List Cond), ([.fieldLink RX12 277 "OlderSkinModel" "maps" "I", .fieldLink RX12 83 "OlderSkinModel" "slips" "[I", .methodLink RX12 291 yX12_fatherOf, .instanceMethod yX12_fatherOf, .selects RX12 yX12_fatherOf yX12_fatherOf, .initialized RX12, .code yX12_fatherOf cX12_fatherOf 5 (some .int), .fieldLink RX12 80 "OlderSkinModel" "yearOf" "[I", .methodLink RX12 285 yX12_unlike, .instanceMethod yX12_unlike, .selects RX12 yX12_unlike yX12_unlike, .code yX12_unlike cX12_unlike 3 (some .int), .methodLink RX12 282 yX12_bitsOf, .static yX12_bitsOf, .code yX12_bitsOf cX12_bitsOf 3 (some .int), .methodLink RX12 288 yX12_isMap, .instanceMethod yX12_isMap, .selects RX12 yX12_isMap yX12_isMap, .code yX12_isMap cX12_isMap 2 (some .boolean), .methodLink RX12 136 yX12_within, .static yX12_within, .code yX12_within cX12_within 6 (some .boolean)] : List Cond), wsX120]
set_option maxRecDepth 20000 in
theorem ch_wsX12_shared_flat : ch_wsX12_shared.flatten = wsX12_shared := by
  simp only [ch_wsX12_shared, wsX12_shared, List.flatten_cons, List.flatten_nil, List.append_nil, List.nil_append, List.cons_append, List.append_assoc]
set_option maxRecDepth 20000 in
theorem gd_wsX12_shared : wsX12_shared.all goodWord = true := by decide +kernel
noncomputable def ch_wsX12_feed : List (List Cond) := [([.code yX12_feed cX12_feed 4 (some .int)] : List Cond), ([.constantLong RX12 221 (4), .fieldLink RX12 294 "OlderSkinModel" "tapeMany" "I", .fieldLink RX12 86 "OlderSkinModel" "tape" "[I", .methodLink RX12 136 yX12_within, .static yX12_within, .initialized RX12, .code yX12_within cX12_within 6 (some .boolean)] : List Cond), wsX120]
set_option maxRecDepth 20000 in
theorem ch_wsX12_feed_flat : ch_wsX12_feed.flatten = wsX12_feed := by
  simp only [ch_wsX12_feed, wsX12_feed, List.flatten_cons, List.flatten_nil, List.append_nil, List.nil_append, List.cons_append, List.append_assoc]
set_option maxRecDepth 20000 in
theorem gd_wsX12_feed : wsX12_feed.all goodWord = true := by decide +kernel
noncomputable def ch_wsX12_takes : List (List Cond) := [([.code yX12_takes cX12_takes 2 (some .boolean)] : List Cond), ([.fieldLink RX12 306 "OlderSkinModel" "fault" "I", .fieldLink RX12 297 "OlderSkinModel" "at" "I", .methodLink RX12 309 yX12_byteAt, .instanceMethod yX12_byteAt, .selects RX12 yX12_byteAt yX12_byteAt, .initialized RX12, .code yX12_byteAt cX12_byteAt 1 (some .int), .fieldLink RX12 300 "OlderSkinModel" "ends" "I", .fieldLink RX12 303 "OlderSkinModel" "base" "I", .fieldLink RX12 86 "OlderSkinModel" "tape" "[I", .fieldLink RX12 92 "OlderSkinModel" "text" "[I"] : List Cond), wsX120]
set_option maxRecDepth 20000 in
theorem ch_wsX12_takes_flat : ch_wsX12_takes.flatten = wsX12_takes := by
  simp only [ch_wsX12_takes, wsX12_takes, List.flatten_cons, List.flatten_nil, List.append_nil, List.nil_append, List.cons_append, List.append_assoc]
set_option maxRecDepth 20000 in
theorem gd_wsX12_takes : wsX12_takes.all goodWord = true := by decide +kernel
noncomputable def ch_wsX12_either : List (List Cond) := [([.code yX12_either cX12_either 3 (some .int)] : List Cond), wsX12_either_r1, wsX12_either_r2, wsX120]
set_option maxRecDepth 20000 in
theorem ch_wsX12_either_flat : ch_wsX12_either.flatten = wsX12_either := by
  simp only [ch_wsX12_either, wsX12_either, List.flatten_cons, List.flatten_nil, List.append_nil, List.nil_append, List.cons_append, List.append_assoc]
set_option maxRecDepth 20000 in
theorem gd_wsX12_either : wsX12_either.all goodWord = true := by decide +kernel
noncomputable def ch_wsX12_both : List (List Cond) := [([.code yX12_both cX12_both 3 (some .int)] : List Cond), wsX12_both_r1, wsX12_both_r2, wsX120]
set_option maxRecDepth 20000 in
theorem ch_wsX12_both_flat : ch_wsX12_both.flatten = wsX12_both := by
  simp only [ch_wsX12_both, wsX12_both, List.flatten_cons, List.flatten_nil, List.append_nil, List.nil_append, List.cons_append, List.append_assoc]
set_option maxRecDepth 20000 in
theorem gd_wsX12_both : wsX12_both.all goodWord = true := by decide +kernel
noncomputable def ch_wsX12_compared : List (List Cond) := [([.code yX12_compared cX12_compared 4 (some .int)] : List Cond), wsX12_compared_r1, wsX12_compared_r2, wsX120]
set_option maxRecDepth 20000 in
theorem ch_wsX12_compared_flat : ch_wsX12_compared.flatten = wsX12_compared := by
  simp only [ch_wsX12_compared, wsX12_compared, List.flatten_cons, List.flatten_nil, List.append_nil, List.nil_append, List.cons_append, List.append_assoc]
set_option maxRecDepth 20000 in
theorem gd_wsX12_compared : wsX12_compared.all goodWord = true := by decide +kernel
noncomputable def ch_wsX12_sums : List (List Cond) := [([.code yX12_sums cX12_sums 4 (some .int)] : List Cond), wsX12_sums_r1, wsX12_sums_r2, wsX120]
set_option maxRecDepth 20000 in
theorem ch_wsX12_sums_flat : ch_wsX12_sums.flatten = wsX12_sums := by
  simp only [ch_wsX12_sums, wsX12_sums, List.flatten_cons, List.flatten_nil, List.append_nil, List.nil_append, List.cons_append, List.append_assoc]
set_option maxRecDepth 20000 in
theorem gd_wsX12_sums : wsX12_sums.all goodWord = true := by decide +kernel
noncomputable def ch_wsX12_product : List (List Cond) := [([.code yX12_product cX12_product 4 (some .int)] : List Cond), wsX12_product_r1, wsX12_product_r2, wsX120]
set_option maxRecDepth 20000 in
theorem ch_wsX12_product_flat : ch_wsX12_product.flatten = wsX12_product := by
  simp only [ch_wsX12_product, wsX12_product, List.flatten_cons, List.flatten_nil, List.append_nil, List.nil_append, List.cons_append, List.append_assoc]
set_option maxRecDepth 20000 in
theorem gd_wsX12_product : wsX12_product.all goodWord = true := by decide +kernel
noncomputable def ch_wsX12_one : List (List Cond) := [([.code yX12_one cX12_one 5 (some .int)] : List Cond), wsX12_one_r1, wsX12_one_r2, wsX120]
set_option maxRecDepth 20000 in
theorem ch_wsX12_one_flat : ch_wsX12_one.flatten = wsX12_one := by
  simp only [ch_wsX12_one, wsX12_one, List.flatten_cons, List.flatten_nil, List.append_nil, List.nil_append, List.cons_append, List.append_assoc]
set_option maxRecDepth 20000 in
theorem gd_wsX12_one : wsX12_one.all goodWord = true := by decide +kernel
noncomputable def ch_wsX12_workOut : List (List Cond) := [([.code yX12_workOut cX12_workOut 8 (some .int)] : List Cond), wsX12_workOut_r1, wsX12_workOut_r2, wsX120]
set_option maxRecDepth 20000 in
theorem ch_wsX12_workOut_flat : ch_wsX12_workOut.flatten = wsX12_workOut := by
  simp only [ch_wsX12_workOut, wsX12_workOut, List.flatten_cons, List.flatten_nil, List.append_nil, List.nil_append, List.cons_append, List.append_assoc]
set_option maxRecDepth 20000 in
theorem gd_wsX12_workOut : wsX12_workOut.all goodWord = true := by decide +kernel
noncomputable def ch_wsX12_story : List (List Cond) := [([.code yX12_story cX12_story 6 (some .int)] : List Cond), wsX12_story_r1, wsX12_story_r2, wsX12_story_r3, wsX120]
set_option maxRecDepth 20000 in
theorem ch_wsX12_story_flat : ch_wsX12_story.flatten = wsX12_story := by
  simp only [ch_wsX12_story, wsX12_story, List.flatten_cons, List.flatten_nil, List.append_nil, List.nil_append, List.cons_append, List.append_assoc]
set_option maxRecDepth 20000 in
theorem gd_wsX12_story : wsX12_story.all goodWord = true := by decide +kernel
noncomputable def ch_wsX12_isStory : List (List Cond) := [([.code yX12_isStory cX12_isStory 2 (some .boolean)] : List Cond), ([.fieldLink RX12 342 "OlderSkinModel" "stories" "I", .methodLink RX12 136 yX12_within, .static yX12_within, .initialized RX12, .code yX12_within cX12_within 6 (some .boolean)] : List Cond), wsX120]
set_option maxRecDepth 20000 in
theorem ch_wsX12_isStory_flat : ch_wsX12_isStory.flatten = wsX12_isStory := by
  simp only [ch_wsX12_isStory, wsX12_isStory, List.flatten_cons, List.flatten_nil, List.append_nil, List.nil_append, List.cons_append, List.append_assoc]
set_option maxRecDepth 20000 in
theorem gd_wsX12_isStory : wsX12_isStory.all goodWord = true := by decide +kernel
noncomputable def ch_wsX12_prior : List (List Cond) := [([.code yX12_prior cX12_prior 3 (some .int)] : List Cond), ([.constantLong RX12 145 (99), .methodLink RX12 348 yX12_isStory, .instanceMethod yX12_isStory, .selects RX12 yX12_isStory yX12_isStory, .initialized RX12, .code yX12_isStory cX12_isStory 2 (some .boolean), .fieldLink RX12 342 "OlderSkinModel" "stories" "I", .methodLink RX12 136 yX12_within, .static yX12_within, .code yX12_within cX12_within 6 (some .boolean), .methodLink RX12 154 yX12_becomes, .instanceMethod yX12_becomes, .selects RX12 yX12_becomes yX12_becomes, .code yX12_becomes cX12_becomes 5 (some .int), .fieldLink RX12 9 "OlderSkinModel" "may" "[I", .fieldLink RX12 127 "OlderSkinModel" "done" "I", .fieldLink RX12 13 "OlderSkinModel" "changeAt" "[I", .fieldLink RX12 16 "OlderSkinModel" "changeWas" "[I", .fieldLink RX12 19 "OlderSkinModel" "changeIs" "[I", .fieldLink RX12 130 "OlderSkinModel" "keptMany" "I"] : List Cond), wsX120]
set_option maxRecDepth 20000 in
theorem ch_wsX12_prior_flat : ch_wsX12_prior.flatten = wsX12_prior := by
  simp only [ch_wsX12_prior, wsX12_prior, List.flatten_cons, List.flatten_nil, List.append_nil, List.nil_append, List.cons_append, List.append_assoc]
set_option maxRecDepth 20000 in
theorem gd_wsX12_prior : wsX12_prior.all goodWord = true := by decide +kernel
noncomputable def ch_wsX12_weightOf : List (List Cond) := [([.code yX12_weightOf cX12_weightOf 5 (some .int)] : List Cond), wsX12_weightOf_r1, wsX12_weightOf_r2, wsX12_weightOf_r3, wsX12_weightOf_r4, wsX12_weightOf_r5, wsX120]
set_option maxRecDepth 20000 in
theorem ch_wsX12_weightOf_flat : ch_wsX12_weightOf.flatten = wsX12_weightOf := by
  simp only [ch_wsX12_weightOf, wsX12_weightOf, List.flatten_cons, List.flatten_nil, List.append_nil, List.nil_append, List.cons_append, List.append_assoc]
set_option maxRecDepth 20000 in
theorem gd_wsX12_weightOf : wsX12_weightOf.all goodWord = true := by decide +kernel
noncomputable def ch_wsX12_worth : List (List Cond) := [([.code yX12_worth cX12_worth 2 (some .long)] : List Cond), wsX12_worth_r1, wsX12_worth_r2, wsX12_worth_r3, wsX12_worth_r4, wsX12_worth_r5, wsX120]
set_option maxRecDepth 20000 in
theorem ch_wsX12_worth_flat : ch_wsX12_worth.flatten = wsX12_worth := by
  simp only [ch_wsX12_worth, wsX12_worth, List.flatten_cons, List.flatten_nil, List.append_nil, List.nil_append, List.cons_append, List.append_assoc]
set_option maxRecDepth 20000 in
theorem gd_wsX12_worth : wsX12_worth.all goodWord = true := by decide +kernel
noncomputable def ch_wsX12_allWorth : List (List Cond) := [([.code yX12_allWorth cX12_allWorth 4 (some .long)] : List Cond), wsX12_allWorth_r1, wsX12_allWorth_r2, wsX12_allWorth_r3, wsX12_allWorth_r4, wsX12_allWorth_r5, wsX120]
set_option maxRecDepth 20000 in
theorem ch_wsX12_allWorth_flat : ch_wsX12_allWorth.flatten = wsX12_allWorth := by
  simp only [ch_wsX12_allWorth, wsX12_allWorth, List.flatten_cons, List.flatten_nil, List.append_nil, List.nil_append, List.cons_append, List.append_assoc]
set_option maxRecDepth 20000 in
theorem gd_wsX12_allWorth : wsX12_allWorth.all goodWord = true := by decide +kernel
noncomputable def ch_wsX12_oddsOf : List (List Cond) := [([.code yX12_oddsOf cX12_oddsOf 4 (some .int)] : List Cond), wsX12_oddsOf_r1, wsX12_oddsOf_r2, wsX12_oddsOf_r3, wsX12_oddsOf_r4, wsX12_oddsOf_r5, wsX12_oddsOf_r6, wsX120]
set_option maxRecDepth 20000 in
theorem ch_wsX12_oddsOf_flat : ch_wsX12_oddsOf.flatten = wsX12_oddsOf := by
  simp only [ch_wsX12_oddsOf, wsX12_oddsOf, List.flatten_cons, List.flatten_nil, List.append_nil, List.nil_append, List.cons_append, List.append_assoc]
set_option maxRecDepth 20000 in
theorem gd_wsX12_oddsOf : wsX12_oddsOf.all goodWord = true := by decide +kernel
noncomputable def ch_wsX12_odds : List (List Cond) := [([.code yX12_odds cX12_odds 3 (some .int)] : List Cond), wsX12_odds_r1, wsX12_odds_r2, wsX12_odds_r3, wsX12_odds_r4, wsX12_odds_r5, wsX12_odds_r6, wsX120]
set_option maxRecDepth 20000 in
theorem ch_wsX12_odds_flat : ch_wsX12_odds.flatten = wsX12_odds := by
  simp only [ch_wsX12_odds, wsX12_odds, List.flatten_cons, List.flatten_nil, List.append_nil, List.nil_append, List.cons_append, List.append_assoc]
set_option maxRecDepth 20000 in
theorem gd_wsX12_odds : wsX12_odds.all goodWord = true := by decide +kernel
noncomputable def ch_wsX12_bestStory : List (List Cond) := [([.code yX12_bestStory cX12_bestStory 3 (some .int)] : List Cond), wsX12_bestStory_r1, wsX12_bestStory_r2, wsX12_bestStory_r3, wsX12_bestStory_r4, wsX12_bestStory_r5, wsX120]
set_option maxRecDepth 20000 in
theorem ch_wsX12_bestStory_flat : ch_wsX12_bestStory.flatten = wsX12_bestStory := by
  simp only [ch_wsX12_bestStory, wsX12_bestStory, List.flatten_cons, List.flatten_nil, List.append_nil, List.nil_append, List.cons_append, List.append_assoc]
set_option maxRecDepth 20000 in
theorem gd_wsX12_bestStory : wsX12_bestStory.all goodWord = true := by decide +kernel
noncomputable def ch_wsX12_best : List (List Cond) := [([.code yX12_best cX12_best 1 (some .int)] : List Cond), wsX12_best_r1, wsX12_best_r2, wsX12_best_r3, wsX12_best_r4, wsX12_best_r5, wsX12_best_r6, wsX120]
set_option maxRecDepth 20000 in
theorem ch_wsX12_best_flat : ch_wsX12_best.flatten = wsX12_best := by
  simp only [ch_wsX12_best, wsX12_best, List.flatten_cons, List.flatten_nil, List.append_nil, List.nil_append, List.cons_append, List.append_assoc]
set_option maxRecDepth 20000 in
theorem gd_wsX12_best : wsX12_best.all goodWord = true := by decide +kernel
noncomputable def ch_wsX12_oddsWith : List (List Cond) := [([.code yX12_oddsWith cX12_oddsWith 5 (some .int)] : List Cond), wsX12_oddsWith_r1, wsX12_oddsWith_r2, wsX12_oddsWith_r3, wsX12_oddsWith_r4, wsX12_oddsWith_r5, wsX12_oddsWith_r6, wsX120]
set_option maxRecDepth 20000 in
theorem ch_wsX12_oddsWith_flat : ch_wsX12_oddsWith.flatten = wsX12_oddsWith := by
  simp only [ch_wsX12_oddsWith, wsX12_oddsWith, List.flatten_cons, List.flatten_nil, List.append_nil, List.nil_append, List.cons_append, List.append_assoc]
set_option maxRecDepth 20000 in
theorem gd_wsX12_oddsWith : wsX12_oddsWith.all goodWord = true := by decide +kernel
noncomputable def ch_wsX12_next : List (List Cond) := [([.code yX12_next cX12_next 11 (some .int)] : List Cond), wsX12_next_r1, wsX12_next_r2, wsX12_next_r3, wsX12_next_r4, wsX12_next_r5, wsX12_next_r6, wsX120]
set_option maxRecDepth 20000 in
theorem ch_wsX12_next_flat : ch_wsX12_next.flatten = wsX12_next := by
  simp only [ch_wsX12_next, wsX12_next, List.flatten_cons, List.flatten_nil, List.append_nil, List.nil_append, List.cons_append, List.append_assoc]
set_option maxRecDepth 20000 in
theorem gd_wsX12_next : wsX12_next.all goodWord = true := by decide +kernel
noncomputable def ch_wsX12_isBody : List (List Cond) := [([.code yX12_isBody cX12_isBody 2 (some .boolean)] : List Cond), ([.fieldLink RX12 379 "OlderSkinModel" "bodies" "I", .methodLink RX12 136 yX12_within, .static yX12_within, .initialized RX12, .code yX12_within cX12_within 6 (some .boolean)] : List Cond), wsX120]
set_option maxRecDepth 20000 in
theorem ch_wsX12_isBody_flat : ch_wsX12_isBody.flatten = wsX12_isBody := by
  simp only [ch_wsX12_isBody, wsX12_isBody, List.flatten_cons, List.flatten_nil, List.append_nil, List.nil_append, List.cons_append, List.append_assoc]
set_option maxRecDepth 20000 in
theorem gd_wsX12_isBody : wsX12_isBody.all goodWord = true := by decide +kernel
noncomputable def ch_wsX12_body : List (List Cond) := [([.code yX12_body cX12_body 2 (some .int)] : List Cond), ([.constantLong RX12 223 (7), .fieldLink RX12 379 "OlderSkinModel" "bodies" "I", .fieldLink RX12 101 "OlderSkinModel" "bodyKind" "[I", .methodLink RX12 136 yX12_within, .static yX12_within, .initialized RX12, .code yX12_within cX12_within 6 (some .boolean)] : List Cond), wsX120]
set_option maxRecDepth 20000 in
theorem ch_wsX12_body_flat : ch_wsX12_body.flatten = wsX12_body := by
  simp only [ch_wsX12_body, wsX12_body, List.flatten_cons, List.flatten_nil, List.append_nil, List.nil_append, List.cons_append, List.append_assoc]
set_option maxRecDepth 20000 in
theorem gd_wsX12_body : wsX12_body.all goodWord = true := by decide +kernel
noncomputable def ch_wsX12_liesAs : List (List Cond) := [([.code yX12_liesAs cX12_liesAs 3 (some .int)] : List Cond), ([.fieldLink RX12 392 "OlderSkinModel" "ownNumber" "I", .methodLink RX12 385 yX12_begins, .instanceMethod yX12_begins, .selects RX12 yX12_begins yX12_begins, .initialized RX12, .code yX12_begins cX12_begins 2 none, .fieldLink RX12 382 "OlderSkinModel" "ran" "I", .fieldLink RX12 104 "OlderSkinModel" "trace" "[I", .methodLink RX12 389 yX12_liesAs, .instanceMethod yX12_liesAs, .selects RX12 yX12_liesAs yX12_liesAs] : List Cond), wsX120]
set_option maxRecDepth 20000 in
theorem ch_wsX12_liesAs_flat : ch_wsX12_liesAs.flatten = wsX12_liesAs := by
  simp only [ch_wsX12_liesAs, wsX12_liesAs, List.flatten_cons, List.flatten_nil, List.append_nil, List.nil_append, List.cons_append, List.append_assoc]
set_option maxRecDepth 20000 in
theorem gd_wsX12_liesAs : wsX12_liesAs.all goodWord = true := by decide +kernel
noncomputable def ch_wsX12_needsAs : List (List Cond) := [([.code yX12_needsAs cX12_needsAs 4 (some .int)] : List Cond), ([.fieldLink RX12 398 "OlderSkinModel" "ownKind" "I", .methodLink RX12 385 yX12_begins, .instanceMethod yX12_begins, .selects RX12 yX12_begins yX12_begins, .initialized RX12, .code yX12_begins cX12_begins 2 none, .fieldLink RX12 382 "OlderSkinModel" "ran" "I", .fieldLink RX12 104 "OlderSkinModel" "trace" "[I", .methodLink RX12 395 yX12_needsAs, .instanceMethod yX12_needsAs, .selects RX12 yX12_needsAs yX12_needsAs, .methodLink RX12 401 yX12_showsAs, .instanceMethod yX12_showsAs, .selects RX12 yX12_showsAs yX12_showsAs, .code yX12_showsAs cX12_showsAs 4 (some .int), .fieldLink RX12 392 "OlderSkinModel" "ownNumber" "I", .methodLink RX12 389 yX12_liesAs, .instanceMethod yX12_liesAs, .selects RX12 yX12_liesAs yX12_liesAs, .code yX12_liesAs cX12_liesAs 3 (some .int)] : List Cond), wsX120]
set_option maxRecDepth 20000 in
theorem ch_wsX12_needsAs_flat : ch_wsX12_needsAs.flatten = wsX12_needsAs := by
  simp only [ch_wsX12_needsAs, wsX12_needsAs, List.flatten_cons, List.flatten_nil, List.append_nil, List.nil_append, List.cons_append, List.append_assoc]
set_option maxRecDepth 20000 in
theorem gd_wsX12_needsAs : wsX12_needsAs.all goodWord = true := by decide +kernel
noncomputable def ch_wsX12_showsAs : List (List Cond) := [([.code yX12_showsAs cX12_showsAs 4 (some .int)] : List Cond), ([.fieldLink RX12 398 "OlderSkinModel" "ownKind" "I", .fieldLink RX12 392 "OlderSkinModel" "ownNumber" "I", .methodLink RX12 385 yX12_begins, .instanceMethod yX12_begins, .selects RX12 yX12_begins yX12_begins, .initialized RX12, .code yX12_begins cX12_begins 2 none, .fieldLink RX12 382 "OlderSkinModel" "ran" "I", .fieldLink RX12 104 "OlderSkinModel" "trace" "[I", .methodLink RX12 401 yX12_showsAs, .instanceMethod yX12_showsAs, .selects RX12 yX12_showsAs yX12_showsAs, .methodLink RX12 389 yX12_liesAs, .instanceMethod yX12_liesAs, .selects RX12 yX12_liesAs yX12_liesAs, .code yX12_liesAs cX12_liesAs 3 (some .int)] : List Cond), wsX120]
set_option maxRecDepth 20000 in
theorem ch_wsX12_showsAs_flat : ch_wsX12_showsAs.flatten = wsX12_showsAs := by
  simp only [ch_wsX12_showsAs, wsX12_showsAs, List.flatten_cons, List.flatten_nil, List.append_nil, List.nil_append, List.cons_append, List.append_assoc]
set_option maxRecDepth 20000 in
theorem gd_wsX12_showsAs : wsX12_showsAs.all goodWord = true := by decide +kernel
noncomputable def ch_wsX12_tellsAs : List (List Cond) := [([.code yX12_tellsAs cX12_tellsAs 4 (some .int)] : List Cond), ([.fieldLink RX12 398 "OlderSkinModel" "ownKind" "I", .methodLink RX12 385 yX12_begins, .instanceMethod yX12_begins, .selects RX12 yX12_begins yX12_begins, .initialized RX12, .code yX12_begins cX12_begins 2 none, .fieldLink RX12 382 "OlderSkinModel" "ran" "I", .fieldLink RX12 104 "OlderSkinModel" "trace" "[I", .methodLink RX12 404 yX12_tellsAs, .instanceMethod yX12_tellsAs, .selects RX12 yX12_tellsAs yX12_tellsAs, .methodLink RX12 395 yX12_needsAs, .instanceMethod yX12_needsAs, .selects RX12 yX12_needsAs yX12_needsAs, .code yX12_needsAs cX12_needsAs 4 (some .int), .methodLink RX12 401 yX12_showsAs, .instanceMethod yX12_showsAs, .selects RX12 yX12_showsAs yX12_showsAs, .code yX12_showsAs cX12_showsAs 4 (some .int), .fieldLink RX12 392 "OlderSkinModel" "ownNumber" "I", .methodLink RX12 389 yX12_liesAs, .instanceMethod yX12_liesAs, .selects RX12 yX12_liesAs yX12_liesAs, .code yX12_liesAs cX12_liesAs 3 (some .int)] : List Cond), wsX120]
set_option maxRecDepth 20000 in
theorem ch_wsX12_tellsAs_flat : ch_wsX12_tellsAs.flatten = wsX12_tellsAs := by
  simp only [ch_wsX12_tellsAs, wsX12_tellsAs, List.flatten_cons, List.flatten_nil, List.append_nil, List.nil_append, List.cons_append, List.append_assoc]
set_option maxRecDepth 20000 in
theorem gd_wsX12_tellsAs : wsX12_tellsAs.all goodWord = true := by decide +kernel
noncomputable def ch_wsX12_act : List (List Cond) := [([.code yX12_act cX12_act 4 (some .int)] : List Cond), wsX12_act_r1, wsX12_act_r2, wsX120]
set_option maxRecDepth 20000 in
theorem ch_wsX12_act_flat : ch_wsX12_act.flatten = wsX12_act := by
  simp only [ch_wsX12_act, wsX12_act, List.flatten_cons, List.flatten_nil, List.append_nil, List.nil_append, List.cons_append, List.append_assoc]
set_option maxRecDepth 20000 in
theorem gd_wsX12_act : wsX12_act.all goodWord = true := by decide +kernel
noncomputable def ch_wsX12_keep : List (List Cond) := [([.code yX12_keep cX12_keep 3 (some .int)] : List Cond), ([.fieldLink RX12 107 "OlderSkinModel" "shelf" "[I", .fieldLink RX12 110 "OlderSkinModel" "many" "[I", .methodLink RX12 238 yX12_isShelf, .static yX12_isShelf, .initialized RX12, .code yX12_isShelf cX12_isShelf 1 (some .boolean), .constantLong RX12 195 (5), .methodLink RX12 136 yX12_within, .static yX12_within, .code yX12_within cX12_within 6 (some .boolean), .methodLink RX12 407 yX12_isBody, .instanceMethod yX12_isBody, .selects RX12 yX12_isBody yX12_isBody, .code yX12_isBody cX12_isBody 2 (some .boolean), .fieldLink RX12 379 "OlderSkinModel" "bodies" "I"] : List Cond), wsX120]
set_option maxRecDepth 20000 in
theorem ch_wsX12_keep_flat : ch_wsX12_keep.flatten = wsX12_keep := by
  simp only [ch_wsX12_keep, wsX12_keep, List.flatten_cons, List.flatten_nil, List.append_nil, List.nil_append, List.cons_append, List.append_assoc]
set_option maxRecDepth 20000 in
theorem gd_wsX12_keep : wsX12_keep.all goodWord = true := by decide +kernel
noncomputable def ch_wsX12_row : List (List Cond) := [([.code yX12_row cX12_row 5 (some .int)] : List Cond), ([.constantLong RX12 221 (4), .fieldLink RX12 107 "OlderSkinModel" "shelf" "[I", .fieldLink RX12 110 "OlderSkinModel" "many" "[I", .fieldLink RX12 113 "OlderSkinModel" "items" "[J", .methodLink RX12 238 yX12_isShelf, .static yX12_isShelf, .initialized RX12, .code yX12_isShelf cX12_isShelf 1 (some .boolean), .constantLong RX12 195 (5), .methodLink RX12 136 yX12_within, .static yX12_within, .code yX12_within cX12_within 6 (some .boolean)] : List Cond), wsX120]
set_option maxRecDepth 20000 in
theorem ch_wsX12_row_flat : ch_wsX12_row.flatten = wsX12_row := by
  simp only [ch_wsX12_row, wsX12_row, List.flatten_cons, List.flatten_nil, List.append_nil, List.nil_append, List.cons_append, List.append_assoc]
set_option maxRecDepth 20000 in
theorem gd_wsX12_row : wsX12_row.all goodWord = true := by decide +kernel
noncomputable def ch_wsX12_refusal : List (List Cond) := [([.code yX12_refusal cX12_refusal 3 (some .int)] : List Cond), ([.fieldLink RX12 107 "OlderSkinModel" "shelf" "[I", .fieldLink RX12 110 "OlderSkinModel" "many" "[I", .methodLink RX12 238 yX12_isShelf, .static yX12_isShelf, .initialized RX12, .code yX12_isShelf cX12_isShelf 1 (some .boolean), .constantLong RX12 195 (5), .methodLink RX12 136 yX12_within, .static yX12_within, .code yX12_within cX12_within 6 (some .boolean)] : List Cond), wsX120]
set_option maxRecDepth 20000 in
theorem ch_wsX12_refusal_flat : ch_wsX12_refusal.flatten = wsX12_refusal := by
  simp only [ch_wsX12_refusal, wsX12_refusal, List.flatten_cons, List.flatten_nil, List.append_nil, List.nil_append, List.cons_append, List.append_assoc]
set_option maxRecDepth 20000 in
theorem gd_wsX12_refusal : wsX12_refusal.all goodWord = true := by decide +kernel
noncomputable def ch_wsX12_put : List (List Cond) := [([.code yX12_put cX12_put 6 (some .int)] : List Cond), ([.fieldLink RX12 113 "OlderSkinModel" "items" "[J", .fieldLink RX12 107 "OlderSkinModel" "shelf" "[I", .methodLink RX12 410 yX12_refusal, .instanceMethod yX12_refusal, .selects RX12 yX12_refusal yX12_refusal, .initialized RX12, .code yX12_refusal cX12_refusal 3 (some .int), .fieldLink RX12 110 "OlderSkinModel" "many" "[I", .methodLink RX12 238 yX12_isShelf, .static yX12_isShelf, .code yX12_isShelf cX12_isShelf 1 (some .boolean), .constantLong RX12 195 (5), .methodLink RX12 136 yX12_within, .static yX12_within, .code yX12_within cX12_within 6 (some .boolean), .methodLink RX12 413 yX12_asSort, .static yX12_asSort, .code yX12_asSort cX12_asSort 3 (some .long)] : List Cond), wsX120]
set_option maxRecDepth 20000 in
theorem ch_wsX12_put_flat : ch_wsX12_put.flatten = wsX12_put := by
  simp only [ch_wsX12_put, wsX12_put, List.flatten_cons, List.flatten_nil, List.append_nil, List.nil_append, List.cons_append, List.append_assoc]
set_option maxRecDepth 20000 in
theorem gd_wsX12_put : wsX12_put.all goodWord = true := by decide +kernel
noncomputable def ch_wsX12_element : List (List Cond) := [([.code yX12_element cX12_element 3 (some .long)] : List Cond), ([.constantLong RX12 419 (-9223372036854775808), .fieldLink RX12 113 "OlderSkinModel" "items" "[J", .methodLink RX12 410 yX12_refusal, .instanceMethod yX12_refusal, .selects RX12 yX12_refusal yX12_refusal, .initialized RX12, .code yX12_refusal cX12_refusal 3 (some .int), .fieldLink RX12 107 "OlderSkinModel" "shelf" "[I", .fieldLink RX12 110 "OlderSkinModel" "many" "[I", .methodLink RX12 238 yX12_isShelf, .static yX12_isShelf, .code yX12_isShelf cX12_isShelf 1 (some .boolean), .constantLong RX12 195 (5), .methodLink RX12 136 yX12_within, .static yX12_within, .code yX12_within cX12_within 6 (some .boolean)] : List Cond), wsX120]
set_option maxRecDepth 20000 in
theorem ch_wsX12_element_flat : ch_wsX12_element.flatten = wsX12_element := by
  simp only [ch_wsX12_element, wsX12_element, List.flatten_cons, List.flatten_nil, List.append_nil, List.nil_append, List.cons_append, List.append_assoc]
set_option maxRecDepth 20000 in
theorem gd_wsX12_element : wsX12_element.all goodWord = true := by decide +kernel
noncomputable def ch_wsX12_shift : List (List Cond) := [([.code yX12_shift cX12_shift 7 (some .int)] : List Cond), ([.fieldLink RX12 107 "OlderSkinModel" "shelf" "[I", .fieldLink RX12 110 "OlderSkinModel" "many" "[I", .fieldLink RX12 117 "OlderSkinModel" "carried" "[J", .fieldLink RX12 113 "OlderSkinModel" "items" "[J", .methodLink RX12 238 yX12_isShelf, .static yX12_isShelf, .initialized RX12, .code yX12_isShelf cX12_isShelf 1 (some .boolean), .constantLong RX12 195 (5), .methodLink RX12 136 yX12_within, .static yX12_within, .code yX12_within cX12_within 6 (some .boolean)] : List Cond), wsX120]
set_option maxRecDepth 20000 in
theorem ch_wsX12_shift_flat : ch_wsX12_shift.flatten = wsX12_shift := by
  simp only [ch_wsX12_shift, wsX12_shift, List.flatten_cons, List.flatten_nil, List.append_nil, List.nil_append, List.cons_append, List.append_assoc]
set_option maxRecDepth 20000 in
theorem gd_wsX12_shift : wsX12_shift.all goodWord = true := by decide +kernel
noncomputable def ch_wsX12_taken : List (List Cond) := [([.code yX12_taken cX12_taken 4 (some .int)] : List Cond), ([.constantLong RX12 223 (7), .fieldLink RX12 107 "OlderSkinModel" "shelf" "[I", .methodLink RX12 238 yX12_isShelf, .static yX12_isShelf, .initialized RX12, .code yX12_isShelf cX12_isShelf 1 (some .boolean), .constantLong RX12 195 (5), .methodLink RX12 136 yX12_within, .static yX12_within, .code yX12_within cX12_within 6 (some .boolean), .methodLink RX12 421 yX12_kindOf, .instanceMethod yX12_kindOf, .selects RX12 yX12_kindOf yX12_kindOf, .code yX12_kindOf cX12_kindOf 2 (some .int), .fieldLink RX12 101 "OlderSkinModel" "bodyKind" "[I", .methodLink RX12 424 yX12_above, .static yX12_above, .code yX12_above cX12_above 1 (some .int)] : List Cond), wsX120]
set_option maxRecDepth 20000 in
theorem ch_wsX12_taken_flat : ch_wsX12_taken.flatten = wsX12_taken := by
  simp only [ch_wsX12_taken, wsX12_taken, List.flatten_cons, List.flatten_nil, List.append_nil, List.nil_append, List.cons_append, List.append_assoc]
set_option maxRecDepth 20000 in
theorem gd_wsX12_taken : wsX12_taken.all goodWord = true := by decide +kernel
set_option maxRecDepth 20000 in
theorem SX12_well_n2 : ∀ p : Nat, gb cX12_well p = segF [[27, 184, 0, 147, 153, 0, 15, 29, 133, 10, 20, 0, 249, 184, 0, 136, 154, 0, 5, 2, 172, 42, 27, 182, 1, 15, 154, 0, 6, 16, 254, 172, 42, 27, 182, 1, 18, 54, 4, 28, 54, 5, 3, 54, 6, 3, 54, 7, 21, 7, 29, 162, 0, 122, 3, 54, 8, 3, 54, 9, 21, 9, 42, 180], [1, 6, 162, 0, 84, 42, 180, 0, 71, 21, 9, 46, 27, 163, 0, 6, 167, 0, 64, 21, 5, 18, 255, 104, 17, 48, 57, 96, 54, 5, 21, 5, 16, 8, 124, 16, 100, 112, 54, 10, 21, 5, 18, 255, 104, 17, 48, 57, 96, 54, 5, 21, 8, 42, 180, 0, 74, 21, 9, 46, 16, 100, 21, 10], [104, 21, 5, 16, 8, 124, 16, 100, 112, 96, 184, 1, 12, 96, 54, 8, 132, 9, 1, 167, 255, 169, 21, 6, 21, 8, 21, 4, 163, 0, 7, 4, 167, 0, 4, 3, 96, 54, 6, 132, 7, 1, 167, 255, 134, 21, 6, 172]] p := seg_gb (S := [[27, 184, 0, 147, 153, 0, 15, 29, 133, 10, 20, 0, 249, 184, 0, 136, 154, 0, 5, 2, 172, 42, 27, 182, 1, 15, 154, 0, 6, 16, 254, 172, 42, 27, 182, 1, 18, 54, 4, 28, 54, 5, 3, 54, 6, 3, 54, 7, 21, 7, 29, 162, 0, 122, 3, 54, 8, 3, 54, 9, 21, 9, 42, 180], [1, 6, 162, 0, 84, 42, 180, 0, 71, 21, 9, 46, 27, 163, 0, 6, 167, 0, 64, 21, 5, 18, 255, 104, 17, 48, 57, 96, 54, 5, 21, 5, 16, 8, 124, 16, 100, 112, 54, 10, 21, 5, 18, 255, 104, 17, 48, 57, 96, 54, 5, 21, 8, 42, 180, 0, 74, 21, 9, 46, 16, 100, 21, 10], [104, 21, 5, 16, 8, 124, 16, 100, 112, 96, 184, 1, 12, 96, 54, 8, 132, 9, 1, 167, 255, 169, 21, 6, 21, 8, 21, 4, 163, 0, 7, 4, 167, 0, 4, 3, 96, 54, 6, 132, 7, 1, 167, 255, 134, 21, 6, 172]]) (by decide +kernel) (by decide +kernel)
set_option maxRecDepth 20000 in
theorem BX12_well_n2_1_0 : ∀ q ∈ ([(76, 27), (87, 104), (91, 96), (98, 124), (101, 112), (108, 104), (112, 96), (117, 42), (123, 46), (128, 104), (133, 124), (136, 112)] : List (Nat × Nat)), gb cX12_well q.1 = some q.2 := seg_1 SX12_well_n2 _ (by decide +kernel)
set_option maxRecDepth 20000 in
theorem BX12_well_n2_1_1 : ∀ q ∈ ([(137, 96), (141, 96), (159, 4), (163, 3), (164, 96), (175, 172)] : List (Nat × Nat)), gb cX12_well q.1 = some q.2 := seg_1 SX12_well_n2 _ (by decide +kernel)
set_option maxRecDepth 20000 in
theorem BX12_well_n2_2_0 : ∀ q ∈ ([(83, 21, 5), (85, 18, 255), (92, 54, 5), (94, 21, 5), (96, 16, 8), (99, 16, 100), (102, 54, 10), (104, 21, 5), (106, 18, 255), (113, 54, 5), (115, 21, 8), (121, 21, 9)] : List (Nat × Nat × Nat)), gb cX12_well q.1 = some q.2.1 ∧ gb cX12_well (q.1 + 1) = some q.2.2 := seg_2 SX12_well_n2 _ (by decide +kernel)
set_option maxRecDepth 20000 in
theorem BX12_well_n2_2_1 : ∀ q ∈ ([(124, 16, 100), (126, 21, 10), (129, 21, 5), (131, 16, 8), (134, 16, 100), (142, 54, 8), (150, 21, 6), (152, 21, 8), (154, 21, 4), (165, 54, 6), (173, 21, 6)] : List (Nat × Nat × Nat)), gb cX12_well q.1 = some q.2.1 ∧ gb cX12_well (q.1 + 1) = some q.2.2 := seg_2 SX12_well_n2 _ (by decide +kernel)
set_option maxRecDepth 20000 in
theorem BX12_well_n2_3_0 : ∀ q ∈ ([(77, 163, 0, 6), (80, 167, 0, 64), (88, 17, 48, 57), (109, 17, 48, 57), (118, 180, 0, 74), (138, 184, 1, 12), (144, 132, 9, 1), (147, 167, 255, 169), (156, 163, 0, 7), (160, 167, 0, 4), (167, 132, 7, 1), (170, 167, 255, 134)] : List (Nat × Nat × Nat × Nat)), gb cX12_well q.1 = some q.2.1 ∧ gb cX12_well (q.1 + 1) = some q.2.2.1 ∧ gb cX12_well (q.1 + 2) = some q.2.2.2 := seg_3 SX12_well_n2 _ (by decide +kernel)
theorem dX12_well_76 : decode cX12_well 76 = .ok (.iload_n 1, 1) := dk27 (BX12_well_n2_1_0 (76, 27) (List.mem_of_getElem? (i := 0) rfl))
theorem dX12_well_77 : decode cX12_well 77 = .ok (.if_icmp .gt 6, 3) := dk163 0 6 (BX12_well_n2_3_0 (77, 163, 0, 6) (List.mem_of_getElem? (i := 0) rfl))
theorem dX12_well_80 : decode cX12_well 80 = .ok (.goto 64, 3) := dk167 0 64 (BX12_well_n2_3_0 (80, 167, 0, 64) (List.mem_of_getElem? (i := 1) rfl))
theorem dX12_well_83 : decode cX12_well 83 = .ok (.iload 5, 2) := dk21 5 (BX12_well_n2_2_0 (83, 21, 5) (List.mem_of_getElem? (i := 0) rfl))
theorem dX12_well_85 : decode cX12_well 85 = .ok (.ldc 255, 2) := dk18 255 (BX12_well_n2_2_0 (85, 18, 255) (List.mem_of_getElem? (i := 1) rfl))
theorem dX12_well_87 : decode cX12_well 87 = .ok (.imul, 1) := dk104 (BX12_well_n2_1_0 (87, 104) (List.mem_of_getElem? (i := 1) rfl))
theorem dX12_well_88 : decode cX12_well 88 = .ok (.sipush 12345, 3) := dk17 48 57 (BX12_well_n2_3_0 (88, 17, 48, 57) (List.mem_of_getElem? (i := 2) rfl))
theorem dX12_well_91 : decode cX12_well 91 = .ok (.iadd, 1) := dk96 (BX12_well_n2_1_0 (91, 96) (List.mem_of_getElem? (i := 2) rfl))
theorem dX12_well_92 : decode cX12_well 92 = .ok (.istore 5, 2) := dk54 5 (BX12_well_n2_2_0 (92, 54, 5) (List.mem_of_getElem? (i := 2) rfl))
theorem dX12_well_94 : decode cX12_well 94 = .ok (.iload 5, 2) := dk21 5 (BX12_well_n2_2_0 (94, 21, 5) (List.mem_of_getElem? (i := 3) rfl))
theorem dX12_well_96 : decode cX12_well 96 = .ok (.bipush 8, 2) := dk16 8 (BX12_well_n2_2_0 (96, 16, 8) (List.mem_of_getElem? (i := 4) rfl))
theorem dX12_well_98 : decode cX12_well 98 = .ok (.iushr, 1) := dk124 (BX12_well_n2_1_0 (98, 124) (List.mem_of_getElem? (i := 3) rfl))
theorem dX12_well_99 : decode cX12_well 99 = .ok (.bipush 100, 2) := dk16 100 (BX12_well_n2_2_0 (99, 16, 100) (List.mem_of_getElem? (i := 5) rfl))
theorem dX12_well_101 : decode cX12_well 101 = .ok (.irem, 1) := dk112 (BX12_well_n2_1_0 (101, 112) (List.mem_of_getElem? (i := 4) rfl))
theorem dX12_well_102 : decode cX12_well 102 = .ok (.istore 10, 2) := dk54 10 (BX12_well_n2_2_0 (102, 54, 10) (List.mem_of_getElem? (i := 6) rfl))
theorem dX12_well_104 : decode cX12_well 104 = .ok (.iload 5, 2) := dk21 5 (BX12_well_n2_2_0 (104, 21, 5) (List.mem_of_getElem? (i := 7) rfl))
theorem dX12_well_106 : decode cX12_well 106 = .ok (.ldc 255, 2) := dk18 255 (BX12_well_n2_2_0 (106, 18, 255) (List.mem_of_getElem? (i := 8) rfl))
theorem dX12_well_108 : decode cX12_well 108 = .ok (.imul, 1) := dk104 (BX12_well_n2_1_0 (108, 104) (List.mem_of_getElem? (i := 5) rfl))
theorem dX12_well_109 : decode cX12_well 109 = .ok (.sipush 12345, 3) := dk17 48 57 (BX12_well_n2_3_0 (109, 17, 48, 57) (List.mem_of_getElem? (i := 3) rfl))
theorem dX12_well_112 : decode cX12_well 112 = .ok (.iadd, 1) := dk96 (BX12_well_n2_1_0 (112, 96) (List.mem_of_getElem? (i := 6) rfl))
theorem dX12_well_113 : decode cX12_well 113 = .ok (.istore 5, 2) := dk54 5 (BX12_well_n2_2_0 (113, 54, 5) (List.mem_of_getElem? (i := 9) rfl))
theorem dX12_well_115 : decode cX12_well 115 = .ok (.iload 8, 2) := dk21 8 (BX12_well_n2_2_0 (115, 21, 8) (List.mem_of_getElem? (i := 10) rfl))
theorem dX12_well_117 : decode cX12_well 117 = .ok (.aload_n 0, 1) := dk42 (BX12_well_n2_1_0 (117, 42) (List.mem_of_getElem? (i := 7) rfl))
theorem dX12_well_118 : decode cX12_well 118 = .ok (.getfield 74, 3) := dk180 0 74 (BX12_well_n2_3_0 (118, 180, 0, 74) (List.mem_of_getElem? (i := 4) rfl))
theorem dX12_well_121 : decode cX12_well 121 = .ok (.iload 9, 2) := dk21 9 (BX12_well_n2_2_0 (121, 21, 9) (List.mem_of_getElem? (i := 11) rfl))
theorem dX12_well_123 : decode cX12_well 123 = .ok (.iaload, 1) := dk46 (BX12_well_n2_1_0 (123, 46) (List.mem_of_getElem? (i := 8) rfl))
theorem dX12_well_124 : decode cX12_well 124 = .ok (.bipush 100, 2) := dk16 100 (BX12_well_n2_2_1 (124, 16, 100) (List.mem_of_getElem? (i := 0) rfl))
theorem dX12_well_126 : decode cX12_well 126 = .ok (.iload 10, 2) := dk21 10 (BX12_well_n2_2_1 (126, 21, 10) (List.mem_of_getElem? (i := 1) rfl))
theorem dX12_well_128 : decode cX12_well 128 = .ok (.imul, 1) := dk104 (BX12_well_n2_1_0 (128, 104) (List.mem_of_getElem? (i := 9) rfl))
theorem dX12_well_129 : decode cX12_well 129 = .ok (.iload 5, 2) := dk21 5 (BX12_well_n2_2_1 (129, 21, 5) (List.mem_of_getElem? (i := 2) rfl))
theorem dX12_well_131 : decode cX12_well 131 = .ok (.bipush 8, 2) := dk16 8 (BX12_well_n2_2_1 (131, 16, 8) (List.mem_of_getElem? (i := 3) rfl))
theorem dX12_well_133 : decode cX12_well 133 = .ok (.iushr, 1) := dk124 (BX12_well_n2_1_0 (133, 124) (List.mem_of_getElem? (i := 10) rfl))
theorem dX12_well_134 : decode cX12_well 134 = .ok (.bipush 100, 2) := dk16 100 (BX12_well_n2_2_1 (134, 16, 100) (List.mem_of_getElem? (i := 4) rfl))
theorem dX12_well_136 : decode cX12_well 136 = .ok (.irem, 1) := dk112 (BX12_well_n2_1_0 (136, 112) (List.mem_of_getElem? (i := 11) rfl))
theorem dX12_well_137 : decode cX12_well 137 = .ok (.iadd, 1) := dk96 (BX12_well_n2_1_1 (137, 96) (List.mem_of_getElem? (i := 0) rfl))
theorem dX12_well_138 : decode cX12_well 138 = .ok (.invokestatic 268, 3) := dk184 1 12 (BX12_well_n2_3_0 (138, 184, 1, 12) (List.mem_of_getElem? (i := 5) rfl))
theorem dX12_well_141 : decode cX12_well 141 = .ok (.iadd, 1) := dk96 (BX12_well_n2_1_1 (141, 96) (List.mem_of_getElem? (i := 1) rfl))
theorem dX12_well_142 : decode cX12_well 142 = .ok (.istore 8, 2) := dk54 8 (BX12_well_n2_2_1 (142, 54, 8) (List.mem_of_getElem? (i := 5) rfl))
theorem dX12_well_144 : decode cX12_well 144 = .ok (.iinc 9 1, 3) := dk132 9 1 (BX12_well_n2_3_0 (144, 132, 9, 1) (List.mem_of_getElem? (i := 6) rfl))
theorem dX12_well_147 : decode cX12_well 147 = .ok (.goto (-87), 3) := dk167 255 169 (BX12_well_n2_3_0 (147, 167, 255, 169) (List.mem_of_getElem? (i := 7) rfl))
theorem dX12_well_150 : decode cX12_well 150 = .ok (.iload 6, 2) := dk21 6 (BX12_well_n2_2_1 (150, 21, 6) (List.mem_of_getElem? (i := 6) rfl))
theorem dX12_well_152 : decode cX12_well 152 = .ok (.iload 8, 2) := dk21 8 (BX12_well_n2_2_1 (152, 21, 8) (List.mem_of_getElem? (i := 7) rfl))
theorem dX12_well_154 : decode cX12_well 154 = .ok (.iload 4, 2) := dk21 4 (BX12_well_n2_2_1 (154, 21, 4) (List.mem_of_getElem? (i := 8) rfl))
theorem dX12_well_156 : decode cX12_well 156 = .ok (.if_icmp .gt 7, 3) := dk163 0 7 (BX12_well_n2_3_0 (156, 163, 0, 7) (List.mem_of_getElem? (i := 8) rfl))
theorem dX12_well_159 : decode cX12_well 159 = .ok (.iconst 1, 1) := dk4 (BX12_well_n2_1_1 (159, 4) (List.mem_of_getElem? (i := 2) rfl))
theorem dX12_well_160 : decode cX12_well 160 = .ok (.goto 4, 3) := dk167 0 4 (BX12_well_n2_3_0 (160, 167, 0, 4) (List.mem_of_getElem? (i := 9) rfl))
theorem dX12_well_163 : decode cX12_well 163 = .ok (.iconst 0, 1) := dk3 (BX12_well_n2_1_1 (163, 3) (List.mem_of_getElem? (i := 3) rfl))
theorem dX12_well_164 : decode cX12_well 164 = .ok (.iadd, 1) := dk96 (BX12_well_n2_1_1 (164, 96) (List.mem_of_getElem? (i := 4) rfl))
theorem dX12_well_165 : decode cX12_well 165 = .ok (.istore 6, 2) := dk54 6 (BX12_well_n2_2_1 (165, 54, 6) (List.mem_of_getElem? (i := 9) rfl))
theorem dX12_well_167 : decode cX12_well 167 = .ok (.iinc 7 1, 3) := dk132 7 1 (BX12_well_n2_3_0 (167, 132, 7, 1) (List.mem_of_getElem? (i := 10) rfl))
theorem dX12_well_170 : decode cX12_well 170 = .ok (.goto (-122), 3) := dk167 255 134 (BX12_well_n2_3_0 (170, 167, 255, 134) (List.mem_of_getElem? (i := 11) rfl))
theorem dX12_well_173 : decode cX12_well 173 = .ok (.iload 6, 2) := dk21 6 (BX12_well_n2_2_1 (173, 21, 6) (List.mem_of_getElem? (i := 10) rfl))
theorem dX12_well_175 : decode cX12_well 175 = .ok (.ireturn, 1) := dk172 (BX12_well_n2_1_1 (175, 172) (List.mem_of_getElem? (i := 5) rfl))
set_option maxRecDepth 20000 in
theorem ggX12_isMap_X12_within : GoodIn wsX12_isMap wsX12_within := goodIn_g ch_wsX12_isMap_flat gd_wsX12_isMap _ [(1, 4)] rfl
set_option maxRecDepth 20000 in
theorem gX12_isMap_X12_within : GoodIn wsX12_isMap (va_wsS RX12 136 yX12_within wsX12_within) := goodIn_app (goodIn_g ch_wsX12_isMap_flat gd_wsX12_isMap _ [(1, 1), (1, 2), (1, 3)] rfl) ggX12_isMap_X12_within
set_option maxRecDepth 20000 in
theorem SX12_isMap : ∀ p : Nat, gb cX12_isMap p = segF [[27, 133, 9, 42, 180, 1, 21, 4, 100, 133, 184, 0, 136, 172]] p := seg_gb (S := [[27, 133, 9, 42, 180, 1, 21, 4, 100, 133, 184, 0, 136, 172]]) (by decide +kernel) (by decide +kernel)
set_option maxRecDepth 20000 in
theorem BX12_isMap_1_0 : ∀ q ∈ ([(0, 27), (1, 133), (2, 9), (3, 42), (7, 4), (8, 100), (9, 133), (13, 172)] : List (Nat × Nat)), gb cX12_isMap q.1 = some q.2 := seg_1 SX12_isMap _ (by decide +kernel)
set_option maxRecDepth 20000 in
theorem BX12_isMap_3_0 : ∀ q ∈ ([(4, 180, 1, 21), (10, 184, 0, 136)] : List (Nat × Nat × Nat × Nat)), gb cX12_isMap q.1 = some q.2.1 ∧ gb cX12_isMap (q.1 + 1) = some q.2.2.1 ∧ gb cX12_isMap (q.1 + 2) = some q.2.2.2 := seg_3 SX12_isMap _ (by decide +kernel)
theorem dX12_isMap_0 : decode cX12_isMap 0 = .ok (.iload_n 1, 1) := dk27 (BX12_isMap_1_0 (0, 27) (List.mem_of_getElem? (i := 0) rfl))
theorem dX12_isMap_1 : decode cX12_isMap 1 = .ok (.i2l, 1) := dk133 (BX12_isMap_1_0 (1, 133) (List.mem_of_getElem? (i := 1) rfl))
theorem dX12_isMap_2 : decode cX12_isMap 2 = .ok (.lconst 0, 1) := dk9 (BX12_isMap_1_0 (2, 9) (List.mem_of_getElem? (i := 2) rfl))
theorem dX12_isMap_3 : decode cX12_isMap 3 = .ok (.aload_n 0, 1) := dk42 (BX12_isMap_1_0 (3, 42) (List.mem_of_getElem? (i := 3) rfl))
theorem dX12_isMap_4 : decode cX12_isMap 4 = .ok (.getfield 277, 3) := dk180 1 21 (BX12_isMap_3_0 (4, 180, 1, 21) (List.mem_of_getElem? (i := 0) rfl))
theorem dX12_isMap_7 : decode cX12_isMap 7 = .ok (.iconst 1, 1) := dk4 (BX12_isMap_1_0 (7, 4) (List.mem_of_getElem? (i := 4) rfl))
theorem dX12_isMap_8 : decode cX12_isMap 8 = .ok (.isub, 1) := dk100 (BX12_isMap_1_0 (8, 100) (List.mem_of_getElem? (i := 5) rfl))
theorem dX12_isMap_9 : decode cX12_isMap 9 = .ok (.i2l, 1) := dk133 (BX12_isMap_1_0 (9, 133) (List.mem_of_getElem? (i := 6) rfl))
theorem dX12_isMap_10 : decode cX12_isMap 10 = .ok (.invokestatic 136, 3) := dk184 0 136 (BX12_isMap_3_0 (10, 184, 0, 136) (List.mem_of_getElem? (i := 1) rfl))
theorem dX12_isMap_13 : decode cX12_isMap 13 = .ok (.ireturn, 1) := dk172 (BX12_isMap_1_0 (13, 172) (List.mem_of_getElem? (i := 7) rfl))
set_option maxRecDepth 20000 in
theorem ggX12_map_X12_isYear : GoodIn wsX12_map wsX12_isYear := goodIn_g ch_wsX12_map_flat gd_wsX12_map _ [(1, 7), (1, 8), (1, 9), (1, 10), (1, 6), (1, 11)] rfl
set_option maxRecDepth 20000 in
theorem gX12_map_X12_isYear : GoodIn wsX12_map (va_wsS RX12 147 yX12_isYear wsX12_isYear) := goodIn_app (goodIn_g ch_wsX12_map_flat gd_wsX12_map _ [(1, 4), (1, 5), (1, 6)] rfl) ggX12_map_X12_isYear
set_option maxRecDepth 20000 in
theorem ggX12_map_X12_within : GoodIn wsX12_map wsX12_within := goodIn_g ch_wsX12_map_flat gd_wsX12_map _ [(1, 11)] rfl
set_option maxRecDepth 20000 in
theorem gX12_map_X12_within : GoodIn wsX12_map (va_wsS RX12 136 yX12_within wsX12_within) := goodIn_app (goodIn_g ch_wsX12_map_flat gd_wsX12_map _ [(1, 9), (1, 10), (1, 6)] rfl) ggX12_map_X12_within
set_option maxRecDepth 20000 in
theorem SX12_map : ∀ p : Nat, gb cX12_map p = segF [[27, 184, 0, 147, 153, 0, 15, 28, 133, 9, 20, 1, 24, 184, 0, 136, 154, 0, 5, 2, 172, 42, 180, 1, 21, 16, 8, 160, 0, 6, 16, 253, 172, 42, 180, 0, 80, 42, 180, 1, 21, 27, 79, 42, 180, 0, 83, 42, 180, 1, 21, 28, 79, 42, 89, 180, 1, 21, 4, 96, 181, 1, 21, 42], [180, 1, 21, 4, 100, 172]] p := seg_gb (S := [[27, 184, 0, 147, 153, 0, 15, 28, 133, 9, 20, 1, 24, 184, 0, 136, 154, 0, 5, 2, 172, 42, 180, 1, 21, 16, 8, 160, 0, 6, 16, 253, 172, 42, 180, 0, 80, 42, 180, 1, 21, 27, 79, 42, 180, 0, 83, 42, 180, 1, 21, 28, 79, 42, 89, 180, 1, 21, 4, 96, 181, 1, 21, 42], [180, 1, 21, 4, 100, 172]]) (by decide +kernel) (by decide +kernel)
set_option maxRecDepth 20000 in
theorem BX12_map_1_0 : ∀ q ∈ ([(0, 27), (7, 28), (8, 133), (9, 9), (19, 2), (20, 172), (21, 42), (32, 172), (33, 42), (37, 42), (41, 27), (42, 79)] : List (Nat × Nat)), gb cX12_map q.1 = some q.2 := seg_1 SX12_map _ (by decide +kernel)
set_option maxRecDepth 20000 in
theorem BX12_map_1_1 : ∀ q ∈ ([(43, 42), (47, 42), (51, 28), (52, 79), (53, 42), (54, 89), (58, 4), (59, 96), (63, 42), (67, 4), (68, 100), (69, 172)] : List (Nat × Nat)), gb cX12_map q.1 = some q.2 := seg_1 SX12_map _ (by decide +kernel)
set_option maxRecDepth 20000 in
theorem BX12_map_2_0 : ∀ q ∈ ([(25, 16, 8), (30, 16, 253)] : List (Nat × Nat × Nat)), gb cX12_map q.1 = some q.2.1 ∧ gb cX12_map (q.1 + 1) = some q.2.2 := seg_2 SX12_map _ (by decide +kernel)
set_option maxRecDepth 20000 in
theorem BX12_map_3_0 : ∀ q ∈ ([(1, 184, 0, 147), (4, 153, 0, 15), (10, 20, 1, 24), (13, 184, 0, 136), (16, 154, 0, 5), (22, 180, 1, 21), (27, 160, 0, 6), (34, 180, 0, 80), (38, 180, 1, 21), (44, 180, 0, 83), (48, 180, 1, 21), (55, 180, 1, 21)] : List (Nat × Nat × Nat × Nat)), gb cX12_map q.1 = some q.2.1 ∧ gb cX12_map (q.1 + 1) = some q.2.2.1 ∧ gb cX12_map (q.1 + 2) = some q.2.2.2 := seg_3 SX12_map _ (by decide +kernel)
set_option maxRecDepth 20000 in
theorem BX12_map_3_1 : ∀ q ∈ ([(60, 181, 1, 21), (64, 180, 1, 21)] : List (Nat × Nat × Nat × Nat)), gb cX12_map q.1 = some q.2.1 ∧ gb cX12_map (q.1 + 1) = some q.2.2.1 ∧ gb cX12_map (q.1 + 2) = some q.2.2.2 := seg_3 SX12_map _ (by decide +kernel)
theorem dX12_map_0 : decode cX12_map 0 = .ok (.iload_n 1, 1) := dk27 (BX12_map_1_0 (0, 27) (List.mem_of_getElem? (i := 0) rfl))
theorem dX12_map_1 : decode cX12_map 1 = .ok (.invokestatic 147, 3) := dk184 0 147 (BX12_map_3_0 (1, 184, 0, 147) (List.mem_of_getElem? (i := 0) rfl))
theorem dX12_map_4 : decode cX12_map 4 = .ok (.ifCond .eq 15, 3) := dk153 0 15 (BX12_map_3_0 (4, 153, 0, 15) (List.mem_of_getElem? (i := 1) rfl))
theorem dX12_map_7 : decode cX12_map 7 = .ok (.iload_n 2, 1) := dk28 (BX12_map_1_0 (7, 28) (List.mem_of_getElem? (i := 1) rfl))
theorem dX12_map_8 : decode cX12_map 8 = .ok (.i2l, 1) := dk133 (BX12_map_1_0 (8, 133) (List.mem_of_getElem? (i := 2) rfl))
theorem dX12_map_9 : decode cX12_map 9 = .ok (.lconst 0, 1) := dk9 (BX12_map_1_0 (9, 9) (List.mem_of_getElem? (i := 3) rfl))
theorem dX12_map_10 : decode cX12_map 10 = .ok (.ldc2_w 280, 3) := dk20 1 24 (BX12_map_3_0 (10, 20, 1, 24) (List.mem_of_getElem? (i := 2) rfl))
theorem dX12_map_13 : decode cX12_map 13 = .ok (.invokestatic 136, 3) := dk184 0 136 (BX12_map_3_0 (13, 184, 0, 136) (List.mem_of_getElem? (i := 3) rfl))
theorem dX12_map_16 : decode cX12_map 16 = .ok (.ifCond .ne 5, 3) := dk154 0 5 (BX12_map_3_0 (16, 154, 0, 5) (List.mem_of_getElem? (i := 4) rfl))
theorem dX12_map_19 : decode cX12_map 19 = .ok (.iconst (-1), 1) := dk2 (BX12_map_1_0 (19, 2) (List.mem_of_getElem? (i := 4) rfl))
theorem dX12_map_20 : decode cX12_map 20 = .ok (.ireturn, 1) := dk172 (BX12_map_1_0 (20, 172) (List.mem_of_getElem? (i := 5) rfl))
theorem dX12_map_21 : decode cX12_map 21 = .ok (.aload_n 0, 1) := dk42 (BX12_map_1_0 (21, 42) (List.mem_of_getElem? (i := 6) rfl))
theorem dX12_map_22 : decode cX12_map 22 = .ok (.getfield 277, 3) := dk180 1 21 (BX12_map_3_0 (22, 180, 1, 21) (List.mem_of_getElem? (i := 5) rfl))
theorem dX12_map_25 : decode cX12_map 25 = .ok (.bipush 8, 2) := dk16 8 (BX12_map_2_0 (25, 16, 8) (List.mem_of_getElem? (i := 0) rfl))
theorem dX12_map_27 : decode cX12_map 27 = .ok (.if_icmp .ne 6, 3) := dk160 0 6 (BX12_map_3_0 (27, 160, 0, 6) (List.mem_of_getElem? (i := 6) rfl))
theorem dX12_map_30 : decode cX12_map 30 = .ok (.bipush (-3), 2) := dk16 253 (BX12_map_2_0 (30, 16, 253) (List.mem_of_getElem? (i := 1) rfl))
theorem dX12_map_32 : decode cX12_map 32 = .ok (.ireturn, 1) := dk172 (BX12_map_1_0 (32, 172) (List.mem_of_getElem? (i := 7) rfl))
theorem dX12_map_33 : decode cX12_map 33 = .ok (.aload_n 0, 1) := dk42 (BX12_map_1_0 (33, 42) (List.mem_of_getElem? (i := 8) rfl))
theorem dX12_map_34 : decode cX12_map 34 = .ok (.getfield 80, 3) := dk180 0 80 (BX12_map_3_0 (34, 180, 0, 80) (List.mem_of_getElem? (i := 7) rfl))
theorem dX12_map_37 : decode cX12_map 37 = .ok (.aload_n 0, 1) := dk42 (BX12_map_1_0 (37, 42) (List.mem_of_getElem? (i := 9) rfl))
theorem dX12_map_38 : decode cX12_map 38 = .ok (.getfield 277, 3) := dk180 1 21 (BX12_map_3_0 (38, 180, 1, 21) (List.mem_of_getElem? (i := 8) rfl))
theorem dX12_map_41 : decode cX12_map 41 = .ok (.iload_n 1, 1) := dk27 (BX12_map_1_0 (41, 27) (List.mem_of_getElem? (i := 10) rfl))
theorem dX12_map_42 : decode cX12_map 42 = .ok (.iastore, 1) := dk79 (BX12_map_1_0 (42, 79) (List.mem_of_getElem? (i := 11) rfl))
theorem dX12_map_43 : decode cX12_map 43 = .ok (.aload_n 0, 1) := dk42 (BX12_map_1_1 (43, 42) (List.mem_of_getElem? (i := 0) rfl))
theorem dX12_map_44 : decode cX12_map 44 = .ok (.getfield 83, 3) := dk180 0 83 (BX12_map_3_0 (44, 180, 0, 83) (List.mem_of_getElem? (i := 9) rfl))
theorem dX12_map_47 : decode cX12_map 47 = .ok (.aload_n 0, 1) := dk42 (BX12_map_1_1 (47, 42) (List.mem_of_getElem? (i := 1) rfl))
theorem dX12_map_48 : decode cX12_map 48 = .ok (.getfield 277, 3) := dk180 1 21 (BX12_map_3_0 (48, 180, 1, 21) (List.mem_of_getElem? (i := 10) rfl))
theorem dX12_map_51 : decode cX12_map 51 = .ok (.iload_n 2, 1) := dk28 (BX12_map_1_1 (51, 28) (List.mem_of_getElem? (i := 2) rfl))
theorem dX12_map_52 : decode cX12_map 52 = .ok (.iastore, 1) := dk79 (BX12_map_1_1 (52, 79) (List.mem_of_getElem? (i := 3) rfl))
theorem dX12_map_53 : decode cX12_map 53 = .ok (.aload_n 0, 1) := dk42 (BX12_map_1_1 (53, 42) (List.mem_of_getElem? (i := 4) rfl))
theorem dX12_map_54 : decode cX12_map 54 = .ok (.dup, 1) := dk89 (BX12_map_1_1 (54, 89) (List.mem_of_getElem? (i := 5) rfl))
theorem dX12_map_55 : decode cX12_map 55 = .ok (.getfield 277, 3) := dk180 1 21 (BX12_map_3_0 (55, 180, 1, 21) (List.mem_of_getElem? (i := 11) rfl))
theorem dX12_map_58 : decode cX12_map 58 = .ok (.iconst 1, 1) := dk4 (BX12_map_1_1 (58, 4) (List.mem_of_getElem? (i := 6) rfl))
theorem dX12_map_59 : decode cX12_map 59 = .ok (.iadd, 1) := dk96 (BX12_map_1_1 (59, 96) (List.mem_of_getElem? (i := 7) rfl))
theorem dX12_map_60 : decode cX12_map 60 = .ok (.putfield 277, 3) := dk181 1 21 (BX12_map_3_1 (60, 181, 1, 21) (List.mem_of_getElem? (i := 0) rfl))
theorem dX12_map_63 : decode cX12_map 63 = .ok (.aload_n 0, 1) := dk42 (BX12_map_1_1 (63, 42) (List.mem_of_getElem? (i := 8) rfl))
theorem dX12_map_64 : decode cX12_map 64 = .ok (.getfield 277, 3) := dk180 1 21 (BX12_map_3_1 (64, 180, 1, 21) (List.mem_of_getElem? (i := 1) rfl))
theorem dX12_map_67 : decode cX12_map 67 = .ok (.iconst 1, 1) := dk4 (BX12_map_1_1 (67, 4) (List.mem_of_getElem? (i := 9) rfl))
theorem dX12_map_68 : decode cX12_map 68 = .ok (.isub, 1) := dk100 (BX12_map_1_1 (68, 100) (List.mem_of_getElem? (i := 10) rfl))
theorem dX12_map_69 : decode cX12_map 69 = .ok (.ireturn, 1) := dk172 (BX12_map_1_1 (69, 172) (List.mem_of_getElem? (i := 11) rfl))
set_option maxRecDepth 20000 in
theorem ggX12_unlike_X12_bitsOf : GoodIn wsX12_unlike wsX12_bitsOf := goodIn_g ch_wsX12_unlike_flat gd_wsX12_unlike _ [(1, 4)] rfl
set_option maxRecDepth 20000 in
theorem gX12_unlike_X12_bitsOf : GoodIn wsX12_unlike (va_wsS RX12 282 yX12_bitsOf wsX12_bitsOf) := goodIn_app (goodIn_g ch_wsX12_unlike_flat gd_wsX12_unlike _ [(1, 1), (1, 2), (1, 3)] rfl) ggX12_unlike_X12_bitsOf
set_option maxRecDepth 20000 in
theorem SX12_unlike : ∀ p : Nat, gb cX12_unlike p = segF [[42, 180, 0, 83, 27, 46, 42, 180, 0, 83, 28, 46, 130, 184, 1, 26, 172]] p := seg_gb (S := [[42, 180, 0, 83, 27, 46, 42, 180, 0, 83, 28, 46, 130, 184, 1, 26, 172]]) (by decide +kernel) (by decide +kernel)
set_option maxRecDepth 20000 in
theorem BX12_unlike_1_0 : ∀ q ∈ ([(0, 42), (4, 27), (5, 46), (6, 42), (10, 28), (11, 46), (12, 130), (16, 172)] : List (Nat × Nat)), gb cX12_unlike q.1 = some q.2 := seg_1 SX12_unlike _ (by decide +kernel)
set_option maxRecDepth 20000 in
theorem BX12_unlike_3_0 : ∀ q ∈ ([(1, 180, 0, 83), (7, 180, 0, 83), (13, 184, 1, 26)] : List (Nat × Nat × Nat × Nat)), gb cX12_unlike q.1 = some q.2.1 ∧ gb cX12_unlike (q.1 + 1) = some q.2.2.1 ∧ gb cX12_unlike (q.1 + 2) = some q.2.2.2 := seg_3 SX12_unlike _ (by decide +kernel)
theorem dX12_unlike_0 : decode cX12_unlike 0 = .ok (.aload_n 0, 1) := dk42 (BX12_unlike_1_0 (0, 42) (List.mem_of_getElem? (i := 0) rfl))
theorem dX12_unlike_1 : decode cX12_unlike 1 = .ok (.getfield 83, 3) := dk180 0 83 (BX12_unlike_3_0 (1, 180, 0, 83) (List.mem_of_getElem? (i := 0) rfl))
theorem dX12_unlike_4 : decode cX12_unlike 4 = .ok (.iload_n 1, 1) := dk27 (BX12_unlike_1_0 (4, 27) (List.mem_of_getElem? (i := 1) rfl))
theorem dX12_unlike_5 : decode cX12_unlike 5 = .ok (.iaload, 1) := dk46 (BX12_unlike_1_0 (5, 46) (List.mem_of_getElem? (i := 2) rfl))
theorem dX12_unlike_6 : decode cX12_unlike 6 = .ok (.aload_n 0, 1) := dk42 (BX12_unlike_1_0 (6, 42) (List.mem_of_getElem? (i := 3) rfl))
theorem dX12_unlike_7 : decode cX12_unlike 7 = .ok (.getfield 83, 3) := dk180 0 83 (BX12_unlike_3_0 (7, 180, 0, 83) (List.mem_of_getElem? (i := 1) rfl))
theorem dX12_unlike_10 : decode cX12_unlike 10 = .ok (.iload_n 2, 1) := dk28 (BX12_unlike_1_0 (10, 28) (List.mem_of_getElem? (i := 4) rfl))
theorem dX12_unlike_11 : decode cX12_unlike 11 = .ok (.iaload, 1) := dk46 (BX12_unlike_1_0 (11, 46) (List.mem_of_getElem? (i := 5) rfl))
theorem dX12_unlike_12 : decode cX12_unlike 12 = .ok (.ixor, 1) := dk130 (BX12_unlike_1_0 (12, 130) (List.mem_of_getElem? (i := 6) rfl))
theorem dX12_unlike_13 : decode cX12_unlike 13 = .ok (.invokestatic 282, 3) := dk184 1 26 (BX12_unlike_3_0 (13, 184, 1, 26) (List.mem_of_getElem? (i := 2) rfl))
theorem dX12_unlike_16 : decode cX12_unlike 16 = .ok (.ireturn, 1) := dk172 (BX12_unlike_1_0 (16, 172) (List.mem_of_getElem? (i := 7) rfl))
set_option maxRecDepth 20000 in
theorem ggX12_fatherOf_X12_unlike : GoodIn wsX12_fatherOf wsX12_unlike := gcons (goodIn_g ch_wsX12_fatherOf_flat gd_wsX12_fatherOf _ [(1, 6)] rfl) (goodIn_app (goodIn_g ch_wsX12_fatherOf_flat gd_wsX12_fatherOf _ [(1, 7), (1, 8), (1, 9), (1, 5), (1, 10)] rfl) (gchunk ch_wsX12_fatherOf_flat gd_wsX12_fatherOf 2 rfl))
set_option maxRecDepth 20000 in
theorem gX12_fatherOf_X12_unlike : GoodIn wsX12_fatherOf (wsV RX12 285 RX12 yX12_unlike wsX12_unlike) := goodIn_app (goodIn_g ch_wsX12_fatherOf_flat gd_wsX12_fatherOf _ [(1, 2), (1, 3), (1, 4), (1, 5)] rfl) ggX12_fatherOf_X12_unlike
set_option maxRecDepth 20000 in
theorem SX12_fatherOf : ∀ p : Nat, gb cX12_fatherOf p = segF [[16, 254, 61, 3, 62, 29, 42, 180, 1, 21, 162, 0, 94, 42, 180, 0, 80, 29, 46, 42, 180, 0, 80, 27, 46, 161, 0, 6, 167, 0, 70, 28, 155, 0, 48, 42, 27, 29, 182, 1, 29, 42, 27, 28, 182, 1, 29, 161, 0, 33, 42, 27, 29, 182, 1, 29, 42, 27, 28, 182, 1, 29, 160, 0], [22, 42, 180, 0, 80, 29, 46, 42, 180, 0, 80, 28, 46, 164, 0, 7, 4, 167, 0, 4, 3, 54, 4, 21, 4, 153, 0, 7, 29, 167, 0, 4, 28, 61, 132, 3, 1, 167, 255, 160, 28, 172]] p := seg_gb (S := [[16, 254, 61, 3, 62, 29, 42, 180, 1, 21, 162, 0, 94, 42, 180, 0, 80, 29, 46, 42, 180, 0, 80, 27, 46, 161, 0, 6, 167, 0, 70, 28, 155, 0, 48, 42, 27, 29, 182, 1, 29, 42, 27, 28, 182, 1, 29, 161, 0, 33, 42, 27, 29, 182, 1, 29, 42, 27, 28, 182, 1, 29, 160, 0], [22, 42, 180, 0, 80, 29, 46, 42, 180, 0, 80, 28, 46, 164, 0, 7, 4, 167, 0, 4, 3, 54, 4, 21, 4, 153, 0, 7, 29, 167, 0, 4, 28, 61, 132, 3, 1, 167, 255, 160, 28, 172]]) (by decide +kernel) (by decide +kernel)
set_option maxRecDepth 20000 in
theorem BX12_fatherOf_1_0 : ∀ q ∈ ([(2, 61), (3, 3), (4, 62), (5, 29), (6, 42), (13, 42), (17, 29), (18, 46), (19, 42), (23, 27), (24, 46), (31, 28)] : List (Nat × Nat)), gb cX12_fatherOf q.1 = some q.2 := seg_1 SX12_fatherOf _ (by decide +kernel)
set_option maxRecDepth 20000 in
theorem BX12_fatherOf_1_1 : ∀ q ∈ ([(35, 42), (36, 27), (37, 29), (41, 42), (42, 27), (43, 28), (50, 42), (51, 27), (52, 29), (56, 42), (57, 27), (58, 28)] : List (Nat × Nat)), gb cX12_fatherOf q.1 = some q.2 := seg_1 SX12_fatherOf _ (by decide +kernel)
set_option maxRecDepth 20000 in
theorem BX12_fatherOf_1_2 : ∀ q ∈ ([(65, 42), (69, 29), (70, 46), (71, 42), (75, 28), (76, 46), (80, 4), (84, 3), (92, 29), (96, 28), (97, 61), (104, 28)] : List (Nat × Nat)), gb cX12_fatherOf q.1 = some q.2 := seg_1 SX12_fatherOf _ (by decide +kernel)
set_option maxRecDepth 20000 in
theorem BX12_fatherOf_1_3 : ∀ q ∈ ([(105, 172)] : List (Nat × Nat)), gb cX12_fatherOf q.1 = some q.2 := seg_1 SX12_fatherOf _ (by decide +kernel)
set_option maxRecDepth 20000 in
theorem BX12_fatherOf_2_0 : ∀ q ∈ ([(0, 16, 254), (85, 54, 4), (87, 21, 4)] : List (Nat × Nat × Nat)), gb cX12_fatherOf q.1 = some q.2.1 ∧ gb cX12_fatherOf (q.1 + 1) = some q.2.2 := seg_2 SX12_fatherOf _ (by decide +kernel)
set_option maxRecDepth 20000 in
theorem BX12_fatherOf_3_0 : ∀ q ∈ ([(7, 180, 1, 21), (10, 162, 0, 94), (14, 180, 0, 80), (20, 180, 0, 80), (25, 161, 0, 6), (28, 167, 0, 70), (32, 155, 0, 48), (38, 182, 1, 29), (44, 182, 1, 29), (47, 161, 0, 33), (53, 182, 1, 29), (59, 182, 1, 29)] : List (Nat × Nat × Nat × Nat)), gb cX12_fatherOf q.1 = some q.2.1 ∧ gb cX12_fatherOf (q.1 + 1) = some q.2.2.1 ∧ gb cX12_fatherOf (q.1 + 2) = some q.2.2.2 := seg_3 SX12_fatherOf _ (by decide +kernel)
set_option maxRecDepth 20000 in
theorem BX12_fatherOf_3_1 : ∀ q ∈ ([(62, 160, 0, 22), (66, 180, 0, 80), (72, 180, 0, 80), (77, 164, 0, 7), (81, 167, 0, 4), (89, 153, 0, 7), (93, 167, 0, 4), (98, 132, 3, 1), (101, 167, 255, 160)] : List (Nat × Nat × Nat × Nat)), gb cX12_fatherOf q.1 = some q.2.1 ∧ gb cX12_fatherOf (q.1 + 1) = some q.2.2.1 ∧ gb cX12_fatherOf (q.1 + 2) = some q.2.2.2 := seg_3 SX12_fatherOf _ (by decide +kernel)
theorem dX12_fatherOf_0 : decode cX12_fatherOf 0 = .ok (.bipush (-2), 2) := dk16 254 (BX12_fatherOf_2_0 (0, 16, 254) (List.mem_of_getElem? (i := 0) rfl))
theorem dX12_fatherOf_2 : decode cX12_fatherOf 2 = .ok (.istore_n 2, 1) := dk61 (BX12_fatherOf_1_0 (2, 61) (List.mem_of_getElem? (i := 0) rfl))
theorem dX12_fatherOf_3 : decode cX12_fatherOf 3 = .ok (.iconst 0, 1) := dk3 (BX12_fatherOf_1_0 (3, 3) (List.mem_of_getElem? (i := 1) rfl))
theorem dX12_fatherOf_4 : decode cX12_fatherOf 4 = .ok (.istore_n 3, 1) := dk62 (BX12_fatherOf_1_0 (4, 62) (List.mem_of_getElem? (i := 2) rfl))
theorem dX12_fatherOf_5 : decode cX12_fatherOf 5 = .ok (.iload_n 3, 1) := dk29 (BX12_fatherOf_1_0 (5, 29) (List.mem_of_getElem? (i := 3) rfl))
theorem dX12_fatherOf_6 : decode cX12_fatherOf 6 = .ok (.aload_n 0, 1) := dk42 (BX12_fatherOf_1_0 (6, 42) (List.mem_of_getElem? (i := 4) rfl))
theorem dX12_fatherOf_7 : decode cX12_fatherOf 7 = .ok (.getfield 277, 3) := dk180 1 21 (BX12_fatherOf_3_0 (7, 180, 1, 21) (List.mem_of_getElem? (i := 0) rfl))
theorem dX12_fatherOf_10 : decode cX12_fatherOf 10 = .ok (.if_icmp .ge 94, 3) := dk162 0 94 (BX12_fatherOf_3_0 (10, 162, 0, 94) (List.mem_of_getElem? (i := 1) rfl))
theorem dX12_fatherOf_13 : decode cX12_fatherOf 13 = .ok (.aload_n 0, 1) := dk42 (BX12_fatherOf_1_0 (13, 42) (List.mem_of_getElem? (i := 5) rfl))
theorem dX12_fatherOf_14 : decode cX12_fatherOf 14 = .ok (.getfield 80, 3) := dk180 0 80 (BX12_fatherOf_3_0 (14, 180, 0, 80) (List.mem_of_getElem? (i := 2) rfl))
theorem dX12_fatherOf_17 : decode cX12_fatherOf 17 = .ok (.iload_n 3, 1) := dk29 (BX12_fatherOf_1_0 (17, 29) (List.mem_of_getElem? (i := 6) rfl))
theorem dX12_fatherOf_18 : decode cX12_fatherOf 18 = .ok (.iaload, 1) := dk46 (BX12_fatherOf_1_0 (18, 46) (List.mem_of_getElem? (i := 7) rfl))
theorem dX12_fatherOf_19 : decode cX12_fatherOf 19 = .ok (.aload_n 0, 1) := dk42 (BX12_fatherOf_1_0 (19, 42) (List.mem_of_getElem? (i := 8) rfl))
theorem dX12_fatherOf_20 : decode cX12_fatherOf 20 = .ok (.getfield 80, 3) := dk180 0 80 (BX12_fatherOf_3_0 (20, 180, 0, 80) (List.mem_of_getElem? (i := 3) rfl))
theorem dX12_fatherOf_23 : decode cX12_fatherOf 23 = .ok (.iload_n 1, 1) := dk27 (BX12_fatherOf_1_0 (23, 27) (List.mem_of_getElem? (i := 9) rfl))
theorem dX12_fatherOf_24 : decode cX12_fatherOf 24 = .ok (.iaload, 1) := dk46 (BX12_fatherOf_1_0 (24, 46) (List.mem_of_getElem? (i := 10) rfl))
theorem dX12_fatherOf_25 : decode cX12_fatherOf 25 = .ok (.if_icmp .lt 6, 3) := dk161 0 6 (BX12_fatherOf_3_0 (25, 161, 0, 6) (List.mem_of_getElem? (i := 4) rfl))
theorem dX12_fatherOf_28 : decode cX12_fatherOf 28 = .ok (.goto 70, 3) := dk167 0 70 (BX12_fatherOf_3_0 (28, 167, 0, 70) (List.mem_of_getElem? (i := 5) rfl))
theorem dX12_fatherOf_31 : decode cX12_fatherOf 31 = .ok (.iload_n 2, 1) := dk28 (BX12_fatherOf_1_0 (31, 28) (List.mem_of_getElem? (i := 11) rfl))
theorem dX12_fatherOf_32 : decode cX12_fatherOf 32 = .ok (.ifCond .lt 48, 3) := dk155 0 48 (BX12_fatherOf_3_0 (32, 155, 0, 48) (List.mem_of_getElem? (i := 6) rfl))
theorem dX12_fatherOf_35 : decode cX12_fatherOf 35 = .ok (.aload_n 0, 1) := dk42 (BX12_fatherOf_1_1 (35, 42) (List.mem_of_getElem? (i := 0) rfl))
theorem dX12_fatherOf_36 : decode cX12_fatherOf 36 = .ok (.iload_n 1, 1) := dk27 (BX12_fatherOf_1_1 (36, 27) (List.mem_of_getElem? (i := 1) rfl))
theorem dX12_fatherOf_37 : decode cX12_fatherOf 37 = .ok (.iload_n 3, 1) := dk29 (BX12_fatherOf_1_1 (37, 29) (List.mem_of_getElem? (i := 2) rfl))
theorem dX12_fatherOf_38 : decode cX12_fatherOf 38 = .ok (.invokevirtual 285, 3) := dk182 1 29 (BX12_fatherOf_3_0 (38, 182, 1, 29) (List.mem_of_getElem? (i := 7) rfl))
theorem dX12_fatherOf_41 : decode cX12_fatherOf 41 = .ok (.aload_n 0, 1) := dk42 (BX12_fatherOf_1_1 (41, 42) (List.mem_of_getElem? (i := 3) rfl))
theorem dX12_fatherOf_42 : decode cX12_fatherOf 42 = .ok (.iload_n 1, 1) := dk27 (BX12_fatherOf_1_1 (42, 27) (List.mem_of_getElem? (i := 4) rfl))
theorem dX12_fatherOf_43 : decode cX12_fatherOf 43 = .ok (.iload_n 2, 1) := dk28 (BX12_fatherOf_1_1 (43, 28) (List.mem_of_getElem? (i := 5) rfl))
theorem dX12_fatherOf_44 : decode cX12_fatherOf 44 = .ok (.invokevirtual 285, 3) := dk182 1 29 (BX12_fatherOf_3_0 (44, 182, 1, 29) (List.mem_of_getElem? (i := 8) rfl))
theorem dX12_fatherOf_47 : decode cX12_fatherOf 47 = .ok (.if_icmp .lt 33, 3) := dk161 0 33 (BX12_fatherOf_3_0 (47, 161, 0, 33) (List.mem_of_getElem? (i := 9) rfl))
theorem dX12_fatherOf_50 : decode cX12_fatherOf 50 = .ok (.aload_n 0, 1) := dk42 (BX12_fatherOf_1_1 (50, 42) (List.mem_of_getElem? (i := 6) rfl))
theorem dX12_fatherOf_51 : decode cX12_fatherOf 51 = .ok (.iload_n 1, 1) := dk27 (BX12_fatherOf_1_1 (51, 27) (List.mem_of_getElem? (i := 7) rfl))
theorem dX12_fatherOf_52 : decode cX12_fatherOf 52 = .ok (.iload_n 3, 1) := dk29 (BX12_fatherOf_1_1 (52, 29) (List.mem_of_getElem? (i := 8) rfl))
theorem dX12_fatherOf_53 : decode cX12_fatherOf 53 = .ok (.invokevirtual 285, 3) := dk182 1 29 (BX12_fatherOf_3_0 (53, 182, 1, 29) (List.mem_of_getElem? (i := 10) rfl))
theorem dX12_fatherOf_56 : decode cX12_fatherOf 56 = .ok (.aload_n 0, 1) := dk42 (BX12_fatherOf_1_1 (56, 42) (List.mem_of_getElem? (i := 9) rfl))
theorem dX12_fatherOf_57 : decode cX12_fatherOf 57 = .ok (.iload_n 1, 1) := dk27 (BX12_fatherOf_1_1 (57, 27) (List.mem_of_getElem? (i := 10) rfl))
theorem dX12_fatherOf_58 : decode cX12_fatherOf 58 = .ok (.iload_n 2, 1) := dk28 (BX12_fatherOf_1_1 (58, 28) (List.mem_of_getElem? (i := 11) rfl))
theorem dX12_fatherOf_59 : decode cX12_fatherOf 59 = .ok (.invokevirtual 285, 3) := dk182 1 29 (BX12_fatherOf_3_0 (59, 182, 1, 29) (List.mem_of_getElem? (i := 11) rfl))
theorem dX12_fatherOf_62 : decode cX12_fatherOf 62 = .ok (.if_icmp .ne 22, 3) := dk160 0 22 (BX12_fatherOf_3_1 (62, 160, 0, 22) (List.mem_of_getElem? (i := 0) rfl))
theorem dX12_fatherOf_65 : decode cX12_fatherOf 65 = .ok (.aload_n 0, 1) := dk42 (BX12_fatherOf_1_2 (65, 42) (List.mem_of_getElem? (i := 0) rfl))
theorem dX12_fatherOf_66 : decode cX12_fatherOf 66 = .ok (.getfield 80, 3) := dk180 0 80 (BX12_fatherOf_3_1 (66, 180, 0, 80) (List.mem_of_getElem? (i := 1) rfl))
theorem dX12_fatherOf_69 : decode cX12_fatherOf 69 = .ok (.iload_n 3, 1) := dk29 (BX12_fatherOf_1_2 (69, 29) (List.mem_of_getElem? (i := 1) rfl))
theorem dX12_fatherOf_70 : decode cX12_fatherOf 70 = .ok (.iaload, 1) := dk46 (BX12_fatherOf_1_2 (70, 46) (List.mem_of_getElem? (i := 2) rfl))
theorem dX12_fatherOf_71 : decode cX12_fatherOf 71 = .ok (.aload_n 0, 1) := dk42 (BX12_fatherOf_1_2 (71, 42) (List.mem_of_getElem? (i := 3) rfl))
theorem dX12_fatherOf_72 : decode cX12_fatherOf 72 = .ok (.getfield 80, 3) := dk180 0 80 (BX12_fatherOf_3_1 (72, 180, 0, 80) (List.mem_of_getElem? (i := 2) rfl))
theorem dX12_fatherOf_75 : decode cX12_fatherOf 75 = .ok (.iload_n 2, 1) := dk28 (BX12_fatherOf_1_2 (75, 28) (List.mem_of_getElem? (i := 4) rfl))
theorem dX12_fatherOf_76 : decode cX12_fatherOf 76 = .ok (.iaload, 1) := dk46 (BX12_fatherOf_1_2 (76, 46) (List.mem_of_getElem? (i := 5) rfl))
theorem dX12_fatherOf_77 : decode cX12_fatherOf 77 = .ok (.if_icmp .le 7, 3) := dk164 0 7 (BX12_fatherOf_3_1 (77, 164, 0, 7) (List.mem_of_getElem? (i := 3) rfl))
theorem dX12_fatherOf_80 : decode cX12_fatherOf 80 = .ok (.iconst 1, 1) := dk4 (BX12_fatherOf_1_2 (80, 4) (List.mem_of_getElem? (i := 6) rfl))
theorem dX12_fatherOf_81 : decode cX12_fatherOf 81 = .ok (.goto 4, 3) := dk167 0 4 (BX12_fatherOf_3_1 (81, 167, 0, 4) (List.mem_of_getElem? (i := 4) rfl))
theorem dX12_fatherOf_84 : decode cX12_fatherOf 84 = .ok (.iconst 0, 1) := dk3 (BX12_fatherOf_1_2 (84, 3) (List.mem_of_getElem? (i := 7) rfl))
theorem dX12_fatherOf_85 : decode cX12_fatherOf 85 = .ok (.istore 4, 2) := dk54 4 (BX12_fatherOf_2_0 (85, 54, 4) (List.mem_of_getElem? (i := 1) rfl))
theorem dX12_fatherOf_87 : decode cX12_fatherOf 87 = .ok (.iload 4, 2) := dk21 4 (BX12_fatherOf_2_0 (87, 21, 4) (List.mem_of_getElem? (i := 2) rfl))
theorem dX12_fatherOf_89 : decode cX12_fatherOf 89 = .ok (.ifCond .eq 7, 3) := dk153 0 7 (BX12_fatherOf_3_1 (89, 153, 0, 7) (List.mem_of_getElem? (i := 5) rfl))
theorem dX12_fatherOf_92 : decode cX12_fatherOf 92 = .ok (.iload_n 3, 1) := dk29 (BX12_fatherOf_1_2 (92, 29) (List.mem_of_getElem? (i := 8) rfl))
theorem dX12_fatherOf_93 : decode cX12_fatherOf 93 = .ok (.goto 4, 3) := dk167 0 4 (BX12_fatherOf_3_1 (93, 167, 0, 4) (List.mem_of_getElem? (i := 6) rfl))
theorem dX12_fatherOf_96 : decode cX12_fatherOf 96 = .ok (.iload_n 2, 1) := dk28 (BX12_fatherOf_1_2 (96, 28) (List.mem_of_getElem? (i := 9) rfl))
theorem dX12_fatherOf_97 : decode cX12_fatherOf 97 = .ok (.istore_n 2, 1) := dk61 (BX12_fatherOf_1_2 (97, 61) (List.mem_of_getElem? (i := 10) rfl))
theorem dX12_fatherOf_98 : decode cX12_fatherOf 98 = .ok (.iinc 3 1, 3) := dk132 3 1 (BX12_fatherOf_3_1 (98, 132, 3, 1) (List.mem_of_getElem? (i := 7) rfl))
theorem dX12_fatherOf_101 : decode cX12_fatherOf 101 = .ok (.goto (-96), 3) := dk167 255 160 (BX12_fatherOf_3_1 (101, 167, 255, 160) (List.mem_of_getElem? (i := 8) rfl))
theorem dX12_fatherOf_104 : decode cX12_fatherOf 104 = .ok (.iload_n 2, 1) := dk28 (BX12_fatherOf_1_2 (104, 28) (List.mem_of_getElem? (i := 11) rfl))
theorem dX12_fatherOf_105 : decode cX12_fatherOf 105 = .ok (.ireturn, 1) := dk172 (BX12_fatherOf_1_3 (105, 172) (List.mem_of_getElem? (i := 0) rfl))
set_option maxRecDepth 20000 in
theorem ggX12_father_X12_isMap : GoodIn wsX12_father wsX12_isMap := gcons (goodIn_g ch_wsX12_father_flat gd_wsX12_father _ [(1, 4)] rfl) (goodIn_app (goodIn_g ch_wsX12_father_flat gd_wsX12_father _ [(1, 5), (1, 6), (1, 7), (1, 3), (1, 8)] rfl) (gchunk ch_wsX12_father_flat gd_wsX12_father 2 rfl))
set_option maxRecDepth 20000 in
theorem gX12_father_X12_isMap : GoodIn wsX12_father (wsV RX12 288 RX12 yX12_isMap wsX12_isMap) := goodIn_app (goodIn_g ch_wsX12_father_flat gd_wsX12_father _ [(1, 0), (1, 1), (1, 2), (1, 3)] rfl) ggX12_father_X12_isMap
set_option maxRecDepth 20000 in
theorem ggX12_father_X12_within : GoodIn wsX12_father wsX12_within := goodIn_g ch_wsX12_father_flat gd_wsX12_father _ [(1, 8)] rfl
set_option maxRecDepth 20000 in
theorem gX12_father_X12_within : GoodIn wsX12_father (va_wsS RX12 136 yX12_within wsX12_within) := goodIn_app (goodIn_g ch_wsX12_father_flat gd_wsX12_father _ [(1, 6), (1, 7), (1, 3)] rfl) ggX12_father_X12_within
set_option maxRecDepth 20000 in
theorem ggX12_father_X12_fatherOf : GoodIn wsX12_father wsX12_fatherOf := gcons (goodIn_g ch_wsX12_father_flat gd_wsX12_father _ [(1, 12)] rfl) (goodIn_app (goodIn_g ch_wsX12_father_flat gd_wsX12_father _ [(1, 5), (1, 13), (1, 14), (1, 15), (1, 16), (1, 3), (1, 17), (1, 18), (1, 19), (1, 20), (1, 21)] rfl) (gchunk ch_wsX12_father_flat gd_wsX12_father 2 rfl))
set_option maxRecDepth 20000 in
theorem gX12_father_X12_fatherOf : GoodIn wsX12_father (wsV RX12 291 RX12 yX12_fatherOf wsX12_fatherOf) := goodIn_app (goodIn_g ch_wsX12_father_flat gd_wsX12_father _ [(1, 9), (1, 10), (1, 11), (1, 3)] rfl) ggX12_father_X12_fatherOf
set_option maxRecDepth 20000 in
theorem ggX12_father_X12_unlike : GoodIn wsX12_father wsX12_unlike := gcons (goodIn_g ch_wsX12_father_flat gd_wsX12_father _ [(1, 17)] rfl) (goodIn_app (goodIn_g ch_wsX12_father_flat gd_wsX12_father _ [(1, 18), (1, 19), (1, 20), (1, 3), (1, 21)] rfl) (gchunk ch_wsX12_father_flat gd_wsX12_father 2 rfl))
set_option maxRecDepth 20000 in
theorem gX12_father_X12_unlike : GoodIn wsX12_father (wsV RX12 285 RX12 yX12_unlike wsX12_unlike) := goodIn_app (goodIn_g ch_wsX12_father_flat gd_wsX12_father _ [(1, 14), (1, 15), (1, 16), (1, 3)] rfl) ggX12_father_X12_unlike
set_option maxRecDepth 20000 in
theorem SX12_father : ∀ p : Nat, gb cX12_father p = segF [[42, 27, 182, 1, 32, 153, 0, 13, 28, 133, 9, 10, 184, 0, 136, 154, 0, 5, 2, 172, 42, 27, 182, 1, 35, 62, 29, 156, 0, 8, 16, 254, 167, 0, 17, 28, 154, 0, 7, 29, 167, 0, 9, 42, 27, 29, 182, 1, 29, 172]] p := seg_gb (S := [[42, 27, 182, 1, 32, 153, 0, 13, 28, 133, 9, 10, 184, 0, 136, 154, 0, 5, 2, 172, 42, 27, 182, 1, 35, 62, 29, 156, 0, 8, 16, 254, 167, 0, 17, 28, 154, 0, 7, 29, 167, 0, 9, 42, 27, 29, 182, 1, 29, 172]]) (by decide +kernel) (by decide +kernel)
set_option maxRecDepth 20000 in
theorem BX12_father_1_0 : ∀ q ∈ ([(0, 42), (1, 27), (8, 28), (9, 133), (10, 9), (11, 10), (18, 2), (19, 172), (20, 42), (21, 27), (25, 62), (26, 29)] : List (Nat × Nat)), gb cX12_father q.1 = some q.2 := seg_1 SX12_father _ (by decide +kernel)
set_option maxRecDepth 20000 in
theorem BX12_father_1_1 : ∀ q ∈ ([(35, 28), (39, 29), (43, 42), (44, 27), (45, 29), (49, 172)] : List (Nat × Nat)), gb cX12_father q.1 = some q.2 := seg_1 SX12_father _ (by decide +kernel)
set_option maxRecDepth 20000 in
theorem BX12_father_2_0 : ∀ q ∈ ([(30, 16, 254)] : List (Nat × Nat × Nat)), gb cX12_father q.1 = some q.2.1 ∧ gb cX12_father (q.1 + 1) = some q.2.2 := seg_2 SX12_father _ (by decide +kernel)
set_option maxRecDepth 20000 in
theorem BX12_father_3_0 : ∀ q ∈ ([(2, 182, 1, 32), (5, 153, 0, 13), (12, 184, 0, 136), (15, 154, 0, 5), (22, 182, 1, 35), (27, 156, 0, 8), (32, 167, 0, 17), (36, 154, 0, 7), (40, 167, 0, 9), (46, 182, 1, 29)] : List (Nat × Nat × Nat × Nat)), gb cX12_father q.1 = some q.2.1 ∧ gb cX12_father (q.1 + 1) = some q.2.2.1 ∧ gb cX12_father (q.1 + 2) = some q.2.2.2 := seg_3 SX12_father _ (by decide +kernel)
theorem dX12_father_0 : decode cX12_father 0 = .ok (.aload_n 0, 1) := dk42 (BX12_father_1_0 (0, 42) (List.mem_of_getElem? (i := 0) rfl))
theorem dX12_father_1 : decode cX12_father 1 = .ok (.iload_n 1, 1) := dk27 (BX12_father_1_0 (1, 27) (List.mem_of_getElem? (i := 1) rfl))
theorem dX12_father_2 : decode cX12_father 2 = .ok (.invokevirtual 288, 3) := dk182 1 32 (BX12_father_3_0 (2, 182, 1, 32) (List.mem_of_getElem? (i := 0) rfl))
theorem dX12_father_5 : decode cX12_father 5 = .ok (.ifCond .eq 13, 3) := dk153 0 13 (BX12_father_3_0 (5, 153, 0, 13) (List.mem_of_getElem? (i := 1) rfl))
theorem dX12_father_8 : decode cX12_father 8 = .ok (.iload_n 2, 1) := dk28 (BX12_father_1_0 (8, 28) (List.mem_of_getElem? (i := 2) rfl))
theorem dX12_father_9 : decode cX12_father 9 = .ok (.i2l, 1) := dk133 (BX12_father_1_0 (9, 133) (List.mem_of_getElem? (i := 3) rfl))
theorem dX12_father_10 : decode cX12_father 10 = .ok (.lconst 0, 1) := dk9 (BX12_father_1_0 (10, 9) (List.mem_of_getElem? (i := 4) rfl))
theorem dX12_father_11 : decode cX12_father 11 = .ok (.lconst 1, 1) := dk10 (BX12_father_1_0 (11, 10) (List.mem_of_getElem? (i := 5) rfl))
theorem dX12_father_12 : decode cX12_father 12 = .ok (.invokestatic 136, 3) := dk184 0 136 (BX12_father_3_0 (12, 184, 0, 136) (List.mem_of_getElem? (i := 2) rfl))
theorem dX12_father_15 : decode cX12_father 15 = .ok (.ifCond .ne 5, 3) := dk154 0 5 (BX12_father_3_0 (15, 154, 0, 5) (List.mem_of_getElem? (i := 3) rfl))
theorem dX12_father_18 : decode cX12_father 18 = .ok (.iconst (-1), 1) := dk2 (BX12_father_1_0 (18, 2) (List.mem_of_getElem? (i := 6) rfl))
theorem dX12_father_19 : decode cX12_father 19 = .ok (.ireturn, 1) := dk172 (BX12_father_1_0 (19, 172) (List.mem_of_getElem? (i := 7) rfl))
theorem dX12_father_20 : decode cX12_father 20 = .ok (.aload_n 0, 1) := dk42 (BX12_father_1_0 (20, 42) (List.mem_of_getElem? (i := 8) rfl))
theorem dX12_father_21 : decode cX12_father 21 = .ok (.iload_n 1, 1) := dk27 (BX12_father_1_0 (21, 27) (List.mem_of_getElem? (i := 9) rfl))
theorem dX12_father_22 : decode cX12_father 22 = .ok (.invokevirtual 291, 3) := dk182 1 35 (BX12_father_3_0 (22, 182, 1, 35) (List.mem_of_getElem? (i := 4) rfl))
theorem dX12_father_25 : decode cX12_father 25 = .ok (.istore_n 3, 1) := dk62 (BX12_father_1_0 (25, 62) (List.mem_of_getElem? (i := 10) rfl))
theorem dX12_father_26 : decode cX12_father 26 = .ok (.iload_n 3, 1) := dk29 (BX12_father_1_0 (26, 29) (List.mem_of_getElem? (i := 11) rfl))
theorem dX12_father_27 : decode cX12_father 27 = .ok (.ifCond .ge 8, 3) := dk156 0 8 (BX12_father_3_0 (27, 156, 0, 8) (List.mem_of_getElem? (i := 5) rfl))
theorem dX12_father_30 : decode cX12_father 30 = .ok (.bipush (-2), 2) := dk16 254 (BX12_father_2_0 (30, 16, 254) (List.mem_of_getElem? (i := 0) rfl))
theorem dX12_father_32 : decode cX12_father 32 = .ok (.goto 17, 3) := dk167 0 17 (BX12_father_3_0 (32, 167, 0, 17) (List.mem_of_getElem? (i := 6) rfl))
theorem dX12_father_35 : decode cX12_father 35 = .ok (.iload_n 2, 1) := dk28 (BX12_father_1_1 (35, 28) (List.mem_of_getElem? (i := 0) rfl))
theorem dX12_father_36 : decode cX12_father 36 = .ok (.ifCond .ne 7, 3) := dk154 0 7 (BX12_father_3_0 (36, 154, 0, 7) (List.mem_of_getElem? (i := 7) rfl))
theorem dX12_father_39 : decode cX12_father 39 = .ok (.iload_n 3, 1) := dk29 (BX12_father_1_1 (39, 29) (List.mem_of_getElem? (i := 1) rfl))
theorem dX12_father_40 : decode cX12_father 40 = .ok (.goto 9, 3) := dk167 0 9 (BX12_father_3_0 (40, 167, 0, 9) (List.mem_of_getElem? (i := 8) rfl))
theorem dX12_father_43 : decode cX12_father 43 = .ok (.aload_n 0, 1) := dk42 (BX12_father_1_1 (43, 42) (List.mem_of_getElem? (i := 2) rfl))
theorem dX12_father_44 : decode cX12_father 44 = .ok (.iload_n 1, 1) := dk27 (BX12_father_1_1 (44, 27) (List.mem_of_getElem? (i := 3) rfl))
theorem dX12_father_45 : decode cX12_father 45 = .ok (.iload_n 3, 1) := dk29 (BX12_father_1_1 (45, 29) (List.mem_of_getElem? (i := 4) rfl))
theorem dX12_father_46 : decode cX12_father 46 = .ok (.invokevirtual 285, 3) := dk182 1 29 (BX12_father_3_0 (46, 182, 1, 29) (List.mem_of_getElem? (i := 9) rfl))
theorem dX12_father_49 : decode cX12_father 49 = .ok (.ireturn, 1) := dk172 (BX12_father_1_1 (49, 172) (List.mem_of_getElem? (i := 5) rfl))
set_option maxRecDepth 20000 in
theorem ggX12_hangs_X12_isMap : GoodIn wsX12_hangs wsX12_isMap := gcons (goodIn_g ch_wsX12_hangs_flat gd_wsX12_hangs _ [(1, 4)] rfl) (goodIn_app (goodIn_g ch_wsX12_hangs_flat gd_wsX12_hangs _ [(1, 5), (1, 6), (1, 7), (1, 3), (1, 8)] rfl) (gchunk ch_wsX12_hangs_flat gd_wsX12_hangs 2 rfl))
set_option maxRecDepth 20000 in
theorem gX12_hangs_X12_isMap : GoodIn wsX12_hangs (wsV RX12 288 RX12 yX12_isMap wsX12_isMap) := goodIn_app (goodIn_g ch_wsX12_hangs_flat gd_wsX12_hangs _ [(1, 0), (1, 1), (1, 2), (1, 3)] rfl) ggX12_hangs_X12_isMap
set_option maxRecDepth 20000 in
theorem ggX12_hangs_X12_fatherOf : GoodIn wsX12_hangs wsX12_fatherOf := gcons (goodIn_g ch_wsX12_hangs_flat gd_wsX12_hangs _ [(1, 12)] rfl) (goodIn_app (goodIn_g ch_wsX12_hangs_flat gd_wsX12_hangs _ [(1, 5), (1, 13), (1, 14), (1, 15), (1, 16), (1, 3), (1, 17), (1, 18), (1, 19), (1, 20), (1, 21)] rfl) (gchunk ch_wsX12_hangs_flat gd_wsX12_hangs 2 rfl))
set_option maxRecDepth 20000 in
theorem gX12_hangs_X12_fatherOf : GoodIn wsX12_hangs (wsV RX12 291 RX12 yX12_fatherOf wsX12_fatherOf) := goodIn_app (goodIn_g ch_wsX12_hangs_flat gd_wsX12_hangs _ [(1, 9), (1, 10), (1, 11), (1, 3)] rfl) ggX12_hangs_X12_fatherOf
set_option maxRecDepth 20000 in
theorem SX12_hangs : ∀ p : Nat, gb cX12_hangs p = segF [[27, 155, 0, 25, 42, 27, 16, 10, 108, 182, 1, 32, 153, 0, 14, 42, 27, 16, 10, 112, 182, 1, 32, 154, 0, 5, 2, 172, 42, 27, 16, 10, 108, 182, 1, 35, 61, 28, 155, 0, 20, 28, 27, 16, 10, 112, 159, 0, 12, 42, 28, 182, 1, 35, 61, 167, 255, 238, 28, 155, 0, 7, 4, 167], [0, 4, 3, 172]] p := seg_gb (S := [[27, 155, 0, 25, 42, 27, 16, 10, 108, 182, 1, 32, 153, 0, 14, 42, 27, 16, 10, 112, 182, 1, 32, 154, 0, 5, 2, 172, 42, 27, 16, 10, 108, 182, 1, 35, 61, 28, 155, 0, 20, 28, 27, 16, 10, 112, 159, 0, 12, 42, 28, 182, 1, 35, 61, 167, 255, 238, 28, 155, 0, 7, 4, 167], [0, 4, 3, 172]]) (by decide +kernel) (by decide +kernel)
set_option maxRecDepth 20000 in
theorem BX12_hangs_1_0 : ∀ q ∈ ([(0, 27), (4, 42), (5, 27), (8, 108), (15, 42), (16, 27), (19, 112), (26, 2), (27, 172), (28, 42), (29, 27), (32, 108)] : List (Nat × Nat)), gb cX12_hangs q.1 = some q.2 := seg_1 SX12_hangs _ (by decide +kernel)
set_option maxRecDepth 20000 in
theorem BX12_hangs_1_1 : ∀ q ∈ ([(36, 61), (37, 28), (41, 28), (42, 27), (45, 112), (49, 42), (50, 28), (54, 61), (58, 28), (62, 4), (66, 3), (67, 172)] : List (Nat × Nat)), gb cX12_hangs q.1 = some q.2 := seg_1 SX12_hangs _ (by decide +kernel)
set_option maxRecDepth 20000 in
theorem BX12_hangs_2_0 : ∀ q ∈ ([(6, 16, 10), (17, 16, 10), (30, 16, 10), (43, 16, 10)] : List (Nat × Nat × Nat)), gb cX12_hangs q.1 = some q.2.1 ∧ gb cX12_hangs (q.1 + 1) = some q.2.2 := seg_2 SX12_hangs _ (by decide +kernel)
set_option maxRecDepth 20000 in
theorem BX12_hangs_3_0 : ∀ q ∈ ([(1, 155, 0, 25), (9, 182, 1, 32), (12, 153, 0, 14), (20, 182, 1, 32), (23, 154, 0, 5), (33, 182, 1, 35), (38, 155, 0, 20), (46, 159, 0, 12), (51, 182, 1, 35), (55, 167, 255, 238), (59, 155, 0, 7), (63, 167, 0, 4)] : List (Nat × Nat × Nat × Nat)), gb cX12_hangs q.1 = some q.2.1 ∧ gb cX12_hangs (q.1 + 1) = some q.2.2.1 ∧ gb cX12_hangs (q.1 + 2) = some q.2.2.2 := seg_3 SX12_hangs _ (by decide +kernel)
theorem dX12_hangs_0 : decode cX12_hangs 0 = .ok (.iload_n 1, 1) := dk27 (BX12_hangs_1_0 (0, 27) (List.mem_of_getElem? (i := 0) rfl))
theorem dX12_hangs_1 : decode cX12_hangs 1 = .ok (.ifCond .lt 25, 3) := dk155 0 25 (BX12_hangs_3_0 (1, 155, 0, 25) (List.mem_of_getElem? (i := 0) rfl))
theorem dX12_hangs_4 : decode cX12_hangs 4 = .ok (.aload_n 0, 1) := dk42 (BX12_hangs_1_0 (4, 42) (List.mem_of_getElem? (i := 1) rfl))
theorem dX12_hangs_5 : decode cX12_hangs 5 = .ok (.iload_n 1, 1) := dk27 (BX12_hangs_1_0 (5, 27) (List.mem_of_getElem? (i := 2) rfl))
theorem dX12_hangs_6 : decode cX12_hangs 6 = .ok (.bipush 10, 2) := dk16 10 (BX12_hangs_2_0 (6, 16, 10) (List.mem_of_getElem? (i := 0) rfl))
theorem dX12_hangs_8 : decode cX12_hangs 8 = .ok (.idiv, 1) := dk108 (BX12_hangs_1_0 (8, 108) (List.mem_of_getElem? (i := 3) rfl))
theorem dX12_hangs_9 : decode cX12_hangs 9 = .ok (.invokevirtual 288, 3) := dk182 1 32 (BX12_hangs_3_0 (9, 182, 1, 32) (List.mem_of_getElem? (i := 1) rfl))
theorem dX12_hangs_12 : decode cX12_hangs 12 = .ok (.ifCond .eq 14, 3) := dk153 0 14 (BX12_hangs_3_0 (12, 153, 0, 14) (List.mem_of_getElem? (i := 2) rfl))
theorem dX12_hangs_15 : decode cX12_hangs 15 = .ok (.aload_n 0, 1) := dk42 (BX12_hangs_1_0 (15, 42) (List.mem_of_getElem? (i := 4) rfl))
theorem dX12_hangs_16 : decode cX12_hangs 16 = .ok (.iload_n 1, 1) := dk27 (BX12_hangs_1_0 (16, 27) (List.mem_of_getElem? (i := 5) rfl))
theorem dX12_hangs_17 : decode cX12_hangs 17 = .ok (.bipush 10, 2) := dk16 10 (BX12_hangs_2_0 (17, 16, 10) (List.mem_of_getElem? (i := 1) rfl))
theorem dX12_hangs_19 : decode cX12_hangs 19 = .ok (.irem, 1) := dk112 (BX12_hangs_1_0 (19, 112) (List.mem_of_getElem? (i := 6) rfl))
theorem dX12_hangs_20 : decode cX12_hangs 20 = .ok (.invokevirtual 288, 3) := dk182 1 32 (BX12_hangs_3_0 (20, 182, 1, 32) (List.mem_of_getElem? (i := 3) rfl))
theorem dX12_hangs_23 : decode cX12_hangs 23 = .ok (.ifCond .ne 5, 3) := dk154 0 5 (BX12_hangs_3_0 (23, 154, 0, 5) (List.mem_of_getElem? (i := 4) rfl))
theorem dX12_hangs_26 : decode cX12_hangs 26 = .ok (.iconst (-1), 1) := dk2 (BX12_hangs_1_0 (26, 2) (List.mem_of_getElem? (i := 7) rfl))
theorem dX12_hangs_27 : decode cX12_hangs 27 = .ok (.ireturn, 1) := dk172 (BX12_hangs_1_0 (27, 172) (List.mem_of_getElem? (i := 8) rfl))
theorem dX12_hangs_28 : decode cX12_hangs 28 = .ok (.aload_n 0, 1) := dk42 (BX12_hangs_1_0 (28, 42) (List.mem_of_getElem? (i := 9) rfl))
theorem dX12_hangs_29 : decode cX12_hangs 29 = .ok (.iload_n 1, 1) := dk27 (BX12_hangs_1_0 (29, 27) (List.mem_of_getElem? (i := 10) rfl))
theorem dX12_hangs_30 : decode cX12_hangs 30 = .ok (.bipush 10, 2) := dk16 10 (BX12_hangs_2_0 (30, 16, 10) (List.mem_of_getElem? (i := 2) rfl))
theorem dX12_hangs_32 : decode cX12_hangs 32 = .ok (.idiv, 1) := dk108 (BX12_hangs_1_0 (32, 108) (List.mem_of_getElem? (i := 11) rfl))
theorem dX12_hangs_33 : decode cX12_hangs 33 = .ok (.invokevirtual 291, 3) := dk182 1 35 (BX12_hangs_3_0 (33, 182, 1, 35) (List.mem_of_getElem? (i := 5) rfl))
theorem dX12_hangs_36 : decode cX12_hangs 36 = .ok (.istore_n 2, 1) := dk61 (BX12_hangs_1_1 (36, 61) (List.mem_of_getElem? (i := 0) rfl))
theorem dX12_hangs_37 : decode cX12_hangs 37 = .ok (.iload_n 2, 1) := dk28 (BX12_hangs_1_1 (37, 28) (List.mem_of_getElem? (i := 1) rfl))
theorem dX12_hangs_38 : decode cX12_hangs 38 = .ok (.ifCond .lt 20, 3) := dk155 0 20 (BX12_hangs_3_0 (38, 155, 0, 20) (List.mem_of_getElem? (i := 6) rfl))
theorem dX12_hangs_41 : decode cX12_hangs 41 = .ok (.iload_n 2, 1) := dk28 (BX12_hangs_1_1 (41, 28) (List.mem_of_getElem? (i := 2) rfl))
theorem dX12_hangs_42 : decode cX12_hangs 42 = .ok (.iload_n 1, 1) := dk27 (BX12_hangs_1_1 (42, 27) (List.mem_of_getElem? (i := 3) rfl))
theorem dX12_hangs_43 : decode cX12_hangs 43 = .ok (.bipush 10, 2) := dk16 10 (BX12_hangs_2_0 (43, 16, 10) (List.mem_of_getElem? (i := 3) rfl))
theorem dX12_hangs_45 : decode cX12_hangs 45 = .ok (.irem, 1) := dk112 (BX12_hangs_1_1 (45, 112) (List.mem_of_getElem? (i := 4) rfl))
theorem dX12_hangs_46 : decode cX12_hangs 46 = .ok (.if_icmp .eq 12, 3) := dk159 0 12 (BX12_hangs_3_0 (46, 159, 0, 12) (List.mem_of_getElem? (i := 7) rfl))
theorem dX12_hangs_49 : decode cX12_hangs 49 = .ok (.aload_n 0, 1) := dk42 (BX12_hangs_1_1 (49, 42) (List.mem_of_getElem? (i := 5) rfl))
theorem dX12_hangs_50 : decode cX12_hangs 50 = .ok (.iload_n 2, 1) := dk28 (BX12_hangs_1_1 (50, 28) (List.mem_of_getElem? (i := 6) rfl))
theorem dX12_hangs_51 : decode cX12_hangs 51 = .ok (.invokevirtual 291, 3) := dk182 1 35 (BX12_hangs_3_0 (51, 182, 1, 35) (List.mem_of_getElem? (i := 8) rfl))
theorem dX12_hangs_54 : decode cX12_hangs 54 = .ok (.istore_n 2, 1) := dk61 (BX12_hangs_1_1 (54, 61) (List.mem_of_getElem? (i := 7) rfl))
theorem dX12_hangs_55 : decode cX12_hangs 55 = .ok (.goto (-18), 3) := dk167 255 238 (BX12_hangs_3_0 (55, 167, 255, 238) (List.mem_of_getElem? (i := 9) rfl))
theorem dX12_hangs_58 : decode cX12_hangs 58 = .ok (.iload_n 2, 1) := dk28 (BX12_hangs_1_1 (58, 28) (List.mem_of_getElem? (i := 8) rfl))
theorem dX12_hangs_59 : decode cX12_hangs 59 = .ok (.ifCond .lt 7, 3) := dk155 0 7 (BX12_hangs_3_0 (59, 155, 0, 7) (List.mem_of_getElem? (i := 10) rfl))
theorem dX12_hangs_62 : decode cX12_hangs 62 = .ok (.iconst 1, 1) := dk4 (BX12_hangs_1_1 (62, 4) (List.mem_of_getElem? (i := 9) rfl))
theorem dX12_hangs_63 : decode cX12_hangs 63 = .ok (.goto 4, 3) := dk167 0 4 (BX12_hangs_3_0 (63, 167, 0, 4) (List.mem_of_getElem? (i := 11) rfl))
theorem dX12_hangs_66 : decode cX12_hangs 66 = .ok (.iconst 0, 1) := dk3 (BX12_hangs_1_1 (66, 3) (List.mem_of_getElem? (i := 10) rfl))
theorem dX12_hangs_67 : decode cX12_hangs 67 = .ok (.ireturn, 1) := dk172 (BX12_hangs_1_1 (67, 172) (List.mem_of_getElem? (i := 11) rfl))
set_option maxRecDepth 20000 in
theorem ggX12_shared_X12_fatherOf : GoodIn wsX12_shared wsX12_fatherOf := gcons (goodIn_g ch_wsX12_shared_flat gd_wsX12_shared _ [(1, 6)] rfl) (goodIn_app (goodIn_g ch_wsX12_shared_flat gd_wsX12_shared _ [(1, 0), (1, 7), (1, 8), (1, 9), (1, 10), (1, 5), (1, 11), (1, 1), (1, 12), (1, 13), (1, 14)] rfl) (gchunk ch_wsX12_shared_flat gd_wsX12_shared 2 rfl))
set_option maxRecDepth 20000 in
theorem gX12_shared_X12_fatherOf : GoodIn wsX12_shared (wsV RX12 291 RX12 yX12_fatherOf wsX12_fatherOf) := goodIn_app (goodIn_g ch_wsX12_shared_flat gd_wsX12_shared _ [(1, 2), (1, 3), (1, 4), (1, 5)] rfl) ggX12_shared_X12_fatherOf
set_option maxRecDepth 20000 in
theorem ggX12_shared_X12_unlike : GoodIn wsX12_shared wsX12_unlike := gcons (goodIn_g ch_wsX12_shared_flat gd_wsX12_shared _ [(1, 11)] rfl) (goodIn_app (goodIn_g ch_wsX12_shared_flat gd_wsX12_shared _ [(1, 1), (1, 12), (1, 13), (1, 5), (1, 14)] rfl) (gchunk ch_wsX12_shared_flat gd_wsX12_shared 2 rfl))
set_option maxRecDepth 20000 in
theorem gX12_shared_X12_unlike : GoodIn wsX12_shared (wsV RX12 285 RX12 yX12_unlike wsX12_unlike) := goodIn_app (goodIn_g ch_wsX12_shared_flat gd_wsX12_shared _ [(1, 8), (1, 9), (1, 10), (1, 5)] rfl) ggX12_shared_X12_unlike
set_option maxRecDepth 20000 in
theorem ggX12_shared_X12_isMap : GoodIn wsX12_shared wsX12_isMap := gcons (goodIn_g ch_wsX12_shared_flat gd_wsX12_shared _ [(1, 18)] rfl) (goodIn_app (goodIn_g ch_wsX12_shared_flat gd_wsX12_shared _ [(1, 0), (1, 19), (1, 20), (1, 5), (1, 21)] rfl) (gchunk ch_wsX12_shared_flat gd_wsX12_shared 2 rfl))
set_option maxRecDepth 20000 in
theorem gX12_shared_X12_isMap : GoodIn wsX12_shared (wsV RX12 288 RX12 yX12_isMap wsX12_isMap) := goodIn_app (goodIn_g ch_wsX12_shared_flat gd_wsX12_shared _ [(1, 15), (1, 16), (1, 17), (1, 5)] rfl) ggX12_shared_X12_isMap
set_option maxRecDepth 20000 in
theorem SX12_shared : ∀ p : Nat, gb cX12_shared p = segF [[27, 2, 160, 0, 48, 3, 61, 3, 62, 29, 42, 180, 1, 21, 162, 0, 34, 28, 42, 29, 182, 1, 35, 156, 0, 7, 3, 167, 0, 13, 42, 29, 42, 29, 182, 1, 35, 182, 1, 29, 96, 61, 132, 3, 1, 167, 255, 220, 28, 172, 27, 155, 0, 36, 42, 27, 16, 10, 108, 182, 1, 32, 153, 0], [25, 42, 27, 16, 10, 112, 182, 1, 32, 153, 0, 14, 27, 16, 10, 108, 27, 16, 10, 112, 160, 0, 5, 2, 172, 42, 180, 0, 83, 27, 16, 10, 108, 46, 42, 180, 0, 83, 27, 16, 10, 112, 46, 126, 61, 3, 62, 29, 42, 180, 1, 21, 162, 0, 40, 29, 27, 16, 10, 108, 159, 0, 11, 29], [27, 16, 10, 112, 160, 0, 7, 28, 167, 0, 13, 28, 42, 180, 0, 83, 29, 46, 2, 130, 126, 61, 132, 3, 1, 167, 255, 214, 28, 172]] p := seg_gb (S := [[27, 2, 160, 0, 48, 3, 61, 3, 62, 29, 42, 180, 1, 21, 162, 0, 34, 28, 42, 29, 182, 1, 35, 156, 0, 7, 3, 167, 0, 13, 42, 29, 42, 29, 182, 1, 35, 182, 1, 29, 96, 61, 132, 3, 1, 167, 255, 220, 28, 172, 27, 155, 0, 36, 42, 27, 16, 10, 108, 182, 1, 32, 153, 0], [25, 42, 27, 16, 10, 112, 182, 1, 32, 153, 0, 14, 27, 16, 10, 108, 27, 16, 10, 112, 160, 0, 5, 2, 172, 42, 180, 0, 83, 27, 16, 10, 108, 46, 42, 180, 0, 83, 27, 16, 10, 112, 46, 126, 61, 3, 62, 29, 42, 180, 1, 21, 162, 0, 40, 29, 27, 16, 10, 108, 159, 0, 11, 29], [27, 16, 10, 112, 160, 0, 7, 28, 167, 0, 13, 28, 42, 180, 0, 83, 29, 46, 2, 130, 126, 61, 132, 3, 1, 167, 255, 214, 28, 172]]) (by decide +kernel) (by decide +kernel)
set_option maxRecDepth 20000 in
theorem BX12_shared_1_0 : ∀ q ∈ ([(0, 27), (1, 2), (5, 3), (6, 61), (7, 3), (8, 62), (9, 29), (10, 42), (17, 28), (18, 42), (19, 29), (26, 3)] : List (Nat × Nat)), gb cX12_shared q.1 = some q.2 := seg_1 SX12_shared _ (by decide +kernel)
set_option maxRecDepth 20000 in
theorem BX12_shared_1_1 : ∀ q ∈ ([(30, 42), (31, 29), (32, 42), (33, 29), (40, 96), (41, 61), (48, 28), (49, 172), (50, 27), (54, 42), (55, 27), (58, 108)] : List (Nat × Nat)), gb cX12_shared q.1 = some q.2 := seg_1 SX12_shared _ (by decide +kernel)
set_option maxRecDepth 20000 in
theorem BX12_shared_1_2 : ∀ q ∈ ([(65, 42), (66, 27), (69, 112), (76, 27), (79, 108), (80, 27), (83, 112), (87, 2), (88, 172), (89, 42), (93, 27), (96, 108)] : List (Nat × Nat)), gb cX12_shared q.1 = some q.2 := seg_1 SX12_shared _ (by decide +kernel)
set_option maxRecDepth 20000 in
theorem BX12_shared_1_3 : ∀ q ∈ ([(97, 46), (98, 42), (102, 27), (105, 112), (106, 46), (107, 126), (108, 61), (109, 3), (110, 62), (111, 29), (112, 42), (119, 29)] : List (Nat × Nat)), gb cX12_shared q.1 = some q.2 := seg_1 SX12_shared _ (by decide +kernel)
set_option maxRecDepth 20000 in
theorem BX12_shared_1_4 : ∀ q ∈ ([(120, 27), (123, 108), (127, 29), (128, 27), (131, 112), (135, 28), (139, 28), (140, 42), (144, 29), (145, 46), (146, 2), (147, 130)] : List (Nat × Nat)), gb cX12_shared q.1 = some q.2 := seg_1 SX12_shared _ (by decide +kernel)
set_option maxRecDepth 20000 in
theorem BX12_shared_1_5 : ∀ q ∈ ([(148, 126), (149, 61), (156, 28), (157, 172)] : List (Nat × Nat)), gb cX12_shared q.1 = some q.2 := seg_1 SX12_shared _ (by decide +kernel)
set_option maxRecDepth 20000 in
theorem BX12_shared_2_0 : ∀ q ∈ ([(56, 16, 10), (67, 16, 10), (77, 16, 10), (81, 16, 10), (94, 16, 10), (103, 16, 10), (121, 16, 10), (129, 16, 10)] : List (Nat × Nat × Nat)), gb cX12_shared q.1 = some q.2.1 ∧ gb cX12_shared (q.1 + 1) = some q.2.2 := seg_2 SX12_shared _ (by decide +kernel)
set_option maxRecDepth 20000 in
theorem BX12_shared_3_0 : ∀ q ∈ ([(2, 160, 0, 48), (11, 180, 1, 21), (14, 162, 0, 34), (20, 182, 1, 35), (23, 156, 0, 7), (27, 167, 0, 13), (34, 182, 1, 35), (37, 182, 1, 29), (42, 132, 3, 1), (45, 167, 255, 220), (51, 155, 0, 36), (59, 182, 1, 32)] : List (Nat × Nat × Nat × Nat)), gb cX12_shared q.1 = some q.2.1 ∧ gb cX12_shared (q.1 + 1) = some q.2.2.1 ∧ gb cX12_shared (q.1 + 2) = some q.2.2.2 := seg_3 SX12_shared _ (by decide +kernel)
set_option maxRecDepth 20000 in
theorem BX12_shared_3_1 : ∀ q ∈ ([(62, 153, 0, 25), (70, 182, 1, 32), (73, 153, 0, 14), (84, 160, 0, 5), (90, 180, 0, 83), (99, 180, 0, 83), (113, 180, 1, 21), (116, 162, 0, 40), (124, 159, 0, 11), (132, 160, 0, 7), (136, 167, 0, 13), (141, 180, 0, 83)] : List (Nat × Nat × Nat × Nat)), gb cX12_shared q.1 = some q.2.1 ∧ gb cX12_shared (q.1 + 1) = some q.2.2.1 ∧ gb cX12_shared (q.1 + 2) = some q.2.2.2 := seg_3 SX12_shared _ (by decide +kernel)
set_option maxRecDepth 20000 in
theorem BX12_shared_3_2 : ∀ q ∈ ([(150, 132, 3, 1), (153, 167, 255, 214)] : List (Nat × Nat × Nat × Nat)), gb cX12_shared q.1 = some q.2.1 ∧ gb cX12_shared (q.1 + 1) = some q.2.2.1 ∧ gb cX12_shared (q.1 + 2) = some q.2.2.2 := seg_3 SX12_shared _ (by decide +kernel)
theorem dX12_shared_0 : decode cX12_shared 0 = .ok (.iload_n 1, 1) := dk27 (BX12_shared_1_0 (0, 27) (List.mem_of_getElem? (i := 0) rfl))
theorem dX12_shared_1 : decode cX12_shared 1 = .ok (.iconst (-1), 1) := dk2 (BX12_shared_1_0 (1, 2) (List.mem_of_getElem? (i := 1) rfl))
theorem dX12_shared_2 : decode cX12_shared 2 = .ok (.if_icmp .ne 48, 3) := dk160 0 48 (BX12_shared_3_0 (2, 160, 0, 48) (List.mem_of_getElem? (i := 0) rfl))
theorem dX12_shared_5 : decode cX12_shared 5 = .ok (.iconst 0, 1) := dk3 (BX12_shared_1_0 (5, 3) (List.mem_of_getElem? (i := 2) rfl))
theorem dX12_shared_6 : decode cX12_shared 6 = .ok (.istore_n 2, 1) := dk61 (BX12_shared_1_0 (6, 61) (List.mem_of_getElem? (i := 3) rfl))
theorem dX12_shared_7 : decode cX12_shared 7 = .ok (.iconst 0, 1) := dk3 (BX12_shared_1_0 (7, 3) (List.mem_of_getElem? (i := 4) rfl))
theorem dX12_shared_8 : decode cX12_shared 8 = .ok (.istore_n 3, 1) := dk62 (BX12_shared_1_0 (8, 62) (List.mem_of_getElem? (i := 5) rfl))
theorem dX12_shared_9 : decode cX12_shared 9 = .ok (.iload_n 3, 1) := dk29 (BX12_shared_1_0 (9, 29) (List.mem_of_getElem? (i := 6) rfl))
theorem dX12_shared_10 : decode cX12_shared 10 = .ok (.aload_n 0, 1) := dk42 (BX12_shared_1_0 (10, 42) (List.mem_of_getElem? (i := 7) rfl))
theorem dX12_shared_11 : decode cX12_shared 11 = .ok (.getfield 277, 3) := dk180 1 21 (BX12_shared_3_0 (11, 180, 1, 21) (List.mem_of_getElem? (i := 1) rfl))
theorem dX12_shared_14 : decode cX12_shared 14 = .ok (.if_icmp .ge 34, 3) := dk162 0 34 (BX12_shared_3_0 (14, 162, 0, 34) (List.mem_of_getElem? (i := 2) rfl))
theorem dX12_shared_17 : decode cX12_shared 17 = .ok (.iload_n 2, 1) := dk28 (BX12_shared_1_0 (17, 28) (List.mem_of_getElem? (i := 8) rfl))
theorem dX12_shared_18 : decode cX12_shared 18 = .ok (.aload_n 0, 1) := dk42 (BX12_shared_1_0 (18, 42) (List.mem_of_getElem? (i := 9) rfl))
theorem dX12_shared_19 : decode cX12_shared 19 = .ok (.iload_n 3, 1) := dk29 (BX12_shared_1_0 (19, 29) (List.mem_of_getElem? (i := 10) rfl))
theorem dX12_shared_20 : decode cX12_shared 20 = .ok (.invokevirtual 291, 3) := dk182 1 35 (BX12_shared_3_0 (20, 182, 1, 35) (List.mem_of_getElem? (i := 3) rfl))
theorem dX12_shared_23 : decode cX12_shared 23 = .ok (.ifCond .ge 7, 3) := dk156 0 7 (BX12_shared_3_0 (23, 156, 0, 7) (List.mem_of_getElem? (i := 4) rfl))
theorem dX12_shared_26 : decode cX12_shared 26 = .ok (.iconst 0, 1) := dk3 (BX12_shared_1_0 (26, 3) (List.mem_of_getElem? (i := 11) rfl))
theorem dX12_shared_27 : decode cX12_shared 27 = .ok (.goto 13, 3) := dk167 0 13 (BX12_shared_3_0 (27, 167, 0, 13) (List.mem_of_getElem? (i := 5) rfl))
theorem dX12_shared_30 : decode cX12_shared 30 = .ok (.aload_n 0, 1) := dk42 (BX12_shared_1_1 (30, 42) (List.mem_of_getElem? (i := 0) rfl))
theorem dX12_shared_31 : decode cX12_shared 31 = .ok (.iload_n 3, 1) := dk29 (BX12_shared_1_1 (31, 29) (List.mem_of_getElem? (i := 1) rfl))
theorem dX12_shared_32 : decode cX12_shared 32 = .ok (.aload_n 0, 1) := dk42 (BX12_shared_1_1 (32, 42) (List.mem_of_getElem? (i := 2) rfl))
theorem dX12_shared_33 : decode cX12_shared 33 = .ok (.iload_n 3, 1) := dk29 (BX12_shared_1_1 (33, 29) (List.mem_of_getElem? (i := 3) rfl))
theorem dX12_shared_34 : decode cX12_shared 34 = .ok (.invokevirtual 291, 3) := dk182 1 35 (BX12_shared_3_0 (34, 182, 1, 35) (List.mem_of_getElem? (i := 6) rfl))
theorem dX12_shared_37 : decode cX12_shared 37 = .ok (.invokevirtual 285, 3) := dk182 1 29 (BX12_shared_3_0 (37, 182, 1, 29) (List.mem_of_getElem? (i := 7) rfl))
theorem dX12_shared_40 : decode cX12_shared 40 = .ok (.iadd, 1) := dk96 (BX12_shared_1_1 (40, 96) (List.mem_of_getElem? (i := 4) rfl))
theorem dX12_shared_41 : decode cX12_shared 41 = .ok (.istore_n 2, 1) := dk61 (BX12_shared_1_1 (41, 61) (List.mem_of_getElem? (i := 5) rfl))
theorem dX12_shared_42 : decode cX12_shared 42 = .ok (.iinc 3 1, 3) := dk132 3 1 (BX12_shared_3_0 (42, 132, 3, 1) (List.mem_of_getElem? (i := 8) rfl))
theorem dX12_shared_45 : decode cX12_shared 45 = .ok (.goto (-36), 3) := dk167 255 220 (BX12_shared_3_0 (45, 167, 255, 220) (List.mem_of_getElem? (i := 9) rfl))
theorem dX12_shared_48 : decode cX12_shared 48 = .ok (.iload_n 2, 1) := dk28 (BX12_shared_1_1 (48, 28) (List.mem_of_getElem? (i := 6) rfl))
theorem dX12_shared_49 : decode cX12_shared 49 = .ok (.ireturn, 1) := dk172 (BX12_shared_1_1 (49, 172) (List.mem_of_getElem? (i := 7) rfl))
theorem dX12_shared_50 : decode cX12_shared 50 = .ok (.iload_n 1, 1) := dk27 (BX12_shared_1_1 (50, 27) (List.mem_of_getElem? (i := 8) rfl))
theorem dX12_shared_51 : decode cX12_shared 51 = .ok (.ifCond .lt 36, 3) := dk155 0 36 (BX12_shared_3_0 (51, 155, 0, 36) (List.mem_of_getElem? (i := 10) rfl))
theorem dX12_shared_54 : decode cX12_shared 54 = .ok (.aload_n 0, 1) := dk42 (BX12_shared_1_1 (54, 42) (List.mem_of_getElem? (i := 9) rfl))
theorem dX12_shared_55 : decode cX12_shared 55 = .ok (.iload_n 1, 1) := dk27 (BX12_shared_1_1 (55, 27) (List.mem_of_getElem? (i := 10) rfl))
theorem dX12_shared_56 : decode cX12_shared 56 = .ok (.bipush 10, 2) := dk16 10 (BX12_shared_2_0 (56, 16, 10) (List.mem_of_getElem? (i := 0) rfl))
theorem dX12_shared_58 : decode cX12_shared 58 = .ok (.idiv, 1) := dk108 (BX12_shared_1_1 (58, 108) (List.mem_of_getElem? (i := 11) rfl))
theorem dX12_shared_59 : decode cX12_shared 59 = .ok (.invokevirtual 288, 3) := dk182 1 32 (BX12_shared_3_0 (59, 182, 1, 32) (List.mem_of_getElem? (i := 11) rfl))
theorem dX12_shared_62 : decode cX12_shared 62 = .ok (.ifCond .eq 25, 3) := dk153 0 25 (BX12_shared_3_1 (62, 153, 0, 25) (List.mem_of_getElem? (i := 0) rfl))
theorem dX12_shared_65 : decode cX12_shared 65 = .ok (.aload_n 0, 1) := dk42 (BX12_shared_1_2 (65, 42) (List.mem_of_getElem? (i := 0) rfl))
theorem dX12_shared_66 : decode cX12_shared 66 = .ok (.iload_n 1, 1) := dk27 (BX12_shared_1_2 (66, 27) (List.mem_of_getElem? (i := 1) rfl))
theorem dX12_shared_67 : decode cX12_shared 67 = .ok (.bipush 10, 2) := dk16 10 (BX12_shared_2_0 (67, 16, 10) (List.mem_of_getElem? (i := 1) rfl))
theorem dX12_shared_69 : decode cX12_shared 69 = .ok (.irem, 1) := dk112 (BX12_shared_1_2 (69, 112) (List.mem_of_getElem? (i := 2) rfl))
theorem dX12_shared_70 : decode cX12_shared 70 = .ok (.invokevirtual 288, 3) := dk182 1 32 (BX12_shared_3_1 (70, 182, 1, 32) (List.mem_of_getElem? (i := 1) rfl))
theorem dX12_shared_73 : decode cX12_shared 73 = .ok (.ifCond .eq 14, 3) := dk153 0 14 (BX12_shared_3_1 (73, 153, 0, 14) (List.mem_of_getElem? (i := 2) rfl))
theorem dX12_shared_76 : decode cX12_shared 76 = .ok (.iload_n 1, 1) := dk27 (BX12_shared_1_2 (76, 27) (List.mem_of_getElem? (i := 3) rfl))
theorem dX12_shared_77 : decode cX12_shared 77 = .ok (.bipush 10, 2) := dk16 10 (BX12_shared_2_0 (77, 16, 10) (List.mem_of_getElem? (i := 2) rfl))
theorem dX12_shared_79 : decode cX12_shared 79 = .ok (.idiv, 1) := dk108 (BX12_shared_1_2 (79, 108) (List.mem_of_getElem? (i := 4) rfl))
theorem dX12_shared_80 : decode cX12_shared 80 = .ok (.iload_n 1, 1) := dk27 (BX12_shared_1_2 (80, 27) (List.mem_of_getElem? (i := 5) rfl))
theorem dX12_shared_81 : decode cX12_shared 81 = .ok (.bipush 10, 2) := dk16 10 (BX12_shared_2_0 (81, 16, 10) (List.mem_of_getElem? (i := 3) rfl))
theorem dX12_shared_83 : decode cX12_shared 83 = .ok (.irem, 1) := dk112 (BX12_shared_1_2 (83, 112) (List.mem_of_getElem? (i := 6) rfl))
theorem dX12_shared_84 : decode cX12_shared 84 = .ok (.if_icmp .ne 5, 3) := dk160 0 5 (BX12_shared_3_1 (84, 160, 0, 5) (List.mem_of_getElem? (i := 3) rfl))
theorem dX12_shared_87 : decode cX12_shared 87 = .ok (.iconst (-1), 1) := dk2 (BX12_shared_1_2 (87, 2) (List.mem_of_getElem? (i := 7) rfl))
theorem dX12_shared_88 : decode cX12_shared 88 = .ok (.ireturn, 1) := dk172 (BX12_shared_1_2 (88, 172) (List.mem_of_getElem? (i := 8) rfl))
theorem dX12_shared_89 : decode cX12_shared 89 = .ok (.aload_n 0, 1) := dk42 (BX12_shared_1_2 (89, 42) (List.mem_of_getElem? (i := 9) rfl))
theorem dX12_shared_90 : decode cX12_shared 90 = .ok (.getfield 83, 3) := dk180 0 83 (BX12_shared_3_1 (90, 180, 0, 83) (List.mem_of_getElem? (i := 4) rfl))
theorem dX12_shared_93 : decode cX12_shared 93 = .ok (.iload_n 1, 1) := dk27 (BX12_shared_1_2 (93, 27) (List.mem_of_getElem? (i := 10) rfl))
theorem dX12_shared_94 : decode cX12_shared 94 = .ok (.bipush 10, 2) := dk16 10 (BX12_shared_2_0 (94, 16, 10) (List.mem_of_getElem? (i := 4) rfl))
theorem dX12_shared_96 : decode cX12_shared 96 = .ok (.idiv, 1) := dk108 (BX12_shared_1_2 (96, 108) (List.mem_of_getElem? (i := 11) rfl))
theorem dX12_shared_97 : decode cX12_shared 97 = .ok (.iaload, 1) := dk46 (BX12_shared_1_3 (97, 46) (List.mem_of_getElem? (i := 0) rfl))
theorem dX12_shared_98 : decode cX12_shared 98 = .ok (.aload_n 0, 1) := dk42 (BX12_shared_1_3 (98, 42) (List.mem_of_getElem? (i := 1) rfl))
theorem dX12_shared_99 : decode cX12_shared 99 = .ok (.getfield 83, 3) := dk180 0 83 (BX12_shared_3_1 (99, 180, 0, 83) (List.mem_of_getElem? (i := 5) rfl))
theorem dX12_shared_102 : decode cX12_shared 102 = .ok (.iload_n 1, 1) := dk27 (BX12_shared_1_3 (102, 27) (List.mem_of_getElem? (i := 2) rfl))
theorem dX12_shared_103 : decode cX12_shared 103 = .ok (.bipush 10, 2) := dk16 10 (BX12_shared_2_0 (103, 16, 10) (List.mem_of_getElem? (i := 5) rfl))
theorem dX12_shared_105 : decode cX12_shared 105 = .ok (.irem, 1) := dk112 (BX12_shared_1_3 (105, 112) (List.mem_of_getElem? (i := 3) rfl))
theorem dX12_shared_106 : decode cX12_shared 106 = .ok (.iaload, 1) := dk46 (BX12_shared_1_3 (106, 46) (List.mem_of_getElem? (i := 4) rfl))
theorem dX12_shared_107 : decode cX12_shared 107 = .ok (.iand, 1) := dk126 (BX12_shared_1_3 (107, 126) (List.mem_of_getElem? (i := 5) rfl))
theorem dX12_shared_108 : decode cX12_shared 108 = .ok (.istore_n 2, 1) := dk61 (BX12_shared_1_3 (108, 61) (List.mem_of_getElem? (i := 6) rfl))
theorem dX12_shared_109 : decode cX12_shared 109 = .ok (.iconst 0, 1) := dk3 (BX12_shared_1_3 (109, 3) (List.mem_of_getElem? (i := 7) rfl))
theorem dX12_shared_110 : decode cX12_shared 110 = .ok (.istore_n 3, 1) := dk62 (BX12_shared_1_3 (110, 62) (List.mem_of_getElem? (i := 8) rfl))
theorem dX12_shared_111 : decode cX12_shared 111 = .ok (.iload_n 3, 1) := dk29 (BX12_shared_1_3 (111, 29) (List.mem_of_getElem? (i := 9) rfl))
theorem dX12_shared_112 : decode cX12_shared 112 = .ok (.aload_n 0, 1) := dk42 (BX12_shared_1_3 (112, 42) (List.mem_of_getElem? (i := 10) rfl))
theorem dX12_shared_113 : decode cX12_shared 113 = .ok (.getfield 277, 3) := dk180 1 21 (BX12_shared_3_1 (113, 180, 1, 21) (List.mem_of_getElem? (i := 6) rfl))
theorem dX12_shared_116 : decode cX12_shared 116 = .ok (.if_icmp .ge 40, 3) := dk162 0 40 (BX12_shared_3_1 (116, 162, 0, 40) (List.mem_of_getElem? (i := 7) rfl))
theorem dX12_shared_119 : decode cX12_shared 119 = .ok (.iload_n 3, 1) := dk29 (BX12_shared_1_3 (119, 29) (List.mem_of_getElem? (i := 11) rfl))
theorem dX12_shared_120 : decode cX12_shared 120 = .ok (.iload_n 1, 1) := dk27 (BX12_shared_1_4 (120, 27) (List.mem_of_getElem? (i := 0) rfl))
theorem dX12_shared_121 : decode cX12_shared 121 = .ok (.bipush 10, 2) := dk16 10 (BX12_shared_2_0 (121, 16, 10) (List.mem_of_getElem? (i := 6) rfl))
theorem dX12_shared_123 : decode cX12_shared 123 = .ok (.idiv, 1) := dk108 (BX12_shared_1_4 (123, 108) (List.mem_of_getElem? (i := 1) rfl))
theorem dX12_shared_124 : decode cX12_shared 124 = .ok (.if_icmp .eq 11, 3) := dk159 0 11 (BX12_shared_3_1 (124, 159, 0, 11) (List.mem_of_getElem? (i := 8) rfl))
theorem dX12_shared_127 : decode cX12_shared 127 = .ok (.iload_n 3, 1) := dk29 (BX12_shared_1_4 (127, 29) (List.mem_of_getElem? (i := 2) rfl))
theorem dX12_shared_128 : decode cX12_shared 128 = .ok (.iload_n 1, 1) := dk27 (BX12_shared_1_4 (128, 27) (List.mem_of_getElem? (i := 3) rfl))
theorem dX12_shared_129 : decode cX12_shared 129 = .ok (.bipush 10, 2) := dk16 10 (BX12_shared_2_0 (129, 16, 10) (List.mem_of_getElem? (i := 7) rfl))
theorem dX12_shared_131 : decode cX12_shared 131 = .ok (.irem, 1) := dk112 (BX12_shared_1_4 (131, 112) (List.mem_of_getElem? (i := 4) rfl))
theorem dX12_shared_132 : decode cX12_shared 132 = .ok (.if_icmp .ne 7, 3) := dk160 0 7 (BX12_shared_3_1 (132, 160, 0, 7) (List.mem_of_getElem? (i := 9) rfl))
theorem dX12_shared_135 : decode cX12_shared 135 = .ok (.iload_n 2, 1) := dk28 (BX12_shared_1_4 (135, 28) (List.mem_of_getElem? (i := 5) rfl))
theorem dX12_shared_136 : decode cX12_shared 136 = .ok (.goto 13, 3) := dk167 0 13 (BX12_shared_3_1 (136, 167, 0, 13) (List.mem_of_getElem? (i := 10) rfl))
theorem dX12_shared_139 : decode cX12_shared 139 = .ok (.iload_n 2, 1) := dk28 (BX12_shared_1_4 (139, 28) (List.mem_of_getElem? (i := 6) rfl))
theorem dX12_shared_140 : decode cX12_shared 140 = .ok (.aload_n 0, 1) := dk42 (BX12_shared_1_4 (140, 42) (List.mem_of_getElem? (i := 7) rfl))
theorem dX12_shared_141 : decode cX12_shared 141 = .ok (.getfield 83, 3) := dk180 0 83 (BX12_shared_3_1 (141, 180, 0, 83) (List.mem_of_getElem? (i := 11) rfl))
theorem dX12_shared_144 : decode cX12_shared 144 = .ok (.iload_n 3, 1) := dk29 (BX12_shared_1_4 (144, 29) (List.mem_of_getElem? (i := 8) rfl))
theorem dX12_shared_145 : decode cX12_shared 145 = .ok (.iaload, 1) := dk46 (BX12_shared_1_4 (145, 46) (List.mem_of_getElem? (i := 9) rfl))
theorem dX12_shared_146 : decode cX12_shared 146 = .ok (.iconst (-1), 1) := dk2 (BX12_shared_1_4 (146, 2) (List.mem_of_getElem? (i := 10) rfl))
theorem dX12_shared_147 : decode cX12_shared 147 = .ok (.ixor, 1) := dk130 (BX12_shared_1_4 (147, 130) (List.mem_of_getElem? (i := 11) rfl))
theorem dX12_shared_148 : decode cX12_shared 148 = .ok (.iand, 1) := dk126 (BX12_shared_1_5 (148, 126) (List.mem_of_getElem? (i := 0) rfl))
theorem dX12_shared_149 : decode cX12_shared 149 = .ok (.istore_n 2, 1) := dk61 (BX12_shared_1_5 (149, 61) (List.mem_of_getElem? (i := 1) rfl))
theorem dX12_shared_150 : decode cX12_shared 150 = .ok (.iinc 3 1, 3) := dk132 3 1 (BX12_shared_3_2 (150, 132, 3, 1) (List.mem_of_getElem? (i := 0) rfl))
theorem dX12_shared_153 : decode cX12_shared 153 = .ok (.goto (-42), 3) := dk167 255 214 (BX12_shared_3_2 (153, 167, 255, 214) (List.mem_of_getElem? (i := 1) rfl))
theorem dX12_shared_156 : decode cX12_shared 156 = .ok (.iload_n 2, 1) := dk28 (BX12_shared_1_5 (156, 28) (List.mem_of_getElem? (i := 2) rfl))
theorem dX12_shared_157 : decode cX12_shared 157 = .ok (.ireturn, 1) := dk172 (BX12_shared_1_5 (157, 172) (List.mem_of_getElem? (i := 3) rfl))
set_option maxRecDepth 20000 in
theorem ggX12_feed_X12_within : GoodIn wsX12_feed wsX12_within := goodIn_g ch_wsX12_feed_flat gd_wsX12_feed _ [(1, 6)] rfl
set_option maxRecDepth 20000 in
theorem gX12_feed_X12_within : GoodIn wsX12_feed (va_wsS RX12 136 yX12_within wsX12_within) := goodIn_app (goodIn_g ch_wsX12_feed_flat gd_wsX12_feed _ [(1, 3), (1, 4), (1, 5)] rfl) ggX12_feed_X12_within
set_option maxRecDepth 20000 in
theorem SX12_feed : ∀ p : Nat, gb cX12_feed p = segF [[27, 133, 10, 20, 0, 221, 184, 0, 136, 154, 0, 5, 2, 172, 42, 180, 1, 38, 27, 96, 16, 120, 164, 0, 6, 16, 253, 172, 3, 62, 29, 27, 162, 0, 38, 42, 180, 0, 86, 42, 180, 1, 38, 28, 16, 8, 29, 104, 122, 17, 0, 255, 126, 79, 42, 89, 180, 1, 38, 4, 96, 181, 1, 38], [132, 3, 1, 167, 255, 219, 42, 180, 1, 38, 172]] p := seg_gb (S := [[27, 133, 10, 20, 0, 221, 184, 0, 136, 154, 0, 5, 2, 172, 42, 180, 1, 38, 27, 96, 16, 120, 164, 0, 6, 16, 253, 172, 3, 62, 29, 27, 162, 0, 38, 42, 180, 0, 86, 42, 180, 1, 38, 28, 16, 8, 29, 104, 122, 17, 0, 255, 126, 79, 42, 89, 180, 1, 38, 4, 96, 181, 1, 38], [132, 3, 1, 167, 255, 219, 42, 180, 1, 38, 172]]) (by decide +kernel) (by decide +kernel)
set_option maxRecDepth 20000 in
theorem BX12_feed_1_0 : ∀ q ∈ ([(0, 27), (1, 133), (2, 10), (12, 2), (13, 172), (14, 42), (18, 27), (19, 96), (27, 172), (28, 3), (29, 62), (30, 29)] : List (Nat × Nat)), gb cX12_feed q.1 = some q.2 := seg_1 SX12_feed _ (by decide +kernel)
set_option maxRecDepth 20000 in
theorem BX12_feed_1_1 : ∀ q ∈ ([(31, 27), (35, 42), (39, 42), (43, 28), (46, 29), (47, 104), (48, 122), (52, 126), (53, 79), (54, 42), (55, 89), (59, 4)] : List (Nat × Nat)), gb cX12_feed q.1 = some q.2 := seg_1 SX12_feed _ (by decide +kernel)
set_option maxRecDepth 20000 in
theorem BX12_feed_1_2 : ∀ q ∈ ([(60, 96), (70, 42), (74, 172)] : List (Nat × Nat)), gb cX12_feed q.1 = some q.2 := seg_1 SX12_feed _ (by decide +kernel)
set_option maxRecDepth 20000 in
theorem BX12_feed_2_0 : ∀ q ∈ ([(20, 16, 120), (25, 16, 253), (44, 16, 8)] : List (Nat × Nat × Nat)), gb cX12_feed q.1 = some q.2.1 ∧ gb cX12_feed (q.1 + 1) = some q.2.2 := seg_2 SX12_feed _ (by decide +kernel)
set_option maxRecDepth 20000 in
theorem BX12_feed_3_0 : ∀ q ∈ ([(3, 20, 0, 221), (6, 184, 0, 136), (9, 154, 0, 5), (15, 180, 1, 38), (22, 164, 0, 6), (32, 162, 0, 38), (36, 180, 0, 86), (40, 180, 1, 38), (49, 17, 0, 255), (56, 180, 1, 38), (61, 181, 1, 38), (64, 132, 3, 1)] : List (Nat × Nat × Nat × Nat)), gb cX12_feed q.1 = some q.2.1 ∧ gb cX12_feed (q.1 + 1) = some q.2.2.1 ∧ gb cX12_feed (q.1 + 2) = some q.2.2.2 := seg_3 SX12_feed _ (by decide +kernel)
set_option maxRecDepth 20000 in
theorem BX12_feed_3_1 : ∀ q ∈ ([(67, 167, 255, 219), (71, 180, 1, 38)] : List (Nat × Nat × Nat × Nat)), gb cX12_feed q.1 = some q.2.1 ∧ gb cX12_feed (q.1 + 1) = some q.2.2.1 ∧ gb cX12_feed (q.1 + 2) = some q.2.2.2 := seg_3 SX12_feed _ (by decide +kernel)
theorem dX12_feed_0 : decode cX12_feed 0 = .ok (.iload_n 1, 1) := dk27 (BX12_feed_1_0 (0, 27) (List.mem_of_getElem? (i := 0) rfl))
theorem dX12_feed_1 : decode cX12_feed 1 = .ok (.i2l, 1) := dk133 (BX12_feed_1_0 (1, 133) (List.mem_of_getElem? (i := 1) rfl))
theorem dX12_feed_2 : decode cX12_feed 2 = .ok (.lconst 1, 1) := dk10 (BX12_feed_1_0 (2, 10) (List.mem_of_getElem? (i := 2) rfl))
theorem dX12_feed_3 : decode cX12_feed 3 = .ok (.ldc2_w 221, 3) := dk20 0 221 (BX12_feed_3_0 (3, 20, 0, 221) (List.mem_of_getElem? (i := 0) rfl))
theorem dX12_feed_6 : decode cX12_feed 6 = .ok (.invokestatic 136, 3) := dk184 0 136 (BX12_feed_3_0 (6, 184, 0, 136) (List.mem_of_getElem? (i := 1) rfl))
theorem dX12_feed_9 : decode cX12_feed 9 = .ok (.ifCond .ne 5, 3) := dk154 0 5 (BX12_feed_3_0 (9, 154, 0, 5) (List.mem_of_getElem? (i := 2) rfl))
theorem dX12_feed_12 : decode cX12_feed 12 = .ok (.iconst (-1), 1) := dk2 (BX12_feed_1_0 (12, 2) (List.mem_of_getElem? (i := 3) rfl))
theorem dX12_feed_13 : decode cX12_feed 13 = .ok (.ireturn, 1) := dk172 (BX12_feed_1_0 (13, 172) (List.mem_of_getElem? (i := 4) rfl))
theorem dX12_feed_14 : decode cX12_feed 14 = .ok (.aload_n 0, 1) := dk42 (BX12_feed_1_0 (14, 42) (List.mem_of_getElem? (i := 5) rfl))
theorem dX12_feed_15 : decode cX12_feed 15 = .ok (.getfield 294, 3) := dk180 1 38 (BX12_feed_3_0 (15, 180, 1, 38) (List.mem_of_getElem? (i := 3) rfl))
theorem dX12_feed_18 : decode cX12_feed 18 = .ok (.iload_n 1, 1) := dk27 (BX12_feed_1_0 (18, 27) (List.mem_of_getElem? (i := 6) rfl))
theorem dX12_feed_19 : decode cX12_feed 19 = .ok (.iadd, 1) := dk96 (BX12_feed_1_0 (19, 96) (List.mem_of_getElem? (i := 7) rfl))
theorem dX12_feed_20 : decode cX12_feed 20 = .ok (.bipush 120, 2) := dk16 120 (BX12_feed_2_0 (20, 16, 120) (List.mem_of_getElem? (i := 0) rfl))
theorem dX12_feed_22 : decode cX12_feed 22 = .ok (.if_icmp .le 6, 3) := dk164 0 6 (BX12_feed_3_0 (22, 164, 0, 6) (List.mem_of_getElem? (i := 4) rfl))
theorem dX12_feed_25 : decode cX12_feed 25 = .ok (.bipush (-3), 2) := dk16 253 (BX12_feed_2_0 (25, 16, 253) (List.mem_of_getElem? (i := 1) rfl))
theorem dX12_feed_27 : decode cX12_feed 27 = .ok (.ireturn, 1) := dk172 (BX12_feed_1_0 (27, 172) (List.mem_of_getElem? (i := 8) rfl))
theorem dX12_feed_28 : decode cX12_feed 28 = .ok (.iconst 0, 1) := dk3 (BX12_feed_1_0 (28, 3) (List.mem_of_getElem? (i := 9) rfl))
theorem dX12_feed_29 : decode cX12_feed 29 = .ok (.istore_n 3, 1) := dk62 (BX12_feed_1_0 (29, 62) (List.mem_of_getElem? (i := 10) rfl))
theorem dX12_feed_30 : decode cX12_feed 30 = .ok (.iload_n 3, 1) := dk29 (BX12_feed_1_0 (30, 29) (List.mem_of_getElem? (i := 11) rfl))
theorem dX12_feed_31 : decode cX12_feed 31 = .ok (.iload_n 1, 1) := dk27 (BX12_feed_1_1 (31, 27) (List.mem_of_getElem? (i := 0) rfl))
theorem dX12_feed_32 : decode cX12_feed 32 = .ok (.if_icmp .ge 38, 3) := dk162 0 38 (BX12_feed_3_0 (32, 162, 0, 38) (List.mem_of_getElem? (i := 5) rfl))
theorem dX12_feed_35 : decode cX12_feed 35 = .ok (.aload_n 0, 1) := dk42 (BX12_feed_1_1 (35, 42) (List.mem_of_getElem? (i := 1) rfl))
theorem dX12_feed_36 : decode cX12_feed 36 = .ok (.getfield 86, 3) := dk180 0 86 (BX12_feed_3_0 (36, 180, 0, 86) (List.mem_of_getElem? (i := 6) rfl))
theorem dX12_feed_39 : decode cX12_feed 39 = .ok (.aload_n 0, 1) := dk42 (BX12_feed_1_1 (39, 42) (List.mem_of_getElem? (i := 2) rfl))
theorem dX12_feed_40 : decode cX12_feed 40 = .ok (.getfield 294, 3) := dk180 1 38 (BX12_feed_3_0 (40, 180, 1, 38) (List.mem_of_getElem? (i := 7) rfl))
theorem dX12_feed_43 : decode cX12_feed 43 = .ok (.iload_n 2, 1) := dk28 (BX12_feed_1_1 (43, 28) (List.mem_of_getElem? (i := 3) rfl))
theorem dX12_feed_44 : decode cX12_feed 44 = .ok (.bipush 8, 2) := dk16 8 (BX12_feed_2_0 (44, 16, 8) (List.mem_of_getElem? (i := 2) rfl))
theorem dX12_feed_46 : decode cX12_feed 46 = .ok (.iload_n 3, 1) := dk29 (BX12_feed_1_1 (46, 29) (List.mem_of_getElem? (i := 4) rfl))
theorem dX12_feed_47 : decode cX12_feed 47 = .ok (.imul, 1) := dk104 (BX12_feed_1_1 (47, 104) (List.mem_of_getElem? (i := 5) rfl))
theorem dX12_feed_48 : decode cX12_feed 48 = .ok (.ishr, 1) := dk122 (BX12_feed_1_1 (48, 122) (List.mem_of_getElem? (i := 6) rfl))
theorem dX12_feed_49 : decode cX12_feed 49 = .ok (.sipush 255, 3) := dk17 0 255 (BX12_feed_3_0 (49, 17, 0, 255) (List.mem_of_getElem? (i := 8) rfl))
theorem dX12_feed_52 : decode cX12_feed 52 = .ok (.iand, 1) := dk126 (BX12_feed_1_1 (52, 126) (List.mem_of_getElem? (i := 7) rfl))
theorem dX12_feed_53 : decode cX12_feed 53 = .ok (.iastore, 1) := dk79 (BX12_feed_1_1 (53, 79) (List.mem_of_getElem? (i := 8) rfl))
theorem dX12_feed_54 : decode cX12_feed 54 = .ok (.aload_n 0, 1) := dk42 (BX12_feed_1_1 (54, 42) (List.mem_of_getElem? (i := 9) rfl))
theorem dX12_feed_55 : decode cX12_feed 55 = .ok (.dup, 1) := dk89 (BX12_feed_1_1 (55, 89) (List.mem_of_getElem? (i := 10) rfl))
theorem dX12_feed_56 : decode cX12_feed 56 = .ok (.getfield 294, 3) := dk180 1 38 (BX12_feed_3_0 (56, 180, 1, 38) (List.mem_of_getElem? (i := 9) rfl))
theorem dX12_feed_59 : decode cX12_feed 59 = .ok (.iconst 1, 1) := dk4 (BX12_feed_1_1 (59, 4) (List.mem_of_getElem? (i := 11) rfl))
theorem dX12_feed_60 : decode cX12_feed 60 = .ok (.iadd, 1) := dk96 (BX12_feed_1_2 (60, 96) (List.mem_of_getElem? (i := 0) rfl))
theorem dX12_feed_61 : decode cX12_feed 61 = .ok (.putfield 294, 3) := dk181 1 38 (BX12_feed_3_0 (61, 181, 1, 38) (List.mem_of_getElem? (i := 10) rfl))
theorem dX12_feed_64 : decode cX12_feed 64 = .ok (.iinc 3 1, 3) := dk132 3 1 (BX12_feed_3_0 (64, 132, 3, 1) (List.mem_of_getElem? (i := 11) rfl))
theorem dX12_feed_67 : decode cX12_feed 67 = .ok (.goto (-37), 3) := dk167 255 219 (BX12_feed_3_1 (67, 167, 255, 219) (List.mem_of_getElem? (i := 0) rfl))
theorem dX12_feed_70 : decode cX12_feed 70 = .ok (.aload_n 0, 1) := dk42 (BX12_feed_1_2 (70, 42) (List.mem_of_getElem? (i := 1) rfl))
theorem dX12_feed_71 : decode cX12_feed 71 = .ok (.getfield 294, 3) := dk180 1 38 (BX12_feed_3_1 (71, 180, 1, 38) (List.mem_of_getElem? (i := 1) rfl))
theorem dX12_feed_74 : decode cX12_feed 74 = .ok (.ireturn, 1) := dk172 (BX12_feed_1_2 (74, 172) (List.mem_of_getElem? (i := 2) rfl))
set_option maxRecDepth 20000 in
theorem SX12_byteAt : ∀ p : Nat, gb cX12_byteAt p = segF [[42, 180, 1, 41, 42, 180, 1, 44, 162, 0, 39, 42, 180, 1, 47, 156, 0, 15, 42, 180, 0, 86, 42, 180, 1, 41, 46, 167, 0, 21, 42, 180, 0, 92, 42, 180, 1, 47, 42, 180, 1, 41, 96, 46, 167, 0, 4, 3, 172]] p := seg_gb (S := [[42, 180, 1, 41, 42, 180, 1, 44, 162, 0, 39, 42, 180, 1, 47, 156, 0, 15, 42, 180, 0, 86, 42, 180, 1, 41, 46, 167, 0, 21, 42, 180, 0, 92, 42, 180, 1, 47, 42, 180, 1, 41, 96, 46, 167, 0, 4, 3, 172]]) (by decide +kernel) (by decide +kernel)
set_option maxRecDepth 20000 in
theorem BX12_byteAt_1_0 : ∀ q ∈ ([(0, 42), (4, 42), (11, 42), (18, 42), (22, 42), (26, 46), (30, 42), (34, 42), (38, 42), (42, 96), (43, 46), (47, 3)] : List (Nat × Nat)), gb cX12_byteAt q.1 = some q.2 := seg_1 SX12_byteAt _ (by decide +kernel)
set_option maxRecDepth 20000 in
theorem BX12_byteAt_1_1 : ∀ q ∈ ([(48, 172)] : List (Nat × Nat)), gb cX12_byteAt q.1 = some q.2 := seg_1 SX12_byteAt _ (by decide +kernel)
set_option maxRecDepth 20000 in
theorem BX12_byteAt_3_0 : ∀ q ∈ ([(1, 180, 1, 41), (5, 180, 1, 44), (8, 162, 0, 39), (12, 180, 1, 47), (15, 156, 0, 15), (19, 180, 0, 86), (23, 180, 1, 41), (27, 167, 0, 21), (31, 180, 0, 92), (35, 180, 1, 47), (39, 180, 1, 41), (44, 167, 0, 4)] : List (Nat × Nat × Nat × Nat)), gb cX12_byteAt q.1 = some q.2.1 ∧ gb cX12_byteAt (q.1 + 1) = some q.2.2.1 ∧ gb cX12_byteAt (q.1 + 2) = some q.2.2.2 := seg_3 SX12_byteAt _ (by decide +kernel)
theorem dX12_byteAt_0 : decode cX12_byteAt 0 = .ok (.aload_n 0, 1) := dk42 (BX12_byteAt_1_0 (0, 42) (List.mem_of_getElem? (i := 0) rfl))
theorem dX12_byteAt_1 : decode cX12_byteAt 1 = .ok (.getfield 297, 3) := dk180 1 41 (BX12_byteAt_3_0 (1, 180, 1, 41) (List.mem_of_getElem? (i := 0) rfl))
theorem dX12_byteAt_4 : decode cX12_byteAt 4 = .ok (.aload_n 0, 1) := dk42 (BX12_byteAt_1_0 (4, 42) (List.mem_of_getElem? (i := 1) rfl))
theorem dX12_byteAt_5 : decode cX12_byteAt 5 = .ok (.getfield 300, 3) := dk180 1 44 (BX12_byteAt_3_0 (5, 180, 1, 44) (List.mem_of_getElem? (i := 1) rfl))
theorem dX12_byteAt_8 : decode cX12_byteAt 8 = .ok (.if_icmp .ge 39, 3) := dk162 0 39 (BX12_byteAt_3_0 (8, 162, 0, 39) (List.mem_of_getElem? (i := 2) rfl))
theorem dX12_byteAt_11 : decode cX12_byteAt 11 = .ok (.aload_n 0, 1) := dk42 (BX12_byteAt_1_0 (11, 42) (List.mem_of_getElem? (i := 2) rfl))
theorem dX12_byteAt_12 : decode cX12_byteAt 12 = .ok (.getfield 303, 3) := dk180 1 47 (BX12_byteAt_3_0 (12, 180, 1, 47) (List.mem_of_getElem? (i := 3) rfl))
theorem dX12_byteAt_15 : decode cX12_byteAt 15 = .ok (.ifCond .ge 15, 3) := dk156 0 15 (BX12_byteAt_3_0 (15, 156, 0, 15) (List.mem_of_getElem? (i := 4) rfl))
theorem dX12_byteAt_18 : decode cX12_byteAt 18 = .ok (.aload_n 0, 1) := dk42 (BX12_byteAt_1_0 (18, 42) (List.mem_of_getElem? (i := 3) rfl))
theorem dX12_byteAt_19 : decode cX12_byteAt 19 = .ok (.getfield 86, 3) := dk180 0 86 (BX12_byteAt_3_0 (19, 180, 0, 86) (List.mem_of_getElem? (i := 5) rfl))
theorem dX12_byteAt_22 : decode cX12_byteAt 22 = .ok (.aload_n 0, 1) := dk42 (BX12_byteAt_1_0 (22, 42) (List.mem_of_getElem? (i := 4) rfl))
theorem dX12_byteAt_23 : decode cX12_byteAt 23 = .ok (.getfield 297, 3) := dk180 1 41 (BX12_byteAt_3_0 (23, 180, 1, 41) (List.mem_of_getElem? (i := 6) rfl))
theorem dX12_byteAt_26 : decode cX12_byteAt 26 = .ok (.iaload, 1) := dk46 (BX12_byteAt_1_0 (26, 46) (List.mem_of_getElem? (i := 5) rfl))
theorem dX12_byteAt_27 : decode cX12_byteAt 27 = .ok (.goto 21, 3) := dk167 0 21 (BX12_byteAt_3_0 (27, 167, 0, 21) (List.mem_of_getElem? (i := 7) rfl))
theorem dX12_byteAt_30 : decode cX12_byteAt 30 = .ok (.aload_n 0, 1) := dk42 (BX12_byteAt_1_0 (30, 42) (List.mem_of_getElem? (i := 6) rfl))
theorem dX12_byteAt_31 : decode cX12_byteAt 31 = .ok (.getfield 92, 3) := dk180 0 92 (BX12_byteAt_3_0 (31, 180, 0, 92) (List.mem_of_getElem? (i := 8) rfl))
theorem dX12_byteAt_34 : decode cX12_byteAt 34 = .ok (.aload_n 0, 1) := dk42 (BX12_byteAt_1_0 (34, 42) (List.mem_of_getElem? (i := 7) rfl))
theorem dX12_byteAt_35 : decode cX12_byteAt 35 = .ok (.getfield 303, 3) := dk180 1 47 (BX12_byteAt_3_0 (35, 180, 1, 47) (List.mem_of_getElem? (i := 9) rfl))
theorem dX12_byteAt_38 : decode cX12_byteAt 38 = .ok (.aload_n 0, 1) := dk42 (BX12_byteAt_1_0 (38, 42) (List.mem_of_getElem? (i := 8) rfl))
theorem dX12_byteAt_39 : decode cX12_byteAt 39 = .ok (.getfield 297, 3) := dk180 1 41 (BX12_byteAt_3_0 (39, 180, 1, 41) (List.mem_of_getElem? (i := 10) rfl))
theorem dX12_byteAt_42 : decode cX12_byteAt 42 = .ok (.iadd, 1) := dk96 (BX12_byteAt_1_0 (42, 96) (List.mem_of_getElem? (i := 9) rfl))
theorem dX12_byteAt_43 : decode cX12_byteAt 43 = .ok (.iaload, 1) := dk46 (BX12_byteAt_1_0 (43, 46) (List.mem_of_getElem? (i := 10) rfl))
theorem dX12_byteAt_44 : decode cX12_byteAt 44 = .ok (.goto 4, 3) := dk167 0 4 (BX12_byteAt_3_0 (44, 167, 0, 4) (List.mem_of_getElem? (i := 11) rfl))
theorem dX12_byteAt_47 : decode cX12_byteAt 47 = .ok (.iconst 0, 1) := dk3 (BX12_byteAt_1_0 (47, 3) (List.mem_of_getElem? (i := 11) rfl))
theorem dX12_byteAt_48 : decode cX12_byteAt 48 = .ok (.ireturn, 1) := dk172 (BX12_byteAt_1_1 (48, 172) (List.mem_of_getElem? (i := 0) rfl))
set_option maxRecDepth 20000 in
theorem SX12_wrong : ∀ p : Nat, gb cX12_wrong p = segF [[42, 42, 180, 1, 50, 156, 0, 10, 42, 180, 1, 41, 167, 0, 7, 42, 180, 1, 50, 181, 1, 50, 3, 172]] p := seg_gb (S := [[42, 42, 180, 1, 50, 156, 0, 10, 42, 180, 1, 41, 167, 0, 7, 42, 180, 1, 50, 181, 1, 50, 3, 172]]) (by decide +kernel) (by decide +kernel)
set_option maxRecDepth 20000 in
theorem BX12_wrong_1_0 : ∀ q ∈ ([(0, 42), (1, 42), (8, 42), (15, 42), (22, 3), (23, 172)] : List (Nat × Nat)), gb cX12_wrong q.1 = some q.2 := seg_1 SX12_wrong _ (by decide +kernel)
set_option maxRecDepth 20000 in
theorem BX12_wrong_3_0 : ∀ q ∈ ([(2, 180, 1, 50), (5, 156, 0, 10), (9, 180, 1, 41), (12, 167, 0, 7), (16, 180, 1, 50), (19, 181, 1, 50)] : List (Nat × Nat × Nat × Nat)), gb cX12_wrong q.1 = some q.2.1 ∧ gb cX12_wrong (q.1 + 1) = some q.2.2.1 ∧ gb cX12_wrong (q.1 + 2) = some q.2.2.2 := seg_3 SX12_wrong _ (by decide +kernel)
theorem dX12_wrong_0 : decode cX12_wrong 0 = .ok (.aload_n 0, 1) := dk42 (BX12_wrong_1_0 (0, 42) (List.mem_of_getElem? (i := 0) rfl))
theorem dX12_wrong_1 : decode cX12_wrong 1 = .ok (.aload_n 0, 1) := dk42 (BX12_wrong_1_0 (1, 42) (List.mem_of_getElem? (i := 1) rfl))
theorem dX12_wrong_2 : decode cX12_wrong 2 = .ok (.getfield 306, 3) := dk180 1 50 (BX12_wrong_3_0 (2, 180, 1, 50) (List.mem_of_getElem? (i := 0) rfl))
theorem dX12_wrong_5 : decode cX12_wrong 5 = .ok (.ifCond .ge 10, 3) := dk156 0 10 (BX12_wrong_3_0 (5, 156, 0, 10) (List.mem_of_getElem? (i := 1) rfl))
theorem dX12_wrong_8 : decode cX12_wrong 8 = .ok (.aload_n 0, 1) := dk42 (BX12_wrong_1_0 (8, 42) (List.mem_of_getElem? (i := 2) rfl))
theorem dX12_wrong_9 : decode cX12_wrong 9 = .ok (.getfield 297, 3) := dk180 1 41 (BX12_wrong_3_0 (9, 180, 1, 41) (List.mem_of_getElem? (i := 2) rfl))
theorem dX12_wrong_12 : decode cX12_wrong 12 = .ok (.goto 7, 3) := dk167 0 7 (BX12_wrong_3_0 (12, 167, 0, 7) (List.mem_of_getElem? (i := 3) rfl))
theorem dX12_wrong_15 : decode cX12_wrong 15 = .ok (.aload_n 0, 1) := dk42 (BX12_wrong_1_0 (15, 42) (List.mem_of_getElem? (i := 3) rfl))
theorem dX12_wrong_16 : decode cX12_wrong 16 = .ok (.getfield 306, 3) := dk180 1 50 (BX12_wrong_3_0 (16, 180, 1, 50) (List.mem_of_getElem? (i := 4) rfl))
theorem dX12_wrong_19 : decode cX12_wrong 19 = .ok (.putfield 306, 3) := dk181 1 50 (BX12_wrong_3_0 (19, 181, 1, 50) (List.mem_of_getElem? (i := 5) rfl))
theorem dX12_wrong_22 : decode cX12_wrong 22 = .ok (.iconst 0, 1) := dk3 (BX12_wrong_1_0 (22, 3) (List.mem_of_getElem? (i := 4) rfl))
theorem dX12_wrong_23 : decode cX12_wrong 23 = .ok (.ireturn, 1) := dk172 (BX12_wrong_1_0 (23, 172) (List.mem_of_getElem? (i := 5) rfl))
set_option maxRecDepth 20000 in
theorem ggX12_takes_X12_byteAt : GoodIn wsX12_takes wsX12_byteAt := gcons (goodIn_g ch_wsX12_takes_flat gd_wsX12_takes _ [(1, 6)] rfl) (goodIn_app (goodIn_g ch_wsX12_takes_flat gd_wsX12_takes _ [(1, 1), (1, 7), (1, 8), (1, 9), (1, 10)] rfl) (gchunk ch_wsX12_takes_flat gd_wsX12_takes 2 rfl))
set_option maxRecDepth 20000 in
theorem gX12_takes_X12_byteAt : GoodIn wsX12_takes (wsV RX12 309 RX12 yX12_byteAt wsX12_byteAt) := goodIn_app (goodIn_g ch_wsX12_takes_flat gd_wsX12_takes _ [(1, 2), (1, 3), (1, 4), (1, 5)] rfl) ggX12_takes_X12_byteAt
set_option maxRecDepth 20000 in
theorem SX12_takes : ∀ p : Nat, gb cX12_takes p = segF [[42, 180, 1, 50, 156, 0, 11, 42, 182, 1, 53, 27, 159, 0, 5, 3, 172, 42, 89, 180, 1, 41, 4, 96, 181, 1, 41, 4, 172]] p := seg_gb (S := [[42, 180, 1, 50, 156, 0, 11, 42, 182, 1, 53, 27, 159, 0, 5, 3, 172, 42, 89, 180, 1, 41, 4, 96, 181, 1, 41, 4, 172]]) (by decide +kernel) (by decide +kernel)
set_option maxRecDepth 20000 in
theorem BX12_takes_1_0 : ∀ q ∈ ([(0, 42), (7, 42), (11, 27), (15, 3), (16, 172), (17, 42), (18, 89), (22, 4), (23, 96), (27, 4), (28, 172)] : List (Nat × Nat)), gb cX12_takes q.1 = some q.2 := seg_1 SX12_takes _ (by decide +kernel)
set_option maxRecDepth 20000 in
theorem BX12_takes_3_0 : ∀ q ∈ ([(1, 180, 1, 50), (4, 156, 0, 11), (8, 182, 1, 53), (12, 159, 0, 5), (19, 180, 1, 41), (24, 181, 1, 41)] : List (Nat × Nat × Nat × Nat)), gb cX12_takes q.1 = some q.2.1 ∧ gb cX12_takes (q.1 + 1) = some q.2.2.1 ∧ gb cX12_takes (q.1 + 2) = some q.2.2.2 := seg_3 SX12_takes _ (by decide +kernel)
theorem dX12_takes_0 : decode cX12_takes 0 = .ok (.aload_n 0, 1) := dk42 (BX12_takes_1_0 (0, 42) (List.mem_of_getElem? (i := 0) rfl))
theorem dX12_takes_1 : decode cX12_takes 1 = .ok (.getfield 306, 3) := dk180 1 50 (BX12_takes_3_0 (1, 180, 1, 50) (List.mem_of_getElem? (i := 0) rfl))
theorem dX12_takes_4 : decode cX12_takes 4 = .ok (.ifCond .ge 11, 3) := dk156 0 11 (BX12_takes_3_0 (4, 156, 0, 11) (List.mem_of_getElem? (i := 1) rfl))
theorem dX12_takes_7 : decode cX12_takes 7 = .ok (.aload_n 0, 1) := dk42 (BX12_takes_1_0 (7, 42) (List.mem_of_getElem? (i := 1) rfl))
theorem dX12_takes_8 : decode cX12_takes 8 = .ok (.invokevirtual 309, 3) := dk182 1 53 (BX12_takes_3_0 (8, 182, 1, 53) (List.mem_of_getElem? (i := 2) rfl))
theorem dX12_takes_11 : decode cX12_takes 11 = .ok (.iload_n 1, 1) := dk27 (BX12_takes_1_0 (11, 27) (List.mem_of_getElem? (i := 2) rfl))
theorem dX12_takes_12 : decode cX12_takes 12 = .ok (.if_icmp .eq 5, 3) := dk159 0 5 (BX12_takes_3_0 (12, 159, 0, 5) (List.mem_of_getElem? (i := 3) rfl))
theorem dX12_takes_15 : decode cX12_takes 15 = .ok (.iconst 0, 1) := dk3 (BX12_takes_1_0 (15, 3) (List.mem_of_getElem? (i := 3) rfl))
theorem dX12_takes_16 : decode cX12_takes 16 = .ok (.ireturn, 1) := dk172 (BX12_takes_1_0 (16, 172) (List.mem_of_getElem? (i := 4) rfl))
theorem dX12_takes_17 : decode cX12_takes 17 = .ok (.aload_n 0, 1) := dk42 (BX12_takes_1_0 (17, 42) (List.mem_of_getElem? (i := 5) rfl))
theorem dX12_takes_18 : decode cX12_takes 18 = .ok (.dup, 1) := dk89 (BX12_takes_1_0 (18, 89) (List.mem_of_getElem? (i := 6) rfl))
theorem dX12_takes_19 : decode cX12_takes 19 = .ok (.getfield 297, 3) := dk180 1 41 (BX12_takes_3_0 (19, 180, 1, 41) (List.mem_of_getElem? (i := 4) rfl))
theorem dX12_takes_22 : decode cX12_takes 22 = .ok (.iconst 1, 1) := dk4 (BX12_takes_1_0 (22, 4) (List.mem_of_getElem? (i := 7) rfl))
theorem dX12_takes_23 : decode cX12_takes 23 = .ok (.iadd, 1) := dk96 (BX12_takes_1_0 (23, 96) (List.mem_of_getElem? (i := 8) rfl))
theorem dX12_takes_24 : decode cX12_takes 24 = .ok (.putfield 297, 3) := dk181 1 41 (BX12_takes_3_0 (24, 181, 1, 41) (List.mem_of_getElem? (i := 5) rfl))
theorem dX12_takes_27 : decode cX12_takes 27 = .ok (.iconst 1, 1) := dk4 (BX12_takes_1_0 (27, 4) (List.mem_of_getElem? (i := 9) rfl))
theorem dX12_takes_28 : decode cX12_takes 28 = .ok (.ireturn, 1) := dk172 (BX12_takes_1_0 (28, 172) (List.mem_of_getElem? (i := 10) rfl))
set_option maxRecDepth 20000 in
theorem ggX12_either_X12_both : GoodIn wsX12_either wsX12_both := gcons (goodIn_g ch_wsX12_either_flat gd_wsX12_either _ [(1, 18)] rfl) (goodIn_app (goodIn_app (goodIn_g ch_wsX12_either_flat gd_wsX12_either _ [(1, 19), (1, 20), (1, 21), (1, 3), (1, 4), (1, 5), (1, 6), (1, 7), (1, 8), (1, 9), (1, 10), (1, 11), (1, 12), (1, 13), (1, 14), (1, 15), (1, 16), (1, 17), (1, 22), (1, 23), (2, 0), (2, 1), (0, 0), (1, 0)] rfl) (goodIn_g ch_wsX12_either_flat gd_wsX12_either _ [(1, 1), (1, 2), (2, 2), (2, 3), (2, 4), (2, 5), (2, 6), (2, 7), (2, 8), (2, 9), (2, 10), (2, 11), (2, 12), (2, 13), (2, 14), (2, 15), (2, 16), (2, 17), (2, 18), (2, 19), (2, 20), (2, 21), (2, 22)] rfl)) (gchunk ch_wsX12_either_flat gd_wsX12_either 3 rfl))
set_option maxRecDepth 20000 in
theorem gX12_either_X12_both : GoodIn wsX12_either (wsV RX12 312 RX12 yX12_both wsX12_both) := goodIn_app (goodIn_g ch_wsX12_either_flat gd_wsX12_either _ [(1, 0), (1, 1), (1, 2), (1, 3)] rfl) ggX12_either_X12_both
set_option maxRecDepth 20000 in
theorem ggX12_either_X12_takes : GoodIn wsX12_either wsX12_takes := gcons (goodIn_g ch_wsX12_either_flat gd_wsX12_either _ [(1, 7)] rfl) (goodIn_app (goodIn_g ch_wsX12_either_flat gd_wsX12_either _ [(1, 8), (1, 9), (1, 10), (1, 11), (1, 12), (1, 3), (1, 13), (1, 14), (1, 15), (1, 16), (1, 17)] rfl) (gchunk ch_wsX12_either_flat gd_wsX12_either 3 rfl))
set_option maxRecDepth 20000 in
theorem gX12_either_X12_takes : GoodIn wsX12_either (wsV RX12 315 RX12 yX12_takes wsX12_takes) := goodIn_app (goodIn_g ch_wsX12_either_flat gd_wsX12_either _ [(1, 4), (1, 5), (1, 6), (1, 3)] rfl) ggX12_either_X12_takes
set_option maxRecDepth 20000 in
theorem SX12_either : ∀ p : Nat, gb cX12_either p = segF [[42, 182, 1, 56, 60, 42, 16, 124, 182, 1, 59, 153, 0, 25, 42, 182, 1, 56, 61, 27, 154, 0, 7, 28, 153, 0, 7, 4, 167, 0, 4, 3, 60, 167, 255, 228, 27, 172]] p := seg_gb (S := [[42, 182, 1, 56, 60, 42, 16, 124, 182, 1, 59, 153, 0, 25, 42, 182, 1, 56, 61, 27, 154, 0, 7, 28, 153, 0, 7, 4, 167, 0, 4, 3, 60, 167, 255, 228, 27, 172]]) (by decide +kernel) (by decide +kernel)
set_option maxRecDepth 20000 in
theorem BX12_either_1_0 : ∀ q ∈ ([(0, 42), (4, 60), (5, 42), (14, 42), (18, 61), (19, 27), (23, 28), (27, 4), (31, 3), (32, 60), (36, 27), (37, 172)] : List (Nat × Nat)), gb cX12_either q.1 = some q.2 := seg_1 SX12_either _ (by decide +kernel)
set_option maxRecDepth 20000 in
theorem BX12_either_2_0 : ∀ q ∈ ([(6, 16, 124)] : List (Nat × Nat × Nat)), gb cX12_either q.1 = some q.2.1 ∧ gb cX12_either (q.1 + 1) = some q.2.2 := seg_2 SX12_either _ (by decide +kernel)
set_option maxRecDepth 20000 in
theorem BX12_either_3_0 : ∀ q ∈ ([(1, 182, 1, 56), (8, 182, 1, 59), (11, 153, 0, 25), (15, 182, 1, 56), (20, 154, 0, 7), (24, 153, 0, 7), (28, 167, 0, 4), (33, 167, 255, 228)] : List (Nat × Nat × Nat × Nat)), gb cX12_either q.1 = some q.2.1 ∧ gb cX12_either (q.1 + 1) = some q.2.2.1 ∧ gb cX12_either (q.1 + 2) = some q.2.2.2 := seg_3 SX12_either _ (by decide +kernel)
theorem dX12_either_0 : decode cX12_either 0 = .ok (.aload_n 0, 1) := dk42 (BX12_either_1_0 (0, 42) (List.mem_of_getElem? (i := 0) rfl))
theorem dX12_either_1 : decode cX12_either 1 = .ok (.invokevirtual 312, 3) := dk182 1 56 (BX12_either_3_0 (1, 182, 1, 56) (List.mem_of_getElem? (i := 0) rfl))
theorem dX12_either_4 : decode cX12_either 4 = .ok (.istore_n 1, 1) := dk60 (BX12_either_1_0 (4, 60) (List.mem_of_getElem? (i := 1) rfl))
theorem dX12_either_5 : decode cX12_either 5 = .ok (.aload_n 0, 1) := dk42 (BX12_either_1_0 (5, 42) (List.mem_of_getElem? (i := 2) rfl))
theorem dX12_either_6 : decode cX12_either 6 = .ok (.bipush 124, 2) := dk16 124 (BX12_either_2_0 (6, 16, 124) (List.mem_of_getElem? (i := 0) rfl))
theorem dX12_either_8 : decode cX12_either 8 = .ok (.invokevirtual 315, 3) := dk182 1 59 (BX12_either_3_0 (8, 182, 1, 59) (List.mem_of_getElem? (i := 1) rfl))
theorem dX12_either_11 : decode cX12_either 11 = .ok (.ifCond .eq 25, 3) := dk153 0 25 (BX12_either_3_0 (11, 153, 0, 25) (List.mem_of_getElem? (i := 2) rfl))
theorem dX12_either_14 : decode cX12_either 14 = .ok (.aload_n 0, 1) := dk42 (BX12_either_1_0 (14, 42) (List.mem_of_getElem? (i := 3) rfl))
theorem dX12_either_15 : decode cX12_either 15 = .ok (.invokevirtual 312, 3) := dk182 1 56 (BX12_either_3_0 (15, 182, 1, 56) (List.mem_of_getElem? (i := 3) rfl))
theorem dX12_either_18 : decode cX12_either 18 = .ok (.istore_n 2, 1) := dk61 (BX12_either_1_0 (18, 61) (List.mem_of_getElem? (i := 4) rfl))
theorem dX12_either_19 : decode cX12_either 19 = .ok (.iload_n 1, 1) := dk27 (BX12_either_1_0 (19, 27) (List.mem_of_getElem? (i := 5) rfl))
theorem dX12_either_20 : decode cX12_either 20 = .ok (.ifCond .ne 7, 3) := dk154 0 7 (BX12_either_3_0 (20, 154, 0, 7) (List.mem_of_getElem? (i := 4) rfl))
theorem dX12_either_23 : decode cX12_either 23 = .ok (.iload_n 2, 1) := dk28 (BX12_either_1_0 (23, 28) (List.mem_of_getElem? (i := 6) rfl))
theorem dX12_either_24 : decode cX12_either 24 = .ok (.ifCond .eq 7, 3) := dk153 0 7 (BX12_either_3_0 (24, 153, 0, 7) (List.mem_of_getElem? (i := 5) rfl))
theorem dX12_either_27 : decode cX12_either 27 = .ok (.iconst 1, 1) := dk4 (BX12_either_1_0 (27, 4) (List.mem_of_getElem? (i := 7) rfl))
theorem dX12_either_28 : decode cX12_either 28 = .ok (.goto 4, 3) := dk167 0 4 (BX12_either_3_0 (28, 167, 0, 4) (List.mem_of_getElem? (i := 6) rfl))
theorem dX12_either_31 : decode cX12_either 31 = .ok (.iconst 0, 1) := dk3 (BX12_either_1_0 (31, 3) (List.mem_of_getElem? (i := 8) rfl))
theorem dX12_either_32 : decode cX12_either 32 = .ok (.istore_n 1, 1) := dk60 (BX12_either_1_0 (32, 60) (List.mem_of_getElem? (i := 9) rfl))
theorem dX12_either_33 : decode cX12_either 33 = .ok (.goto (-28), 3) := dk167 255 228 (BX12_either_3_0 (33, 167, 255, 228) (List.mem_of_getElem? (i := 7) rfl))
theorem dX12_either_36 : decode cX12_either 36 = .ok (.iload_n 1, 1) := dk27 (BX12_either_1_0 (36, 27) (List.mem_of_getElem? (i := 10) rfl))
theorem dX12_either_37 : decode cX12_either 37 = .ok (.ireturn, 1) := dk172 (BX12_either_1_0 (37, 172) (List.mem_of_getElem? (i := 11) rfl))
set_option maxRecDepth 20000 in
theorem ggX12_both_X12_compared : GoodIn wsX12_both wsX12_compared := gcons (goodIn_g ch_wsX12_both_flat gd_wsX12_both _ [(1, 18)] rfl) (goodIn_app (goodIn_app (goodIn_g ch_wsX12_both_flat gd_wsX12_both _ [(1, 8), (1, 9), (1, 19), (1, 20), (1, 21), (1, 3), (1, 10), (1, 11), (1, 12), (1, 13), (1, 14), (1, 15), (1, 16), (1, 17), (0, 0), (1, 0), (1, 1), (1, 2), (1, 4), (1, 5), (1, 6), (1, 7), (1, 22), (1, 23)] rfl) (goodIn_g ch_wsX12_both_flat gd_wsX12_both _ [(2, 0), (2, 1), (2, 2), (2, 3), (2, 4), (2, 5), (2, 6), (2, 7), (2, 8), (2, 9), (2, 10), (2, 11), (2, 12), (2, 13), (2, 14), (2, 15), (2, 16), (2, 17), (2, 18), (2, 19), (2, 20), (2, 21), (2, 22)] rfl)) (gchunk ch_wsX12_both_flat gd_wsX12_both 3 rfl))
set_option maxRecDepth 20000 in
theorem gX12_both_X12_compared : GoodIn wsX12_both (wsV RX12 318 RX12 yX12_compared wsX12_compared) := goodIn_app (goodIn_g ch_wsX12_both_flat gd_wsX12_both _ [(1, 0), (1, 1), (1, 2), (1, 3)] rfl) ggX12_both_X12_compared
set_option maxRecDepth 20000 in
theorem ggX12_both_X12_takes : GoodIn wsX12_both wsX12_takes := gcons (goodIn_g ch_wsX12_both_flat gd_wsX12_both _ [(1, 7)] rfl) (goodIn_app (goodIn_g ch_wsX12_both_flat gd_wsX12_both _ [(1, 8), (1, 9), (1, 10), (1, 11), (1, 12), (1, 3), (1, 13), (1, 14), (1, 15), (1, 16), (1, 17)] rfl) (gchunk ch_wsX12_both_flat gd_wsX12_both 3 rfl))
set_option maxRecDepth 20000 in
theorem gX12_both_X12_takes : GoodIn wsX12_both (wsV RX12 315 RX12 yX12_takes wsX12_takes) := goodIn_app (goodIn_g ch_wsX12_both_flat gd_wsX12_both _ [(1, 4), (1, 5), (1, 6), (1, 3)] rfl) ggX12_both_X12_takes
set_option maxRecDepth 20000 in
theorem SX12_both : ∀ p : Nat, gb cX12_both p = segF [[42, 182, 1, 62, 60, 42, 16, 38, 182, 1, 59, 153, 0, 25, 42, 182, 1, 62, 61, 27, 153, 0, 11, 28, 153, 0, 7, 4, 167, 0, 4, 3, 60, 167, 255, 228, 27, 172]] p := seg_gb (S := [[42, 182, 1, 62, 60, 42, 16, 38, 182, 1, 59, 153, 0, 25, 42, 182, 1, 62, 61, 27, 153, 0, 11, 28, 153, 0, 7, 4, 167, 0, 4, 3, 60, 167, 255, 228, 27, 172]]) (by decide +kernel) (by decide +kernel)
set_option maxRecDepth 20000 in
theorem BX12_both_1_0 : ∀ q ∈ ([(0, 42), (4, 60), (5, 42), (14, 42), (18, 61), (19, 27), (23, 28), (27, 4), (31, 3), (32, 60), (36, 27), (37, 172)] : List (Nat × Nat)), gb cX12_both q.1 = some q.2 := seg_1 SX12_both _ (by decide +kernel)
set_option maxRecDepth 20000 in
theorem BX12_both_2_0 : ∀ q ∈ ([(6, 16, 38)] : List (Nat × Nat × Nat)), gb cX12_both q.1 = some q.2.1 ∧ gb cX12_both (q.1 + 1) = some q.2.2 := seg_2 SX12_both _ (by decide +kernel)
set_option maxRecDepth 20000 in
theorem BX12_both_3_0 : ∀ q ∈ ([(1, 182, 1, 62), (8, 182, 1, 59), (11, 153, 0, 25), (15, 182, 1, 62), (20, 153, 0, 11), (24, 153, 0, 7), (28, 167, 0, 4), (33, 167, 255, 228)] : List (Nat × Nat × Nat × Nat)), gb cX12_both q.1 = some q.2.1 ∧ gb cX12_both (q.1 + 1) = some q.2.2.1 ∧ gb cX12_both (q.1 + 2) = some q.2.2.2 := seg_3 SX12_both _ (by decide +kernel)
theorem dX12_both_0 : decode cX12_both 0 = .ok (.aload_n 0, 1) := dk42 (BX12_both_1_0 (0, 42) (List.mem_of_getElem? (i := 0) rfl))
theorem dX12_both_1 : decode cX12_both 1 = .ok (.invokevirtual 318, 3) := dk182 1 62 (BX12_both_3_0 (1, 182, 1, 62) (List.mem_of_getElem? (i := 0) rfl))
theorem dX12_both_4 : decode cX12_both 4 = .ok (.istore_n 1, 1) := dk60 (BX12_both_1_0 (4, 60) (List.mem_of_getElem? (i := 1) rfl))
theorem dX12_both_5 : decode cX12_both 5 = .ok (.aload_n 0, 1) := dk42 (BX12_both_1_0 (5, 42) (List.mem_of_getElem? (i := 2) rfl))
theorem dX12_both_6 : decode cX12_both 6 = .ok (.bipush 38, 2) := dk16 38 (BX12_both_2_0 (6, 16, 38) (List.mem_of_getElem? (i := 0) rfl))
theorem dX12_both_8 : decode cX12_both 8 = .ok (.invokevirtual 315, 3) := dk182 1 59 (BX12_both_3_0 (8, 182, 1, 59) (List.mem_of_getElem? (i := 1) rfl))
theorem dX12_both_11 : decode cX12_both 11 = .ok (.ifCond .eq 25, 3) := dk153 0 25 (BX12_both_3_0 (11, 153, 0, 25) (List.mem_of_getElem? (i := 2) rfl))
theorem dX12_both_14 : decode cX12_both 14 = .ok (.aload_n 0, 1) := dk42 (BX12_both_1_0 (14, 42) (List.mem_of_getElem? (i := 3) rfl))
theorem dX12_both_15 : decode cX12_both 15 = .ok (.invokevirtual 318, 3) := dk182 1 62 (BX12_both_3_0 (15, 182, 1, 62) (List.mem_of_getElem? (i := 3) rfl))
theorem dX12_both_18 : decode cX12_both 18 = .ok (.istore_n 2, 1) := dk61 (BX12_both_1_0 (18, 61) (List.mem_of_getElem? (i := 4) rfl))
theorem dX12_both_19 : decode cX12_both 19 = .ok (.iload_n 1, 1) := dk27 (BX12_both_1_0 (19, 27) (List.mem_of_getElem? (i := 5) rfl))
theorem dX12_both_20 : decode cX12_both 20 = .ok (.ifCond .eq 11, 3) := dk153 0 11 (BX12_both_3_0 (20, 153, 0, 11) (List.mem_of_getElem? (i := 4) rfl))
theorem dX12_both_23 : decode cX12_both 23 = .ok (.iload_n 2, 1) := dk28 (BX12_both_1_0 (23, 28) (List.mem_of_getElem? (i := 6) rfl))
theorem dX12_both_24 : decode cX12_both 24 = .ok (.ifCond .eq 7, 3) := dk153 0 7 (BX12_both_3_0 (24, 153, 0, 7) (List.mem_of_getElem? (i := 5) rfl))
theorem dX12_both_27 : decode cX12_both 27 = .ok (.iconst 1, 1) := dk4 (BX12_both_1_0 (27, 4) (List.mem_of_getElem? (i := 7) rfl))
theorem dX12_both_28 : decode cX12_both 28 = .ok (.goto 4, 3) := dk167 0 4 (BX12_both_3_0 (28, 167, 0, 4) (List.mem_of_getElem? (i := 6) rfl))
theorem dX12_both_31 : decode cX12_both 31 = .ok (.iconst 0, 1) := dk3 (BX12_both_1_0 (31, 3) (List.mem_of_getElem? (i := 8) rfl))
theorem dX12_both_32 : decode cX12_both 32 = .ok (.istore_n 1, 1) := dk60 (BX12_both_1_0 (32, 60) (List.mem_of_getElem? (i := 9) rfl))
theorem dX12_both_33 : decode cX12_both 33 = .ok (.goto (-28), 3) := dk167 255 228 (BX12_both_3_0 (33, 167, 255, 228) (List.mem_of_getElem? (i := 7) rfl))
theorem dX12_both_36 : decode cX12_both 36 = .ok (.iload_n 1, 1) := dk27 (BX12_both_1_0 (36, 27) (List.mem_of_getElem? (i := 10) rfl))
theorem dX12_both_37 : decode cX12_both 37 = .ok (.ireturn, 1) := dk172 (BX12_both_1_0 (37, 172) (List.mem_of_getElem? (i := 11) rfl))
set_option maxRecDepth 20000 in
theorem ggX12_compared_X12_sums : GoodIn wsX12_compared wsX12_sums := gcons (goodIn_g ch_wsX12_compared_flat gd_wsX12_compared _ [(2, 19)] rfl) (goodIn_app (goodIn_app (goodIn_g ch_wsX12_compared_flat gd_wsX12_compared _ [(1, 0), (1, 1), (2, 20), (2, 21), (2, 22), (1, 5), (1, 6), (1, 7), (1, 8), (1, 9), (1, 10), (1, 11), (1, 12), (1, 13), (1, 14), (1, 15), (1, 16), (1, 17), (1, 18), (1, 19), (1, 20), (1, 21), (0, 0), (1, 2)] rfl) (goodIn_g ch_wsX12_compared_flat gd_wsX12_compared _ [(1, 3), (1, 4), (1, 22), (1, 23), (2, 0), (2, 1), (2, 2), (2, 3), (2, 4), (2, 5), (2, 6), (2, 7), (2, 8), (2, 9), (2, 10), (2, 11), (2, 12), (2, 13), (2, 14), (2, 15), (2, 16), (2, 17), (2, 18)] rfl)) (gchunk ch_wsX12_compared_flat gd_wsX12_compared 3 rfl))
set_option maxRecDepth 20000 in
theorem gX12_compared_X12_sums : GoodIn wsX12_compared (wsV RX12 321 RX12 yX12_sums wsX12_sums) := goodIn_app (goodIn_g ch_wsX12_compared_flat gd_wsX12_compared _ [(1, 2), (1, 3), (1, 4), (1, 5)] rfl) ggX12_compared_X12_sums
set_option maxRecDepth 20000 in
theorem ggX12_compared_X12_byteAt : GoodIn wsX12_compared wsX12_byteAt := gcons (goodIn_g ch_wsX12_compared_flat gd_wsX12_compared _ [(1, 9)] rfl) (goodIn_app (goodIn_g ch_wsX12_compared_flat gd_wsX12_compared _ [(1, 1), (1, 10), (1, 11), (1, 12), (1, 13)] rfl) (gchunk ch_wsX12_compared_flat gd_wsX12_compared 3 rfl))
set_option maxRecDepth 20000 in
theorem gX12_compared_X12_byteAt : GoodIn wsX12_compared (wsV RX12 309 RX12 yX12_byteAt wsX12_byteAt) := goodIn_app (goodIn_g ch_wsX12_compared_flat gd_wsX12_compared _ [(1, 6), (1, 7), (1, 8), (1, 5)] rfl) ggX12_compared_X12_byteAt
set_option maxRecDepth 20000 in
theorem SX12_compared : ∀ p : Nat, gb cX12_compared p = segF [[42, 182, 1, 65, 60, 42, 182, 1, 53, 61, 42, 180, 1, 50, 156, 0, 21, 28, 16, 60, 159, 0, 17, 28, 16, 61, 159, 0, 11, 28, 16, 62, 159, 0, 5, 27, 172, 42, 89, 180, 1, 41, 4, 96, 181, 1, 41, 42, 182, 1, 65, 62, 28, 16, 60, 160, 0, 11, 27, 29, 162, 0, 29, 167], [0, 22, 28, 16, 61, 160, 0, 11, 27, 29, 160, 0, 15, 167, 0, 8, 27, 29, 164, 0, 7, 4, 167, 0, 4, 3, 172]] p := seg_gb (S := [[42, 182, 1, 65, 60, 42, 182, 1, 53, 61, 42, 180, 1, 50, 156, 0, 21, 28, 16, 60, 159, 0, 17, 28, 16, 61, 159, 0, 11, 28, 16, 62, 159, 0, 5, 27, 172, 42, 89, 180, 1, 41, 4, 96, 181, 1, 41, 42, 182, 1, 65, 62, 28, 16, 60, 160, 0, 11, 27, 29, 162, 0, 29, 167], [0, 22, 28, 16, 61, 160, 0, 11, 27, 29, 160, 0, 15, 167, 0, 8, 27, 29, 164, 0, 7, 4, 167, 0, 4, 3, 172]]) (by decide +kernel) (by decide +kernel)
set_option maxRecDepth 20000 in
theorem BX12_compared_1_0 : ∀ q ∈ ([(0, 42), (4, 60), (5, 42), (9, 61), (10, 42), (17, 28), (23, 28), (29, 28), (35, 27), (36, 172), (37, 42), (38, 89)] : List (Nat × Nat)), gb cX12_compared q.1 = some q.2 := seg_1 SX12_compared _ (by decide +kernel)
set_option maxRecDepth 20000 in
theorem BX12_compared_1_1 : ∀ q ∈ ([(42, 4), (43, 96), (47, 42), (51, 62), (52, 28), (58, 27), (59, 29), (66, 28), (72, 27), (73, 29), (80, 27), (81, 29)] : List (Nat × Nat)), gb cX12_compared q.1 = some q.2 := seg_1 SX12_compared _ (by decide +kernel)
set_option maxRecDepth 20000 in
theorem BX12_compared_1_2 : ∀ q ∈ ([(85, 4), (89, 3), (90, 172)] : List (Nat × Nat)), gb cX12_compared q.1 = some q.2 := seg_1 SX12_compared _ (by decide +kernel)
set_option maxRecDepth 20000 in
theorem BX12_compared_2_0 : ∀ q ∈ ([(18, 16, 60), (24, 16, 61), (30, 16, 62), (53, 16, 60), (67, 16, 61)] : List (Nat × Nat × Nat)), gb cX12_compared q.1 = some q.2.1 ∧ gb cX12_compared (q.1 + 1) = some q.2.2 := seg_2 SX12_compared _ (by decide +kernel)
set_option maxRecDepth 20000 in
theorem BX12_compared_3_0 : ∀ q ∈ ([(1, 182, 1, 65), (6, 182, 1, 53), (11, 180, 1, 50), (14, 156, 0, 21), (20, 159, 0, 17), (26, 159, 0, 11), (32, 159, 0, 5), (39, 180, 1, 41), (44, 181, 1, 41), (48, 182, 1, 65), (55, 160, 0, 11), (60, 162, 0, 29)] : List (Nat × Nat × Nat × Nat)), gb cX12_compared q.1 = some q.2.1 ∧ gb cX12_compared (q.1 + 1) = some q.2.2.1 ∧ gb cX12_compared (q.1 + 2) = some q.2.2.2 := seg_3 SX12_compared _ (by decide +kernel)
set_option maxRecDepth 20000 in
theorem BX12_compared_3_1 : ∀ q ∈ ([(63, 167, 0, 22), (69, 160, 0, 11), (74, 160, 0, 15), (77, 167, 0, 8), (82, 164, 0, 7), (86, 167, 0, 4)] : List (Nat × Nat × Nat × Nat)), gb cX12_compared q.1 = some q.2.1 ∧ gb cX12_compared (q.1 + 1) = some q.2.2.1 ∧ gb cX12_compared (q.1 + 2) = some q.2.2.2 := seg_3 SX12_compared _ (by decide +kernel)
theorem dX12_compared_0 : decode cX12_compared 0 = .ok (.aload_n 0, 1) := dk42 (BX12_compared_1_0 (0, 42) (List.mem_of_getElem? (i := 0) rfl))
theorem dX12_compared_1 : decode cX12_compared 1 = .ok (.invokevirtual 321, 3) := dk182 1 65 (BX12_compared_3_0 (1, 182, 1, 65) (List.mem_of_getElem? (i := 0) rfl))
theorem dX12_compared_4 : decode cX12_compared 4 = .ok (.istore_n 1, 1) := dk60 (BX12_compared_1_0 (4, 60) (List.mem_of_getElem? (i := 1) rfl))
theorem dX12_compared_5 : decode cX12_compared 5 = .ok (.aload_n 0, 1) := dk42 (BX12_compared_1_0 (5, 42) (List.mem_of_getElem? (i := 2) rfl))
theorem dX12_compared_6 : decode cX12_compared 6 = .ok (.invokevirtual 309, 3) := dk182 1 53 (BX12_compared_3_0 (6, 182, 1, 53) (List.mem_of_getElem? (i := 1) rfl))
theorem dX12_compared_9 : decode cX12_compared 9 = .ok (.istore_n 2, 1) := dk61 (BX12_compared_1_0 (9, 61) (List.mem_of_getElem? (i := 3) rfl))
theorem dX12_compared_10 : decode cX12_compared 10 = .ok (.aload_n 0, 1) := dk42 (BX12_compared_1_0 (10, 42) (List.mem_of_getElem? (i := 4) rfl))
theorem dX12_compared_11 : decode cX12_compared 11 = .ok (.getfield 306, 3) := dk180 1 50 (BX12_compared_3_0 (11, 180, 1, 50) (List.mem_of_getElem? (i := 2) rfl))
theorem dX12_compared_14 : decode cX12_compared 14 = .ok (.ifCond .ge 21, 3) := dk156 0 21 (BX12_compared_3_0 (14, 156, 0, 21) (List.mem_of_getElem? (i := 3) rfl))
theorem dX12_compared_17 : decode cX12_compared 17 = .ok (.iload_n 2, 1) := dk28 (BX12_compared_1_0 (17, 28) (List.mem_of_getElem? (i := 5) rfl))
theorem dX12_compared_18 : decode cX12_compared 18 = .ok (.bipush 60, 2) := dk16 60 (BX12_compared_2_0 (18, 16, 60) (List.mem_of_getElem? (i := 0) rfl))
theorem dX12_compared_20 : decode cX12_compared 20 = .ok (.if_icmp .eq 17, 3) := dk159 0 17 (BX12_compared_3_0 (20, 159, 0, 17) (List.mem_of_getElem? (i := 4) rfl))
theorem dX12_compared_23 : decode cX12_compared 23 = .ok (.iload_n 2, 1) := dk28 (BX12_compared_1_0 (23, 28) (List.mem_of_getElem? (i := 6) rfl))
theorem dX12_compared_24 : decode cX12_compared 24 = .ok (.bipush 61, 2) := dk16 61 (BX12_compared_2_0 (24, 16, 61) (List.mem_of_getElem? (i := 1) rfl))
theorem dX12_compared_26 : decode cX12_compared 26 = .ok (.if_icmp .eq 11, 3) := dk159 0 11 (BX12_compared_3_0 (26, 159, 0, 11) (List.mem_of_getElem? (i := 5) rfl))
theorem dX12_compared_29 : decode cX12_compared 29 = .ok (.iload_n 2, 1) := dk28 (BX12_compared_1_0 (29, 28) (List.mem_of_getElem? (i := 7) rfl))
theorem dX12_compared_30 : decode cX12_compared 30 = .ok (.bipush 62, 2) := dk16 62 (BX12_compared_2_0 (30, 16, 62) (List.mem_of_getElem? (i := 2) rfl))
theorem dX12_compared_32 : decode cX12_compared 32 = .ok (.if_icmp .eq 5, 3) := dk159 0 5 (BX12_compared_3_0 (32, 159, 0, 5) (List.mem_of_getElem? (i := 6) rfl))
theorem dX12_compared_35 : decode cX12_compared 35 = .ok (.iload_n 1, 1) := dk27 (BX12_compared_1_0 (35, 27) (List.mem_of_getElem? (i := 8) rfl))
theorem dX12_compared_36 : decode cX12_compared 36 = .ok (.ireturn, 1) := dk172 (BX12_compared_1_0 (36, 172) (List.mem_of_getElem? (i := 9) rfl))
theorem dX12_compared_37 : decode cX12_compared 37 = .ok (.aload_n 0, 1) := dk42 (BX12_compared_1_0 (37, 42) (List.mem_of_getElem? (i := 10) rfl))
theorem dX12_compared_38 : decode cX12_compared 38 = .ok (.dup, 1) := dk89 (BX12_compared_1_0 (38, 89) (List.mem_of_getElem? (i := 11) rfl))
theorem dX12_compared_39 : decode cX12_compared 39 = .ok (.getfield 297, 3) := dk180 1 41 (BX12_compared_3_0 (39, 180, 1, 41) (List.mem_of_getElem? (i := 7) rfl))
theorem dX12_compared_42 : decode cX12_compared 42 = .ok (.iconst 1, 1) := dk4 (BX12_compared_1_1 (42, 4) (List.mem_of_getElem? (i := 0) rfl))
theorem dX12_compared_43 : decode cX12_compared 43 = .ok (.iadd, 1) := dk96 (BX12_compared_1_1 (43, 96) (List.mem_of_getElem? (i := 1) rfl))
theorem dX12_compared_44 : decode cX12_compared 44 = .ok (.putfield 297, 3) := dk181 1 41 (BX12_compared_3_0 (44, 181, 1, 41) (List.mem_of_getElem? (i := 8) rfl))
theorem dX12_compared_47 : decode cX12_compared 47 = .ok (.aload_n 0, 1) := dk42 (BX12_compared_1_1 (47, 42) (List.mem_of_getElem? (i := 2) rfl))
theorem dX12_compared_48 : decode cX12_compared 48 = .ok (.invokevirtual 321, 3) := dk182 1 65 (BX12_compared_3_0 (48, 182, 1, 65) (List.mem_of_getElem? (i := 9) rfl))
theorem dX12_compared_51 : decode cX12_compared 51 = .ok (.istore_n 3, 1) := dk62 (BX12_compared_1_1 (51, 62) (List.mem_of_getElem? (i := 3) rfl))
theorem dX12_compared_52 : decode cX12_compared 52 = .ok (.iload_n 2, 1) := dk28 (BX12_compared_1_1 (52, 28) (List.mem_of_getElem? (i := 4) rfl))
theorem dX12_compared_53 : decode cX12_compared 53 = .ok (.bipush 60, 2) := dk16 60 (BX12_compared_2_0 (53, 16, 60) (List.mem_of_getElem? (i := 3) rfl))
theorem dX12_compared_55 : decode cX12_compared 55 = .ok (.if_icmp .ne 11, 3) := dk160 0 11 (BX12_compared_3_0 (55, 160, 0, 11) (List.mem_of_getElem? (i := 10) rfl))
theorem dX12_compared_58 : decode cX12_compared 58 = .ok (.iload_n 1, 1) := dk27 (BX12_compared_1_1 (58, 27) (List.mem_of_getElem? (i := 5) rfl))
theorem dX12_compared_59 : decode cX12_compared 59 = .ok (.iload_n 3, 1) := dk29 (BX12_compared_1_1 (59, 29) (List.mem_of_getElem? (i := 6) rfl))
theorem dX12_compared_60 : decode cX12_compared 60 = .ok (.if_icmp .ge 29, 3) := dk162 0 29 (BX12_compared_3_0 (60, 162, 0, 29) (List.mem_of_getElem? (i := 11) rfl))
theorem dX12_compared_63 : decode cX12_compared 63 = .ok (.goto 22, 3) := dk167 0 22 (BX12_compared_3_1 (63, 167, 0, 22) (List.mem_of_getElem? (i := 0) rfl))
theorem dX12_compared_66 : decode cX12_compared 66 = .ok (.iload_n 2, 1) := dk28 (BX12_compared_1_1 (66, 28) (List.mem_of_getElem? (i := 7) rfl))
theorem dX12_compared_67 : decode cX12_compared 67 = .ok (.bipush 61, 2) := dk16 61 (BX12_compared_2_0 (67, 16, 61) (List.mem_of_getElem? (i := 4) rfl))
theorem dX12_compared_69 : decode cX12_compared 69 = .ok (.if_icmp .ne 11, 3) := dk160 0 11 (BX12_compared_3_1 (69, 160, 0, 11) (List.mem_of_getElem? (i := 1) rfl))
theorem dX12_compared_72 : decode cX12_compared 72 = .ok (.iload_n 1, 1) := dk27 (BX12_compared_1_1 (72, 27) (List.mem_of_getElem? (i := 8) rfl))
theorem dX12_compared_73 : decode cX12_compared 73 = .ok (.iload_n 3, 1) := dk29 (BX12_compared_1_1 (73, 29) (List.mem_of_getElem? (i := 9) rfl))
theorem dX12_compared_74 : decode cX12_compared 74 = .ok (.if_icmp .ne 15, 3) := dk160 0 15 (BX12_compared_3_1 (74, 160, 0, 15) (List.mem_of_getElem? (i := 2) rfl))
theorem dX12_compared_77 : decode cX12_compared 77 = .ok (.goto 8, 3) := dk167 0 8 (BX12_compared_3_1 (77, 167, 0, 8) (List.mem_of_getElem? (i := 3) rfl))
theorem dX12_compared_80 : decode cX12_compared 80 = .ok (.iload_n 1, 1) := dk27 (BX12_compared_1_1 (80, 27) (List.mem_of_getElem? (i := 10) rfl))
theorem dX12_compared_81 : decode cX12_compared 81 = .ok (.iload_n 3, 1) := dk29 (BX12_compared_1_1 (81, 29) (List.mem_of_getElem? (i := 11) rfl))
theorem dX12_compared_82 : decode cX12_compared 82 = .ok (.if_icmp .le 7, 3) := dk164 0 7 (BX12_compared_3_1 (82, 164, 0, 7) (List.mem_of_getElem? (i := 4) rfl))
theorem dX12_compared_85 : decode cX12_compared 85 = .ok (.iconst 1, 1) := dk4 (BX12_compared_1_2 (85, 4) (List.mem_of_getElem? (i := 0) rfl))
theorem dX12_compared_86 : decode cX12_compared 86 = .ok (.goto 4, 3) := dk167 0 4 (BX12_compared_3_1 (86, 167, 0, 4) (List.mem_of_getElem? (i := 5) rfl))
theorem dX12_compared_89 : decode cX12_compared 89 = .ok (.iconst 0, 1) := dk3 (BX12_compared_1_2 (89, 3) (List.mem_of_getElem? (i := 1) rfl))
theorem dX12_compared_90 : decode cX12_compared 90 = .ok (.ireturn, 1) := dk172 (BX12_compared_1_2 (90, 172) (List.mem_of_getElem? (i := 2) rfl))
set_option maxRecDepth 20000 in
theorem ggX12_sums_X12_product : GoodIn wsX12_sums wsX12_product := gcons (goodIn_g ch_wsX12_sums_flat gd_wsX12_sums _ [(2, 22)] rfl) (goodIn_app (goodIn_app (goodIn_g ch_wsX12_sums_flat gd_wsX12_sums _ [(1, 0), (1, 1), (2, 16), (2, 17), (2, 18), (1, 5), (1, 6), (1, 7), (1, 8), (1, 9), (1, 10), (1, 11), (1, 12), (1, 13), (1, 14), (1, 15), (1, 16), (1, 17), (1, 18), (1, 19), (1, 20), (1, 21), (1, 22), (1, 23)] rfl) (goodIn_g ch_wsX12_sums_flat gd_wsX12_sums _ [(2, 0), (2, 1), (2, 2), (2, 3), (2, 4), (2, 5), (2, 6), (2, 7), (2, 8), (2, 9), (2, 10), (2, 11), (2, 12), (2, 13), (2, 14), (2, 15), (2, 19), (2, 20), (2, 21), (0, 0), (1, 2), (1, 3), (1, 4)] rfl)) (gchunk ch_wsX12_sums_flat gd_wsX12_sums 3 rfl))
set_option maxRecDepth 20000 in
theorem gX12_sums_X12_product : GoodIn wsX12_sums (wsV RX12 324 RX12 yX12_product wsX12_product) := goodIn_app (goodIn_g ch_wsX12_sums_flat gd_wsX12_sums _ [(1, 2), (1, 3), (1, 4), (1, 5)] rfl) ggX12_sums_X12_product
set_option maxRecDepth 20000 in
theorem ggX12_sums_X12_byteAt : GoodIn wsX12_sums wsX12_byteAt := gcons (goodIn_g ch_wsX12_sums_flat gd_wsX12_sums _ [(1, 9)] rfl) (goodIn_app (goodIn_g ch_wsX12_sums_flat gd_wsX12_sums _ [(1, 1), (1, 10), (1, 11), (1, 12), (1, 13)] rfl) (gchunk ch_wsX12_sums_flat gd_wsX12_sums 3 rfl))
set_option maxRecDepth 20000 in
theorem gX12_sums_X12_byteAt : GoodIn wsX12_sums (wsV RX12 309 RX12 yX12_byteAt wsX12_byteAt) := goodIn_app (goodIn_g ch_wsX12_sums_flat gd_wsX12_sums _ [(1, 6), (1, 7), (1, 8), (1, 5)] rfl) ggX12_sums_X12_byteAt
set_option maxRecDepth 20000 in
theorem SX12_sums : ∀ p : Nat, gb cX12_sums p = segF [[42, 182, 1, 68, 60, 42, 180, 1, 50, 156, 0, 68, 42, 182, 1, 53, 16, 43, 159, 0, 12, 42, 182, 1, 53, 16, 45, 160, 0, 50, 42, 182, 1, 53, 16, 43, 160, 0, 7, 4, 167, 0, 4, 3, 61, 42, 89, 180, 1, 41, 4, 96, 181, 1, 41, 42, 182, 1, 68, 62, 28, 153, 0, 9], [27, 29, 96, 167, 0, 6, 27, 29, 100, 60, 167, 255, 187, 27, 172]] p := seg_gb (S := [[42, 182, 1, 68, 60, 42, 180, 1, 50, 156, 0, 68, 42, 182, 1, 53, 16, 43, 159, 0, 12, 42, 182, 1, 53, 16, 45, 160, 0, 50, 42, 182, 1, 53, 16, 43, 160, 0, 7, 4, 167, 0, 4, 3, 61, 42, 89, 180, 1, 41, 4, 96, 181, 1, 41, 42, 182, 1, 68, 62, 28, 153, 0, 9], [27, 29, 96, 167, 0, 6, 27, 29, 100, 60, 167, 255, 187, 27, 172]]) (by decide +kernel) (by decide +kernel)
set_option maxRecDepth 20000 in
theorem BX12_sums_1_0 : ∀ q ∈ ([(0, 42), (4, 60), (5, 42), (12, 42), (21, 42), (30, 42), (39, 4), (43, 3), (44, 61), (45, 42), (46, 89), (50, 4)] : List (Nat × Nat)), gb cX12_sums q.1 = some q.2 := seg_1 SX12_sums _ (by decide +kernel)
set_option maxRecDepth 20000 in
theorem BX12_sums_1_1 : ∀ q ∈ ([(51, 96), (55, 42), (59, 62), (60, 28), (64, 27), (65, 29), (66, 96), (70, 27), (71, 29), (72, 100), (73, 60), (77, 27)] : List (Nat × Nat)), gb cX12_sums q.1 = some q.2 := seg_1 SX12_sums _ (by decide +kernel)
set_option maxRecDepth 20000 in
theorem BX12_sums_1_2 : ∀ q ∈ ([(78, 172)] : List (Nat × Nat)), gb cX12_sums q.1 = some q.2 := seg_1 SX12_sums _ (by decide +kernel)
set_option maxRecDepth 20000 in
theorem BX12_sums_2_0 : ∀ q ∈ ([(16, 16, 43), (25, 16, 45), (34, 16, 43)] : List (Nat × Nat × Nat)), gb cX12_sums q.1 = some q.2.1 ∧ gb cX12_sums (q.1 + 1) = some q.2.2 := seg_2 SX12_sums _ (by decide +kernel)
set_option maxRecDepth 20000 in
theorem BX12_sums_3_0 : ∀ q ∈ ([(1, 182, 1, 68), (6, 180, 1, 50), (9, 156, 0, 68), (13, 182, 1, 53), (18, 159, 0, 12), (22, 182, 1, 53), (27, 160, 0, 50), (31, 182, 1, 53), (36, 160, 0, 7), (40, 167, 0, 4), (47, 180, 1, 41), (52, 181, 1, 41)] : List (Nat × Nat × Nat × Nat)), gb cX12_sums q.1 = some q.2.1 ∧ gb cX12_sums (q.1 + 1) = some q.2.2.1 ∧ gb cX12_sums (q.1 + 2) = some q.2.2.2 := seg_3 SX12_sums _ (by decide +kernel)
set_option maxRecDepth 20000 in
theorem BX12_sums_3_1 : ∀ q ∈ ([(56, 182, 1, 68), (61, 153, 0, 9), (67, 167, 0, 6), (74, 167, 255, 187)] : List (Nat × Nat × Nat × Nat)), gb cX12_sums q.1 = some q.2.1 ∧ gb cX12_sums (q.1 + 1) = some q.2.2.1 ∧ gb cX12_sums (q.1 + 2) = some q.2.2.2 := seg_3 SX12_sums _ (by decide +kernel)
theorem dX12_sums_0 : decode cX12_sums 0 = .ok (.aload_n 0, 1) := dk42 (BX12_sums_1_0 (0, 42) (List.mem_of_getElem? (i := 0) rfl))
theorem dX12_sums_1 : decode cX12_sums 1 = .ok (.invokevirtual 324, 3) := dk182 1 68 (BX12_sums_3_0 (1, 182, 1, 68) (List.mem_of_getElem? (i := 0) rfl))
theorem dX12_sums_4 : decode cX12_sums 4 = .ok (.istore_n 1, 1) := dk60 (BX12_sums_1_0 (4, 60) (List.mem_of_getElem? (i := 1) rfl))
theorem dX12_sums_5 : decode cX12_sums 5 = .ok (.aload_n 0, 1) := dk42 (BX12_sums_1_0 (5, 42) (List.mem_of_getElem? (i := 2) rfl))
theorem dX12_sums_6 : decode cX12_sums 6 = .ok (.getfield 306, 3) := dk180 1 50 (BX12_sums_3_0 (6, 180, 1, 50) (List.mem_of_getElem? (i := 1) rfl))
theorem dX12_sums_9 : decode cX12_sums 9 = .ok (.ifCond .ge 68, 3) := dk156 0 68 (BX12_sums_3_0 (9, 156, 0, 68) (List.mem_of_getElem? (i := 2) rfl))
theorem dX12_sums_12 : decode cX12_sums 12 = .ok (.aload_n 0, 1) := dk42 (BX12_sums_1_0 (12, 42) (List.mem_of_getElem? (i := 3) rfl))
theorem dX12_sums_13 : decode cX12_sums 13 = .ok (.invokevirtual 309, 3) := dk182 1 53 (BX12_sums_3_0 (13, 182, 1, 53) (List.mem_of_getElem? (i := 3) rfl))
theorem dX12_sums_16 : decode cX12_sums 16 = .ok (.bipush 43, 2) := dk16 43 (BX12_sums_2_0 (16, 16, 43) (List.mem_of_getElem? (i := 0) rfl))
theorem dX12_sums_18 : decode cX12_sums 18 = .ok (.if_icmp .eq 12, 3) := dk159 0 12 (BX12_sums_3_0 (18, 159, 0, 12) (List.mem_of_getElem? (i := 4) rfl))
theorem dX12_sums_21 : decode cX12_sums 21 = .ok (.aload_n 0, 1) := dk42 (BX12_sums_1_0 (21, 42) (List.mem_of_getElem? (i := 4) rfl))
theorem dX12_sums_22 : decode cX12_sums 22 = .ok (.invokevirtual 309, 3) := dk182 1 53 (BX12_sums_3_0 (22, 182, 1, 53) (List.mem_of_getElem? (i := 5) rfl))
theorem dX12_sums_25 : decode cX12_sums 25 = .ok (.bipush 45, 2) := dk16 45 (BX12_sums_2_0 (25, 16, 45) (List.mem_of_getElem? (i := 1) rfl))
theorem dX12_sums_27 : decode cX12_sums 27 = .ok (.if_icmp .ne 50, 3) := dk160 0 50 (BX12_sums_3_0 (27, 160, 0, 50) (List.mem_of_getElem? (i := 6) rfl))
theorem dX12_sums_30 : decode cX12_sums 30 = .ok (.aload_n 0, 1) := dk42 (BX12_sums_1_0 (30, 42) (List.mem_of_getElem? (i := 5) rfl))
theorem dX12_sums_31 : decode cX12_sums 31 = .ok (.invokevirtual 309, 3) := dk182 1 53 (BX12_sums_3_0 (31, 182, 1, 53) (List.mem_of_getElem? (i := 7) rfl))
theorem dX12_sums_34 : decode cX12_sums 34 = .ok (.bipush 43, 2) := dk16 43 (BX12_sums_2_0 (34, 16, 43) (List.mem_of_getElem? (i := 2) rfl))
theorem dX12_sums_36 : decode cX12_sums 36 = .ok (.if_icmp .ne 7, 3) := dk160 0 7 (BX12_sums_3_0 (36, 160, 0, 7) (List.mem_of_getElem? (i := 8) rfl))
theorem dX12_sums_39 : decode cX12_sums 39 = .ok (.iconst 1, 1) := dk4 (BX12_sums_1_0 (39, 4) (List.mem_of_getElem? (i := 6) rfl))
theorem dX12_sums_40 : decode cX12_sums 40 = .ok (.goto 4, 3) := dk167 0 4 (BX12_sums_3_0 (40, 167, 0, 4) (List.mem_of_getElem? (i := 9) rfl))
theorem dX12_sums_43 : decode cX12_sums 43 = .ok (.iconst 0, 1) := dk3 (BX12_sums_1_0 (43, 3) (List.mem_of_getElem? (i := 7) rfl))
theorem dX12_sums_44 : decode cX12_sums 44 = .ok (.istore_n 2, 1) := dk61 (BX12_sums_1_0 (44, 61) (List.mem_of_getElem? (i := 8) rfl))
theorem dX12_sums_45 : decode cX12_sums 45 = .ok (.aload_n 0, 1) := dk42 (BX12_sums_1_0 (45, 42) (List.mem_of_getElem? (i := 9) rfl))
theorem dX12_sums_46 : decode cX12_sums 46 = .ok (.dup, 1) := dk89 (BX12_sums_1_0 (46, 89) (List.mem_of_getElem? (i := 10) rfl))
theorem dX12_sums_47 : decode cX12_sums 47 = .ok (.getfield 297, 3) := dk180 1 41 (BX12_sums_3_0 (47, 180, 1, 41) (List.mem_of_getElem? (i := 10) rfl))
theorem dX12_sums_50 : decode cX12_sums 50 = .ok (.iconst 1, 1) := dk4 (BX12_sums_1_0 (50, 4) (List.mem_of_getElem? (i := 11) rfl))
theorem dX12_sums_51 : decode cX12_sums 51 = .ok (.iadd, 1) := dk96 (BX12_sums_1_1 (51, 96) (List.mem_of_getElem? (i := 0) rfl))
theorem dX12_sums_52 : decode cX12_sums 52 = .ok (.putfield 297, 3) := dk181 1 41 (BX12_sums_3_0 (52, 181, 1, 41) (List.mem_of_getElem? (i := 11) rfl))
theorem dX12_sums_55 : decode cX12_sums 55 = .ok (.aload_n 0, 1) := dk42 (BX12_sums_1_1 (55, 42) (List.mem_of_getElem? (i := 1) rfl))
theorem dX12_sums_56 : decode cX12_sums 56 = .ok (.invokevirtual 324, 3) := dk182 1 68 (BX12_sums_3_1 (56, 182, 1, 68) (List.mem_of_getElem? (i := 0) rfl))
theorem dX12_sums_59 : decode cX12_sums 59 = .ok (.istore_n 3, 1) := dk62 (BX12_sums_1_1 (59, 62) (List.mem_of_getElem? (i := 2) rfl))
theorem dX12_sums_60 : decode cX12_sums 60 = .ok (.iload_n 2, 1) := dk28 (BX12_sums_1_1 (60, 28) (List.mem_of_getElem? (i := 3) rfl))
theorem dX12_sums_61 : decode cX12_sums 61 = .ok (.ifCond .eq 9, 3) := dk153 0 9 (BX12_sums_3_1 (61, 153, 0, 9) (List.mem_of_getElem? (i := 1) rfl))
theorem dX12_sums_64 : decode cX12_sums 64 = .ok (.iload_n 1, 1) := dk27 (BX12_sums_1_1 (64, 27) (List.mem_of_getElem? (i := 4) rfl))
theorem dX12_sums_65 : decode cX12_sums 65 = .ok (.iload_n 3, 1) := dk29 (BX12_sums_1_1 (65, 29) (List.mem_of_getElem? (i := 5) rfl))
theorem dX12_sums_66 : decode cX12_sums 66 = .ok (.iadd, 1) := dk96 (BX12_sums_1_1 (66, 96) (List.mem_of_getElem? (i := 6) rfl))
theorem dX12_sums_67 : decode cX12_sums 67 = .ok (.goto 6, 3) := dk167 0 6 (BX12_sums_3_1 (67, 167, 0, 6) (List.mem_of_getElem? (i := 2) rfl))
theorem dX12_sums_70 : decode cX12_sums 70 = .ok (.iload_n 1, 1) := dk27 (BX12_sums_1_1 (70, 27) (List.mem_of_getElem? (i := 7) rfl))
theorem dX12_sums_71 : decode cX12_sums 71 = .ok (.iload_n 3, 1) := dk29 (BX12_sums_1_1 (71, 29) (List.mem_of_getElem? (i := 8) rfl))
theorem dX12_sums_72 : decode cX12_sums 72 = .ok (.isub, 1) := dk100 (BX12_sums_1_1 (72, 100) (List.mem_of_getElem? (i := 9) rfl))
theorem dX12_sums_73 : decode cX12_sums 73 = .ok (.istore_n 1, 1) := dk60 (BX12_sums_1_1 (73, 60) (List.mem_of_getElem? (i := 10) rfl))
theorem dX12_sums_74 : decode cX12_sums 74 = .ok (.goto (-69), 3) := dk167 255 187 (BX12_sums_3_1 (74, 167, 255, 187) (List.mem_of_getElem? (i := 3) rfl))
theorem dX12_sums_77 : decode cX12_sums 77 = .ok (.iload_n 1, 1) := dk27 (BX12_sums_1_1 (77, 27) (List.mem_of_getElem? (i := 11) rfl))
theorem dX12_sums_78 : decode cX12_sums 78 = .ok (.ireturn, 1) := dk172 (BX12_sums_1_2 (78, 172) (List.mem_of_getElem? (i := 0) rfl))
set_option maxRecDepth 20000 in
theorem ggX12_product_X12_one : GoodIn wsX12_product wsX12_one := gcons (goodIn_g ch_wsX12_product_flat gd_wsX12_product _ [(2, 6)] rfl) (goodIn_app (goodIn_app (goodIn_g ch_wsX12_product_flat gd_wsX12_product _ [(1, 0), (2, 7), (1, 1), (2, 8), (1, 6), (1, 7), (1, 8), (1, 5), (1, 9), (1, 10), (1, 11), (1, 12), (1, 13), (2, 9), (2, 10), (2, 11), (2, 12), (2, 13), (2, 14), (2, 15), (1, 2), (1, 3), (1, 4), (1, 18)] rfl) (goodIn_g ch_wsX12_product_flat gd_wsX12_product _ [(1, 19), (1, 20), (1, 21), (2, 16), (2, 17), (2, 18), (1, 14), (1, 15), (1, 16), (1, 17), (1, 22), (1, 23), (2, 0), (2, 1), (2, 2), (2, 3), (2, 4), (2, 5), (0, 0), (2, 19), (2, 20), (2, 21), (2, 22)] rfl)) (gchunk ch_wsX12_product_flat gd_wsX12_product 3 rfl))
set_option maxRecDepth 20000 in
theorem gX12_product_X12_one : GoodIn wsX12_product (wsV RX12 327 RX12 yX12_one wsX12_one) := goodIn_app (goodIn_g ch_wsX12_product_flat gd_wsX12_product _ [(1, 2), (1, 3), (1, 4), (1, 5)] rfl) ggX12_product_X12_one
set_option maxRecDepth 20000 in
theorem ggX12_product_X12_byteAt : GoodIn wsX12_product wsX12_byteAt := gcons (goodIn_g ch_wsX12_product_flat gd_wsX12_product _ [(1, 9)] rfl) (goodIn_app (goodIn_g ch_wsX12_product_flat gd_wsX12_product _ [(1, 1), (1, 10), (1, 11), (1, 12), (1, 13)] rfl) (gchunk ch_wsX12_product_flat gd_wsX12_product 3 rfl))
set_option maxRecDepth 20000 in
theorem gX12_product_X12_byteAt : GoodIn wsX12_product (wsV RX12 309 RX12 yX12_byteAt wsX12_byteAt) := goodIn_app (goodIn_g ch_wsX12_product_flat gd_wsX12_product _ [(1, 6), (1, 7), (1, 8), (1, 5)] rfl) ggX12_product_X12_byteAt
set_option maxRecDepth 20000 in
theorem SX12_product : ∀ p : Nat, gb cX12_product p = segF [[42, 182, 1, 71, 60, 42, 182, 1, 53, 61, 42, 180, 1, 50, 156, 0, 80, 28, 16, 42, 159, 0, 15, 28, 16, 47, 159, 0, 9, 28, 16, 37, 160, 0, 62, 42, 89, 180, 1, 41, 4, 96, 181, 1, 41, 42, 182, 1, 71, 62, 28, 16, 42, 160, 0, 9, 27, 29, 104, 167, 0, 26, 29, 154], [0, 7, 3, 167, 0, 18, 28, 16, 47, 160, 0, 9, 27, 29, 108, 167, 0, 6, 27, 29, 112, 60, 42, 182, 1, 53, 61, 167, 255, 175, 27, 172]] p := seg_gb (S := [[42, 182, 1, 71, 60, 42, 182, 1, 53, 61, 42, 180, 1, 50, 156, 0, 80, 28, 16, 42, 159, 0, 15, 28, 16, 47, 159, 0, 9, 28, 16, 37, 160, 0, 62, 42, 89, 180, 1, 41, 4, 96, 181, 1, 41, 42, 182, 1, 71, 62, 28, 16, 42, 160, 0, 9, 27, 29, 104, 167, 0, 26, 29, 154], [0, 7, 3, 167, 0, 18, 28, 16, 47, 160, 0, 9, 27, 29, 108, 167, 0, 6, 27, 29, 112, 60, 42, 182, 1, 53, 61, 167, 255, 175, 27, 172]]) (by decide +kernel) (by decide +kernel)
set_option maxRecDepth 20000 in
theorem BX12_product_1_0 : ∀ q ∈ ([(0, 42), (4, 60), (5, 42), (9, 61), (10, 42), (17, 28), (23, 28), (29, 28), (35, 42), (36, 89), (40, 4), (41, 96)] : List (Nat × Nat)), gb cX12_product q.1 = some q.2 := seg_1 SX12_product _ (by decide +kernel)
set_option maxRecDepth 20000 in
theorem BX12_product_1_1 : ∀ q ∈ ([(45, 42), (49, 62), (50, 28), (56, 27), (57, 29), (58, 104), (62, 29), (66, 3), (70, 28), (76, 27), (77, 29), (78, 108)] : List (Nat × Nat)), gb cX12_product q.1 = some q.2 := seg_1 SX12_product _ (by decide +kernel)
set_option maxRecDepth 20000 in
theorem BX12_product_1_2 : ∀ q ∈ ([(82, 27), (83, 29), (84, 112), (85, 60), (86, 42), (90, 61), (94, 27), (95, 172)] : List (Nat × Nat)), gb cX12_product q.1 = some q.2 := seg_1 SX12_product _ (by decide +kernel)
set_option maxRecDepth 20000 in
theorem BX12_product_2_0 : ∀ q ∈ ([(18, 16, 42), (24, 16, 47), (30, 16, 37), (51, 16, 42), (71, 16, 47)] : List (Nat × Nat × Nat)), gb cX12_product q.1 = some q.2.1 ∧ gb cX12_product (q.1 + 1) = some q.2.2 := seg_2 SX12_product _ (by decide +kernel)
set_option maxRecDepth 20000 in
theorem BX12_product_3_0 : ∀ q ∈ ([(1, 182, 1, 71), (6, 182, 1, 53), (11, 180, 1, 50), (14, 156, 0, 80), (20, 159, 0, 15), (26, 159, 0, 9), (32, 160, 0, 62), (37, 180, 1, 41), (42, 181, 1, 41), (46, 182, 1, 71), (53, 160, 0, 9), (59, 167, 0, 26)] : List (Nat × Nat × Nat × Nat)), gb cX12_product q.1 = some q.2.1 ∧ gb cX12_product (q.1 + 1) = some q.2.2.1 ∧ gb cX12_product (q.1 + 2) = some q.2.2.2 := seg_3 SX12_product _ (by decide +kernel)
set_option maxRecDepth 20000 in
theorem BX12_product_3_1 : ∀ q ∈ ([(63, 154, 0, 7), (67, 167, 0, 18), (73, 160, 0, 9), (79, 167, 0, 6), (87, 182, 1, 53), (91, 167, 255, 175)] : List (Nat × Nat × Nat × Nat)), gb cX12_product q.1 = some q.2.1 ∧ gb cX12_product (q.1 + 1) = some q.2.2.1 ∧ gb cX12_product (q.1 + 2) = some q.2.2.2 := seg_3 SX12_product _ (by decide +kernel)
theorem dX12_product_0 : decode cX12_product 0 = .ok (.aload_n 0, 1) := dk42 (BX12_product_1_0 (0, 42) (List.mem_of_getElem? (i := 0) rfl))
theorem dX12_product_1 : decode cX12_product 1 = .ok (.invokevirtual 327, 3) := dk182 1 71 (BX12_product_3_0 (1, 182, 1, 71) (List.mem_of_getElem? (i := 0) rfl))
theorem dX12_product_4 : decode cX12_product 4 = .ok (.istore_n 1, 1) := dk60 (BX12_product_1_0 (4, 60) (List.mem_of_getElem? (i := 1) rfl))
theorem dX12_product_5 : decode cX12_product 5 = .ok (.aload_n 0, 1) := dk42 (BX12_product_1_0 (5, 42) (List.mem_of_getElem? (i := 2) rfl))
theorem dX12_product_6 : decode cX12_product 6 = .ok (.invokevirtual 309, 3) := dk182 1 53 (BX12_product_3_0 (6, 182, 1, 53) (List.mem_of_getElem? (i := 1) rfl))
theorem dX12_product_9 : decode cX12_product 9 = .ok (.istore_n 2, 1) := dk61 (BX12_product_1_0 (9, 61) (List.mem_of_getElem? (i := 3) rfl))
theorem dX12_product_10 : decode cX12_product 10 = .ok (.aload_n 0, 1) := dk42 (BX12_product_1_0 (10, 42) (List.mem_of_getElem? (i := 4) rfl))
theorem dX12_product_11 : decode cX12_product 11 = .ok (.getfield 306, 3) := dk180 1 50 (BX12_product_3_0 (11, 180, 1, 50) (List.mem_of_getElem? (i := 2) rfl))
theorem dX12_product_14 : decode cX12_product 14 = .ok (.ifCond .ge 80, 3) := dk156 0 80 (BX12_product_3_0 (14, 156, 0, 80) (List.mem_of_getElem? (i := 3) rfl))
theorem dX12_product_17 : decode cX12_product 17 = .ok (.iload_n 2, 1) := dk28 (BX12_product_1_0 (17, 28) (List.mem_of_getElem? (i := 5) rfl))
theorem dX12_product_18 : decode cX12_product 18 = .ok (.bipush 42, 2) := dk16 42 (BX12_product_2_0 (18, 16, 42) (List.mem_of_getElem? (i := 0) rfl))
theorem dX12_product_20 : decode cX12_product 20 = .ok (.if_icmp .eq 15, 3) := dk159 0 15 (BX12_product_3_0 (20, 159, 0, 15) (List.mem_of_getElem? (i := 4) rfl))
theorem dX12_product_23 : decode cX12_product 23 = .ok (.iload_n 2, 1) := dk28 (BX12_product_1_0 (23, 28) (List.mem_of_getElem? (i := 6) rfl))
theorem dX12_product_24 : decode cX12_product 24 = .ok (.bipush 47, 2) := dk16 47 (BX12_product_2_0 (24, 16, 47) (List.mem_of_getElem? (i := 1) rfl))
theorem dX12_product_26 : decode cX12_product 26 = .ok (.if_icmp .eq 9, 3) := dk159 0 9 (BX12_product_3_0 (26, 159, 0, 9) (List.mem_of_getElem? (i := 5) rfl))
theorem dX12_product_29 : decode cX12_product 29 = .ok (.iload_n 2, 1) := dk28 (BX12_product_1_0 (29, 28) (List.mem_of_getElem? (i := 7) rfl))
theorem dX12_product_30 : decode cX12_product 30 = .ok (.bipush 37, 2) := dk16 37 (BX12_product_2_0 (30, 16, 37) (List.mem_of_getElem? (i := 2) rfl))
theorem dX12_product_32 : decode cX12_product 32 = .ok (.if_icmp .ne 62, 3) := dk160 0 62 (BX12_product_3_0 (32, 160, 0, 62) (List.mem_of_getElem? (i := 6) rfl))
theorem dX12_product_35 : decode cX12_product 35 = .ok (.aload_n 0, 1) := dk42 (BX12_product_1_0 (35, 42) (List.mem_of_getElem? (i := 8) rfl))
theorem dX12_product_36 : decode cX12_product 36 = .ok (.dup, 1) := dk89 (BX12_product_1_0 (36, 89) (List.mem_of_getElem? (i := 9) rfl))
theorem dX12_product_37 : decode cX12_product 37 = .ok (.getfield 297, 3) := dk180 1 41 (BX12_product_3_0 (37, 180, 1, 41) (List.mem_of_getElem? (i := 7) rfl))
theorem dX12_product_40 : decode cX12_product 40 = .ok (.iconst 1, 1) := dk4 (BX12_product_1_0 (40, 4) (List.mem_of_getElem? (i := 10) rfl))
theorem dX12_product_41 : decode cX12_product 41 = .ok (.iadd, 1) := dk96 (BX12_product_1_0 (41, 96) (List.mem_of_getElem? (i := 11) rfl))
theorem dX12_product_42 : decode cX12_product 42 = .ok (.putfield 297, 3) := dk181 1 41 (BX12_product_3_0 (42, 181, 1, 41) (List.mem_of_getElem? (i := 8) rfl))
theorem dX12_product_45 : decode cX12_product 45 = .ok (.aload_n 0, 1) := dk42 (BX12_product_1_1 (45, 42) (List.mem_of_getElem? (i := 0) rfl))
theorem dX12_product_46 : decode cX12_product 46 = .ok (.invokevirtual 327, 3) := dk182 1 71 (BX12_product_3_0 (46, 182, 1, 71) (List.mem_of_getElem? (i := 9) rfl))
theorem dX12_product_49 : decode cX12_product 49 = .ok (.istore_n 3, 1) := dk62 (BX12_product_1_1 (49, 62) (List.mem_of_getElem? (i := 1) rfl))
theorem dX12_product_50 : decode cX12_product 50 = .ok (.iload_n 2, 1) := dk28 (BX12_product_1_1 (50, 28) (List.mem_of_getElem? (i := 2) rfl))
theorem dX12_product_51 : decode cX12_product 51 = .ok (.bipush 42, 2) := dk16 42 (BX12_product_2_0 (51, 16, 42) (List.mem_of_getElem? (i := 3) rfl))
theorem dX12_product_53 : decode cX12_product 53 = .ok (.if_icmp .ne 9, 3) := dk160 0 9 (BX12_product_3_0 (53, 160, 0, 9) (List.mem_of_getElem? (i := 10) rfl))
theorem dX12_product_56 : decode cX12_product 56 = .ok (.iload_n 1, 1) := dk27 (BX12_product_1_1 (56, 27) (List.mem_of_getElem? (i := 3) rfl))
theorem dX12_product_57 : decode cX12_product 57 = .ok (.iload_n 3, 1) := dk29 (BX12_product_1_1 (57, 29) (List.mem_of_getElem? (i := 4) rfl))
theorem dX12_product_58 : decode cX12_product 58 = .ok (.imul, 1) := dk104 (BX12_product_1_1 (58, 104) (List.mem_of_getElem? (i := 5) rfl))
theorem dX12_product_59 : decode cX12_product 59 = .ok (.goto 26, 3) := dk167 0 26 (BX12_product_3_0 (59, 167, 0, 26) (List.mem_of_getElem? (i := 11) rfl))
theorem dX12_product_62 : decode cX12_product 62 = .ok (.iload_n 3, 1) := dk29 (BX12_product_1_1 (62, 29) (List.mem_of_getElem? (i := 6) rfl))
theorem dX12_product_63 : decode cX12_product 63 = .ok (.ifCond .ne 7, 3) := dk154 0 7 (BX12_product_3_1 (63, 154, 0, 7) (List.mem_of_getElem? (i := 0) rfl))
theorem dX12_product_66 : decode cX12_product 66 = .ok (.iconst 0, 1) := dk3 (BX12_product_1_1 (66, 3) (List.mem_of_getElem? (i := 7) rfl))
theorem dX12_product_67 : decode cX12_product 67 = .ok (.goto 18, 3) := dk167 0 18 (BX12_product_3_1 (67, 167, 0, 18) (List.mem_of_getElem? (i := 1) rfl))
theorem dX12_product_70 : decode cX12_product 70 = .ok (.iload_n 2, 1) := dk28 (BX12_product_1_1 (70, 28) (List.mem_of_getElem? (i := 8) rfl))
theorem dX12_product_71 : decode cX12_product 71 = .ok (.bipush 47, 2) := dk16 47 (BX12_product_2_0 (71, 16, 47) (List.mem_of_getElem? (i := 4) rfl))
theorem dX12_product_73 : decode cX12_product 73 = .ok (.if_icmp .ne 9, 3) := dk160 0 9 (BX12_product_3_1 (73, 160, 0, 9) (List.mem_of_getElem? (i := 2) rfl))
theorem dX12_product_76 : decode cX12_product 76 = .ok (.iload_n 1, 1) := dk27 (BX12_product_1_1 (76, 27) (List.mem_of_getElem? (i := 9) rfl))
theorem dX12_product_77 : decode cX12_product 77 = .ok (.iload_n 3, 1) := dk29 (BX12_product_1_1 (77, 29) (List.mem_of_getElem? (i := 10) rfl))
theorem dX12_product_78 : decode cX12_product 78 = .ok (.idiv, 1) := dk108 (BX12_product_1_1 (78, 108) (List.mem_of_getElem? (i := 11) rfl))
theorem dX12_product_79 : decode cX12_product 79 = .ok (.goto 6, 3) := dk167 0 6 (BX12_product_3_1 (79, 167, 0, 6) (List.mem_of_getElem? (i := 3) rfl))
theorem dX12_product_82 : decode cX12_product 82 = .ok (.iload_n 1, 1) := dk27 (BX12_product_1_2 (82, 27) (List.mem_of_getElem? (i := 0) rfl))
theorem dX12_product_83 : decode cX12_product 83 = .ok (.iload_n 3, 1) := dk29 (BX12_product_1_2 (83, 29) (List.mem_of_getElem? (i := 1) rfl))
theorem dX12_product_84 : decode cX12_product 84 = .ok (.irem, 1) := dk112 (BX12_product_1_2 (84, 112) (List.mem_of_getElem? (i := 2) rfl))
theorem dX12_product_85 : decode cX12_product 85 = .ok (.istore_n 1, 1) := dk60 (BX12_product_1_2 (85, 60) (List.mem_of_getElem? (i := 3) rfl))
theorem dX12_product_86 : decode cX12_product 86 = .ok (.aload_n 0, 1) := dk42 (BX12_product_1_2 (86, 42) (List.mem_of_getElem? (i := 4) rfl))
theorem dX12_product_87 : decode cX12_product 87 = .ok (.invokevirtual 309, 3) := dk182 1 53 (BX12_product_3_1 (87, 182, 1, 53) (List.mem_of_getElem? (i := 4) rfl))
theorem dX12_product_90 : decode cX12_product 90 = .ok (.istore_n 2, 1) := dk61 (BX12_product_1_2 (90, 61) (List.mem_of_getElem? (i := 5) rfl))
theorem dX12_product_91 : decode cX12_product 91 = .ok (.goto (-81), 3) := dk167 255 175 (BX12_product_3_1 (91, 167, 255, 175) (List.mem_of_getElem? (i := 5) rfl))
theorem dX12_product_94 : decode cX12_product 94 = .ok (.iload_n 1, 1) := dk27 (BX12_product_1_2 (94, 27) (List.mem_of_getElem? (i := 6) rfl))
theorem dX12_product_95 : decode cX12_product 95 = .ok (.ireturn, 1) := dk172 (BX12_product_1_2 (95, 172) (List.mem_of_getElem? (i := 7) rfl))
set_option maxRecDepth 20000 in
theorem SX12_nameOf : ∀ p : Nat, gb cX12_nameOf p = segF [[26, 170, 0, 0, 0, 0, 0, 133, 0, 0, 0, 97, 0, 0, 0, 121, 0, 0, 0, 130, 0, 0, 0, 121, 0, 0, 0, 133, 0, 0, 0, 133, 0, 0, 0, 133, 0, 0, 0, 127, 0, 0, 0, 133, 0, 0, 0, 133, 0, 0, 0, 133, 0, 0, 0, 133, 0, 0, 0, 133, 0, 0, 0, 123], [0, 0, 0, 133, 0, 0, 0, 133, 0, 0, 0, 115, 0, 0, 0, 133, 0, 0, 0, 133, 0, 0, 0, 117, 0, 0, 0, 119, 0, 0, 0, 133, 0, 0, 0, 133, 0, 0, 0, 133, 0, 0, 0, 133, 0, 0, 0, 133, 0, 0, 0, 125, 3, 172, 4, 172, 5, 172, 6, 172, 7, 172, 8, 172], [16, 6, 172, 16, 7, 172, 2, 172]] p := seg_gb (S := [[26, 170, 0, 0, 0, 0, 0, 133, 0, 0, 0, 97, 0, 0, 0, 121, 0, 0, 0, 130, 0, 0, 0, 121, 0, 0, 0, 133, 0, 0, 0, 133, 0, 0, 0, 133, 0, 0, 0, 127, 0, 0, 0, 133, 0, 0, 0, 133, 0, 0, 0, 133, 0, 0, 0, 133, 0, 0, 0, 133, 0, 0, 0, 123], [0, 0, 0, 133, 0, 0, 0, 133, 0, 0, 0, 115, 0, 0, 0, 133, 0, 0, 0, 133, 0, 0, 0, 117, 0, 0, 0, 119, 0, 0, 0, 133, 0, 0, 0, 133, 0, 0, 0, 133, 0, 0, 0, 133, 0, 0, 0, 133, 0, 0, 0, 125, 3, 172, 4, 172, 5, 172, 6, 172, 7, 172, 8, 172], [16, 6, 172, 16, 7, 172, 2, 172]]) (by decide +kernel) (by decide +kernel)
set_option maxRecDepth 20000 in
theorem BX12_nameOf_1_0 : ∀ q ∈ ([(0, 26), (116, 3), (117, 172), (118, 4), (119, 172), (120, 5), (121, 172), (122, 6), (123, 172), (124, 7), (125, 172), (126, 8)] : List (Nat × Nat)), gb cX12_nameOf q.1 = some q.2 := seg_1 SX12_nameOf _ (by decide +kernel)
set_option maxRecDepth 20000 in
theorem BX12_nameOf_1_1 : ∀ q ∈ ([(127, 172), (130, 172), (133, 172), (134, 2), (135, 172)] : List (Nat × Nat)), gb cX12_nameOf q.1 = some q.2 := seg_1 SX12_nameOf _ (by decide +kernel)
set_option maxRecDepth 20000 in
theorem BX12_nameOf_2_0 : ∀ q ∈ ([(128, 16, 6), (131, 16, 7)] : List (Nat × Nat × Nat)), gb cX12_nameOf q.1 = some q.2.1 ∧ gb cX12_nameOf (q.1 + 1) = some q.2.2 := seg_2 SX12_nameOf _ (by decide +kernel)
theorem dX12_nameOf_0 : decode cX12_nameOf 0 = .ok (.iload_n 0, 1) := dk26 (BX12_nameOf_1_0 (0, 26) (List.mem_of_getElem? (i := 0) rfl))
theorem dX12_nameOf_1 : decode cX12_nameOf 1 = .ok (.tableswitch 133 97 121 #[130, 121, 133, 133, 133, 127, 133, 133, 133, 133, 133, 123, 133, 133, 115, 133, 133, 117, 119, 133, 133, 133, 133, 133, 125], 115) := by decide +kernel
theorem dX12_nameOf_116 : decode cX12_nameOf 116 = .ok (.iconst 0, 1) := dk3 (BX12_nameOf_1_0 (116, 3) (List.mem_of_getElem? (i := 1) rfl))
theorem dX12_nameOf_117 : decode cX12_nameOf 117 = .ok (.ireturn, 1) := dk172 (BX12_nameOf_1_0 (117, 172) (List.mem_of_getElem? (i := 2) rfl))
theorem dX12_nameOf_118 : decode cX12_nameOf 118 = .ok (.iconst 1, 1) := dk4 (BX12_nameOf_1_0 (118, 4) (List.mem_of_getElem? (i := 3) rfl))
theorem dX12_nameOf_119 : decode cX12_nameOf 119 = .ok (.ireturn, 1) := dk172 (BX12_nameOf_1_0 (119, 172) (List.mem_of_getElem? (i := 4) rfl))
theorem dX12_nameOf_120 : decode cX12_nameOf 120 = .ok (.iconst 2, 1) := dk5 (BX12_nameOf_1_0 (120, 5) (List.mem_of_getElem? (i := 5) rfl))
theorem dX12_nameOf_121 : decode cX12_nameOf 121 = .ok (.ireturn, 1) := dk172 (BX12_nameOf_1_0 (121, 172) (List.mem_of_getElem? (i := 6) rfl))
theorem dX12_nameOf_122 : decode cX12_nameOf 122 = .ok (.iconst 3, 1) := dk6 (BX12_nameOf_1_0 (122, 6) (List.mem_of_getElem? (i := 7) rfl))
theorem dX12_nameOf_123 : decode cX12_nameOf 123 = .ok (.ireturn, 1) := dk172 (BX12_nameOf_1_0 (123, 172) (List.mem_of_getElem? (i := 8) rfl))
theorem dX12_nameOf_124 : decode cX12_nameOf 124 = .ok (.iconst 4, 1) := dk7 (BX12_nameOf_1_0 (124, 7) (List.mem_of_getElem? (i := 9) rfl))
theorem dX12_nameOf_125 : decode cX12_nameOf 125 = .ok (.ireturn, 1) := dk172 (BX12_nameOf_1_0 (125, 172) (List.mem_of_getElem? (i := 10) rfl))
theorem dX12_nameOf_126 : decode cX12_nameOf 126 = .ok (.iconst 5, 1) := dk8 (BX12_nameOf_1_0 (126, 8) (List.mem_of_getElem? (i := 11) rfl))
theorem dX12_nameOf_127 : decode cX12_nameOf 127 = .ok (.ireturn, 1) := dk172 (BX12_nameOf_1_1 (127, 172) (List.mem_of_getElem? (i := 0) rfl))
theorem dX12_nameOf_128 : decode cX12_nameOf 128 = .ok (.bipush 6, 2) := dk16 6 (BX12_nameOf_2_0 (128, 16, 6) (List.mem_of_getElem? (i := 0) rfl))
theorem dX12_nameOf_130 : decode cX12_nameOf 130 = .ok (.ireturn, 1) := dk172 (BX12_nameOf_1_1 (130, 172) (List.mem_of_getElem? (i := 1) rfl))
theorem dX12_nameOf_131 : decode cX12_nameOf 131 = .ok (.bipush 7, 2) := dk16 7 (BX12_nameOf_2_0 (131, 16, 7) (List.mem_of_getElem? (i := 1) rfl))
theorem dX12_nameOf_133 : decode cX12_nameOf 133 = .ok (.ireturn, 1) := dk172 (BX12_nameOf_1_1 (133, 172) (List.mem_of_getElem? (i := 2) rfl))
theorem dX12_nameOf_134 : decode cX12_nameOf 134 = .ok (.iconst (-1), 1) := dk2 (BX12_nameOf_1_1 (134, 2) (List.mem_of_getElem? (i := 3) rfl))
theorem dX12_nameOf_135 : decode cX12_nameOf 135 = .ok (.ireturn, 1) := dk172 (BX12_nameOf_1_1 (135, 172) (List.mem_of_getElem? (i := 4) rfl))
set_option maxRecDepth 20000 in
theorem ggX12_one_X12_byteAt : GoodIn wsX12_one wsX12_byteAt := gcons (goodIn_g ch_wsX12_one_flat gd_wsX12_one _ [(1, 8)] rfl) (goodIn_app (goodIn_g ch_wsX12_one_flat gd_wsX12_one _ [(1, 2), (1, 9), (1, 10), (1, 11), (1, 12)] rfl) (gchunk ch_wsX12_one_flat gd_wsX12_one 3 rfl))
set_option maxRecDepth 20000 in
theorem gX12_one_X12_byteAt : GoodIn wsX12_one (wsV RX12 309 RX12 yX12_byteAt wsX12_byteAt) := goodIn_app (goodIn_g ch_wsX12_one_flat gd_wsX12_one _ [(1, 4), (1, 5), (1, 6), (1, 7)] rfl) ggX12_one_X12_byteAt
set_option maxRecDepth 20000 in
theorem ggX12_one_X12_wrong : GoodIn wsX12_one wsX12_wrong := gcons (goodIn_g ch_wsX12_one_flat gd_wsX12_one _ [(1, 16)] rfl) (goodIn_app (goodIn_g ch_wsX12_one_flat gd_wsX12_one _ [(1, 0), (1, 2)] rfl) (gchunk ch_wsX12_one_flat gd_wsX12_one 3 rfl))
set_option maxRecDepth 20000 in
theorem gX12_one_X12_wrong : GoodIn wsX12_one (wsV RX12 333 RX12 yX12_wrong wsX12_wrong) := goodIn_app (goodIn_g ch_wsX12_one_flat gd_wsX12_one _ [(1, 13), (1, 14), (1, 15), (1, 7)] rfl) ggX12_one_X12_wrong
set_option maxRecDepth 20000 in
theorem ggX12_one_X12_either : GoodIn wsX12_one wsX12_either := gcons (goodIn_g ch_wsX12_one_flat gd_wsX12_one _ [(2, 14)] rfl) (goodIn_app (goodIn_app (goodIn_g ch_wsX12_one_flat gd_wsX12_one _ [(2, 15), (2, 16), (2, 17), (1, 7), (1, 23), (2, 0), (2, 1), (2, 2), (1, 0), (1, 2), (1, 4), (1, 5), (1, 6), (1, 8), (1, 9), (1, 10), (1, 11), (1, 12), (2, 6), (2, 7), (2, 8), (2, 9), (2, 10), (2, 11)] rfl) (goodIn_g ch_wsX12_one_flat gd_wsX12_one _ [(2, 12), (2, 13), (0, 0), (1, 1), (1, 3), (1, 13), (1, 14), (1, 15), (1, 16), (1, 17), (1, 18), (1, 19), (1, 20), (1, 21), (1, 22), (2, 3), (2, 4), (2, 5), (2, 18), (2, 19), (2, 20), (2, 21), (2, 22)] rfl)) (gchunk ch_wsX12_one_flat gd_wsX12_one 3 rfl))
set_option maxRecDepth 20000 in
theorem gX12_one_X12_either : GoodIn wsX12_one (wsV RX12 336 RX12 yX12_either wsX12_either) := goodIn_app (goodIn_g ch_wsX12_one_flat gd_wsX12_one _ [(1, 17), (1, 18), (1, 19), (1, 7)] rfl) ggX12_one_X12_either
set_option maxRecDepth 20000 in
theorem ggX12_one_X12_one : GoodIn wsX12_one wsX12_one := gcons (goodIn_g ch_wsX12_one_flat gd_wsX12_one _ [(0, 0)] rfl) (goodIn_app (goodIn_app (goodIn_g ch_wsX12_one_flat gd_wsX12_one _ [(1, 0), (1, 1), (1, 2), (1, 3), (1, 4), (1, 5), (1, 6), (1, 7), (1, 8), (1, 9), (1, 10), (1, 11), (1, 12), (1, 13), (1, 14), (1, 15), (1, 16), (1, 17), (1, 18), (1, 19), (1, 20), (1, 21), (1, 22), (1, 23)] rfl) (goodIn_g ch_wsX12_one_flat gd_wsX12_one _ [(2, 0), (2, 1), (2, 2), (2, 3), (2, 4), (2, 5), (2, 6), (2, 7), (2, 8), (2, 9), (2, 10), (2, 11), (2, 12), (2, 13), (2, 14), (2, 15), (2, 16), (2, 17), (2, 18), (2, 19), (2, 20), (2, 21), (2, 22)] rfl)) (gchunk ch_wsX12_one_flat gd_wsX12_one 3 rfl))
set_option maxRecDepth 20000 in
theorem gX12_one_X12_one : GoodIn wsX12_one (wsV RX12 327 RX12 yX12_one wsX12_one) := goodIn_app (goodIn_g ch_wsX12_one_flat gd_wsX12_one _ [(1, 20), (1, 21), (1, 22), (1, 7)] rfl) ggX12_one_X12_one
set_option maxRecDepth 20000 in
theorem ggX12_one_X12_takes : GoodIn wsX12_one wsX12_takes := gcons (goodIn_g ch_wsX12_one_flat gd_wsX12_one _ [(2, 2)] rfl) (goodIn_app (goodIn_g ch_wsX12_one_flat gd_wsX12_one _ [(1, 0), (1, 2), (1, 4), (1, 5), (1, 6), (1, 7), (1, 8), (1, 9), (1, 10), (1, 11), (1, 12)] rfl) (gchunk ch_wsX12_one_flat gd_wsX12_one 3 rfl))
set_option maxRecDepth 20000 in
theorem gX12_one_X12_takes : GoodIn wsX12_one (wsV RX12 315 RX12 yX12_takes wsX12_takes) := goodIn_app (goodIn_g ch_wsX12_one_flat gd_wsX12_one _ [(1, 23), (2, 0), (2, 1), (1, 7)] rfl) ggX12_one_X12_takes
set_option maxRecDepth 20000 in
theorem ggX12_one_X12_nameOf : GoodIn wsX12_one wsX12_nameOf := goodIn_g ch_wsX12_one_flat gd_wsX12_one _ [(2, 5)] rfl
set_option maxRecDepth 20000 in
theorem gX12_one_X12_nameOf : GoodIn wsX12_one (va_wsS RX12 339 yX12_nameOf wsX12_nameOf) := goodIn_app (goodIn_g ch_wsX12_one_flat gd_wsX12_one _ [(2, 3), (2, 4), (1, 7)] rfl) ggX12_one_X12_nameOf
set_option maxRecDepth 20000 in
theorem SX12_one : ∀ p : Nat, gb cX12_one p = segF [[42, 180, 1, 50, 155, 0, 5, 3, 172, 42, 182, 1, 53, 60, 27, 16, 33, 159, 0, 15, 27, 16, 45, 159, 0, 9, 27, 16, 40, 160, 0, 116, 42, 180, 1, 74, 16, 6, 160, 0, 8, 42, 182, 1, 77, 172, 42, 89, 180, 1, 74, 4, 96, 181, 1, 74, 42, 89, 180, 1, 41, 4, 96, 181], [1, 41, 27, 16, 40, 160, 0, 10, 42, 182, 1, 80, 167, 0, 7, 42, 182, 1, 71, 61, 27, 16, 40, 160, 0, 17, 42, 16, 41, 182, 1, 59, 154, 0, 8, 42, 182, 1, 77, 172, 42, 89, 180, 1, 74, 4, 100, 181, 1, 74, 27, 16, 40, 160, 0, 7, 28, 167, 0, 23, 27, 16, 45, 160], [0, 8, 28, 116, 167, 0, 12, 28, 154, 0, 7, 4, 167, 0, 4, 3, 172, 27, 184, 1, 83, 61, 28, 155, 0, 20, 42, 89, 180, 1, 41, 4, 96, 181, 1, 41, 42, 180, 0, 98, 28, 46, 172, 3, 62, 3, 54, 4, 21, 4, 7, 162, 0, 50, 42, 182, 1, 53, 16, 48, 161, 0, 41, 42], [182, 1, 53, 16, 57, 163, 0, 32, 16, 10, 29, 104, 42, 182, 1, 53, 96, 16, 48, 100, 62, 132, 4, 1, 42, 89, 180, 1, 41, 4, 96, 181, 1, 41, 167, 255, 206, 21, 4, 154, 0, 10, 42, 182, 1, 77, 167, 0, 4, 29, 172]] p := seg_gb (S := [[42, 180, 1, 50, 155, 0, 5, 3, 172, 42, 182, 1, 53, 60, 27, 16, 33, 159, 0, 15, 27, 16, 45, 159, 0, 9, 27, 16, 40, 160, 0, 116, 42, 180, 1, 74, 16, 6, 160, 0, 8, 42, 182, 1, 77, 172, 42, 89, 180, 1, 74, 4, 96, 181, 1, 74, 42, 89, 180, 1, 41, 4, 96, 181], [1, 41, 27, 16, 40, 160, 0, 10, 42, 182, 1, 80, 167, 0, 7, 42, 182, 1, 71, 61, 27, 16, 40, 160, 0, 17, 42, 16, 41, 182, 1, 59, 154, 0, 8, 42, 182, 1, 77, 172, 42, 89, 180, 1, 74, 4, 100, 181, 1, 74, 27, 16, 40, 160, 0, 7, 28, 167, 0, 23, 27, 16, 45, 160], [0, 8, 28, 116, 167, 0, 12, 28, 154, 0, 7, 4, 167, 0, 4, 3, 172, 27, 184, 1, 83, 61, 28, 155, 0, 20, 42, 89, 180, 1, 41, 4, 96, 181, 1, 41, 42, 180, 0, 98, 28, 46, 172, 3, 62, 3, 54, 4, 21, 4, 7, 162, 0, 50, 42, 182, 1, 53, 16, 48, 161, 0, 41, 42], [182, 1, 53, 16, 57, 163, 0, 32, 16, 10, 29, 104, 42, 182, 1, 53, 96, 16, 48, 100, 62, 132, 4, 1, 42, 89, 180, 1, 41, 4, 96, 181, 1, 41, 167, 255, 206, 21, 4, 154, 0, 10, 42, 182, 1, 77, 167, 0, 4, 29, 172]]) (by decide +kernel) (by decide +kernel)
set_option maxRecDepth 20000 in
theorem BX12_one_1_0 : ∀ q ∈ ([(0, 42), (7, 3), (8, 172), (9, 42), (13, 60), (14, 27), (20, 27), (26, 27), (32, 42), (41, 42), (45, 172), (46, 42)] : List (Nat × Nat)), gb cX12_one q.1 = some q.2 := seg_1 SX12_one _ (by decide +kernel)
set_option maxRecDepth 20000 in
theorem BX12_one_1_1 : ∀ q ∈ ([(47, 89), (51, 4), (52, 96), (56, 42), (57, 89), (61, 4), (62, 96), (66, 27), (72, 42), (79, 42), (83, 61), (84, 27)] : List (Nat × Nat)), gb cX12_one q.1 = some q.2 := seg_1 SX12_one _ (by decide +kernel)
set_option maxRecDepth 20000 in
theorem BX12_one_1_2 : ∀ q ∈ ([(90, 42), (99, 42), (103, 172), (104, 42), (105, 89), (109, 4), (110, 100), (114, 27), (120, 28), (124, 27), (130, 28), (131, 116)] : List (Nat × Nat)), gb cX12_one q.1 = some q.2 := seg_1 SX12_one _ (by decide +kernel)
set_option maxRecDepth 20000 in
theorem BX12_one_1_3 : ∀ q ∈ ([(135, 28), (139, 4), (143, 3), (144, 172), (145, 27), (149, 61), (150, 28), (154, 42), (155, 89), (159, 4), (160, 96), (164, 42)] : List (Nat × Nat)), gb cX12_one q.1 = some q.2 := seg_1 SX12_one _ (by decide +kernel)
set_option maxRecDepth 20000 in
theorem BX12_one_1_4 : ∀ q ∈ ([(168, 28), (169, 46), (170, 172), (171, 3), (172, 62), (173, 3), (178, 7), (182, 42), (191, 42), (202, 29), (203, 104), (204, 42)] : List (Nat × Nat)), gb cX12_one q.1 = some q.2 := seg_1 SX12_one _ (by decide +kernel)
set_option maxRecDepth 20000 in
theorem BX12_one_1_5 : ∀ q ∈ ([(208, 96), (211, 100), (212, 62), (216, 42), (217, 89), (221, 4), (222, 96), (234, 42), (241, 29), (242, 172)] : List (Nat × Nat)), gb cX12_one q.1 = some q.2 := seg_1 SX12_one _ (by decide +kernel)
set_option maxRecDepth 20000 in
theorem BX12_one_2_0 : ∀ q ∈ ([(15, 16, 33), (21, 16, 45), (27, 16, 40), (36, 16, 6), (67, 16, 40), (85, 16, 40), (91, 16, 41), (115, 16, 40), (125, 16, 45), (174, 54, 4), (176, 21, 4), (186, 16, 48)] : List (Nat × Nat × Nat)), gb cX12_one q.1 = some q.2.1 ∧ gb cX12_one (q.1 + 1) = some q.2.2 := seg_2 SX12_one _ (by decide +kernel)
set_option maxRecDepth 20000 in
theorem BX12_one_2_1 : ∀ q ∈ ([(195, 16, 57), (200, 16, 10), (209, 16, 48), (229, 21, 4)] : List (Nat × Nat × Nat)), gb cX12_one q.1 = some q.2.1 ∧ gb cX12_one (q.1 + 1) = some q.2.2 := seg_2 SX12_one _ (by decide +kernel)
set_option maxRecDepth 20000 in
theorem BX12_one_3_0 : ∀ q ∈ ([(1, 180, 1, 50), (4, 155, 0, 5), (10, 182, 1, 53), (17, 159, 0, 15), (23, 159, 0, 9), (29, 160, 0, 116), (33, 180, 1, 74), (38, 160, 0, 8), (42, 182, 1, 77), (48, 180, 1, 74), (53, 181, 1, 74), (58, 180, 1, 41)] : List (Nat × Nat × Nat × Nat)), gb cX12_one q.1 = some q.2.1 ∧ gb cX12_one (q.1 + 1) = some q.2.2.1 ∧ gb cX12_one (q.1 + 2) = some q.2.2.2 := seg_3 SX12_one _ (by decide +kernel)
set_option maxRecDepth 20000 in
theorem BX12_one_3_1 : ∀ q ∈ ([(63, 181, 1, 41), (69, 160, 0, 10), (73, 182, 1, 80), (76, 167, 0, 7), (80, 182, 1, 71), (87, 160, 0, 17), (93, 182, 1, 59), (96, 154, 0, 8), (100, 182, 1, 77), (106, 180, 1, 74), (111, 181, 1, 74), (117, 160, 0, 7)] : List (Nat × Nat × Nat × Nat)), gb cX12_one q.1 = some q.2.1 ∧ gb cX12_one (q.1 + 1) = some q.2.2.1 ∧ gb cX12_one (q.1 + 2) = some q.2.2.2 := seg_3 SX12_one _ (by decide +kernel)
set_option maxRecDepth 20000 in
theorem BX12_one_3_2 : ∀ q ∈ ([(121, 167, 0, 23), (127, 160, 0, 8), (132, 167, 0, 12), (136, 154, 0, 7), (140, 167, 0, 4), (146, 184, 1, 83), (151, 155, 0, 20), (156, 180, 1, 41), (161, 181, 1, 41), (165, 180, 0, 98), (179, 162, 0, 50), (183, 182, 1, 53)] : List (Nat × Nat × Nat × Nat)), gb cX12_one q.1 = some q.2.1 ∧ gb cX12_one (q.1 + 1) = some q.2.2.1 ∧ gb cX12_one (q.1 + 2) = some q.2.2.2 := seg_3 SX12_one _ (by decide +kernel)
set_option maxRecDepth 20000 in
theorem BX12_one_3_3 : ∀ q ∈ ([(188, 161, 0, 41), (192, 182, 1, 53), (197, 163, 0, 32), (205, 182, 1, 53), (213, 132, 4, 1), (218, 180, 1, 41), (223, 181, 1, 41), (226, 167, 255, 206), (231, 154, 0, 10), (235, 182, 1, 77), (238, 167, 0, 4)] : List (Nat × Nat × Nat × Nat)), gb cX12_one q.1 = some q.2.1 ∧ gb cX12_one (q.1 + 1) = some q.2.2.1 ∧ gb cX12_one (q.1 + 2) = some q.2.2.2 := seg_3 SX12_one _ (by decide +kernel)
theorem dX12_one_0 : decode cX12_one 0 = .ok (.aload_n 0, 1) := dk42 (BX12_one_1_0 (0, 42) (List.mem_of_getElem? (i := 0) rfl))
theorem dX12_one_1 : decode cX12_one 1 = .ok (.getfield 306, 3) := dk180 1 50 (BX12_one_3_0 (1, 180, 1, 50) (List.mem_of_getElem? (i := 0) rfl))
theorem dX12_one_4 : decode cX12_one 4 = .ok (.ifCond .lt 5, 3) := dk155 0 5 (BX12_one_3_0 (4, 155, 0, 5) (List.mem_of_getElem? (i := 1) rfl))
theorem dX12_one_7 : decode cX12_one 7 = .ok (.iconst 0, 1) := dk3 (BX12_one_1_0 (7, 3) (List.mem_of_getElem? (i := 1) rfl))
theorem dX12_one_8 : decode cX12_one 8 = .ok (.ireturn, 1) := dk172 (BX12_one_1_0 (8, 172) (List.mem_of_getElem? (i := 2) rfl))
theorem dX12_one_9 : decode cX12_one 9 = .ok (.aload_n 0, 1) := dk42 (BX12_one_1_0 (9, 42) (List.mem_of_getElem? (i := 3) rfl))
theorem dX12_one_10 : decode cX12_one 10 = .ok (.invokevirtual 309, 3) := dk182 1 53 (BX12_one_3_0 (10, 182, 1, 53) (List.mem_of_getElem? (i := 2) rfl))
theorem dX12_one_13 : decode cX12_one 13 = .ok (.istore_n 1, 1) := dk60 (BX12_one_1_0 (13, 60) (List.mem_of_getElem? (i := 4) rfl))
theorem dX12_one_14 : decode cX12_one 14 = .ok (.iload_n 1, 1) := dk27 (BX12_one_1_0 (14, 27) (List.mem_of_getElem? (i := 5) rfl))
theorem dX12_one_15 : decode cX12_one 15 = .ok (.bipush 33, 2) := dk16 33 (BX12_one_2_0 (15, 16, 33) (List.mem_of_getElem? (i := 0) rfl))
theorem dX12_one_17 : decode cX12_one 17 = .ok (.if_icmp .eq 15, 3) := dk159 0 15 (BX12_one_3_0 (17, 159, 0, 15) (List.mem_of_getElem? (i := 3) rfl))
theorem dX12_one_20 : decode cX12_one 20 = .ok (.iload_n 1, 1) := dk27 (BX12_one_1_0 (20, 27) (List.mem_of_getElem? (i := 6) rfl))
theorem dX12_one_21 : decode cX12_one 21 = .ok (.bipush 45, 2) := dk16 45 (BX12_one_2_0 (21, 16, 45) (List.mem_of_getElem? (i := 1) rfl))
theorem dX12_one_23 : decode cX12_one 23 = .ok (.if_icmp .eq 9, 3) := dk159 0 9 (BX12_one_3_0 (23, 159, 0, 9) (List.mem_of_getElem? (i := 4) rfl))
theorem dX12_one_26 : decode cX12_one 26 = .ok (.iload_n 1, 1) := dk27 (BX12_one_1_0 (26, 27) (List.mem_of_getElem? (i := 7) rfl))
theorem dX12_one_27 : decode cX12_one 27 = .ok (.bipush 40, 2) := dk16 40 (BX12_one_2_0 (27, 16, 40) (List.mem_of_getElem? (i := 2) rfl))
theorem dX12_one_29 : decode cX12_one 29 = .ok (.if_icmp .ne 116, 3) := dk160 0 116 (BX12_one_3_0 (29, 160, 0, 116) (List.mem_of_getElem? (i := 5) rfl))
theorem dX12_one_32 : decode cX12_one 32 = .ok (.aload_n 0, 1) := dk42 (BX12_one_1_0 (32, 42) (List.mem_of_getElem? (i := 8) rfl))
theorem dX12_one_33 : decode cX12_one 33 = .ok (.getfield 330, 3) := dk180 1 74 (BX12_one_3_0 (33, 180, 1, 74) (List.mem_of_getElem? (i := 6) rfl))
theorem dX12_one_36 : decode cX12_one 36 = .ok (.bipush 6, 2) := dk16 6 (BX12_one_2_0 (36, 16, 6) (List.mem_of_getElem? (i := 3) rfl))
theorem dX12_one_38 : decode cX12_one 38 = .ok (.if_icmp .ne 8, 3) := dk160 0 8 (BX12_one_3_0 (38, 160, 0, 8) (List.mem_of_getElem? (i := 7) rfl))
theorem dX12_one_41 : decode cX12_one 41 = .ok (.aload_n 0, 1) := dk42 (BX12_one_1_0 (41, 42) (List.mem_of_getElem? (i := 9) rfl))
theorem dX12_one_42 : decode cX12_one 42 = .ok (.invokevirtual 333, 3) := dk182 1 77 (BX12_one_3_0 (42, 182, 1, 77) (List.mem_of_getElem? (i := 8) rfl))
theorem dX12_one_45 : decode cX12_one 45 = .ok (.ireturn, 1) := dk172 (BX12_one_1_0 (45, 172) (List.mem_of_getElem? (i := 10) rfl))
theorem dX12_one_46 : decode cX12_one 46 = .ok (.aload_n 0, 1) := dk42 (BX12_one_1_0 (46, 42) (List.mem_of_getElem? (i := 11) rfl))
theorem dX12_one_47 : decode cX12_one 47 = .ok (.dup, 1) := dk89 (BX12_one_1_1 (47, 89) (List.mem_of_getElem? (i := 0) rfl))
theorem dX12_one_48 : decode cX12_one 48 = .ok (.getfield 330, 3) := dk180 1 74 (BX12_one_3_0 (48, 180, 1, 74) (List.mem_of_getElem? (i := 9) rfl))
theorem dX12_one_51 : decode cX12_one 51 = .ok (.iconst 1, 1) := dk4 (BX12_one_1_1 (51, 4) (List.mem_of_getElem? (i := 1) rfl))
theorem dX12_one_52 : decode cX12_one 52 = .ok (.iadd, 1) := dk96 (BX12_one_1_1 (52, 96) (List.mem_of_getElem? (i := 2) rfl))
theorem dX12_one_53 : decode cX12_one 53 = .ok (.putfield 330, 3) := dk181 1 74 (BX12_one_3_0 (53, 181, 1, 74) (List.mem_of_getElem? (i := 10) rfl))
theorem dX12_one_56 : decode cX12_one 56 = .ok (.aload_n 0, 1) := dk42 (BX12_one_1_1 (56, 42) (List.mem_of_getElem? (i := 3) rfl))
theorem dX12_one_57 : decode cX12_one 57 = .ok (.dup, 1) := dk89 (BX12_one_1_1 (57, 89) (List.mem_of_getElem? (i := 4) rfl))
theorem dX12_one_58 : decode cX12_one 58 = .ok (.getfield 297, 3) := dk180 1 41 (BX12_one_3_0 (58, 180, 1, 41) (List.mem_of_getElem? (i := 11) rfl))
theorem dX12_one_61 : decode cX12_one 61 = .ok (.iconst 1, 1) := dk4 (BX12_one_1_1 (61, 4) (List.mem_of_getElem? (i := 5) rfl))
theorem dX12_one_62 : decode cX12_one 62 = .ok (.iadd, 1) := dk96 (BX12_one_1_1 (62, 96) (List.mem_of_getElem? (i := 6) rfl))
theorem dX12_one_63 : decode cX12_one 63 = .ok (.putfield 297, 3) := dk181 1 41 (BX12_one_3_1 (63, 181, 1, 41) (List.mem_of_getElem? (i := 0) rfl))
theorem dX12_one_66 : decode cX12_one 66 = .ok (.iload_n 1, 1) := dk27 (BX12_one_1_1 (66, 27) (List.mem_of_getElem? (i := 7) rfl))
theorem dX12_one_67 : decode cX12_one 67 = .ok (.bipush 40, 2) := dk16 40 (BX12_one_2_0 (67, 16, 40) (List.mem_of_getElem? (i := 4) rfl))
theorem dX12_one_69 : decode cX12_one 69 = .ok (.if_icmp .ne 10, 3) := dk160 0 10 (BX12_one_3_1 (69, 160, 0, 10) (List.mem_of_getElem? (i := 1) rfl))
theorem dX12_one_72 : decode cX12_one 72 = .ok (.aload_n 0, 1) := dk42 (BX12_one_1_1 (72, 42) (List.mem_of_getElem? (i := 8) rfl))
theorem dX12_one_73 : decode cX12_one 73 = .ok (.invokevirtual 336, 3) := dk182 1 80 (BX12_one_3_1 (73, 182, 1, 80) (List.mem_of_getElem? (i := 2) rfl))
theorem dX12_one_76 : decode cX12_one 76 = .ok (.goto 7, 3) := dk167 0 7 (BX12_one_3_1 (76, 167, 0, 7) (List.mem_of_getElem? (i := 3) rfl))
theorem dX12_one_79 : decode cX12_one 79 = .ok (.aload_n 0, 1) := dk42 (BX12_one_1_1 (79, 42) (List.mem_of_getElem? (i := 9) rfl))
theorem dX12_one_80 : decode cX12_one 80 = .ok (.invokevirtual 327, 3) := dk182 1 71 (BX12_one_3_1 (80, 182, 1, 71) (List.mem_of_getElem? (i := 4) rfl))
theorem dX12_one_83 : decode cX12_one 83 = .ok (.istore_n 2, 1) := dk61 (BX12_one_1_1 (83, 61) (List.mem_of_getElem? (i := 10) rfl))
theorem dX12_one_84 : decode cX12_one 84 = .ok (.iload_n 1, 1) := dk27 (BX12_one_1_1 (84, 27) (List.mem_of_getElem? (i := 11) rfl))
theorem dX12_one_85 : decode cX12_one 85 = .ok (.bipush 40, 2) := dk16 40 (BX12_one_2_0 (85, 16, 40) (List.mem_of_getElem? (i := 5) rfl))
theorem dX12_one_87 : decode cX12_one 87 = .ok (.if_icmp .ne 17, 3) := dk160 0 17 (BX12_one_3_1 (87, 160, 0, 17) (List.mem_of_getElem? (i := 5) rfl))
theorem dX12_one_90 : decode cX12_one 90 = .ok (.aload_n 0, 1) := dk42 (BX12_one_1_2 (90, 42) (List.mem_of_getElem? (i := 0) rfl))
theorem dX12_one_91 : decode cX12_one 91 = .ok (.bipush 41, 2) := dk16 41 (BX12_one_2_0 (91, 16, 41) (List.mem_of_getElem? (i := 6) rfl))
theorem dX12_one_93 : decode cX12_one 93 = .ok (.invokevirtual 315, 3) := dk182 1 59 (BX12_one_3_1 (93, 182, 1, 59) (List.mem_of_getElem? (i := 6) rfl))
theorem dX12_one_96 : decode cX12_one 96 = .ok (.ifCond .ne 8, 3) := dk154 0 8 (BX12_one_3_1 (96, 154, 0, 8) (List.mem_of_getElem? (i := 7) rfl))
theorem dX12_one_99 : decode cX12_one 99 = .ok (.aload_n 0, 1) := dk42 (BX12_one_1_2 (99, 42) (List.mem_of_getElem? (i := 1) rfl))
theorem dX12_one_100 : decode cX12_one 100 = .ok (.invokevirtual 333, 3) := dk182 1 77 (BX12_one_3_1 (100, 182, 1, 77) (List.mem_of_getElem? (i := 8) rfl))
theorem dX12_one_103 : decode cX12_one 103 = .ok (.ireturn, 1) := dk172 (BX12_one_1_2 (103, 172) (List.mem_of_getElem? (i := 2) rfl))
theorem dX12_one_104 : decode cX12_one 104 = .ok (.aload_n 0, 1) := dk42 (BX12_one_1_2 (104, 42) (List.mem_of_getElem? (i := 3) rfl))
theorem dX12_one_105 : decode cX12_one 105 = .ok (.dup, 1) := dk89 (BX12_one_1_2 (105, 89) (List.mem_of_getElem? (i := 4) rfl))
theorem dX12_one_106 : decode cX12_one 106 = .ok (.getfield 330, 3) := dk180 1 74 (BX12_one_3_1 (106, 180, 1, 74) (List.mem_of_getElem? (i := 9) rfl))
theorem dX12_one_109 : decode cX12_one 109 = .ok (.iconst 1, 1) := dk4 (BX12_one_1_2 (109, 4) (List.mem_of_getElem? (i := 5) rfl))
theorem dX12_one_110 : decode cX12_one 110 = .ok (.isub, 1) := dk100 (BX12_one_1_2 (110, 100) (List.mem_of_getElem? (i := 6) rfl))
theorem dX12_one_111 : decode cX12_one 111 = .ok (.putfield 330, 3) := dk181 1 74 (BX12_one_3_1 (111, 181, 1, 74) (List.mem_of_getElem? (i := 10) rfl))
theorem dX12_one_114 : decode cX12_one 114 = .ok (.iload_n 1, 1) := dk27 (BX12_one_1_2 (114, 27) (List.mem_of_getElem? (i := 7) rfl))
theorem dX12_one_115 : decode cX12_one 115 = .ok (.bipush 40, 2) := dk16 40 (BX12_one_2_0 (115, 16, 40) (List.mem_of_getElem? (i := 7) rfl))
theorem dX12_one_117 : decode cX12_one 117 = .ok (.if_icmp .ne 7, 3) := dk160 0 7 (BX12_one_3_1 (117, 160, 0, 7) (List.mem_of_getElem? (i := 11) rfl))
theorem dX12_one_120 : decode cX12_one 120 = .ok (.iload_n 2, 1) := dk28 (BX12_one_1_2 (120, 28) (List.mem_of_getElem? (i := 8) rfl))
theorem dX12_one_121 : decode cX12_one 121 = .ok (.goto 23, 3) := dk167 0 23 (BX12_one_3_2 (121, 167, 0, 23) (List.mem_of_getElem? (i := 0) rfl))
theorem dX12_one_124 : decode cX12_one 124 = .ok (.iload_n 1, 1) := dk27 (BX12_one_1_2 (124, 27) (List.mem_of_getElem? (i := 9) rfl))
theorem dX12_one_125 : decode cX12_one 125 = .ok (.bipush 45, 2) := dk16 45 (BX12_one_2_0 (125, 16, 45) (List.mem_of_getElem? (i := 8) rfl))
theorem dX12_one_127 : decode cX12_one 127 = .ok (.if_icmp .ne 8, 3) := dk160 0 8 (BX12_one_3_2 (127, 160, 0, 8) (List.mem_of_getElem? (i := 1) rfl))
theorem dX12_one_130 : decode cX12_one 130 = .ok (.iload_n 2, 1) := dk28 (BX12_one_1_2 (130, 28) (List.mem_of_getElem? (i := 10) rfl))
theorem dX12_one_131 : decode cX12_one 131 = .ok (.ineg, 1) := dk116 (BX12_one_1_2 (131, 116) (List.mem_of_getElem? (i := 11) rfl))
theorem dX12_one_132 : decode cX12_one 132 = .ok (.goto 12, 3) := dk167 0 12 (BX12_one_3_2 (132, 167, 0, 12) (List.mem_of_getElem? (i := 2) rfl))
theorem dX12_one_135 : decode cX12_one 135 = .ok (.iload_n 2, 1) := dk28 (BX12_one_1_3 (135, 28) (List.mem_of_getElem? (i := 0) rfl))
theorem dX12_one_136 : decode cX12_one 136 = .ok (.ifCond .ne 7, 3) := dk154 0 7 (BX12_one_3_2 (136, 154, 0, 7) (List.mem_of_getElem? (i := 3) rfl))
theorem dX12_one_139 : decode cX12_one 139 = .ok (.iconst 1, 1) := dk4 (BX12_one_1_3 (139, 4) (List.mem_of_getElem? (i := 1) rfl))
theorem dX12_one_140 : decode cX12_one 140 = .ok (.goto 4, 3) := dk167 0 4 (BX12_one_3_2 (140, 167, 0, 4) (List.mem_of_getElem? (i := 4) rfl))
theorem dX12_one_143 : decode cX12_one 143 = .ok (.iconst 0, 1) := dk3 (BX12_one_1_3 (143, 3) (List.mem_of_getElem? (i := 2) rfl))
theorem dX12_one_144 : decode cX12_one 144 = .ok (.ireturn, 1) := dk172 (BX12_one_1_3 (144, 172) (List.mem_of_getElem? (i := 3) rfl))
theorem dX12_one_145 : decode cX12_one 145 = .ok (.iload_n 1, 1) := dk27 (BX12_one_1_3 (145, 27) (List.mem_of_getElem? (i := 4) rfl))
theorem dX12_one_146 : decode cX12_one 146 = .ok (.invokestatic 339, 3) := dk184 1 83 (BX12_one_3_2 (146, 184, 1, 83) (List.mem_of_getElem? (i := 5) rfl))
theorem dX12_one_149 : decode cX12_one 149 = .ok (.istore_n 2, 1) := dk61 (BX12_one_1_3 (149, 61) (List.mem_of_getElem? (i := 5) rfl))
theorem dX12_one_150 : decode cX12_one 150 = .ok (.iload_n 2, 1) := dk28 (BX12_one_1_3 (150, 28) (List.mem_of_getElem? (i := 6) rfl))
theorem dX12_one_151 : decode cX12_one 151 = .ok (.ifCond .lt 20, 3) := dk155 0 20 (BX12_one_3_2 (151, 155, 0, 20) (List.mem_of_getElem? (i := 6) rfl))
theorem dX12_one_154 : decode cX12_one 154 = .ok (.aload_n 0, 1) := dk42 (BX12_one_1_3 (154, 42) (List.mem_of_getElem? (i := 7) rfl))
theorem dX12_one_155 : decode cX12_one 155 = .ok (.dup, 1) := dk89 (BX12_one_1_3 (155, 89) (List.mem_of_getElem? (i := 8) rfl))
theorem dX12_one_156 : decode cX12_one 156 = .ok (.getfield 297, 3) := dk180 1 41 (BX12_one_3_2 (156, 180, 1, 41) (List.mem_of_getElem? (i := 7) rfl))
theorem dX12_one_159 : decode cX12_one 159 = .ok (.iconst 1, 1) := dk4 (BX12_one_1_3 (159, 4) (List.mem_of_getElem? (i := 9) rfl))
theorem dX12_one_160 : decode cX12_one 160 = .ok (.iadd, 1) := dk96 (BX12_one_1_3 (160, 96) (List.mem_of_getElem? (i := 10) rfl))
theorem dX12_one_161 : decode cX12_one 161 = .ok (.putfield 297, 3) := dk181 1 41 (BX12_one_3_2 (161, 181, 1, 41) (List.mem_of_getElem? (i := 8) rfl))
theorem dX12_one_164 : decode cX12_one 164 = .ok (.aload_n 0, 1) := dk42 (BX12_one_1_3 (164, 42) (List.mem_of_getElem? (i := 11) rfl))
theorem dX12_one_165 : decode cX12_one 165 = .ok (.getfield 98, 3) := dk180 0 98 (BX12_one_3_2 (165, 180, 0, 98) (List.mem_of_getElem? (i := 9) rfl))
theorem dX12_one_168 : decode cX12_one 168 = .ok (.iload_n 2, 1) := dk28 (BX12_one_1_4 (168, 28) (List.mem_of_getElem? (i := 0) rfl))
theorem dX12_one_169 : decode cX12_one 169 = .ok (.iaload, 1) := dk46 (BX12_one_1_4 (169, 46) (List.mem_of_getElem? (i := 1) rfl))
theorem dX12_one_170 : decode cX12_one 170 = .ok (.ireturn, 1) := dk172 (BX12_one_1_4 (170, 172) (List.mem_of_getElem? (i := 2) rfl))
theorem dX12_one_171 : decode cX12_one 171 = .ok (.iconst 0, 1) := dk3 (BX12_one_1_4 (171, 3) (List.mem_of_getElem? (i := 3) rfl))
theorem dX12_one_172 : decode cX12_one 172 = .ok (.istore_n 3, 1) := dk62 (BX12_one_1_4 (172, 62) (List.mem_of_getElem? (i := 4) rfl))
theorem dX12_one_173 : decode cX12_one 173 = .ok (.iconst 0, 1) := dk3 (BX12_one_1_4 (173, 3) (List.mem_of_getElem? (i := 5) rfl))
theorem dX12_one_174 : decode cX12_one 174 = .ok (.istore 4, 2) := dk54 4 (BX12_one_2_0 (174, 54, 4) (List.mem_of_getElem? (i := 9) rfl))
theorem dX12_one_176 : decode cX12_one 176 = .ok (.iload 4, 2) := dk21 4 (BX12_one_2_0 (176, 21, 4) (List.mem_of_getElem? (i := 10) rfl))
theorem dX12_one_178 : decode cX12_one 178 = .ok (.iconst 4, 1) := dk7 (BX12_one_1_4 (178, 7) (List.mem_of_getElem? (i := 6) rfl))
theorem dX12_one_179 : decode cX12_one 179 = .ok (.if_icmp .ge 50, 3) := dk162 0 50 (BX12_one_3_2 (179, 162, 0, 50) (List.mem_of_getElem? (i := 10) rfl))
theorem dX12_one_182 : decode cX12_one 182 = .ok (.aload_n 0, 1) := dk42 (BX12_one_1_4 (182, 42) (List.mem_of_getElem? (i := 7) rfl))
theorem dX12_one_183 : decode cX12_one 183 = .ok (.invokevirtual 309, 3) := dk182 1 53 (BX12_one_3_2 (183, 182, 1, 53) (List.mem_of_getElem? (i := 11) rfl))
theorem dX12_one_186 : decode cX12_one 186 = .ok (.bipush 48, 2) := dk16 48 (BX12_one_2_0 (186, 16, 48) (List.mem_of_getElem? (i := 11) rfl))
theorem dX12_one_188 : decode cX12_one 188 = .ok (.if_icmp .lt 41, 3) := dk161 0 41 (BX12_one_3_3 (188, 161, 0, 41) (List.mem_of_getElem? (i := 0) rfl))
theorem dX12_one_191 : decode cX12_one 191 = .ok (.aload_n 0, 1) := dk42 (BX12_one_1_4 (191, 42) (List.mem_of_getElem? (i := 8) rfl))
theorem dX12_one_192 : decode cX12_one 192 = .ok (.invokevirtual 309, 3) := dk182 1 53 (BX12_one_3_3 (192, 182, 1, 53) (List.mem_of_getElem? (i := 1) rfl))
theorem dX12_one_195 : decode cX12_one 195 = .ok (.bipush 57, 2) := dk16 57 (BX12_one_2_1 (195, 16, 57) (List.mem_of_getElem? (i := 0) rfl))
theorem dX12_one_197 : decode cX12_one 197 = .ok (.if_icmp .gt 32, 3) := dk163 0 32 (BX12_one_3_3 (197, 163, 0, 32) (List.mem_of_getElem? (i := 2) rfl))
theorem dX12_one_200 : decode cX12_one 200 = .ok (.bipush 10, 2) := dk16 10 (BX12_one_2_1 (200, 16, 10) (List.mem_of_getElem? (i := 1) rfl))
theorem dX12_one_202 : decode cX12_one 202 = .ok (.iload_n 3, 1) := dk29 (BX12_one_1_4 (202, 29) (List.mem_of_getElem? (i := 9) rfl))
theorem dX12_one_203 : decode cX12_one 203 = .ok (.imul, 1) := dk104 (BX12_one_1_4 (203, 104) (List.mem_of_getElem? (i := 10) rfl))
theorem dX12_one_204 : decode cX12_one 204 = .ok (.aload_n 0, 1) := dk42 (BX12_one_1_4 (204, 42) (List.mem_of_getElem? (i := 11) rfl))
theorem dX12_one_205 : decode cX12_one 205 = .ok (.invokevirtual 309, 3) := dk182 1 53 (BX12_one_3_3 (205, 182, 1, 53) (List.mem_of_getElem? (i := 3) rfl))
theorem dX12_one_208 : decode cX12_one 208 = .ok (.iadd, 1) := dk96 (BX12_one_1_5 (208, 96) (List.mem_of_getElem? (i := 0) rfl))
theorem dX12_one_209 : decode cX12_one 209 = .ok (.bipush 48, 2) := dk16 48 (BX12_one_2_1 (209, 16, 48) (List.mem_of_getElem? (i := 2) rfl))
theorem dX12_one_211 : decode cX12_one 211 = .ok (.isub, 1) := dk100 (BX12_one_1_5 (211, 100) (List.mem_of_getElem? (i := 1) rfl))
theorem dX12_one_212 : decode cX12_one 212 = .ok (.istore_n 3, 1) := dk62 (BX12_one_1_5 (212, 62) (List.mem_of_getElem? (i := 2) rfl))
theorem dX12_one_213 : decode cX12_one 213 = .ok (.iinc 4 1, 3) := dk132 4 1 (BX12_one_3_3 (213, 132, 4, 1) (List.mem_of_getElem? (i := 4) rfl))
theorem dX12_one_216 : decode cX12_one 216 = .ok (.aload_n 0, 1) := dk42 (BX12_one_1_5 (216, 42) (List.mem_of_getElem? (i := 3) rfl))
theorem dX12_one_217 : decode cX12_one 217 = .ok (.dup, 1) := dk89 (BX12_one_1_5 (217, 89) (List.mem_of_getElem? (i := 4) rfl))
theorem dX12_one_218 : decode cX12_one 218 = .ok (.getfield 297, 3) := dk180 1 41 (BX12_one_3_3 (218, 180, 1, 41) (List.mem_of_getElem? (i := 5) rfl))
theorem dX12_one_221 : decode cX12_one 221 = .ok (.iconst 1, 1) := dk4 (BX12_one_1_5 (221, 4) (List.mem_of_getElem? (i := 5) rfl))
theorem dX12_one_222 : decode cX12_one 222 = .ok (.iadd, 1) := dk96 (BX12_one_1_5 (222, 96) (List.mem_of_getElem? (i := 6) rfl))
theorem dX12_one_223 : decode cX12_one 223 = .ok (.putfield 297, 3) := dk181 1 41 (BX12_one_3_3 (223, 181, 1, 41) (List.mem_of_getElem? (i := 6) rfl))
theorem dX12_one_226 : decode cX12_one 226 = .ok (.goto (-50), 3) := dk167 255 206 (BX12_one_3_3 (226, 167, 255, 206) (List.mem_of_getElem? (i := 7) rfl))
theorem dX12_one_229 : decode cX12_one 229 = .ok (.iload 4, 2) := dk21 4 (BX12_one_2_1 (229, 21, 4) (List.mem_of_getElem? (i := 3) rfl))
theorem dX12_one_231 : decode cX12_one 231 = .ok (.ifCond .ne 10, 3) := dk154 0 10 (BX12_one_3_3 (231, 154, 0, 10) (List.mem_of_getElem? (i := 8) rfl))
theorem dX12_one_234 : decode cX12_one 234 = .ok (.aload_n 0, 1) := dk42 (BX12_one_1_5 (234, 42) (List.mem_of_getElem? (i := 7) rfl))
theorem dX12_one_235 : decode cX12_one 235 = .ok (.invokevirtual 333, 3) := dk182 1 77 (BX12_one_3_3 (235, 182, 1, 77) (List.mem_of_getElem? (i := 9) rfl))
theorem dX12_one_238 : decode cX12_one 238 = .ok (.goto 4, 3) := dk167 0 4 (BX12_one_3_3 (238, 167, 0, 4) (List.mem_of_getElem? (i := 10) rfl))
theorem dX12_one_241 : decode cX12_one 241 = .ok (.iload_n 3, 1) := dk29 (BX12_one_1_5 (241, 29) (List.mem_of_getElem? (i := 8) rfl))
theorem dX12_one_242 : decode cX12_one 242 = .ok (.ireturn, 1) := dk172 (BX12_one_1_5 (242, 172) (List.mem_of_getElem? (i := 9) rfl))
set_option maxRecDepth 20000 in
theorem ggX12_workOut_X12_either : GoodIn wsX12_workOut wsX12_either := gcons (goodIn_g ch_wsX12_workOut_flat gd_wsX12_workOut _ [(1, 9)] rfl) (goodIn_app (goodIn_app (goodIn_g ch_wsX12_workOut_flat gd_wsX12_workOut _ [(1, 10), (1, 11), (1, 12), (1, 8), (1, 13), (1, 14), (1, 15), (1, 16), (1, 3), (1, 1), (1, 17), (1, 18), (1, 19), (1, 20), (1, 2), (1, 0), (1, 21), (1, 22), (1, 23), (2, 0), (2, 1), (2, 2), (2, 3), (2, 4)] rfl) (goodIn_g ch_wsX12_workOut_flat gd_wsX12_workOut _ [(2, 5), (2, 6), (2, 7), (1, 4), (2, 8), (2, 9), (2, 10), (2, 11), (2, 12), (1, 5), (1, 6), (1, 7), (2, 13), (2, 14), (2, 15), (2, 16), (2, 17), (2, 18), (2, 19), (2, 20), (2, 21), (2, 22), (2, 23)] rfl)) (gchunk ch_wsX12_workOut_flat gd_wsX12_workOut 3 rfl))
set_option maxRecDepth 20000 in
theorem gX12_workOut_X12_either : GoodIn wsX12_workOut (wsV RX12 336 RX12 yX12_either wsX12_either) := goodIn_app (goodIn_g ch_wsX12_workOut_flat gd_wsX12_workOut _ [(1, 5), (1, 6), (1, 7), (1, 8)] rfl) ggX12_workOut_X12_either
set_option maxRecDepth 20000 in
theorem ggX12_workOut_X12_takes : GoodIn wsX12_workOut wsX12_takes := gcons (goodIn_g ch_wsX12_workOut_flat gd_wsX12_workOut _ [(1, 16)] rfl) (goodIn_app (goodIn_g ch_wsX12_workOut_flat gd_wsX12_workOut _ [(1, 3), (1, 1), (1, 17), (1, 18), (1, 19), (1, 8), (1, 20), (1, 2), (1, 0), (1, 21), (1, 22)] rfl) (gchunk ch_wsX12_workOut_flat gd_wsX12_workOut 3 rfl))
set_option maxRecDepth 20000 in
theorem gX12_workOut_X12_takes : GoodIn wsX12_workOut (wsV RX12 315 RX12 yX12_takes wsX12_takes) := goodIn_app (goodIn_g ch_wsX12_workOut_flat gd_wsX12_workOut _ [(1, 13), (1, 14), (1, 15), (1, 8)] rfl) ggX12_workOut_X12_takes
set_option maxRecDepth 20000 in
theorem ggX12_workOut_X12_wrong : GoodIn wsX12_workOut wsX12_wrong := gcons (goodIn_g ch_wsX12_workOut_flat gd_wsX12_workOut _ [(2, 12)] rfl) (goodIn_app (goodIn_g ch_wsX12_workOut_flat gd_wsX12_workOut _ [(1, 3), (1, 1)] rfl) (gchunk ch_wsX12_workOut_flat gd_wsX12_workOut 3 rfl))
set_option maxRecDepth 20000 in
theorem gX12_workOut_X12_wrong : GoodIn wsX12_workOut (wsV RX12 333 RX12 yX12_wrong wsX12_wrong) := goodIn_app (goodIn_g ch_wsX12_workOut_flat gd_wsX12_workOut _ [(2, 9), (2, 10), (2, 11), (1, 8)] rfl) ggX12_workOut_X12_wrong
set_option maxRecDepth 20000 in
theorem SX12_workOut : ∀ p : Nat, gb cX12_workOut p = segF [[42, 27, 181, 1, 47, 42, 3, 181, 1, 41, 42, 28, 181, 1, 44, 42, 2, 181, 1, 50, 42, 3, 181, 1, 74, 3, 62, 3, 54, 4, 4, 54, 5, 21, 5, 153, 0, 72, 42, 182, 1, 80, 54, 6, 4, 54, 7, 42, 16, 63, 182, 1, 59, 153, 0, 21, 21, 6, 153, 0, 7, 4, 167, 0], [4, 3, 54, 7, 42, 182, 1, 80, 54, 6, 42, 180, 1, 50, 156, 0, 18, 21, 7, 153, 0, 13, 29, 154, 0, 9, 4, 62, 21, 6, 54, 4, 42, 16, 59, 182, 1, 59, 54, 5, 167, 255, 185, 42, 180, 1, 50, 156, 0, 19, 42, 180, 1, 41, 42, 180, 1, 44, 162, 0, 8, 42, 182, 1], [77, 172, 21, 4, 172]] p := seg_gb (S := [[42, 27, 181, 1, 47, 42, 3, 181, 1, 41, 42, 28, 181, 1, 44, 42, 2, 181, 1, 50, 42, 3, 181, 1, 74, 3, 62, 3, 54, 4, 4, 54, 5, 21, 5, 153, 0, 72, 42, 182, 1, 80, 54, 6, 4, 54, 7, 42, 16, 63, 182, 1, 59, 153, 0, 21, 21, 6, 153, 0, 7, 4, 167, 0], [4, 3, 54, 7, 42, 182, 1, 80, 54, 6, 42, 180, 1, 50, 156, 0, 18, 21, 7, 153, 0, 13, 29, 154, 0, 9, 4, 62, 21, 6, 54, 4, 42, 16, 59, 182, 1, 59, 54, 5, 167, 255, 185, 42, 180, 1, 50, 156, 0, 19, 42, 180, 1, 41, 42, 180, 1, 44, 162, 0, 8, 42, 182, 1], [77, 172, 21, 4, 172]]) (by decide +kernel) (by decide +kernel)
set_option maxRecDepth 20000 in
theorem BX12_workOut_1_0 : ∀ q ∈ ([(0, 42), (1, 27), (5, 42), (6, 3), (10, 42), (11, 28), (15, 42), (16, 2), (20, 42), (21, 3), (25, 3), (26, 62)] : List (Nat × Nat)), gb cX12_workOut q.1 = some q.2 := seg_1 SX12_workOut _ (by decide +kernel)
set_option maxRecDepth 20000 in
theorem BX12_workOut_1_1 : ∀ q ∈ ([(27, 3), (30, 4), (38, 42), (44, 4), (47, 42), (61, 4), (65, 3), (68, 42), (74, 42), (86, 29), (90, 4), (91, 62)] : List (Nat × Nat)), gb cX12_workOut q.1 = some q.2 := seg_1 SX12_workOut _ (by decide +kernel)
set_option maxRecDepth 20000 in
theorem BX12_workOut_1_2 : ∀ q ∈ ([(96, 42), (107, 42), (114, 42), (118, 42), (125, 42), (129, 172), (132, 172)] : List (Nat × Nat)), gb cX12_workOut q.1 = some q.2 := seg_1 SX12_workOut _ (by decide +kernel)
set_option maxRecDepth 20000 in
theorem BX12_workOut_2_0 : ∀ q ∈ ([(28, 54, 4), (31, 54, 5), (33, 21, 5), (42, 54, 6), (45, 54, 7), (48, 16, 63), (56, 21, 6), (66, 54, 7), (72, 54, 6), (81, 21, 7), (92, 21, 6), (94, 54, 4)] : List (Nat × Nat × Nat)), gb cX12_workOut q.1 = some q.2.1 ∧ gb cX12_workOut (q.1 + 1) = some q.2.2 := seg_2 SX12_workOut _ (by decide +kernel)
set_option maxRecDepth 20000 in
theorem BX12_workOut_2_1 : ∀ q ∈ ([(97, 16, 59), (102, 54, 5), (130, 21, 4)] : List (Nat × Nat × Nat)), gb cX12_workOut q.1 = some q.2.1 ∧ gb cX12_workOut (q.1 + 1) = some q.2.2 := seg_2 SX12_workOut _ (by decide +kernel)
set_option maxRecDepth 20000 in
theorem BX12_workOut_3_0 : ∀ q ∈ ([(2, 181, 1, 47), (7, 181, 1, 41), (12, 181, 1, 44), (17, 181, 1, 50), (22, 181, 1, 74), (35, 153, 0, 72), (39, 182, 1, 80), (50, 182, 1, 59), (53, 153, 0, 21), (58, 153, 0, 7), (62, 167, 0, 4), (69, 182, 1, 80)] : List (Nat × Nat × Nat × Nat)), gb cX12_workOut q.1 = some q.2.1 ∧ gb cX12_workOut (q.1 + 1) = some q.2.2.1 ∧ gb cX12_workOut (q.1 + 2) = some q.2.2.2 := seg_3 SX12_workOut _ (by decide +kernel)
set_option maxRecDepth 20000 in
theorem BX12_workOut_3_1 : ∀ q ∈ ([(75, 180, 1, 50), (78, 156, 0, 18), (83, 153, 0, 13), (87, 154, 0, 9), (99, 182, 1, 59), (104, 167, 255, 185), (108, 180, 1, 50), (111, 156, 0, 19), (115, 180, 1, 41), (119, 180, 1, 44), (122, 162, 0, 8), (126, 182, 1, 77)] : List (Nat × Nat × Nat × Nat)), gb cX12_workOut q.1 = some q.2.1 ∧ gb cX12_workOut (q.1 + 1) = some q.2.2.1 ∧ gb cX12_workOut (q.1 + 2) = some q.2.2.2 := seg_3 SX12_workOut _ (by decide +kernel)
theorem dX12_workOut_0 : decode cX12_workOut 0 = .ok (.aload_n 0, 1) := dk42 (BX12_workOut_1_0 (0, 42) (List.mem_of_getElem? (i := 0) rfl))
theorem dX12_workOut_1 : decode cX12_workOut 1 = .ok (.iload_n 1, 1) := dk27 (BX12_workOut_1_0 (1, 27) (List.mem_of_getElem? (i := 1) rfl))
theorem dX12_workOut_2 : decode cX12_workOut 2 = .ok (.putfield 303, 3) := dk181 1 47 (BX12_workOut_3_0 (2, 181, 1, 47) (List.mem_of_getElem? (i := 0) rfl))
theorem dX12_workOut_5 : decode cX12_workOut 5 = .ok (.aload_n 0, 1) := dk42 (BX12_workOut_1_0 (5, 42) (List.mem_of_getElem? (i := 2) rfl))
theorem dX12_workOut_6 : decode cX12_workOut 6 = .ok (.iconst 0, 1) := dk3 (BX12_workOut_1_0 (6, 3) (List.mem_of_getElem? (i := 3) rfl))
theorem dX12_workOut_7 : decode cX12_workOut 7 = .ok (.putfield 297, 3) := dk181 1 41 (BX12_workOut_3_0 (7, 181, 1, 41) (List.mem_of_getElem? (i := 1) rfl))
theorem dX12_workOut_10 : decode cX12_workOut 10 = .ok (.aload_n 0, 1) := dk42 (BX12_workOut_1_0 (10, 42) (List.mem_of_getElem? (i := 4) rfl))
theorem dX12_workOut_11 : decode cX12_workOut 11 = .ok (.iload_n 2, 1) := dk28 (BX12_workOut_1_0 (11, 28) (List.mem_of_getElem? (i := 5) rfl))
theorem dX12_workOut_12 : decode cX12_workOut 12 = .ok (.putfield 300, 3) := dk181 1 44 (BX12_workOut_3_0 (12, 181, 1, 44) (List.mem_of_getElem? (i := 2) rfl))
theorem dX12_workOut_15 : decode cX12_workOut 15 = .ok (.aload_n 0, 1) := dk42 (BX12_workOut_1_0 (15, 42) (List.mem_of_getElem? (i := 6) rfl))
theorem dX12_workOut_16 : decode cX12_workOut 16 = .ok (.iconst (-1), 1) := dk2 (BX12_workOut_1_0 (16, 2) (List.mem_of_getElem? (i := 7) rfl))
theorem dX12_workOut_17 : decode cX12_workOut 17 = .ok (.putfield 306, 3) := dk181 1 50 (BX12_workOut_3_0 (17, 181, 1, 50) (List.mem_of_getElem? (i := 3) rfl))
theorem dX12_workOut_20 : decode cX12_workOut 20 = .ok (.aload_n 0, 1) := dk42 (BX12_workOut_1_0 (20, 42) (List.mem_of_getElem? (i := 8) rfl))
theorem dX12_workOut_21 : decode cX12_workOut 21 = .ok (.iconst 0, 1) := dk3 (BX12_workOut_1_0 (21, 3) (List.mem_of_getElem? (i := 9) rfl))
theorem dX12_workOut_22 : decode cX12_workOut 22 = .ok (.putfield 330, 3) := dk181 1 74 (BX12_workOut_3_0 (22, 181, 1, 74) (List.mem_of_getElem? (i := 4) rfl))
theorem dX12_workOut_25 : decode cX12_workOut 25 = .ok (.iconst 0, 1) := dk3 (BX12_workOut_1_0 (25, 3) (List.mem_of_getElem? (i := 10) rfl))
theorem dX12_workOut_26 : decode cX12_workOut 26 = .ok (.istore_n 3, 1) := dk62 (BX12_workOut_1_0 (26, 62) (List.mem_of_getElem? (i := 11) rfl))
theorem dX12_workOut_27 : decode cX12_workOut 27 = .ok (.iconst 0, 1) := dk3 (BX12_workOut_1_1 (27, 3) (List.mem_of_getElem? (i := 0) rfl))
theorem dX12_workOut_28 : decode cX12_workOut 28 = .ok (.istore 4, 2) := dk54 4 (BX12_workOut_2_0 (28, 54, 4) (List.mem_of_getElem? (i := 0) rfl))
theorem dX12_workOut_30 : decode cX12_workOut 30 = .ok (.iconst 1, 1) := dk4 (BX12_workOut_1_1 (30, 4) (List.mem_of_getElem? (i := 1) rfl))
theorem dX12_workOut_31 : decode cX12_workOut 31 = .ok (.istore 5, 2) := dk54 5 (BX12_workOut_2_0 (31, 54, 5) (List.mem_of_getElem? (i := 1) rfl))
theorem dX12_workOut_33 : decode cX12_workOut 33 = .ok (.iload 5, 2) := dk21 5 (BX12_workOut_2_0 (33, 21, 5) (List.mem_of_getElem? (i := 2) rfl))
theorem dX12_workOut_35 : decode cX12_workOut 35 = .ok (.ifCond .eq 72, 3) := dk153 0 72 (BX12_workOut_3_0 (35, 153, 0, 72) (List.mem_of_getElem? (i := 5) rfl))
theorem dX12_workOut_38 : decode cX12_workOut 38 = .ok (.aload_n 0, 1) := dk42 (BX12_workOut_1_1 (38, 42) (List.mem_of_getElem? (i := 2) rfl))
theorem dX12_workOut_39 : decode cX12_workOut 39 = .ok (.invokevirtual 336, 3) := dk182 1 80 (BX12_workOut_3_0 (39, 182, 1, 80) (List.mem_of_getElem? (i := 6) rfl))
theorem dX12_workOut_42 : decode cX12_workOut 42 = .ok (.istore 6, 2) := dk54 6 (BX12_workOut_2_0 (42, 54, 6) (List.mem_of_getElem? (i := 3) rfl))
theorem dX12_workOut_44 : decode cX12_workOut 44 = .ok (.iconst 1, 1) := dk4 (BX12_workOut_1_1 (44, 4) (List.mem_of_getElem? (i := 3) rfl))
theorem dX12_workOut_45 : decode cX12_workOut 45 = .ok (.istore 7, 2) := dk54 7 (BX12_workOut_2_0 (45, 54, 7) (List.mem_of_getElem? (i := 4) rfl))
theorem dX12_workOut_47 : decode cX12_workOut 47 = .ok (.aload_n 0, 1) := dk42 (BX12_workOut_1_1 (47, 42) (List.mem_of_getElem? (i := 4) rfl))
theorem dX12_workOut_48 : decode cX12_workOut 48 = .ok (.bipush 63, 2) := dk16 63 (BX12_workOut_2_0 (48, 16, 63) (List.mem_of_getElem? (i := 5) rfl))
theorem dX12_workOut_50 : decode cX12_workOut 50 = .ok (.invokevirtual 315, 3) := dk182 1 59 (BX12_workOut_3_0 (50, 182, 1, 59) (List.mem_of_getElem? (i := 7) rfl))
theorem dX12_workOut_53 : decode cX12_workOut 53 = .ok (.ifCond .eq 21, 3) := dk153 0 21 (BX12_workOut_3_0 (53, 153, 0, 21) (List.mem_of_getElem? (i := 8) rfl))
theorem dX12_workOut_56 : decode cX12_workOut 56 = .ok (.iload 6, 2) := dk21 6 (BX12_workOut_2_0 (56, 21, 6) (List.mem_of_getElem? (i := 6) rfl))
theorem dX12_workOut_58 : decode cX12_workOut 58 = .ok (.ifCond .eq 7, 3) := dk153 0 7 (BX12_workOut_3_0 (58, 153, 0, 7) (List.mem_of_getElem? (i := 9) rfl))
theorem dX12_workOut_61 : decode cX12_workOut 61 = .ok (.iconst 1, 1) := dk4 (BX12_workOut_1_1 (61, 4) (List.mem_of_getElem? (i := 5) rfl))
theorem dX12_workOut_62 : decode cX12_workOut 62 = .ok (.goto 4, 3) := dk167 0 4 (BX12_workOut_3_0 (62, 167, 0, 4) (List.mem_of_getElem? (i := 10) rfl))
theorem dX12_workOut_65 : decode cX12_workOut 65 = .ok (.iconst 0, 1) := dk3 (BX12_workOut_1_1 (65, 3) (List.mem_of_getElem? (i := 6) rfl))
theorem dX12_workOut_66 : decode cX12_workOut 66 = .ok (.istore 7, 2) := dk54 7 (BX12_workOut_2_0 (66, 54, 7) (List.mem_of_getElem? (i := 7) rfl))
theorem dX12_workOut_68 : decode cX12_workOut 68 = .ok (.aload_n 0, 1) := dk42 (BX12_workOut_1_1 (68, 42) (List.mem_of_getElem? (i := 7) rfl))
theorem dX12_workOut_69 : decode cX12_workOut 69 = .ok (.invokevirtual 336, 3) := dk182 1 80 (BX12_workOut_3_0 (69, 182, 1, 80) (List.mem_of_getElem? (i := 11) rfl))
theorem dX12_workOut_72 : decode cX12_workOut 72 = .ok (.istore 6, 2) := dk54 6 (BX12_workOut_2_0 (72, 54, 6) (List.mem_of_getElem? (i := 8) rfl))
theorem dX12_workOut_74 : decode cX12_workOut 74 = .ok (.aload_n 0, 1) := dk42 (BX12_workOut_1_1 (74, 42) (List.mem_of_getElem? (i := 8) rfl))
theorem dX12_workOut_75 : decode cX12_workOut 75 = .ok (.getfield 306, 3) := dk180 1 50 (BX12_workOut_3_1 (75, 180, 1, 50) (List.mem_of_getElem? (i := 0) rfl))
theorem dX12_workOut_78 : decode cX12_workOut 78 = .ok (.ifCond .ge 18, 3) := dk156 0 18 (BX12_workOut_3_1 (78, 156, 0, 18) (List.mem_of_getElem? (i := 1) rfl))
theorem dX12_workOut_81 : decode cX12_workOut 81 = .ok (.iload 7, 2) := dk21 7 (BX12_workOut_2_0 (81, 21, 7) (List.mem_of_getElem? (i := 9) rfl))
theorem dX12_workOut_83 : decode cX12_workOut 83 = .ok (.ifCond .eq 13, 3) := dk153 0 13 (BX12_workOut_3_1 (83, 153, 0, 13) (List.mem_of_getElem? (i := 2) rfl))
theorem dX12_workOut_86 : decode cX12_workOut 86 = .ok (.iload_n 3, 1) := dk29 (BX12_workOut_1_1 (86, 29) (List.mem_of_getElem? (i := 9) rfl))
theorem dX12_workOut_87 : decode cX12_workOut 87 = .ok (.ifCond .ne 9, 3) := dk154 0 9 (BX12_workOut_3_1 (87, 154, 0, 9) (List.mem_of_getElem? (i := 3) rfl))
theorem dX12_workOut_90 : decode cX12_workOut 90 = .ok (.iconst 1, 1) := dk4 (BX12_workOut_1_1 (90, 4) (List.mem_of_getElem? (i := 10) rfl))
theorem dX12_workOut_91 : decode cX12_workOut 91 = .ok (.istore_n 3, 1) := dk62 (BX12_workOut_1_1 (91, 62) (List.mem_of_getElem? (i := 11) rfl))
theorem dX12_workOut_92 : decode cX12_workOut 92 = .ok (.iload 6, 2) := dk21 6 (BX12_workOut_2_0 (92, 21, 6) (List.mem_of_getElem? (i := 10) rfl))
theorem dX12_workOut_94 : decode cX12_workOut 94 = .ok (.istore 4, 2) := dk54 4 (BX12_workOut_2_0 (94, 54, 4) (List.mem_of_getElem? (i := 11) rfl))
theorem dX12_workOut_96 : decode cX12_workOut 96 = .ok (.aload_n 0, 1) := dk42 (BX12_workOut_1_2 (96, 42) (List.mem_of_getElem? (i := 0) rfl))
theorem dX12_workOut_97 : decode cX12_workOut 97 = .ok (.bipush 59, 2) := dk16 59 (BX12_workOut_2_1 (97, 16, 59) (List.mem_of_getElem? (i := 0) rfl))
theorem dX12_workOut_99 : decode cX12_workOut 99 = .ok (.invokevirtual 315, 3) := dk182 1 59 (BX12_workOut_3_1 (99, 182, 1, 59) (List.mem_of_getElem? (i := 4) rfl))
theorem dX12_workOut_102 : decode cX12_workOut 102 = .ok (.istore 5, 2) := dk54 5 (BX12_workOut_2_1 (102, 54, 5) (List.mem_of_getElem? (i := 1) rfl))
theorem dX12_workOut_104 : decode cX12_workOut 104 = .ok (.goto (-71), 3) := dk167 255 185 (BX12_workOut_3_1 (104, 167, 255, 185) (List.mem_of_getElem? (i := 5) rfl))
theorem dX12_workOut_107 : decode cX12_workOut 107 = .ok (.aload_n 0, 1) := dk42 (BX12_workOut_1_2 (107, 42) (List.mem_of_getElem? (i := 1) rfl))
theorem dX12_workOut_108 : decode cX12_workOut 108 = .ok (.getfield 306, 3) := dk180 1 50 (BX12_workOut_3_1 (108, 180, 1, 50) (List.mem_of_getElem? (i := 6) rfl))
theorem dX12_workOut_111 : decode cX12_workOut 111 = .ok (.ifCond .ge 19, 3) := dk156 0 19 (BX12_workOut_3_1 (111, 156, 0, 19) (List.mem_of_getElem? (i := 7) rfl))
theorem dX12_workOut_114 : decode cX12_workOut 114 = .ok (.aload_n 0, 1) := dk42 (BX12_workOut_1_2 (114, 42) (List.mem_of_getElem? (i := 2) rfl))
theorem dX12_workOut_115 : decode cX12_workOut 115 = .ok (.getfield 297, 3) := dk180 1 41 (BX12_workOut_3_1 (115, 180, 1, 41) (List.mem_of_getElem? (i := 8) rfl))
theorem dX12_workOut_118 : decode cX12_workOut 118 = .ok (.aload_n 0, 1) := dk42 (BX12_workOut_1_2 (118, 42) (List.mem_of_getElem? (i := 3) rfl))
theorem dX12_workOut_119 : decode cX12_workOut 119 = .ok (.getfield 300, 3) := dk180 1 44 (BX12_workOut_3_1 (119, 180, 1, 44) (List.mem_of_getElem? (i := 9) rfl))
theorem dX12_workOut_122 : decode cX12_workOut 122 = .ok (.if_icmp .ge 8, 3) := dk162 0 8 (BX12_workOut_3_1 (122, 162, 0, 8) (List.mem_of_getElem? (i := 10) rfl))
theorem dX12_workOut_125 : decode cX12_workOut 125 = .ok (.aload_n 0, 1) := dk42 (BX12_workOut_1_2 (125, 42) (List.mem_of_getElem? (i := 4) rfl))
theorem dX12_workOut_126 : decode cX12_workOut 126 = .ok (.invokevirtual 333, 3) := dk182 1 77 (BX12_workOut_3_1 (126, 182, 1, 77) (List.mem_of_getElem? (i := 11) rfl))
theorem dX12_workOut_129 : decode cX12_workOut 129 = .ok (.ireturn, 1) := dk172 (BX12_workOut_1_2 (129, 172) (List.mem_of_getElem? (i := 5) rfl))
theorem dX12_workOut_130 : decode cX12_workOut 130 = .ok (.iload 4, 2) := dk21 4 (BX12_workOut_2_1 (130, 21, 4) (List.mem_of_getElem? (i := 2) rfl))
theorem dX12_workOut_132 : decode cX12_workOut 132 = .ok (.ireturn, 1) := dk172 (BX12_workOut_1_2 (132, 172) (List.mem_of_getElem? (i := 6) rfl))
set_option maxRecDepth 20000 in
theorem ggX12_story_X12_isYear : GoodIn wsX12_story wsX12_isYear := goodIn_g ch_wsX12_story_flat gd_wsX12_story _ [(1, 12), (1, 13), (1, 14), (1, 15), (1, 11), (1, 16)] rfl
set_option maxRecDepth 20000 in
theorem gX12_story_X12_isYear : GoodIn wsX12_story (va_wsS RX12 147 yX12_isYear wsX12_isYear) := goodIn_app (goodIn_g ch_wsX12_story_flat gd_wsX12_story _ [(1, 9), (1, 10), (1, 11)] rfl) ggX12_story_X12_isYear
set_option maxRecDepth 20000 in
theorem ggX12_story_X12_within : GoodIn wsX12_story wsX12_within := goodIn_g ch_wsX12_story_flat gd_wsX12_story _ [(1, 16)] rfl
set_option maxRecDepth 20000 in
theorem gX12_story_X12_within : GoodIn wsX12_story (va_wsS RX12 136 yX12_within wsX12_within) := goodIn_app (goodIn_g ch_wsX12_story_flat gd_wsX12_story _ [(1, 14), (1, 15), (1, 11)] rfl) ggX12_story_X12_within
set_option maxRecDepth 20000 in
theorem ggX12_story_X12_workOut : GoodIn wsX12_story wsX12_workOut := gcons (goodIn_g ch_wsX12_story_flat gd_wsX12_story _ [(1, 20)] rfl) (goodIn_app (goodIn_app (goodIn_g ch_wsX12_story_flat gd_wsX12_story _ [(1, 21), (1, 22), (1, 23), (1, 3), (2, 0), (2, 1), (2, 2), (2, 3), (1, 11), (2, 4), (2, 5), (2, 6), (2, 7), (2, 8), (2, 9), (2, 10), (2, 11), (2, 12), (2, 13), (2, 14), (2, 15), (1, 5), (1, 4), (2, 16)] rfl) (goodIn_g ch_wsX12_story_flat gd_wsX12_story _ [(2, 17), (2, 18), (2, 19), (2, 20), (2, 21), (2, 22), (2, 23), (3, 0), (3, 1), (3, 2), (3, 3), (3, 4), (3, 5), (3, 6), (3, 7), (3, 8), (3, 9), (3, 10), (3, 11), (3, 12), (3, 13), (3, 14), (3, 15), (3, 16)] rfl)) (gchunk ch_wsX12_story_flat gd_wsX12_story 4 rfl))
set_option maxRecDepth 20000 in
theorem gX12_story_X12_workOut : GoodIn wsX12_story (wsV RX12 345 RX12 yX12_workOut wsX12_workOut) := goodIn_app (goodIn_g ch_wsX12_story_flat gd_wsX12_story _ [(1, 17), (1, 18), (1, 19), (1, 11)] rfl) ggX12_story_X12_workOut
set_option maxRecDepth 20000 in
theorem SX12_story : ∀ p : Nat, gb cX12_story p = segF [[27, 184, 0, 147, 153, 0, 15, 28, 133, 10, 20, 0, 145, 184, 0, 136, 154, 0, 5, 2, 172, 42, 180, 1, 86, 16, 6, 160, 0, 6, 16, 253, 172, 42, 2, 42, 180, 1, 38, 182, 1, 89, 62, 42, 180, 1, 38, 54, 4, 42, 3, 181, 1, 38, 42, 180, 1, 50, 155, 0, 11, 16, 156, 42], [180, 1, 50, 100, 172, 3, 54, 5, 21, 5, 21, 4, 162, 0, 31, 42, 180, 0, 92, 16, 120, 42, 180, 1, 86, 104, 21, 5, 96, 42, 180, 0, 86, 21, 5, 46, 79, 132, 5, 1, 167, 255, 224, 42, 180, 0, 95, 42, 180, 1, 86, 21, 4, 79, 42, 180, 0, 89, 42, 180, 1, 86, 27, 79], [42, 180, 0, 9, 16, 41, 42, 180, 1, 86, 96, 28, 79, 42, 89, 180, 1, 86, 4, 96, 181, 1, 86, 42, 180, 1, 86, 4, 100, 172]] p := seg_gb (S := [[27, 184, 0, 147, 153, 0, 15, 28, 133, 10, 20, 0, 145, 184, 0, 136, 154, 0, 5, 2, 172, 42, 180, 1, 86, 16, 6, 160, 0, 6, 16, 253, 172, 42, 2, 42, 180, 1, 38, 182, 1, 89, 62, 42, 180, 1, 38, 54, 4, 42, 3, 181, 1, 38, 42, 180, 1, 50, 155, 0, 11, 16, 156, 42], [180, 1, 50, 100, 172, 3, 54, 5, 21, 5, 21, 4, 162, 0, 31, 42, 180, 0, 92, 16, 120, 42, 180, 1, 86, 104, 21, 5, 96, 42, 180, 0, 86, 21, 5, 46, 79, 132, 5, 1, 167, 255, 224, 42, 180, 0, 95, 42, 180, 1, 86, 21, 4, 79, 42, 180, 0, 89, 42, 180, 1, 86, 27, 79], [42, 180, 0, 9, 16, 41, 42, 180, 1, 86, 96, 28, 79, 42, 89, 180, 1, 86, 4, 96, 181, 1, 86, 42, 180, 1, 86, 4, 100, 172]]) (by decide +kernel) (by decide +kernel)
set_option maxRecDepth 20000 in
theorem BX12_story_1_0 : ∀ q ∈ ([(0, 27), (7, 28), (8, 133), (9, 10), (19, 2), (20, 172), (21, 42), (32, 172), (33, 42), (34, 2), (35, 42), (42, 62)] : List (Nat × Nat)), gb cX12_story q.1 = some q.2 := seg_1 SX12_story _ (by decide +kernel)
set_option maxRecDepth 20000 in
theorem BX12_story_1_1 : ∀ q ∈ ([(43, 42), (49, 42), (50, 3), (54, 42), (63, 42), (67, 100), (68, 172), (69, 3), (79, 42), (85, 42), (89, 104), (92, 96)] : List (Nat × Nat)), gb cX12_story q.1 = some q.2 := seg_1 SX12_story _ (by decide +kernel)
set_option maxRecDepth 20000 in
theorem BX12_story_1_2 : ∀ q ∈ ([(93, 42), (99, 46), (100, 79), (107, 42), (111, 42), (117, 79), (118, 42), (122, 42), (126, 27), (127, 79), (128, 42), (134, 42)] : List (Nat × Nat)), gb cX12_story q.1 = some q.2 := seg_1 SX12_story _ (by decide +kernel)
set_option maxRecDepth 20000 in
theorem BX12_story_1_3 : ∀ q ∈ ([(138, 96), (139, 28), (140, 79), (141, 42), (142, 89), (146, 4), (147, 96), (151, 42), (155, 4), (156, 100), (157, 172)] : List (Nat × Nat)), gb cX12_story q.1 = some q.2 := seg_1 SX12_story _ (by decide +kernel)
set_option maxRecDepth 20000 in
theorem BX12_story_2_0 : ∀ q ∈ ([(25, 16, 6), (30, 16, 253), (47, 54, 4), (61, 16, 156), (70, 54, 5), (72, 21, 5), (74, 21, 4), (83, 16, 120), (90, 21, 5), (97, 21, 5), (115, 21, 4), (132, 16, 41)] : List (Nat × Nat × Nat)), gb cX12_story q.1 = some q.2.1 ∧ gb cX12_story (q.1 + 1) = some q.2.2 := seg_2 SX12_story _ (by decide +kernel)
set_option maxRecDepth 20000 in
theorem BX12_story_3_0 : ∀ q ∈ ([(1, 184, 0, 147), (4, 153, 0, 15), (10, 20, 0, 145), (13, 184, 0, 136), (16, 154, 0, 5), (22, 180, 1, 86), (27, 160, 0, 6), (36, 180, 1, 38), (39, 182, 1, 89), (44, 180, 1, 38), (51, 181, 1, 38), (55, 180, 1, 50)] : List (Nat × Nat × Nat × Nat)), gb cX12_story q.1 = some q.2.1 ∧ gb cX12_story (q.1 + 1) = some q.2.2.1 ∧ gb cX12_story (q.1 + 2) = some q.2.2.2 := seg_3 SX12_story _ (by decide +kernel)
set_option maxRecDepth 20000 in
theorem BX12_story_3_1 : ∀ q ∈ ([(58, 155, 0, 11), (64, 180, 1, 50), (76, 162, 0, 31), (80, 180, 0, 92), (86, 180, 1, 86), (94, 180, 0, 86), (101, 132, 5, 1), (104, 167, 255, 224), (108, 180, 0, 95), (112, 180, 1, 86), (119, 180, 0, 89), (123, 180, 1, 86)] : List (Nat × Nat × Nat × Nat)), gb cX12_story q.1 = some q.2.1 ∧ gb cX12_story (q.1 + 1) = some q.2.2.1 ∧ gb cX12_story (q.1 + 2) = some q.2.2.2 := seg_3 SX12_story _ (by decide +kernel)
set_option maxRecDepth 20000 in
theorem BX12_story_3_2 : ∀ q ∈ ([(129, 180, 0, 9), (135, 180, 1, 86), (143, 180, 1, 86), (148, 181, 1, 86), (152, 180, 1, 86)] : List (Nat × Nat × Nat × Nat)), gb cX12_story q.1 = some q.2.1 ∧ gb cX12_story (q.1 + 1) = some q.2.2.1 ∧ gb cX12_story (q.1 + 2) = some q.2.2.2 := seg_3 SX12_story _ (by decide +kernel)
theorem dX12_story_0 : decode cX12_story 0 = .ok (.iload_n 1, 1) := dk27 (BX12_story_1_0 (0, 27) (List.mem_of_getElem? (i := 0) rfl))
theorem dX12_story_1 : decode cX12_story 1 = .ok (.invokestatic 147, 3) := dk184 0 147 (BX12_story_3_0 (1, 184, 0, 147) (List.mem_of_getElem? (i := 0) rfl))
theorem dX12_story_4 : decode cX12_story 4 = .ok (.ifCond .eq 15, 3) := dk153 0 15 (BX12_story_3_0 (4, 153, 0, 15) (List.mem_of_getElem? (i := 1) rfl))
theorem dX12_story_7 : decode cX12_story 7 = .ok (.iload_n 2, 1) := dk28 (BX12_story_1_0 (7, 28) (List.mem_of_getElem? (i := 1) rfl))
theorem dX12_story_8 : decode cX12_story 8 = .ok (.i2l, 1) := dk133 (BX12_story_1_0 (8, 133) (List.mem_of_getElem? (i := 2) rfl))
theorem dX12_story_9 : decode cX12_story 9 = .ok (.lconst 1, 1) := dk10 (BX12_story_1_0 (9, 10) (List.mem_of_getElem? (i := 3) rfl))
theorem dX12_story_10 : decode cX12_story 10 = .ok (.ldc2_w 145, 3) := dk20 0 145 (BX12_story_3_0 (10, 20, 0, 145) (List.mem_of_getElem? (i := 2) rfl))
theorem dX12_story_13 : decode cX12_story 13 = .ok (.invokestatic 136, 3) := dk184 0 136 (BX12_story_3_0 (13, 184, 0, 136) (List.mem_of_getElem? (i := 3) rfl))
theorem dX12_story_16 : decode cX12_story 16 = .ok (.ifCond .ne 5, 3) := dk154 0 5 (BX12_story_3_0 (16, 154, 0, 5) (List.mem_of_getElem? (i := 4) rfl))
theorem dX12_story_19 : decode cX12_story 19 = .ok (.iconst (-1), 1) := dk2 (BX12_story_1_0 (19, 2) (List.mem_of_getElem? (i := 4) rfl))
theorem dX12_story_20 : decode cX12_story 20 = .ok (.ireturn, 1) := dk172 (BX12_story_1_0 (20, 172) (List.mem_of_getElem? (i := 5) rfl))
theorem dX12_story_21 : decode cX12_story 21 = .ok (.aload_n 0, 1) := dk42 (BX12_story_1_0 (21, 42) (List.mem_of_getElem? (i := 6) rfl))
theorem dX12_story_22 : decode cX12_story 22 = .ok (.getfield 342, 3) := dk180 1 86 (BX12_story_3_0 (22, 180, 1, 86) (List.mem_of_getElem? (i := 5) rfl))
theorem dX12_story_25 : decode cX12_story 25 = .ok (.bipush 6, 2) := dk16 6 (BX12_story_2_0 (25, 16, 6) (List.mem_of_getElem? (i := 0) rfl))
theorem dX12_story_27 : decode cX12_story 27 = .ok (.if_icmp .ne 6, 3) := dk160 0 6 (BX12_story_3_0 (27, 160, 0, 6) (List.mem_of_getElem? (i := 6) rfl))
theorem dX12_story_30 : decode cX12_story 30 = .ok (.bipush (-3), 2) := dk16 253 (BX12_story_2_0 (30, 16, 253) (List.mem_of_getElem? (i := 1) rfl))
theorem dX12_story_32 : decode cX12_story 32 = .ok (.ireturn, 1) := dk172 (BX12_story_1_0 (32, 172) (List.mem_of_getElem? (i := 7) rfl))
theorem dX12_story_33 : decode cX12_story 33 = .ok (.aload_n 0, 1) := dk42 (BX12_story_1_0 (33, 42) (List.mem_of_getElem? (i := 8) rfl))
theorem dX12_story_34 : decode cX12_story 34 = .ok (.iconst (-1), 1) := dk2 (BX12_story_1_0 (34, 2) (List.mem_of_getElem? (i := 9) rfl))
theorem dX12_story_35 : decode cX12_story 35 = .ok (.aload_n 0, 1) := dk42 (BX12_story_1_0 (35, 42) (List.mem_of_getElem? (i := 10) rfl))
theorem dX12_story_36 : decode cX12_story 36 = .ok (.getfield 294, 3) := dk180 1 38 (BX12_story_3_0 (36, 180, 1, 38) (List.mem_of_getElem? (i := 7) rfl))
theorem dX12_story_39 : decode cX12_story 39 = .ok (.invokevirtual 345, 3) := dk182 1 89 (BX12_story_3_0 (39, 182, 1, 89) (List.mem_of_getElem? (i := 8) rfl))
theorem dX12_story_42 : decode cX12_story 42 = .ok (.istore_n 3, 1) := dk62 (BX12_story_1_0 (42, 62) (List.mem_of_getElem? (i := 11) rfl))
theorem dX12_story_43 : decode cX12_story 43 = .ok (.aload_n 0, 1) := dk42 (BX12_story_1_1 (43, 42) (List.mem_of_getElem? (i := 0) rfl))
theorem dX12_story_44 : decode cX12_story 44 = .ok (.getfield 294, 3) := dk180 1 38 (BX12_story_3_0 (44, 180, 1, 38) (List.mem_of_getElem? (i := 9) rfl))
theorem dX12_story_47 : decode cX12_story 47 = .ok (.istore 4, 2) := dk54 4 (BX12_story_2_0 (47, 54, 4) (List.mem_of_getElem? (i := 2) rfl))
theorem dX12_story_49 : decode cX12_story 49 = .ok (.aload_n 0, 1) := dk42 (BX12_story_1_1 (49, 42) (List.mem_of_getElem? (i := 1) rfl))
theorem dX12_story_50 : decode cX12_story 50 = .ok (.iconst 0, 1) := dk3 (BX12_story_1_1 (50, 3) (List.mem_of_getElem? (i := 2) rfl))
theorem dX12_story_51 : decode cX12_story 51 = .ok (.putfield 294, 3) := dk181 1 38 (BX12_story_3_0 (51, 181, 1, 38) (List.mem_of_getElem? (i := 10) rfl))
theorem dX12_story_54 : decode cX12_story 54 = .ok (.aload_n 0, 1) := dk42 (BX12_story_1_1 (54, 42) (List.mem_of_getElem? (i := 3) rfl))
theorem dX12_story_55 : decode cX12_story 55 = .ok (.getfield 306, 3) := dk180 1 50 (BX12_story_3_0 (55, 180, 1, 50) (List.mem_of_getElem? (i := 11) rfl))
theorem dX12_story_58 : decode cX12_story 58 = .ok (.ifCond .lt 11, 3) := dk155 0 11 (BX12_story_3_1 (58, 155, 0, 11) (List.mem_of_getElem? (i := 0) rfl))
theorem dX12_story_61 : decode cX12_story 61 = .ok (.bipush (-100), 2) := dk16 156 (BX12_story_2_0 (61, 16, 156) (List.mem_of_getElem? (i := 3) rfl))
theorem dX12_story_63 : decode cX12_story 63 = .ok (.aload_n 0, 1) := dk42 (BX12_story_1_1 (63, 42) (List.mem_of_getElem? (i := 4) rfl))
theorem dX12_story_64 : decode cX12_story 64 = .ok (.getfield 306, 3) := dk180 1 50 (BX12_story_3_1 (64, 180, 1, 50) (List.mem_of_getElem? (i := 1) rfl))
theorem dX12_story_67 : decode cX12_story 67 = .ok (.isub, 1) := dk100 (BX12_story_1_1 (67, 100) (List.mem_of_getElem? (i := 5) rfl))
theorem dX12_story_68 : decode cX12_story 68 = .ok (.ireturn, 1) := dk172 (BX12_story_1_1 (68, 172) (List.mem_of_getElem? (i := 6) rfl))
theorem dX12_story_69 : decode cX12_story 69 = .ok (.iconst 0, 1) := dk3 (BX12_story_1_1 (69, 3) (List.mem_of_getElem? (i := 7) rfl))
theorem dX12_story_70 : decode cX12_story 70 = .ok (.istore 5, 2) := dk54 5 (BX12_story_2_0 (70, 54, 5) (List.mem_of_getElem? (i := 4) rfl))
theorem dX12_story_72 : decode cX12_story 72 = .ok (.iload 5, 2) := dk21 5 (BX12_story_2_0 (72, 21, 5) (List.mem_of_getElem? (i := 5) rfl))
theorem dX12_story_74 : decode cX12_story 74 = .ok (.iload 4, 2) := dk21 4 (BX12_story_2_0 (74, 21, 4) (List.mem_of_getElem? (i := 6) rfl))
theorem dX12_story_76 : decode cX12_story 76 = .ok (.if_icmp .ge 31, 3) := dk162 0 31 (BX12_story_3_1 (76, 162, 0, 31) (List.mem_of_getElem? (i := 2) rfl))
theorem dX12_story_79 : decode cX12_story 79 = .ok (.aload_n 0, 1) := dk42 (BX12_story_1_1 (79, 42) (List.mem_of_getElem? (i := 8) rfl))
theorem dX12_story_80 : decode cX12_story 80 = .ok (.getfield 92, 3) := dk180 0 92 (BX12_story_3_1 (80, 180, 0, 92) (List.mem_of_getElem? (i := 3) rfl))
theorem dX12_story_83 : decode cX12_story 83 = .ok (.bipush 120, 2) := dk16 120 (BX12_story_2_0 (83, 16, 120) (List.mem_of_getElem? (i := 7) rfl))
theorem dX12_story_85 : decode cX12_story 85 = .ok (.aload_n 0, 1) := dk42 (BX12_story_1_1 (85, 42) (List.mem_of_getElem? (i := 9) rfl))
theorem dX12_story_86 : decode cX12_story 86 = .ok (.getfield 342, 3) := dk180 1 86 (BX12_story_3_1 (86, 180, 1, 86) (List.mem_of_getElem? (i := 4) rfl))
theorem dX12_story_89 : decode cX12_story 89 = .ok (.imul, 1) := dk104 (BX12_story_1_1 (89, 104) (List.mem_of_getElem? (i := 10) rfl))
theorem dX12_story_90 : decode cX12_story 90 = .ok (.iload 5, 2) := dk21 5 (BX12_story_2_0 (90, 21, 5) (List.mem_of_getElem? (i := 8) rfl))
theorem dX12_story_92 : decode cX12_story 92 = .ok (.iadd, 1) := dk96 (BX12_story_1_1 (92, 96) (List.mem_of_getElem? (i := 11) rfl))
theorem dX12_story_93 : decode cX12_story 93 = .ok (.aload_n 0, 1) := dk42 (BX12_story_1_2 (93, 42) (List.mem_of_getElem? (i := 0) rfl))
theorem dX12_story_94 : decode cX12_story 94 = .ok (.getfield 86, 3) := dk180 0 86 (BX12_story_3_1 (94, 180, 0, 86) (List.mem_of_getElem? (i := 5) rfl))
theorem dX12_story_97 : decode cX12_story 97 = .ok (.iload 5, 2) := dk21 5 (BX12_story_2_0 (97, 21, 5) (List.mem_of_getElem? (i := 9) rfl))
theorem dX12_story_99 : decode cX12_story 99 = .ok (.iaload, 1) := dk46 (BX12_story_1_2 (99, 46) (List.mem_of_getElem? (i := 1) rfl))
theorem dX12_story_100 : decode cX12_story 100 = .ok (.iastore, 1) := dk79 (BX12_story_1_2 (100, 79) (List.mem_of_getElem? (i := 2) rfl))
theorem dX12_story_101 : decode cX12_story 101 = .ok (.iinc 5 1, 3) := dk132 5 1 (BX12_story_3_1 (101, 132, 5, 1) (List.mem_of_getElem? (i := 6) rfl))
theorem dX12_story_104 : decode cX12_story 104 = .ok (.goto (-32), 3) := dk167 255 224 (BX12_story_3_1 (104, 167, 255, 224) (List.mem_of_getElem? (i := 7) rfl))
theorem dX12_story_107 : decode cX12_story 107 = .ok (.aload_n 0, 1) := dk42 (BX12_story_1_2 (107, 42) (List.mem_of_getElem? (i := 3) rfl))
theorem dX12_story_108 : decode cX12_story 108 = .ok (.getfield 95, 3) := dk180 0 95 (BX12_story_3_1 (108, 180, 0, 95) (List.mem_of_getElem? (i := 8) rfl))
theorem dX12_story_111 : decode cX12_story 111 = .ok (.aload_n 0, 1) := dk42 (BX12_story_1_2 (111, 42) (List.mem_of_getElem? (i := 4) rfl))
theorem dX12_story_112 : decode cX12_story 112 = .ok (.getfield 342, 3) := dk180 1 86 (BX12_story_3_1 (112, 180, 1, 86) (List.mem_of_getElem? (i := 9) rfl))
theorem dX12_story_115 : decode cX12_story 115 = .ok (.iload 4, 2) := dk21 4 (BX12_story_2_0 (115, 21, 4) (List.mem_of_getElem? (i := 10) rfl))
theorem dX12_story_117 : decode cX12_story 117 = .ok (.iastore, 1) := dk79 (BX12_story_1_2 (117, 79) (List.mem_of_getElem? (i := 5) rfl))
theorem dX12_story_118 : decode cX12_story 118 = .ok (.aload_n 0, 1) := dk42 (BX12_story_1_2 (118, 42) (List.mem_of_getElem? (i := 6) rfl))
theorem dX12_story_119 : decode cX12_story 119 = .ok (.getfield 89, 3) := dk180 0 89 (BX12_story_3_1 (119, 180, 0, 89) (List.mem_of_getElem? (i := 10) rfl))
theorem dX12_story_122 : decode cX12_story 122 = .ok (.aload_n 0, 1) := dk42 (BX12_story_1_2 (122, 42) (List.mem_of_getElem? (i := 7) rfl))
theorem dX12_story_123 : decode cX12_story 123 = .ok (.getfield 342, 3) := dk180 1 86 (BX12_story_3_1 (123, 180, 1, 86) (List.mem_of_getElem? (i := 11) rfl))
theorem dX12_story_126 : decode cX12_story 126 = .ok (.iload_n 1, 1) := dk27 (BX12_story_1_2 (126, 27) (List.mem_of_getElem? (i := 8) rfl))
theorem dX12_story_127 : decode cX12_story 127 = .ok (.iastore, 1) := dk79 (BX12_story_1_2 (127, 79) (List.mem_of_getElem? (i := 9) rfl))
theorem dX12_story_128 : decode cX12_story 128 = .ok (.aload_n 0, 1) := dk42 (BX12_story_1_2 (128, 42) (List.mem_of_getElem? (i := 10) rfl))
theorem dX12_story_129 : decode cX12_story 129 = .ok (.getfield 9, 3) := dk180 0 9 (BX12_story_3_2 (129, 180, 0, 9) (List.mem_of_getElem? (i := 0) rfl))
theorem dX12_story_132 : decode cX12_story 132 = .ok (.bipush 41, 2) := dk16 41 (BX12_story_2_0 (132, 16, 41) (List.mem_of_getElem? (i := 11) rfl))
theorem dX12_story_134 : decode cX12_story 134 = .ok (.aload_n 0, 1) := dk42 (BX12_story_1_2 (134, 42) (List.mem_of_getElem? (i := 11) rfl))
theorem dX12_story_135 : decode cX12_story 135 = .ok (.getfield 342, 3) := dk180 1 86 (BX12_story_3_2 (135, 180, 1, 86) (List.mem_of_getElem? (i := 1) rfl))
theorem dX12_story_138 : decode cX12_story 138 = .ok (.iadd, 1) := dk96 (BX12_story_1_3 (138, 96) (List.mem_of_getElem? (i := 0) rfl))
theorem dX12_story_139 : decode cX12_story 139 = .ok (.iload_n 2, 1) := dk28 (BX12_story_1_3 (139, 28) (List.mem_of_getElem? (i := 1) rfl))
theorem dX12_story_140 : decode cX12_story 140 = .ok (.iastore, 1) := dk79 (BX12_story_1_3 (140, 79) (List.mem_of_getElem? (i := 2) rfl))
theorem dX12_story_141 : decode cX12_story 141 = .ok (.aload_n 0, 1) := dk42 (BX12_story_1_3 (141, 42) (List.mem_of_getElem? (i := 3) rfl))
theorem dX12_story_142 : decode cX12_story 142 = .ok (.dup, 1) := dk89 (BX12_story_1_3 (142, 89) (List.mem_of_getElem? (i := 4) rfl))
theorem dX12_story_143 : decode cX12_story 143 = .ok (.getfield 342, 3) := dk180 1 86 (BX12_story_3_2 (143, 180, 1, 86) (List.mem_of_getElem? (i := 2) rfl))
theorem dX12_story_146 : decode cX12_story 146 = .ok (.iconst 1, 1) := dk4 (BX12_story_1_3 (146, 4) (List.mem_of_getElem? (i := 5) rfl))
theorem dX12_story_147 : decode cX12_story 147 = .ok (.iadd, 1) := dk96 (BX12_story_1_3 (147, 96) (List.mem_of_getElem? (i := 6) rfl))
theorem dX12_story_148 : decode cX12_story 148 = .ok (.putfield 342, 3) := dk181 1 86 (BX12_story_3_2 (148, 181, 1, 86) (List.mem_of_getElem? (i := 3) rfl))
theorem dX12_story_151 : decode cX12_story 151 = .ok (.aload_n 0, 1) := dk42 (BX12_story_1_3 (151, 42) (List.mem_of_getElem? (i := 7) rfl))
theorem dX12_story_152 : decode cX12_story 152 = .ok (.getfield 342, 3) := dk180 1 86 (BX12_story_3_2 (152, 180, 1, 86) (List.mem_of_getElem? (i := 4) rfl))
theorem dX12_story_155 : decode cX12_story 155 = .ok (.iconst 1, 1) := dk4 (BX12_story_1_3 (155, 4) (List.mem_of_getElem? (i := 8) rfl))
theorem dX12_story_156 : decode cX12_story 156 = .ok (.isub, 1) := dk100 (BX12_story_1_3 (156, 100) (List.mem_of_getElem? (i := 9) rfl))
theorem dX12_story_157 : decode cX12_story 157 = .ok (.ireturn, 1) := dk172 (BX12_story_1_3 (157, 172) (List.mem_of_getElem? (i := 10) rfl))
set_option maxRecDepth 20000 in
theorem ggX12_isStory_X12_within : GoodIn wsX12_isStory wsX12_within := goodIn_g ch_wsX12_isStory_flat gd_wsX12_isStory _ [(1, 4)] rfl
set_option maxRecDepth 20000 in
theorem gX12_isStory_X12_within : GoodIn wsX12_isStory (va_wsS RX12 136 yX12_within wsX12_within) := goodIn_app (goodIn_g ch_wsX12_isStory_flat gd_wsX12_isStory _ [(1, 1), (1, 2), (1, 3)] rfl) ggX12_isStory_X12_within
set_option maxRecDepth 20000 in
theorem SX12_isStory : ∀ p : Nat, gb cX12_isStory p = segF [[27, 133, 9, 42, 180, 1, 86, 4, 100, 133, 184, 0, 136, 172]] p := seg_gb (S := [[27, 133, 9, 42, 180, 1, 86, 4, 100, 133, 184, 0, 136, 172]]) (by decide +kernel) (by decide +kernel)
set_option maxRecDepth 20000 in
theorem BX12_isStory_1_0 : ∀ q ∈ ([(0, 27), (1, 133), (2, 9), (3, 42), (7, 4), (8, 100), (9, 133), (13, 172)] : List (Nat × Nat)), gb cX12_isStory q.1 = some q.2 := seg_1 SX12_isStory _ (by decide +kernel)
set_option maxRecDepth 20000 in
theorem BX12_isStory_3_0 : ∀ q ∈ ([(4, 180, 1, 86), (10, 184, 0, 136)] : List (Nat × Nat × Nat × Nat)), gb cX12_isStory q.1 = some q.2.1 ∧ gb cX12_isStory (q.1 + 1) = some q.2.2.1 ∧ gb cX12_isStory (q.1 + 2) = some q.2.2.2 := seg_3 SX12_isStory _ (by decide +kernel)
theorem dX12_isStory_0 : decode cX12_isStory 0 = .ok (.iload_n 1, 1) := dk27 (BX12_isStory_1_0 (0, 27) (List.mem_of_getElem? (i := 0) rfl))
theorem dX12_isStory_1 : decode cX12_isStory 1 = .ok (.i2l, 1) := dk133 (BX12_isStory_1_0 (1, 133) (List.mem_of_getElem? (i := 1) rfl))
theorem dX12_isStory_2 : decode cX12_isStory 2 = .ok (.lconst 0, 1) := dk9 (BX12_isStory_1_0 (2, 9) (List.mem_of_getElem? (i := 2) rfl))
theorem dX12_isStory_3 : decode cX12_isStory 3 = .ok (.aload_n 0, 1) := dk42 (BX12_isStory_1_0 (3, 42) (List.mem_of_getElem? (i := 3) rfl))
theorem dX12_isStory_4 : decode cX12_isStory 4 = .ok (.getfield 342, 3) := dk180 1 86 (BX12_isStory_3_0 (4, 180, 1, 86) (List.mem_of_getElem? (i := 0) rfl))
theorem dX12_isStory_7 : decode cX12_isStory 7 = .ok (.iconst 1, 1) := dk4 (BX12_isStory_1_0 (7, 4) (List.mem_of_getElem? (i := 4) rfl))
theorem dX12_isStory_8 : decode cX12_isStory 8 = .ok (.isub, 1) := dk100 (BX12_isStory_1_0 (8, 100) (List.mem_of_getElem? (i := 5) rfl))
theorem dX12_isStory_9 : decode cX12_isStory 9 = .ok (.i2l, 1) := dk133 (BX12_isStory_1_0 (9, 133) (List.mem_of_getElem? (i := 6) rfl))
theorem dX12_isStory_10 : decode cX12_isStory 10 = .ok (.invokestatic 136, 3) := dk184 0 136 (BX12_isStory_3_0 (10, 184, 0, 136) (List.mem_of_getElem? (i := 1) rfl))
theorem dX12_isStory_13 : decode cX12_isStory 13 = .ok (.ireturn, 1) := dk172 (BX12_isStory_1_0 (13, 172) (List.mem_of_getElem? (i := 7) rfl))
set_option maxRecDepth 20000 in
theorem ggX12_prior_X12_isStory : GoodIn wsX12_prior wsX12_isStory := gcons (goodIn_g ch_wsX12_prior_flat gd_wsX12_prior _ [(1, 5)] rfl) (goodIn_app (goodIn_g ch_wsX12_prior_flat gd_wsX12_prior _ [(1, 6), (1, 7), (1, 8), (1, 4), (1, 9)] rfl) (gchunk ch_wsX12_prior_flat gd_wsX12_prior 2 rfl))
set_option maxRecDepth 20000 in
theorem gX12_prior_X12_isStory : GoodIn wsX12_prior (wsV RX12 348 RX12 yX12_isStory wsX12_isStory) := goodIn_app (goodIn_g ch_wsX12_prior_flat gd_wsX12_prior _ [(1, 1), (1, 2), (1, 3), (1, 4)] rfl) ggX12_prior_X12_isStory
set_option maxRecDepth 20000 in
theorem ggX12_prior_X12_within : GoodIn wsX12_prior wsX12_within := goodIn_g ch_wsX12_prior_flat gd_wsX12_prior _ [(1, 9)] rfl
set_option maxRecDepth 20000 in
theorem gX12_prior_X12_within : GoodIn wsX12_prior (va_wsS RX12 136 yX12_within wsX12_within) := goodIn_app (goodIn_g ch_wsX12_prior_flat gd_wsX12_prior _ [(1, 7), (1, 8), (1, 4)] rfl) ggX12_prior_X12_within
set_option maxRecDepth 20000 in
theorem ggX12_prior_X12_becomes : GoodIn wsX12_prior wsX12_becomes := gcons (goodIn_g ch_wsX12_prior_flat gd_wsX12_prior _ [(1, 13)] rfl) (goodIn_app (goodIn_g ch_wsX12_prior_flat gd_wsX12_prior _ [(1, 14), (1, 15), (1, 16), (1, 17), (1, 18), (1, 19)] rfl) (gchunk ch_wsX12_prior_flat gd_wsX12_prior 2 rfl))
set_option maxRecDepth 20000 in
theorem gX12_prior_X12_becomes : GoodIn wsX12_prior (wsV RX12 154 RX12 yX12_becomes wsX12_becomes) := goodIn_app (goodIn_g ch_wsX12_prior_flat gd_wsX12_prior _ [(1, 10), (1, 11), (1, 12), (1, 4)] rfl) ggX12_prior_X12_becomes
set_option maxRecDepth 20000 in
theorem SX12_prior : ∀ p : Nat, gb cX12_prior p = segF [[42, 27, 182, 1, 92, 153, 0, 27, 28, 133, 10, 20, 0, 145, 184, 0, 136, 153, 0, 15, 42, 16, 41, 27, 96, 28, 182, 0, 154, 167, 0, 4, 2, 172]] p := seg_gb (S := [[42, 27, 182, 1, 92, 153, 0, 27, 28, 133, 10, 20, 0, 145, 184, 0, 136, 153, 0, 15, 42, 16, 41, 27, 96, 28, 182, 0, 154, 167, 0, 4, 2, 172]]) (by decide +kernel) (by decide +kernel)
set_option maxRecDepth 20000 in
theorem BX12_prior_1_0 : ∀ q ∈ ([(0, 42), (1, 27), (8, 28), (9, 133), (10, 10), (20, 42), (23, 27), (24, 96), (25, 28), (32, 2), (33, 172)] : List (Nat × Nat)), gb cX12_prior q.1 = some q.2 := seg_1 SX12_prior _ (by decide +kernel)
set_option maxRecDepth 20000 in
theorem BX12_prior_2_0 : ∀ q ∈ ([(21, 16, 41)] : List (Nat × Nat × Nat)), gb cX12_prior q.1 = some q.2.1 ∧ gb cX12_prior (q.1 + 1) = some q.2.2 := seg_2 SX12_prior _ (by decide +kernel)
set_option maxRecDepth 20000 in
theorem BX12_prior_3_0 : ∀ q ∈ ([(2, 182, 1, 92), (5, 153, 0, 27), (11, 20, 0, 145), (14, 184, 0, 136), (17, 153, 0, 15), (26, 182, 0, 154), (29, 167, 0, 4)] : List (Nat × Nat × Nat × Nat)), gb cX12_prior q.1 = some q.2.1 ∧ gb cX12_prior (q.1 + 1) = some q.2.2.1 ∧ gb cX12_prior (q.1 + 2) = some q.2.2.2 := seg_3 SX12_prior _ (by decide +kernel)
theorem dX12_prior_0 : decode cX12_prior 0 = .ok (.aload_n 0, 1) := dk42 (BX12_prior_1_0 (0, 42) (List.mem_of_getElem? (i := 0) rfl))
theorem dX12_prior_1 : decode cX12_prior 1 = .ok (.iload_n 1, 1) := dk27 (BX12_prior_1_0 (1, 27) (List.mem_of_getElem? (i := 1) rfl))
theorem dX12_prior_2 : decode cX12_prior 2 = .ok (.invokevirtual 348, 3) := dk182 1 92 (BX12_prior_3_0 (2, 182, 1, 92) (List.mem_of_getElem? (i := 0) rfl))
theorem dX12_prior_5 : decode cX12_prior 5 = .ok (.ifCond .eq 27, 3) := dk153 0 27 (BX12_prior_3_0 (5, 153, 0, 27) (List.mem_of_getElem? (i := 1) rfl))
theorem dX12_prior_8 : decode cX12_prior 8 = .ok (.iload_n 2, 1) := dk28 (BX12_prior_1_0 (8, 28) (List.mem_of_getElem? (i := 2) rfl))
theorem dX12_prior_9 : decode cX12_prior 9 = .ok (.i2l, 1) := dk133 (BX12_prior_1_0 (9, 133) (List.mem_of_getElem? (i := 3) rfl))
theorem dX12_prior_10 : decode cX12_prior 10 = .ok (.lconst 1, 1) := dk10 (BX12_prior_1_0 (10, 10) (List.mem_of_getElem? (i := 4) rfl))
theorem dX12_prior_11 : decode cX12_prior 11 = .ok (.ldc2_w 145, 3) := dk20 0 145 (BX12_prior_3_0 (11, 20, 0, 145) (List.mem_of_getElem? (i := 2) rfl))
theorem dX12_prior_14 : decode cX12_prior 14 = .ok (.invokestatic 136, 3) := dk184 0 136 (BX12_prior_3_0 (14, 184, 0, 136) (List.mem_of_getElem? (i := 3) rfl))
theorem dX12_prior_17 : decode cX12_prior 17 = .ok (.ifCond .eq 15, 3) := dk153 0 15 (BX12_prior_3_0 (17, 153, 0, 15) (List.mem_of_getElem? (i := 4) rfl))
theorem dX12_prior_20 : decode cX12_prior 20 = .ok (.aload_n 0, 1) := dk42 (BX12_prior_1_0 (20, 42) (List.mem_of_getElem? (i := 5) rfl))
theorem dX12_prior_21 : decode cX12_prior 21 = .ok (.bipush 41, 2) := dk16 41 (BX12_prior_2_0 (21, 16, 41) (List.mem_of_getElem? (i := 0) rfl))
theorem dX12_prior_23 : decode cX12_prior 23 = .ok (.iload_n 1, 1) := dk27 (BX12_prior_1_0 (23, 27) (List.mem_of_getElem? (i := 6) rfl))
theorem dX12_prior_24 : decode cX12_prior 24 = .ok (.iadd, 1) := dk96 (BX12_prior_1_0 (24, 96) (List.mem_of_getElem? (i := 7) rfl))
theorem dX12_prior_25 : decode cX12_prior 25 = .ok (.iload_n 2, 1) := dk28 (BX12_prior_1_0 (25, 28) (List.mem_of_getElem? (i := 8) rfl))
theorem dX12_prior_26 : decode cX12_prior 26 = .ok (.invokevirtual 154, 3) := dk182 0 154 (BX12_prior_3_0 (26, 182, 0, 154) (List.mem_of_getElem? (i := 5) rfl))
theorem dX12_prior_29 : decode cX12_prior 29 = .ok (.goto 4, 3) := dk167 0 4 (BX12_prior_3_0 (29, 167, 0, 4) (List.mem_of_getElem? (i := 6) rfl))
theorem dX12_prior_32 : decode cX12_prior 32 = .ok (.iconst (-1), 1) := dk2 (BX12_prior_1_0 (32, 2) (List.mem_of_getElem? (i := 9) rfl))
theorem dX12_prior_33 : decode cX12_prior 33 = .ok (.ireturn, 1) := dk172 (BX12_prior_1_0 (33, 172) (List.mem_of_getElem? (i := 10) rfl))
set_option maxRecDepth 20000 in
theorem SX12_orNone : ∀ p : Nat, gb cX12_orNone p = segF [[26, 156, 0, 7, 3, 167, 0, 4, 26, 172]] p := seg_gb (S := [[26, 156, 0, 7, 3, 167, 0, 4, 26, 172]]) (by decide +kernel) (by decide +kernel)
set_option maxRecDepth 20000 in
theorem BX12_orNone_1_0 : ∀ q ∈ ([(0, 26), (4, 3), (8, 26), (9, 172)] : List (Nat × Nat)), gb cX12_orNone q.1 = some q.2 := seg_1 SX12_orNone _ (by decide +kernel)
set_option maxRecDepth 20000 in
theorem BX12_orNone_3_0 : ∀ q ∈ ([(1, 156, 0, 7), (5, 167, 0, 4)] : List (Nat × Nat × Nat × Nat)), gb cX12_orNone q.1 = some q.2.1 ∧ gb cX12_orNone (q.1 + 1) = some q.2.2.1 ∧ gb cX12_orNone (q.1 + 2) = some q.2.2.2 := seg_3 SX12_orNone _ (by decide +kernel)
theorem dX12_orNone_0 : decode cX12_orNone 0 = .ok (.iload_n 0, 1) := dk26 (BX12_orNone_1_0 (0, 26) (List.mem_of_getElem? (i := 0) rfl))
theorem dX12_orNone_1 : decode cX12_orNone 1 = .ok (.ifCond .ge 7, 3) := dk156 0 7 (BX12_orNone_3_0 (1, 156, 0, 7) (List.mem_of_getElem? (i := 0) rfl))
theorem dX12_orNone_4 : decode cX12_orNone 4 = .ok (.iconst 0, 1) := dk3 (BX12_orNone_1_0 (4, 3) (List.mem_of_getElem? (i := 1) rfl))
theorem dX12_orNone_5 : decode cX12_orNone 5 = .ok (.goto 4, 3) := dk167 0 4 (BX12_orNone_3_0 (5, 167, 0, 4) (List.mem_of_getElem? (i := 1) rfl))
theorem dX12_orNone_8 : decode cX12_orNone 8 = .ok (.iload_n 0, 1) := dk26 (BX12_orNone_1_0 (8, 26) (List.mem_of_getElem? (i := 2) rfl))
theorem dX12_orNone_9 : decode cX12_orNone 9 = .ok (.ireturn, 1) := dk172 (BX12_orNone_1_0 (9, 172) (List.mem_of_getElem? (i := 3) rfl))
set_option maxRecDepth 20000 in
theorem ggX12_weightOf_X12_meanOf : GoodIn wsX12_weightOf wsX12_meanOf := gcons (goodIn_g ch_wsX12_weightOf_flat gd_wsX12_weightOf _ [(1, 11)] rfl) (goodIn_app (goodIn_g ch_wsX12_weightOf_flat gd_wsX12_weightOf _ [(1, 12), (1, 13), (1, 14), (1, 5), (1, 15), (1, 16), (1, 10), (1, 17)] rfl) (gchunk ch_wsX12_weightOf_flat gd_wsX12_weightOf 6 rfl))
set_option maxRecDepth 20000 in
theorem gX12_weightOf_X12_meanOf : GoodIn wsX12_weightOf (wsV RX12 243 RX12 yX12_meanOf wsX12_meanOf) := goodIn_app (goodIn_g ch_wsX12_weightOf_flat gd_wsX12_weightOf _ [(1, 7), (1, 8), (1, 9), (1, 10)] rfl) ggX12_weightOf_X12_meanOf
set_option maxRecDepth 20000 in
theorem ggX12_weightOf_X12_orNone : GoodIn wsX12_weightOf wsX12_orNone := goodIn_g ch_wsX12_weightOf_flat gd_wsX12_weightOf _ [(1, 20)] rfl
set_option maxRecDepth 20000 in
theorem gX12_weightOf_X12_orNone : GoodIn wsX12_weightOf (va_wsS RX12 351 yX12_orNone wsX12_orNone) := goodIn_app (goodIn_g ch_wsX12_weightOf_flat gd_wsX12_weightOf _ [(1, 18), (1, 19), (1, 10)] rfl) ggX12_weightOf_X12_orNone
set_option maxRecDepth 20000 in
theorem ggX12_weightOf_X12_lateMany : GoodIn wsX12_weightOf wsX12_lateMany := gcons (goodIn_g ch_wsX12_weightOf_flat gd_wsX12_weightOf _ [(2, 0)] rfl) (goodIn_app (goodIn_g ch_wsX12_weightOf_flat gd_wsX12_weightOf _ [(2, 1), (2, 2)] rfl) (gchunk ch_wsX12_weightOf_flat gd_wsX12_weightOf 6 rfl))
set_option maxRecDepth 20000 in
theorem gX12_weightOf_X12_lateMany : GoodIn wsX12_weightOf (wsV RX12 271 RX12 yX12_lateMany wsX12_lateMany) := goodIn_app (goodIn_g ch_wsX12_weightOf_flat gd_wsX12_weightOf _ [(1, 21), (1, 22), (1, 23), (1, 10)] rfl) ggX12_weightOf_X12_lateMany
set_option maxRecDepth 20000 in
theorem ggX12_weightOf_X12_doesBar : GoodIn wsX12_weightOf wsX12_doesBar := gcons (goodIn_g ch_wsX12_weightOf_flat gd_wsX12_weightOf _ [(2, 6)] rfl) (goodIn_app (goodIn_g ch_wsX12_weightOf_flat gd_wsX12_weightOf _ [(2, 7), (2, 8), (1, 7), (1, 8), (1, 9), (1, 10), (1, 11), (1, 12), (1, 13), (1, 14), (1, 5), (1, 15), (1, 16), (1, 17)] rfl) (gchunk ch_wsX12_weightOf_flat gd_wsX12_weightOf 6 rfl))
set_option maxRecDepth 20000 in
theorem gX12_weightOf_X12_doesBar : GoodIn wsX12_weightOf (wsV RX12 259 RX12 yX12_doesBar wsX12_doesBar) := goodIn_app (goodIn_g ch_wsX12_weightOf_flat gd_wsX12_weightOf _ [(2, 3), (2, 4), (2, 5), (1, 10)] rfl) ggX12_weightOf_X12_doesBar
set_option maxRecDepth 20000 in
theorem ggX12_weightOf_X12_fight : GoodIn wsX12_weightOf wsX12_fight := gcons (goodIn_g ch_wsX12_weightOf_flat gd_wsX12_weightOf _ [(2, 12)] rfl) (goodIn_app (goodIn_app (goodIn_g ch_wsX12_weightOf_flat gd_wsX12_weightOf _ [(2, 13), (2, 14), (2, 15), (2, 16), (2, 17), (1, 10), (2, 18), (2, 19), (1, 15), (1, 16), (1, 17), (2, 20), (2, 21), (2, 22), (2, 23), (3, 0), (3, 1), (3, 2), (3, 3), (3, 4), (3, 5), (3, 6), (3, 7), (3, 8)] rfl) (goodIn_g ch_wsX12_weightOf_flat gd_wsX12_weightOf _ [(3, 9), (1, 2), (3, 10), (1, 3), (3, 11)] rfl)) (gchunk ch_wsX12_weightOf_flat gd_wsX12_weightOf 6 rfl))
set_option maxRecDepth 20000 in
theorem gX12_weightOf_X12_fight : GoodIn wsX12_weightOf (wsV RX12 354 RX12 yX12_fight wsX12_fight) := goodIn_app (goodIn_g ch_wsX12_weightOf_flat gd_wsX12_weightOf _ [(2, 9), (2, 10), (2, 11), (1, 10)] rfl) ggX12_weightOf_X12_fight
set_option maxRecDepth 20000 in
theorem ggX12_weightOf_X12_workOut : GoodIn wsX12_weightOf wsX12_workOut := gcons (goodIn_g ch_wsX12_weightOf_flat gd_wsX12_weightOf _ [(3, 15)] rfl) (goodIn_app (goodIn_app (goodIn_g ch_wsX12_weightOf_flat gd_wsX12_weightOf _ [(3, 16), (3, 17), (3, 18), (3, 19), (3, 20), (3, 21), (3, 22), (3, 23), (1, 10), (4, 0), (4, 1), (4, 2), (4, 3), (4, 4), (4, 5), (4, 6), (4, 7), (4, 8), (4, 9), (4, 10), (4, 11), (4, 12), (4, 13), (4, 14)] rfl) (goodIn_g ch_wsX12_weightOf_flat gd_wsX12_weightOf _ [(4, 15), (4, 16), (4, 17), (4, 18), (4, 19), (4, 20), (4, 21), (4, 22), (1, 1), (4, 23), (5, 0), (5, 1), (5, 2), (5, 3), (5, 4), (5, 5), (5, 6), (5, 7), (5, 8), (5, 9), (5, 10), (5, 11), (5, 12), (5, 13)] rfl)) (gchunk ch_wsX12_weightOf_flat gd_wsX12_weightOf 6 rfl))
set_option maxRecDepth 20000 in
theorem gX12_weightOf_X12_workOut : GoodIn wsX12_weightOf (wsV RX12 345 RX12 yX12_workOut wsX12_workOut) := goodIn_app (goodIn_g ch_wsX12_weightOf_flat gd_wsX12_weightOf _ [(3, 12), (3, 13), (3, 14), (1, 10)] rfl) ggX12_weightOf_X12_workOut
set_option maxRecDepth 20000 in
theorem SX12_weightOf : ∀ p : Nat, gb cX12_weightOf p = segF [[42, 180, 0, 89, 27, 46, 61, 42, 180, 0, 98, 3, 3, 79, 3, 62, 29, 42, 180, 0, 203, 162, 0, 32, 42, 180, 0, 98, 3, 92, 46, 42, 180, 0, 55, 29, 51, 153, 0, 7, 4, 167, 0, 4, 3, 96, 79, 132, 3, 1, 167, 255, 222, 42, 180, 0, 98, 4, 42, 180, 0, 203, 42, 180], [0, 98, 3, 46, 100, 79, 42, 180, 0, 98, 5, 42, 8, 3, 8, 182, 0, 243, 184, 1, 95, 79, 42, 180, 0, 98, 6, 42, 8, 16, 7, 16, 7, 182, 0, 243, 184, 1, 95, 79, 42, 180, 0, 98, 7, 42, 28, 182, 1, 15, 79, 42, 180, 0, 98, 8, 3, 79, 3, 62, 29, 16, 6, 162], [0, 34, 42, 180, 0, 98, 8, 42, 29, 28, 182, 1, 3, 153, 0, 7, 4, 167, 0, 9, 42, 180, 0, 98, 8, 46, 79, 132, 3, 1, 167, 255, 222, 42, 180, 0, 98, 16, 6, 42, 8, 3, 182, 1, 98, 16, 254, 160, 0, 7, 3, 167, 0, 4, 4, 79, 42, 180, 0, 98, 16, 7, 3, 79], [3, 62, 29, 42, 180, 0, 133, 162, 0, 53, 42, 180, 0, 9, 16, 47, 29, 96, 46, 28, 100, 54, 4, 42, 180, 0, 98, 16, 7, 21, 4, 42, 180, 0, 98, 16, 7, 46, 164, 0, 8, 21, 4, 167, 0, 10, 42, 180, 0, 98, 16, 7, 46, 79, 132, 3, 1, 167, 255, 201, 42, 16, 120, 27], [104, 42, 180, 0, 95, 27, 46, 182, 1, 89, 62, 29, 156, 0, 7, 3, 167, 0, 17, 29, 17, 39, 15, 164, 0, 9, 17, 39, 15, 167, 0, 4, 29, 172]] p := seg_gb (S := [[42, 180, 0, 89, 27, 46, 61, 42, 180, 0, 98, 3, 3, 79, 3, 62, 29, 42, 180, 0, 203, 162, 0, 32, 42, 180, 0, 98, 3, 92, 46, 42, 180, 0, 55, 29, 51, 153, 0, 7, 4, 167, 0, 4, 3, 96, 79, 132, 3, 1, 167, 255, 222, 42, 180, 0, 98, 4, 42, 180, 0, 203, 42, 180], [0, 98, 3, 46, 100, 79, 42, 180, 0, 98, 5, 42, 8, 3, 8, 182, 0, 243, 184, 1, 95, 79, 42, 180, 0, 98, 6, 42, 8, 16, 7, 16, 7, 182, 0, 243, 184, 1, 95, 79, 42, 180, 0, 98, 7, 42, 28, 182, 1, 15, 79, 42, 180, 0, 98, 8, 3, 79, 3, 62, 29, 16, 6, 162], [0, 34, 42, 180, 0, 98, 8, 42, 29, 28, 182, 1, 3, 153, 0, 7, 4, 167, 0, 9, 42, 180, 0, 98, 8, 46, 79, 132, 3, 1, 167, 255, 222, 42, 180, 0, 98, 16, 6, 42, 8, 3, 182, 1, 98, 16, 254, 160, 0, 7, 3, 167, 0, 4, 4, 79, 42, 180, 0, 98, 16, 7, 3, 79], [3, 62, 29, 42, 180, 0, 133, 162, 0, 53, 42, 180, 0, 9, 16, 47, 29, 96, 46, 28, 100, 54, 4, 42, 180, 0, 98, 16, 7, 21, 4, 42, 180, 0, 98, 16, 7, 46, 164, 0, 8, 21, 4, 167, 0, 10, 42, 180, 0, 98, 16, 7, 46, 79, 132, 3, 1, 167, 255, 201, 42, 16, 120, 27], [104, 42, 180, 0, 95, 27, 46, 182, 1, 89, 62, 29, 156, 0, 7, 3, 167, 0, 17, 29, 17, 39, 15, 164, 0, 9, 17, 39, 15, 167, 0, 4, 29, 172]]) (by decide +kernel) (by decide +kernel)
set_option maxRecDepth 20000 in
theorem BX12_weightOf_1_0 : ∀ q ∈ ([(0, 42), (4, 27), (5, 46), (6, 61), (7, 42), (11, 3), (12, 3), (13, 79), (14, 3), (15, 62), (16, 29), (17, 42)] : List (Nat × Nat)), gb cX12_weightOf q.1 = some q.2 := seg_1 SX12_weightOf _ (by decide +kernel)
set_option maxRecDepth 20000 in
theorem BX12_weightOf_1_1 : ∀ q ∈ ([(24, 42), (28, 3), (29, 92), (30, 46), (31, 42), (35, 29), (36, 51), (40, 4), (44, 3), (45, 96), (46, 79), (53, 42)] : List (Nat × Nat)), gb cX12_weightOf q.1 = some q.2 := seg_1 SX12_weightOf _ (by decide +kernel)
set_option maxRecDepth 20000 in
theorem BX12_weightOf_1_2 : ∀ q ∈ ([(57, 4), (58, 42), (62, 42), (66, 3), (67, 46), (68, 100), (69, 79), (70, 42), (74, 5), (75, 42), (76, 8), (77, 3)] : List (Nat × Nat)), gb cX12_weightOf q.1 = some q.2 := seg_1 SX12_weightOf _ (by decide +kernel)
set_option maxRecDepth 20000 in
theorem BX12_weightOf_1_3 : ∀ q ∈ ([(78, 8), (85, 79), (86, 42), (90, 6), (91, 42), (92, 8), (103, 79), (104, 42), (108, 7), (109, 42), (110, 28), (114, 79)] : List (Nat × Nat)), gb cX12_weightOf q.1 = some q.2 := seg_1 SX12_weightOf _ (by decide +kernel)
set_option maxRecDepth 20000 in
theorem BX12_weightOf_1_4 : ∀ q ∈ ([(115, 42), (119, 8), (120, 3), (121, 79), (122, 3), (123, 62), (124, 29), (130, 42), (134, 8), (135, 42), (136, 29), (137, 28)] : List (Nat × Nat)), gb cX12_weightOf q.1 = some q.2 := seg_1 SX12_weightOf _ (by decide +kernel)
set_option maxRecDepth 20000 in
theorem BX12_weightOf_1_5 : ∀ q ∈ ([(144, 4), (148, 42), (152, 8), (153, 46), (154, 79), (161, 42), (167, 42), (168, 8), (169, 3), (178, 3), (182, 4), (183, 79)] : List (Nat × Nat)), gb cX12_weightOf q.1 = some q.2 := seg_1 SX12_weightOf _ (by decide +kernel)
set_option maxRecDepth 20000 in
theorem BX12_weightOf_1_6 : ∀ q ∈ ([(184, 42), (190, 3), (191, 79), (192, 3), (193, 62), (194, 29), (195, 42), (202, 42), (208, 29), (209, 96), (210, 46), (211, 28)] : List (Nat × Nat)), gb cX12_weightOf q.1 = some q.2 := seg_1 SX12_weightOf _ (by decide +kernel)
set_option maxRecDepth 20000 in
theorem BX12_weightOf_1_7 : ∀ q ∈ ([(212, 100), (215, 42), (223, 42), (229, 46), (238, 42), (244, 46), (245, 79), (252, 42), (255, 27), (256, 104), (257, 42), (261, 27)] : List (Nat × Nat)), gb cX12_weightOf q.1 = some q.2 := seg_1 SX12_weightOf _ (by decide +kernel)
set_option maxRecDepth 20000 in
theorem BX12_weightOf_1_8 : ∀ q ∈ ([(262, 46), (266, 62), (267, 29), (271, 3), (275, 29), (288, 29), (289, 172)] : List (Nat × Nat)), gb cX12_weightOf q.1 = some q.2 := seg_1 SX12_weightOf _ (by decide +kernel)
set_option maxRecDepth 20000 in
theorem BX12_weightOf_2_0 : ∀ q ∈ ([(93, 16, 7), (95, 16, 7), (125, 16, 6), (165, 16, 6), (173, 16, 254), (188, 16, 7), (206, 16, 47), (213, 54, 4), (219, 16, 7), (221, 21, 4), (227, 16, 7), (233, 21, 4)] : List (Nat × Nat × Nat)), gb cX12_weightOf q.1 = some q.2.1 ∧ gb cX12_weightOf (q.1 + 1) = some q.2.2 := seg_2 SX12_weightOf _ (by decide +kernel)
set_option maxRecDepth 20000 in
theorem BX12_weightOf_2_1 : ∀ q ∈ ([(242, 16, 7), (253, 16, 120)] : List (Nat × Nat × Nat)), gb cX12_weightOf q.1 = some q.2.1 ∧ gb cX12_weightOf (q.1 + 1) = some q.2.2 := seg_2 SX12_weightOf _ (by decide +kernel)
set_option maxRecDepth 20000 in
theorem BX12_weightOf_3_0 : ∀ q ∈ ([(1, 180, 0, 89), (8, 180, 0, 98), (18, 180, 0, 203), (21, 162, 0, 32), (25, 180, 0, 98), (32, 180, 0, 55), (37, 153, 0, 7), (41, 167, 0, 4), (47, 132, 3, 1), (50, 167, 255, 222), (54, 180, 0, 98), (59, 180, 0, 203)] : List (Nat × Nat × Nat × Nat)), gb cX12_weightOf q.1 = some q.2.1 ∧ gb cX12_weightOf (q.1 + 1) = some q.2.2.1 ∧ gb cX12_weightOf (q.1 + 2) = some q.2.2.2 := seg_3 SX12_weightOf _ (by decide +kernel)
set_option maxRecDepth 20000 in
theorem BX12_weightOf_3_1 : ∀ q ∈ ([(63, 180, 0, 98), (71, 180, 0, 98), (79, 182, 0, 243), (82, 184, 1, 95), (87, 180, 0, 98), (97, 182, 0, 243), (100, 184, 1, 95), (105, 180, 0, 98), (111, 182, 1, 15), (116, 180, 0, 98), (127, 162, 0, 34), (131, 180, 0, 98)] : List (Nat × Nat × Nat × Nat)), gb cX12_weightOf q.1 = some q.2.1 ∧ gb cX12_weightOf (q.1 + 1) = some q.2.2.1 ∧ gb cX12_weightOf (q.1 + 2) = some q.2.2.2 := seg_3 SX12_weightOf _ (by decide +kernel)
set_option maxRecDepth 20000 in
theorem BX12_weightOf_3_2 : ∀ q ∈ ([(138, 182, 1, 3), (141, 153, 0, 7), (145, 167, 0, 9), (149, 180, 0, 98), (155, 132, 3, 1), (158, 167, 255, 222), (162, 180, 0, 98), (170, 182, 1, 98), (175, 160, 0, 7), (179, 167, 0, 4), (185, 180, 0, 98), (196, 180, 0, 133)] : List (Nat × Nat × Nat × Nat)), gb cX12_weightOf q.1 = some q.2.1 ∧ gb cX12_weightOf (q.1 + 1) = some q.2.2.1 ∧ gb cX12_weightOf (q.1 + 2) = some q.2.2.2 := seg_3 SX12_weightOf _ (by decide +kernel)
set_option maxRecDepth 20000 in
theorem BX12_weightOf_3_3 : ∀ q ∈ ([(199, 162, 0, 53), (203, 180, 0, 9), (216, 180, 0, 98), (224, 180, 0, 98), (230, 164, 0, 8), (235, 167, 0, 10), (239, 180, 0, 98), (246, 132, 3, 1), (249, 167, 255, 201), (258, 180, 0, 95), (263, 182, 1, 89), (268, 156, 0, 7)] : List (Nat × Nat × Nat × Nat)), gb cX12_weightOf q.1 = some q.2.1 ∧ gb cX12_weightOf (q.1 + 1) = some q.2.2.1 ∧ gb cX12_weightOf (q.1 + 2) = some q.2.2.2 := seg_3 SX12_weightOf _ (by decide +kernel)
set_option maxRecDepth 20000 in
theorem BX12_weightOf_3_4 : ∀ q ∈ ([(272, 167, 0, 17), (276, 17, 39, 15), (279, 164, 0, 9), (282, 17, 39, 15), (285, 167, 0, 4)] : List (Nat × Nat × Nat × Nat)), gb cX12_weightOf q.1 = some q.2.1 ∧ gb cX12_weightOf (q.1 + 1) = some q.2.2.1 ∧ gb cX12_weightOf (q.1 + 2) = some q.2.2.2 := seg_3 SX12_weightOf _ (by decide +kernel)
theorem dX12_weightOf_0 : decode cX12_weightOf 0 = .ok (.aload_n 0, 1) := dk42 (BX12_weightOf_1_0 (0, 42) (List.mem_of_getElem? (i := 0) rfl))
theorem dX12_weightOf_1 : decode cX12_weightOf 1 = .ok (.getfield 89, 3) := dk180 0 89 (BX12_weightOf_3_0 (1, 180, 0, 89) (List.mem_of_getElem? (i := 0) rfl))
theorem dX12_weightOf_4 : decode cX12_weightOf 4 = .ok (.iload_n 1, 1) := dk27 (BX12_weightOf_1_0 (4, 27) (List.mem_of_getElem? (i := 1) rfl))
theorem dX12_weightOf_5 : decode cX12_weightOf 5 = .ok (.iaload, 1) := dk46 (BX12_weightOf_1_0 (5, 46) (List.mem_of_getElem? (i := 2) rfl))
theorem dX12_weightOf_6 : decode cX12_weightOf 6 = .ok (.istore_n 2, 1) := dk61 (BX12_weightOf_1_0 (6, 61) (List.mem_of_getElem? (i := 3) rfl))
theorem dX12_weightOf_7 : decode cX12_weightOf 7 = .ok (.aload_n 0, 1) := dk42 (BX12_weightOf_1_0 (7, 42) (List.mem_of_getElem? (i := 4) rfl))
theorem dX12_weightOf_8 : decode cX12_weightOf 8 = .ok (.getfield 98, 3) := dk180 0 98 (BX12_weightOf_3_0 (8, 180, 0, 98) (List.mem_of_getElem? (i := 1) rfl))
theorem dX12_weightOf_11 : decode cX12_weightOf 11 = .ok (.iconst 0, 1) := dk3 (BX12_weightOf_1_0 (11, 3) (List.mem_of_getElem? (i := 5) rfl))
theorem dX12_weightOf_12 : decode cX12_weightOf 12 = .ok (.iconst 0, 1) := dk3 (BX12_weightOf_1_0 (12, 3) (List.mem_of_getElem? (i := 6) rfl))
theorem dX12_weightOf_13 : decode cX12_weightOf 13 = .ok (.iastore, 1) := dk79 (BX12_weightOf_1_0 (13, 79) (List.mem_of_getElem? (i := 7) rfl))
theorem dX12_weightOf_14 : decode cX12_weightOf 14 = .ok (.iconst 0, 1) := dk3 (BX12_weightOf_1_0 (14, 3) (List.mem_of_getElem? (i := 8) rfl))
theorem dX12_weightOf_15 : decode cX12_weightOf 15 = .ok (.istore_n 3, 1) := dk62 (BX12_weightOf_1_0 (15, 62) (List.mem_of_getElem? (i := 9) rfl))
theorem dX12_weightOf_16 : decode cX12_weightOf 16 = .ok (.iload_n 3, 1) := dk29 (BX12_weightOf_1_0 (16, 29) (List.mem_of_getElem? (i := 10) rfl))
theorem dX12_weightOf_17 : decode cX12_weightOf 17 = .ok (.aload_n 0, 1) := dk42 (BX12_weightOf_1_0 (17, 42) (List.mem_of_getElem? (i := 11) rfl))
theorem dX12_weightOf_18 : decode cX12_weightOf 18 = .ok (.getfield 203, 3) := dk180 0 203 (BX12_weightOf_3_0 (18, 180, 0, 203) (List.mem_of_getElem? (i := 2) rfl))
theorem dX12_weightOf_21 : decode cX12_weightOf 21 = .ok (.if_icmp .ge 32, 3) := dk162 0 32 (BX12_weightOf_3_0 (21, 162, 0, 32) (List.mem_of_getElem? (i := 3) rfl))
theorem dX12_weightOf_24 : decode cX12_weightOf 24 = .ok (.aload_n 0, 1) := dk42 (BX12_weightOf_1_1 (24, 42) (List.mem_of_getElem? (i := 0) rfl))
theorem dX12_weightOf_25 : decode cX12_weightOf 25 = .ok (.getfield 98, 3) := dk180 0 98 (BX12_weightOf_3_0 (25, 180, 0, 98) (List.mem_of_getElem? (i := 4) rfl))
theorem dX12_weightOf_28 : decode cX12_weightOf 28 = .ok (.iconst 0, 1) := dk3 (BX12_weightOf_1_1 (28, 3) (List.mem_of_getElem? (i := 1) rfl))
theorem dX12_weightOf_29 : decode cX12_weightOf 29 = .ok (.dup2, 1) := dk92 (BX12_weightOf_1_1 (29, 92) (List.mem_of_getElem? (i := 2) rfl))
theorem dX12_weightOf_30 : decode cX12_weightOf 30 = .ok (.iaload, 1) := dk46 (BX12_weightOf_1_1 (30, 46) (List.mem_of_getElem? (i := 3) rfl))
theorem dX12_weightOf_31 : decode cX12_weightOf 31 = .ok (.aload_n 0, 1) := dk42 (BX12_weightOf_1_1 (31, 42) (List.mem_of_getElem? (i := 4) rfl))
theorem dX12_weightOf_32 : decode cX12_weightOf 32 = .ok (.getfield 55, 3) := dk180 0 55 (BX12_weightOf_3_0 (32, 180, 0, 55) (List.mem_of_getElem? (i := 5) rfl))
theorem dX12_weightOf_35 : decode cX12_weightOf 35 = .ok (.iload_n 3, 1) := dk29 (BX12_weightOf_1_1 (35, 29) (List.mem_of_getElem? (i := 5) rfl))
theorem dX12_weightOf_36 : decode cX12_weightOf 36 = .ok (.baload, 1) := dk51 (BX12_weightOf_1_1 (36, 51) (List.mem_of_getElem? (i := 6) rfl))
theorem dX12_weightOf_37 : decode cX12_weightOf 37 = .ok (.ifCond .eq 7, 3) := dk153 0 7 (BX12_weightOf_3_0 (37, 153, 0, 7) (List.mem_of_getElem? (i := 6) rfl))
theorem dX12_weightOf_40 : decode cX12_weightOf 40 = .ok (.iconst 1, 1) := dk4 (BX12_weightOf_1_1 (40, 4) (List.mem_of_getElem? (i := 7) rfl))
theorem dX12_weightOf_41 : decode cX12_weightOf 41 = .ok (.goto 4, 3) := dk167 0 4 (BX12_weightOf_3_0 (41, 167, 0, 4) (List.mem_of_getElem? (i := 7) rfl))
theorem dX12_weightOf_44 : decode cX12_weightOf 44 = .ok (.iconst 0, 1) := dk3 (BX12_weightOf_1_1 (44, 3) (List.mem_of_getElem? (i := 8) rfl))
theorem dX12_weightOf_45 : decode cX12_weightOf 45 = .ok (.iadd, 1) := dk96 (BX12_weightOf_1_1 (45, 96) (List.mem_of_getElem? (i := 9) rfl))
theorem dX12_weightOf_46 : decode cX12_weightOf 46 = .ok (.iastore, 1) := dk79 (BX12_weightOf_1_1 (46, 79) (List.mem_of_getElem? (i := 10) rfl))
theorem dX12_weightOf_47 : decode cX12_weightOf 47 = .ok (.iinc 3 1, 3) := dk132 3 1 (BX12_weightOf_3_0 (47, 132, 3, 1) (List.mem_of_getElem? (i := 8) rfl))
theorem dX12_weightOf_50 : decode cX12_weightOf 50 = .ok (.goto (-34), 3) := dk167 255 222 (BX12_weightOf_3_0 (50, 167, 255, 222) (List.mem_of_getElem? (i := 9) rfl))
theorem dX12_weightOf_53 : decode cX12_weightOf 53 = .ok (.aload_n 0, 1) := dk42 (BX12_weightOf_1_1 (53, 42) (List.mem_of_getElem? (i := 11) rfl))
theorem dX12_weightOf_54 : decode cX12_weightOf 54 = .ok (.getfield 98, 3) := dk180 0 98 (BX12_weightOf_3_0 (54, 180, 0, 98) (List.mem_of_getElem? (i := 10) rfl))
theorem dX12_weightOf_57 : decode cX12_weightOf 57 = .ok (.iconst 1, 1) := dk4 (BX12_weightOf_1_2 (57, 4) (List.mem_of_getElem? (i := 0) rfl))
theorem dX12_weightOf_58 : decode cX12_weightOf 58 = .ok (.aload_n 0, 1) := dk42 (BX12_weightOf_1_2 (58, 42) (List.mem_of_getElem? (i := 1) rfl))
theorem dX12_weightOf_59 : decode cX12_weightOf 59 = .ok (.getfield 203, 3) := dk180 0 203 (BX12_weightOf_3_0 (59, 180, 0, 203) (List.mem_of_getElem? (i := 11) rfl))
theorem dX12_weightOf_62 : decode cX12_weightOf 62 = .ok (.aload_n 0, 1) := dk42 (BX12_weightOf_1_2 (62, 42) (List.mem_of_getElem? (i := 2) rfl))
theorem dX12_weightOf_63 : decode cX12_weightOf 63 = .ok (.getfield 98, 3) := dk180 0 98 (BX12_weightOf_3_1 (63, 180, 0, 98) (List.mem_of_getElem? (i := 0) rfl))
theorem dX12_weightOf_66 : decode cX12_weightOf 66 = .ok (.iconst 0, 1) := dk3 (BX12_weightOf_1_2 (66, 3) (List.mem_of_getElem? (i := 3) rfl))
theorem dX12_weightOf_67 : decode cX12_weightOf 67 = .ok (.iaload, 1) := dk46 (BX12_weightOf_1_2 (67, 46) (List.mem_of_getElem? (i := 4) rfl))
theorem dX12_weightOf_68 : decode cX12_weightOf 68 = .ok (.isub, 1) := dk100 (BX12_weightOf_1_2 (68, 100) (List.mem_of_getElem? (i := 5) rfl))
theorem dX12_weightOf_69 : decode cX12_weightOf 69 = .ok (.iastore, 1) := dk79 (BX12_weightOf_1_2 (69, 79) (List.mem_of_getElem? (i := 6) rfl))
theorem dX12_weightOf_70 : decode cX12_weightOf 70 = .ok (.aload_n 0, 1) := dk42 (BX12_weightOf_1_2 (70, 42) (List.mem_of_getElem? (i := 7) rfl))
theorem dX12_weightOf_71 : decode cX12_weightOf 71 = .ok (.getfield 98, 3) := dk180 0 98 (BX12_weightOf_3_1 (71, 180, 0, 98) (List.mem_of_getElem? (i := 1) rfl))
theorem dX12_weightOf_74 : decode cX12_weightOf 74 = .ok (.iconst 2, 1) := dk5 (BX12_weightOf_1_2 (74, 5) (List.mem_of_getElem? (i := 8) rfl))
theorem dX12_weightOf_75 : decode cX12_weightOf 75 = .ok (.aload_n 0, 1) := dk42 (BX12_weightOf_1_2 (75, 42) (List.mem_of_getElem? (i := 9) rfl))
theorem dX12_weightOf_76 : decode cX12_weightOf 76 = .ok (.iconst 5, 1) := dk8 (BX12_weightOf_1_2 (76, 8) (List.mem_of_getElem? (i := 10) rfl))
theorem dX12_weightOf_77 : decode cX12_weightOf 77 = .ok (.iconst 0, 1) := dk3 (BX12_weightOf_1_2 (77, 3) (List.mem_of_getElem? (i := 11) rfl))
theorem dX12_weightOf_78 : decode cX12_weightOf 78 = .ok (.iconst 5, 1) := dk8 (BX12_weightOf_1_3 (78, 8) (List.mem_of_getElem? (i := 0) rfl))
theorem dX12_weightOf_79 : decode cX12_weightOf 79 = .ok (.invokevirtual 243, 3) := dk182 0 243 (BX12_weightOf_3_1 (79, 182, 0, 243) (List.mem_of_getElem? (i := 2) rfl))
theorem dX12_weightOf_82 : decode cX12_weightOf 82 = .ok (.invokestatic 351, 3) := dk184 1 95 (BX12_weightOf_3_1 (82, 184, 1, 95) (List.mem_of_getElem? (i := 3) rfl))
theorem dX12_weightOf_85 : decode cX12_weightOf 85 = .ok (.iastore, 1) := dk79 (BX12_weightOf_1_3 (85, 79) (List.mem_of_getElem? (i := 1) rfl))
theorem dX12_weightOf_86 : decode cX12_weightOf 86 = .ok (.aload_n 0, 1) := dk42 (BX12_weightOf_1_3 (86, 42) (List.mem_of_getElem? (i := 2) rfl))
theorem dX12_weightOf_87 : decode cX12_weightOf 87 = .ok (.getfield 98, 3) := dk180 0 98 (BX12_weightOf_3_1 (87, 180, 0, 98) (List.mem_of_getElem? (i := 4) rfl))
theorem dX12_weightOf_90 : decode cX12_weightOf 90 = .ok (.iconst 3, 1) := dk6 (BX12_weightOf_1_3 (90, 6) (List.mem_of_getElem? (i := 3) rfl))
theorem dX12_weightOf_91 : decode cX12_weightOf 91 = .ok (.aload_n 0, 1) := dk42 (BX12_weightOf_1_3 (91, 42) (List.mem_of_getElem? (i := 4) rfl))
theorem dX12_weightOf_92 : decode cX12_weightOf 92 = .ok (.iconst 5, 1) := dk8 (BX12_weightOf_1_3 (92, 8) (List.mem_of_getElem? (i := 5) rfl))
theorem dX12_weightOf_93 : decode cX12_weightOf 93 = .ok (.bipush 7, 2) := dk16 7 (BX12_weightOf_2_0 (93, 16, 7) (List.mem_of_getElem? (i := 0) rfl))
theorem dX12_weightOf_95 : decode cX12_weightOf 95 = .ok (.bipush 7, 2) := dk16 7 (BX12_weightOf_2_0 (95, 16, 7) (List.mem_of_getElem? (i := 1) rfl))
theorem dX12_weightOf_97 : decode cX12_weightOf 97 = .ok (.invokevirtual 243, 3) := dk182 0 243 (BX12_weightOf_3_1 (97, 182, 0, 243) (List.mem_of_getElem? (i := 5) rfl))
theorem dX12_weightOf_100 : decode cX12_weightOf 100 = .ok (.invokestatic 351, 3) := dk184 1 95 (BX12_weightOf_3_1 (100, 184, 1, 95) (List.mem_of_getElem? (i := 6) rfl))
theorem dX12_weightOf_103 : decode cX12_weightOf 103 = .ok (.iastore, 1) := dk79 (BX12_weightOf_1_3 (103, 79) (List.mem_of_getElem? (i := 6) rfl))
theorem dX12_weightOf_104 : decode cX12_weightOf 104 = .ok (.aload_n 0, 1) := dk42 (BX12_weightOf_1_3 (104, 42) (List.mem_of_getElem? (i := 7) rfl))
theorem dX12_weightOf_105 : decode cX12_weightOf 105 = .ok (.getfield 98, 3) := dk180 0 98 (BX12_weightOf_3_1 (105, 180, 0, 98) (List.mem_of_getElem? (i := 7) rfl))
theorem dX12_weightOf_108 : decode cX12_weightOf 108 = .ok (.iconst 4, 1) := dk7 (BX12_weightOf_1_3 (108, 7) (List.mem_of_getElem? (i := 8) rfl))
theorem dX12_weightOf_109 : decode cX12_weightOf 109 = .ok (.aload_n 0, 1) := dk42 (BX12_weightOf_1_3 (109, 42) (List.mem_of_getElem? (i := 9) rfl))
theorem dX12_weightOf_110 : decode cX12_weightOf 110 = .ok (.iload_n 2, 1) := dk28 (BX12_weightOf_1_3 (110, 28) (List.mem_of_getElem? (i := 10) rfl))
theorem dX12_weightOf_111 : decode cX12_weightOf 111 = .ok (.invokevirtual 271, 3) := dk182 1 15 (BX12_weightOf_3_1 (111, 182, 1, 15) (List.mem_of_getElem? (i := 8) rfl))
theorem dX12_weightOf_114 : decode cX12_weightOf 114 = .ok (.iastore, 1) := dk79 (BX12_weightOf_1_3 (114, 79) (List.mem_of_getElem? (i := 11) rfl))
theorem dX12_weightOf_115 : decode cX12_weightOf 115 = .ok (.aload_n 0, 1) := dk42 (BX12_weightOf_1_4 (115, 42) (List.mem_of_getElem? (i := 0) rfl))
theorem dX12_weightOf_116 : decode cX12_weightOf 116 = .ok (.getfield 98, 3) := dk180 0 98 (BX12_weightOf_3_1 (116, 180, 0, 98) (List.mem_of_getElem? (i := 9) rfl))
theorem dX12_weightOf_119 : decode cX12_weightOf 119 = .ok (.iconst 5, 1) := dk8 (BX12_weightOf_1_4 (119, 8) (List.mem_of_getElem? (i := 1) rfl))
theorem dX12_weightOf_120 : decode cX12_weightOf 120 = .ok (.iconst 0, 1) := dk3 (BX12_weightOf_1_4 (120, 3) (List.mem_of_getElem? (i := 2) rfl))
theorem dX12_weightOf_121 : decode cX12_weightOf 121 = .ok (.iastore, 1) := dk79 (BX12_weightOf_1_4 (121, 79) (List.mem_of_getElem? (i := 3) rfl))
theorem dX12_weightOf_122 : decode cX12_weightOf 122 = .ok (.iconst 0, 1) := dk3 (BX12_weightOf_1_4 (122, 3) (List.mem_of_getElem? (i := 4) rfl))
theorem dX12_weightOf_123 : decode cX12_weightOf 123 = .ok (.istore_n 3, 1) := dk62 (BX12_weightOf_1_4 (123, 62) (List.mem_of_getElem? (i := 5) rfl))
theorem dX12_weightOf_124 : decode cX12_weightOf 124 = .ok (.iload_n 3, 1) := dk29 (BX12_weightOf_1_4 (124, 29) (List.mem_of_getElem? (i := 6) rfl))
theorem dX12_weightOf_125 : decode cX12_weightOf 125 = .ok (.bipush 6, 2) := dk16 6 (BX12_weightOf_2_0 (125, 16, 6) (List.mem_of_getElem? (i := 2) rfl))
theorem dX12_weightOf_127 : decode cX12_weightOf 127 = .ok (.if_icmp .ge 34, 3) := dk162 0 34 (BX12_weightOf_3_1 (127, 162, 0, 34) (List.mem_of_getElem? (i := 10) rfl))
theorem dX12_weightOf_130 : decode cX12_weightOf 130 = .ok (.aload_n 0, 1) := dk42 (BX12_weightOf_1_4 (130, 42) (List.mem_of_getElem? (i := 7) rfl))
theorem dX12_weightOf_131 : decode cX12_weightOf 131 = .ok (.getfield 98, 3) := dk180 0 98 (BX12_weightOf_3_1 (131, 180, 0, 98) (List.mem_of_getElem? (i := 11) rfl))
theorem dX12_weightOf_134 : decode cX12_weightOf 134 = .ok (.iconst 5, 1) := dk8 (BX12_weightOf_1_4 (134, 8) (List.mem_of_getElem? (i := 8) rfl))
theorem dX12_weightOf_135 : decode cX12_weightOf 135 = .ok (.aload_n 0, 1) := dk42 (BX12_weightOf_1_4 (135, 42) (List.mem_of_getElem? (i := 9) rfl))
theorem dX12_weightOf_136 : decode cX12_weightOf 136 = .ok (.iload_n 3, 1) := dk29 (BX12_weightOf_1_4 (136, 29) (List.mem_of_getElem? (i := 10) rfl))
theorem dX12_weightOf_137 : decode cX12_weightOf 137 = .ok (.iload_n 2, 1) := dk28 (BX12_weightOf_1_4 (137, 28) (List.mem_of_getElem? (i := 11) rfl))
theorem dX12_weightOf_138 : decode cX12_weightOf 138 = .ok (.invokevirtual 259, 3) := dk182 1 3 (BX12_weightOf_3_2 (138, 182, 1, 3) (List.mem_of_getElem? (i := 0) rfl))
theorem dX12_weightOf_141 : decode cX12_weightOf 141 = .ok (.ifCond .eq 7, 3) := dk153 0 7 (BX12_weightOf_3_2 (141, 153, 0, 7) (List.mem_of_getElem? (i := 1) rfl))
theorem dX12_weightOf_144 : decode cX12_weightOf 144 = .ok (.iconst 1, 1) := dk4 (BX12_weightOf_1_5 (144, 4) (List.mem_of_getElem? (i := 0) rfl))
theorem dX12_weightOf_145 : decode cX12_weightOf 145 = .ok (.goto 9, 3) := dk167 0 9 (BX12_weightOf_3_2 (145, 167, 0, 9) (List.mem_of_getElem? (i := 2) rfl))
theorem dX12_weightOf_148 : decode cX12_weightOf 148 = .ok (.aload_n 0, 1) := dk42 (BX12_weightOf_1_5 (148, 42) (List.mem_of_getElem? (i := 1) rfl))
theorem dX12_weightOf_149 : decode cX12_weightOf 149 = .ok (.getfield 98, 3) := dk180 0 98 (BX12_weightOf_3_2 (149, 180, 0, 98) (List.mem_of_getElem? (i := 3) rfl))
theorem dX12_weightOf_152 : decode cX12_weightOf 152 = .ok (.iconst 5, 1) := dk8 (BX12_weightOf_1_5 (152, 8) (List.mem_of_getElem? (i := 2) rfl))
theorem dX12_weightOf_153 : decode cX12_weightOf 153 = .ok (.iaload, 1) := dk46 (BX12_weightOf_1_5 (153, 46) (List.mem_of_getElem? (i := 3) rfl))
theorem dX12_weightOf_154 : decode cX12_weightOf 154 = .ok (.iastore, 1) := dk79 (BX12_weightOf_1_5 (154, 79) (List.mem_of_getElem? (i := 4) rfl))
theorem dX12_weightOf_155 : decode cX12_weightOf 155 = .ok (.iinc 3 1, 3) := dk132 3 1 (BX12_weightOf_3_2 (155, 132, 3, 1) (List.mem_of_getElem? (i := 4) rfl))
theorem dX12_weightOf_158 : decode cX12_weightOf 158 = .ok (.goto (-34), 3) := dk167 255 222 (BX12_weightOf_3_2 (158, 167, 255, 222) (List.mem_of_getElem? (i := 5) rfl))
theorem dX12_weightOf_161 : decode cX12_weightOf 161 = .ok (.aload_n 0, 1) := dk42 (BX12_weightOf_1_5 (161, 42) (List.mem_of_getElem? (i := 5) rfl))
theorem dX12_weightOf_162 : decode cX12_weightOf 162 = .ok (.getfield 98, 3) := dk180 0 98 (BX12_weightOf_3_2 (162, 180, 0, 98) (List.mem_of_getElem? (i := 6) rfl))
theorem dX12_weightOf_165 : decode cX12_weightOf 165 = .ok (.bipush 6, 2) := dk16 6 (BX12_weightOf_2_0 (165, 16, 6) (List.mem_of_getElem? (i := 3) rfl))
theorem dX12_weightOf_167 : decode cX12_weightOf 167 = .ok (.aload_n 0, 1) := dk42 (BX12_weightOf_1_5 (167, 42) (List.mem_of_getElem? (i := 6) rfl))
theorem dX12_weightOf_168 : decode cX12_weightOf 168 = .ok (.iconst 5, 1) := dk8 (BX12_weightOf_1_5 (168, 8) (List.mem_of_getElem? (i := 7) rfl))
theorem dX12_weightOf_169 : decode cX12_weightOf 169 = .ok (.iconst 0, 1) := dk3 (BX12_weightOf_1_5 (169, 3) (List.mem_of_getElem? (i := 8) rfl))
theorem dX12_weightOf_170 : decode cX12_weightOf 170 = .ok (.invokevirtual 354, 3) := dk182 1 98 (BX12_weightOf_3_2 (170, 182, 1, 98) (List.mem_of_getElem? (i := 7) rfl))
theorem dX12_weightOf_173 : decode cX12_weightOf 173 = .ok (.bipush (-2), 2) := dk16 254 (BX12_weightOf_2_0 (173, 16, 254) (List.mem_of_getElem? (i := 4) rfl))
theorem dX12_weightOf_175 : decode cX12_weightOf 175 = .ok (.if_icmp .ne 7, 3) := dk160 0 7 (BX12_weightOf_3_2 (175, 160, 0, 7) (List.mem_of_getElem? (i := 8) rfl))
theorem dX12_weightOf_178 : decode cX12_weightOf 178 = .ok (.iconst 0, 1) := dk3 (BX12_weightOf_1_5 (178, 3) (List.mem_of_getElem? (i := 9) rfl))
theorem dX12_weightOf_179 : decode cX12_weightOf 179 = .ok (.goto 4, 3) := dk167 0 4 (BX12_weightOf_3_2 (179, 167, 0, 4) (List.mem_of_getElem? (i := 9) rfl))
theorem dX12_weightOf_182 : decode cX12_weightOf 182 = .ok (.iconst 1, 1) := dk4 (BX12_weightOf_1_5 (182, 4) (List.mem_of_getElem? (i := 10) rfl))
theorem dX12_weightOf_183 : decode cX12_weightOf 183 = .ok (.iastore, 1) := dk79 (BX12_weightOf_1_5 (183, 79) (List.mem_of_getElem? (i := 11) rfl))
theorem dX12_weightOf_184 : decode cX12_weightOf 184 = .ok (.aload_n 0, 1) := dk42 (BX12_weightOf_1_6 (184, 42) (List.mem_of_getElem? (i := 0) rfl))
theorem dX12_weightOf_185 : decode cX12_weightOf 185 = .ok (.getfield 98, 3) := dk180 0 98 (BX12_weightOf_3_2 (185, 180, 0, 98) (List.mem_of_getElem? (i := 10) rfl))
theorem dX12_weightOf_188 : decode cX12_weightOf 188 = .ok (.bipush 7, 2) := dk16 7 (BX12_weightOf_2_0 (188, 16, 7) (List.mem_of_getElem? (i := 5) rfl))
theorem dX12_weightOf_190 : decode cX12_weightOf 190 = .ok (.iconst 0, 1) := dk3 (BX12_weightOf_1_6 (190, 3) (List.mem_of_getElem? (i := 1) rfl))
theorem dX12_weightOf_191 : decode cX12_weightOf 191 = .ok (.iastore, 1) := dk79 (BX12_weightOf_1_6 (191, 79) (List.mem_of_getElem? (i := 2) rfl))
theorem dX12_weightOf_192 : decode cX12_weightOf 192 = .ok (.iconst 0, 1) := dk3 (BX12_weightOf_1_6 (192, 3) (List.mem_of_getElem? (i := 3) rfl))
theorem dX12_weightOf_193 : decode cX12_weightOf 193 = .ok (.istore_n 3, 1) := dk62 (BX12_weightOf_1_6 (193, 62) (List.mem_of_getElem? (i := 4) rfl))
theorem dX12_weightOf_194 : decode cX12_weightOf 194 = .ok (.iload_n 3, 1) := dk29 (BX12_weightOf_1_6 (194, 29) (List.mem_of_getElem? (i := 5) rfl))
theorem dX12_weightOf_195 : decode cX12_weightOf 195 = .ok (.aload_n 0, 1) := dk42 (BX12_weightOf_1_6 (195, 42) (List.mem_of_getElem? (i := 6) rfl))
theorem dX12_weightOf_196 : decode cX12_weightOf 196 = .ok (.getfield 133, 3) := dk180 0 133 (BX12_weightOf_3_2 (196, 180, 0, 133) (List.mem_of_getElem? (i := 11) rfl))
theorem dX12_weightOf_199 : decode cX12_weightOf 199 = .ok (.if_icmp .ge 53, 3) := dk162 0 53 (BX12_weightOf_3_3 (199, 162, 0, 53) (List.mem_of_getElem? (i := 0) rfl))
theorem dX12_weightOf_202 : decode cX12_weightOf 202 = .ok (.aload_n 0, 1) := dk42 (BX12_weightOf_1_6 (202, 42) (List.mem_of_getElem? (i := 7) rfl))
theorem dX12_weightOf_203 : decode cX12_weightOf 203 = .ok (.getfield 9, 3) := dk180 0 9 (BX12_weightOf_3_3 (203, 180, 0, 9) (List.mem_of_getElem? (i := 1) rfl))
theorem dX12_weightOf_206 : decode cX12_weightOf 206 = .ok (.bipush 47, 2) := dk16 47 (BX12_weightOf_2_0 (206, 16, 47) (List.mem_of_getElem? (i := 6) rfl))
theorem dX12_weightOf_208 : decode cX12_weightOf 208 = .ok (.iload_n 3, 1) := dk29 (BX12_weightOf_1_6 (208, 29) (List.mem_of_getElem? (i := 8) rfl))
theorem dX12_weightOf_209 : decode cX12_weightOf 209 = .ok (.iadd, 1) := dk96 (BX12_weightOf_1_6 (209, 96) (List.mem_of_getElem? (i := 9) rfl))
theorem dX12_weightOf_210 : decode cX12_weightOf 210 = .ok (.iaload, 1) := dk46 (BX12_weightOf_1_6 (210, 46) (List.mem_of_getElem? (i := 10) rfl))
theorem dX12_weightOf_211 : decode cX12_weightOf 211 = .ok (.iload_n 2, 1) := dk28 (BX12_weightOf_1_6 (211, 28) (List.mem_of_getElem? (i := 11) rfl))
theorem dX12_weightOf_212 : decode cX12_weightOf 212 = .ok (.isub, 1) := dk100 (BX12_weightOf_1_7 (212, 100) (List.mem_of_getElem? (i := 0) rfl))
theorem dX12_weightOf_213 : decode cX12_weightOf 213 = .ok (.istore 4, 2) := dk54 4 (BX12_weightOf_2_0 (213, 54, 4) (List.mem_of_getElem? (i := 7) rfl))
theorem dX12_weightOf_215 : decode cX12_weightOf 215 = .ok (.aload_n 0, 1) := dk42 (BX12_weightOf_1_7 (215, 42) (List.mem_of_getElem? (i := 1) rfl))
theorem dX12_weightOf_216 : decode cX12_weightOf 216 = .ok (.getfield 98, 3) := dk180 0 98 (BX12_weightOf_3_3 (216, 180, 0, 98) (List.mem_of_getElem? (i := 2) rfl))
theorem dX12_weightOf_219 : decode cX12_weightOf 219 = .ok (.bipush 7, 2) := dk16 7 (BX12_weightOf_2_0 (219, 16, 7) (List.mem_of_getElem? (i := 8) rfl))
theorem dX12_weightOf_221 : decode cX12_weightOf 221 = .ok (.iload 4, 2) := dk21 4 (BX12_weightOf_2_0 (221, 21, 4) (List.mem_of_getElem? (i := 9) rfl))
theorem dX12_weightOf_223 : decode cX12_weightOf 223 = .ok (.aload_n 0, 1) := dk42 (BX12_weightOf_1_7 (223, 42) (List.mem_of_getElem? (i := 2) rfl))
theorem dX12_weightOf_224 : decode cX12_weightOf 224 = .ok (.getfield 98, 3) := dk180 0 98 (BX12_weightOf_3_3 (224, 180, 0, 98) (List.mem_of_getElem? (i := 3) rfl))
theorem dX12_weightOf_227 : decode cX12_weightOf 227 = .ok (.bipush 7, 2) := dk16 7 (BX12_weightOf_2_0 (227, 16, 7) (List.mem_of_getElem? (i := 10) rfl))
theorem dX12_weightOf_229 : decode cX12_weightOf 229 = .ok (.iaload, 1) := dk46 (BX12_weightOf_1_7 (229, 46) (List.mem_of_getElem? (i := 3) rfl))
theorem dX12_weightOf_230 : decode cX12_weightOf 230 = .ok (.if_icmp .le 8, 3) := dk164 0 8 (BX12_weightOf_3_3 (230, 164, 0, 8) (List.mem_of_getElem? (i := 4) rfl))
theorem dX12_weightOf_233 : decode cX12_weightOf 233 = .ok (.iload 4, 2) := dk21 4 (BX12_weightOf_2_0 (233, 21, 4) (List.mem_of_getElem? (i := 11) rfl))
theorem dX12_weightOf_235 : decode cX12_weightOf 235 = .ok (.goto 10, 3) := dk167 0 10 (BX12_weightOf_3_3 (235, 167, 0, 10) (List.mem_of_getElem? (i := 5) rfl))
theorem dX12_weightOf_238 : decode cX12_weightOf 238 = .ok (.aload_n 0, 1) := dk42 (BX12_weightOf_1_7 (238, 42) (List.mem_of_getElem? (i := 4) rfl))
theorem dX12_weightOf_239 : decode cX12_weightOf 239 = .ok (.getfield 98, 3) := dk180 0 98 (BX12_weightOf_3_3 (239, 180, 0, 98) (List.mem_of_getElem? (i := 6) rfl))
theorem dX12_weightOf_242 : decode cX12_weightOf 242 = .ok (.bipush 7, 2) := dk16 7 (BX12_weightOf_2_1 (242, 16, 7) (List.mem_of_getElem? (i := 0) rfl))
theorem dX12_weightOf_244 : decode cX12_weightOf 244 = .ok (.iaload, 1) := dk46 (BX12_weightOf_1_7 (244, 46) (List.mem_of_getElem? (i := 5) rfl))
theorem dX12_weightOf_245 : decode cX12_weightOf 245 = .ok (.iastore, 1) := dk79 (BX12_weightOf_1_7 (245, 79) (List.mem_of_getElem? (i := 6) rfl))
theorem dX12_weightOf_246 : decode cX12_weightOf 246 = .ok (.iinc 3 1, 3) := dk132 3 1 (BX12_weightOf_3_3 (246, 132, 3, 1) (List.mem_of_getElem? (i := 7) rfl))
theorem dX12_weightOf_249 : decode cX12_weightOf 249 = .ok (.goto (-55), 3) := dk167 255 201 (BX12_weightOf_3_3 (249, 167, 255, 201) (List.mem_of_getElem? (i := 8) rfl))
theorem dX12_weightOf_252 : decode cX12_weightOf 252 = .ok (.aload_n 0, 1) := dk42 (BX12_weightOf_1_7 (252, 42) (List.mem_of_getElem? (i := 7) rfl))
theorem dX12_weightOf_253 : decode cX12_weightOf 253 = .ok (.bipush 120, 2) := dk16 120 (BX12_weightOf_2_1 (253, 16, 120) (List.mem_of_getElem? (i := 1) rfl))
theorem dX12_weightOf_255 : decode cX12_weightOf 255 = .ok (.iload_n 1, 1) := dk27 (BX12_weightOf_1_7 (255, 27) (List.mem_of_getElem? (i := 8) rfl))
theorem dX12_weightOf_256 : decode cX12_weightOf 256 = .ok (.imul, 1) := dk104 (BX12_weightOf_1_7 (256, 104) (List.mem_of_getElem? (i := 9) rfl))
theorem dX12_weightOf_257 : decode cX12_weightOf 257 = .ok (.aload_n 0, 1) := dk42 (BX12_weightOf_1_7 (257, 42) (List.mem_of_getElem? (i := 10) rfl))
theorem dX12_weightOf_258 : decode cX12_weightOf 258 = .ok (.getfield 95, 3) := dk180 0 95 (BX12_weightOf_3_3 (258, 180, 0, 95) (List.mem_of_getElem? (i := 9) rfl))
theorem dX12_weightOf_261 : decode cX12_weightOf 261 = .ok (.iload_n 1, 1) := dk27 (BX12_weightOf_1_7 (261, 27) (List.mem_of_getElem? (i := 11) rfl))
theorem dX12_weightOf_262 : decode cX12_weightOf 262 = .ok (.iaload, 1) := dk46 (BX12_weightOf_1_8 (262, 46) (List.mem_of_getElem? (i := 0) rfl))
theorem dX12_weightOf_263 : decode cX12_weightOf 263 = .ok (.invokevirtual 345, 3) := dk182 1 89 (BX12_weightOf_3_3 (263, 182, 1, 89) (List.mem_of_getElem? (i := 10) rfl))
theorem dX12_weightOf_266 : decode cX12_weightOf 266 = .ok (.istore_n 3, 1) := dk62 (BX12_weightOf_1_8 (266, 62) (List.mem_of_getElem? (i := 1) rfl))
theorem dX12_weightOf_267 : decode cX12_weightOf 267 = .ok (.iload_n 3, 1) := dk29 (BX12_weightOf_1_8 (267, 29) (List.mem_of_getElem? (i := 2) rfl))
theorem dX12_weightOf_268 : decode cX12_weightOf 268 = .ok (.ifCond .ge 7, 3) := dk156 0 7 (BX12_weightOf_3_3 (268, 156, 0, 7) (List.mem_of_getElem? (i := 11) rfl))
theorem dX12_weightOf_271 : decode cX12_weightOf 271 = .ok (.iconst 0, 1) := dk3 (BX12_weightOf_1_8 (271, 3) (List.mem_of_getElem? (i := 3) rfl))
theorem dX12_weightOf_272 : decode cX12_weightOf 272 = .ok (.goto 17, 3) := dk167 0 17 (BX12_weightOf_3_4 (272, 167, 0, 17) (List.mem_of_getElem? (i := 0) rfl))
theorem dX12_weightOf_275 : decode cX12_weightOf 275 = .ok (.iload_n 3, 1) := dk29 (BX12_weightOf_1_8 (275, 29) (List.mem_of_getElem? (i := 4) rfl))
theorem dX12_weightOf_276 : decode cX12_weightOf 276 = .ok (.sipush 9999, 3) := dk17 39 15 (BX12_weightOf_3_4 (276, 17, 39, 15) (List.mem_of_getElem? (i := 1) rfl))
theorem dX12_weightOf_279 : decode cX12_weightOf 279 = .ok (.if_icmp .le 9, 3) := dk164 0 9 (BX12_weightOf_3_4 (279, 164, 0, 9) (List.mem_of_getElem? (i := 2) rfl))
theorem dX12_weightOf_282 : decode cX12_weightOf 282 = .ok (.sipush 9999, 3) := dk17 39 15 (BX12_weightOf_3_4 (282, 17, 39, 15) (List.mem_of_getElem? (i := 3) rfl))
theorem dX12_weightOf_285 : decode cX12_weightOf 285 = .ok (.goto 4, 3) := dk167 0 4 (BX12_weightOf_3_4 (285, 167, 0, 4) (List.mem_of_getElem? (i := 4) rfl))
theorem dX12_weightOf_288 : decode cX12_weightOf 288 = .ok (.iload_n 3, 1) := dk29 (BX12_weightOf_1_8 (288, 29) (List.mem_of_getElem? (i := 5) rfl))
theorem dX12_weightOf_289 : decode cX12_weightOf 289 = .ok (.ireturn, 1) := dk172 (BX12_weightOf_1_8 (289, 172) (List.mem_of_getElem? (i := 6) rfl))
set_option maxRecDepth 20000 in
theorem ggX12_worth_X12_weightOf : GoodIn wsX12_worth wsX12_weightOf := gcons (goodIn_g ch_wsX12_worth_flat gd_wsX12_worth _ [(1, 5)] rfl) (goodIn_app (goodIn_app (goodIn_g ch_wsX12_worth_flat gd_wsX12_worth _ [(1, 6), (1, 7), (1, 8), (1, 9), (1, 10), (1, 0), (1, 11), (1, 12), (1, 13), (1, 14), (1, 4), (1, 15), (1, 16), (1, 17), (1, 18), (1, 19), (1, 20), (1, 21), (1, 22), (1, 23), (2, 0), (2, 1), (2, 2), (2, 3)] rfl) (goodIn_app (goodIn_g ch_wsX12_worth_flat gd_wsX12_worth _ [(2, 4), (2, 5), (2, 6), (2, 7), (2, 8), (2, 9), (2, 10), (2, 11), (2, 12), (2, 13), (2, 14), (2, 15), (2, 16), (2, 17), (2, 18), (2, 19), (2, 20), (2, 21), (2, 22), (2, 23), (3, 0), (3, 1), (3, 2), (3, 3)] rfl) (goodIn_app (goodIn_g ch_wsX12_worth_flat gd_wsX12_worth _ [(3, 4), (3, 5), (3, 6), (3, 7), (3, 8), (3, 9), (3, 10), (3, 11), (3, 12), (3, 13), (3, 14), (3, 15), (3, 16), (3, 17), (3, 18), (3, 19), (3, 20), (3, 21), (3, 22), (3, 23), (4, 0), (4, 1), (4, 2), (4, 3)] rfl) (goodIn_app (goodIn_g ch_wsX12_worth_flat gd_wsX12_worth _ [(4, 4), (4, 5), (4, 6), (4, 7), (4, 8), (4, 9), (4, 10), (4, 11), (4, 12), (4, 13), (4, 14), (4, 15), (4, 16), (4, 17), (4, 18), (4, 19), (4, 20), (4, 21), (4, 22), (4, 23), (5, 0), (5, 1), (5, 2), (5, 3)] rfl) (goodIn_g ch_wsX12_worth_flat gd_wsX12_worth _ [(5, 4), (5, 5), (5, 6), (5, 7), (5, 8), (5, 9), (5, 10), (5, 11), (5, 12), (5, 13), (5, 14), (5, 15), (5, 16), (5, 17)] rfl))))) (gchunk ch_wsX12_worth_flat gd_wsX12_worth 6 rfl))
set_option maxRecDepth 20000 in
theorem gX12_worth_X12_weightOf : GoodIn wsX12_worth (wsV RX12 357 RX12 yX12_weightOf wsX12_weightOf) := goodIn_app (goodIn_g ch_wsX12_worth_flat gd_wsX12_worth _ [(1, 1), (1, 2), (1, 3), (1, 4)] rfl) ggX12_worth_X12_weightOf
set_option maxRecDepth 20000 in
theorem SX12_worth : ∀ p : Nat, gb cX12_worth p = segF [[42, 180, 0, 9, 16, 41, 27, 96, 46, 133, 42, 27, 182, 1, 101, 133, 105, 173]] p := seg_gb (S := [[42, 180, 0, 9, 16, 41, 27, 96, 46, 133, 42, 27, 182, 1, 101, 133, 105, 173]]) (by decide +kernel) (by decide +kernel)
set_option maxRecDepth 20000 in
theorem BX12_worth_1_0 : ∀ q ∈ ([(0, 42), (6, 27), (7, 96), (8, 46), (9, 133), (10, 42), (11, 27), (15, 133), (16, 105), (17, 173)] : List (Nat × Nat)), gb cX12_worth q.1 = some q.2 := seg_1 SX12_worth _ (by decide +kernel)
set_option maxRecDepth 20000 in
theorem BX12_worth_2_0 : ∀ q ∈ ([(4, 16, 41)] : List (Nat × Nat × Nat)), gb cX12_worth q.1 = some q.2.1 ∧ gb cX12_worth (q.1 + 1) = some q.2.2 := seg_2 SX12_worth _ (by decide +kernel)
set_option maxRecDepth 20000 in
theorem BX12_worth_3_0 : ∀ q ∈ ([(1, 180, 0, 9), (12, 182, 1, 101)] : List (Nat × Nat × Nat × Nat)), gb cX12_worth q.1 = some q.2.1 ∧ gb cX12_worth (q.1 + 1) = some q.2.2.1 ∧ gb cX12_worth (q.1 + 2) = some q.2.2.2 := seg_3 SX12_worth _ (by decide +kernel)
theorem dX12_worth_0 : decode cX12_worth 0 = .ok (.aload_n 0, 1) := dk42 (BX12_worth_1_0 (0, 42) (List.mem_of_getElem? (i := 0) rfl))
theorem dX12_worth_1 : decode cX12_worth 1 = .ok (.getfield 9, 3) := dk180 0 9 (BX12_worth_3_0 (1, 180, 0, 9) (List.mem_of_getElem? (i := 0) rfl))
theorem dX12_worth_4 : decode cX12_worth 4 = .ok (.bipush 41, 2) := dk16 41 (BX12_worth_2_0 (4, 16, 41) (List.mem_of_getElem? (i := 0) rfl))
theorem dX12_worth_6 : decode cX12_worth 6 = .ok (.iload_n 1, 1) := dk27 (BX12_worth_1_0 (6, 27) (List.mem_of_getElem? (i := 1) rfl))
theorem dX12_worth_7 : decode cX12_worth 7 = .ok (.iadd, 1) := dk96 (BX12_worth_1_0 (7, 96) (List.mem_of_getElem? (i := 2) rfl))
theorem dX12_worth_8 : decode cX12_worth 8 = .ok (.iaload, 1) := dk46 (BX12_worth_1_0 (8, 46) (List.mem_of_getElem? (i := 3) rfl))
theorem dX12_worth_9 : decode cX12_worth 9 = .ok (.i2l, 1) := dk133 (BX12_worth_1_0 (9, 133) (List.mem_of_getElem? (i := 4) rfl))
theorem dX12_worth_10 : decode cX12_worth 10 = .ok (.aload_n 0, 1) := dk42 (BX12_worth_1_0 (10, 42) (List.mem_of_getElem? (i := 5) rfl))
theorem dX12_worth_11 : decode cX12_worth 11 = .ok (.iload_n 1, 1) := dk27 (BX12_worth_1_0 (11, 27) (List.mem_of_getElem? (i := 6) rfl))
theorem dX12_worth_12 : decode cX12_worth 12 = .ok (.invokevirtual 357, 3) := dk182 1 101 (BX12_worth_3_0 (12, 182, 1, 101) (List.mem_of_getElem? (i := 1) rfl))
theorem dX12_worth_15 : decode cX12_worth 15 = .ok (.i2l, 1) := dk133 (BX12_worth_1_0 (15, 133) (List.mem_of_getElem? (i := 7) rfl))
theorem dX12_worth_16 : decode cX12_worth 16 = .ok (.lmul, 1) := dk105 (BX12_worth_1_0 (16, 105) (List.mem_of_getElem? (i := 8) rfl))
theorem dX12_worth_17 : decode cX12_worth 17 = .ok (.lreturn, 1) := dk173 (BX12_worth_1_0 (17, 173) (List.mem_of_getElem? (i := 9) rfl))
set_option maxRecDepth 20000 in
theorem ggX12_allWorth_X12_worth : GoodIn wsX12_allWorth wsX12_worth := gcons (goodIn_g ch_wsX12_allWorth_flat gd_wsX12_allWorth _ [(1, 5)] rfl) (goodIn_app (goodIn_app (goodIn_g ch_wsX12_allWorth_flat gd_wsX12_allWorth _ [(1, 6), (1, 7), (1, 8), (1, 9), (1, 4), (1, 10), (1, 11), (1, 12), (1, 13), (1, 14), (1, 15), (1, 16), (1, 17), (1, 18), (1, 19), (1, 20), (1, 21), (1, 22), (1, 23), (2, 0), (2, 1), (2, 2), (2, 3), (2, 4)] rfl) (goodIn_app (goodIn_g ch_wsX12_allWorth_flat gd_wsX12_allWorth _ [(2, 5), (2, 6), (2, 7), (2, 8), (2, 9), (2, 10), (2, 11), (2, 12), (2, 13), (2, 14), (2, 15), (2, 16), (2, 17), (2, 18), (2, 19), (2, 20), (2, 21), (2, 22), (2, 23), (3, 0), (3, 1), (3, 2), (3, 3), (3, 4)] rfl) (goodIn_app (goodIn_g ch_wsX12_allWorth_flat gd_wsX12_allWorth _ [(3, 5), (3, 6), (3, 7), (3, 8), (3, 9), (3, 10), (3, 11), (3, 12), (3, 13), (3, 14), (3, 15), (3, 16), (3, 17), (3, 18), (3, 19), (3, 20), (3, 21), (3, 22), (3, 23), (4, 0), (4, 1), (4, 2), (4, 3), (4, 4)] rfl) (goodIn_app (goodIn_g ch_wsX12_allWorth_flat gd_wsX12_allWorth _ [(4, 5), (4, 6), (4, 7), (4, 8), (4, 9), (4, 10), (4, 11), (4, 12), (4, 13), (4, 14), (4, 15), (4, 16), (4, 17), (4, 18), (4, 19), (4, 20), (4, 21), (4, 22), (4, 23), (5, 0), (5, 1), (5, 2), (5, 3), (5, 4)] rfl) (goodIn_g ch_wsX12_allWorth_flat gd_wsX12_allWorth _ [(5, 5), (5, 6), (5, 7), (5, 8), (5, 9), (5, 10), (5, 11), (5, 12), (5, 13), (5, 14), (5, 15), (5, 16), (5, 17), (5, 18), (5, 19), (5, 20), (5, 21), (5, 22)] rfl))))) (gchunk ch_wsX12_allWorth_flat gd_wsX12_allWorth 6 rfl))
set_option maxRecDepth 20000 in
theorem gX12_allWorth_X12_worth : GoodIn wsX12_allWorth (wsV RX12 360 RX12 yX12_worth wsX12_worth) := goodIn_app (goodIn_g ch_wsX12_allWorth_flat gd_wsX12_allWorth _ [(1, 1), (1, 2), (1, 3), (1, 4)] rfl) ggX12_allWorth_X12_worth
set_option maxRecDepth 20000 in
theorem SX12_allWorth : ∀ p : Nat, gb cX12_allWorth p = segF [[9, 64, 3, 62, 29, 42, 180, 1, 86, 162, 0, 17, 31, 42, 29, 182, 1, 104, 97, 64, 132, 3, 1, 167, 255, 237, 31, 173]] p := seg_gb (S := [[9, 64, 3, 62, 29, 42, 180, 1, 86, 162, 0, 17, 31, 42, 29, 182, 1, 104, 97, 64, 132, 3, 1, 167, 255, 237, 31, 173]]) (by decide +kernel) (by decide +kernel)
set_option maxRecDepth 20000 in
theorem BX12_allWorth_1_0 : ∀ q ∈ ([(0, 9), (1, 64), (2, 3), (3, 62), (4, 29), (5, 42), (12, 31), (13, 42), (14, 29), (18, 97), (19, 64), (26, 31)] : List (Nat × Nat)), gb cX12_allWorth q.1 = some q.2 := seg_1 SX12_allWorth _ (by decide +kernel)
set_option maxRecDepth 20000 in
theorem BX12_allWorth_1_1 : ∀ q ∈ ([(27, 173)] : List (Nat × Nat)), gb cX12_allWorth q.1 = some q.2 := seg_1 SX12_allWorth _ (by decide +kernel)
set_option maxRecDepth 20000 in
theorem BX12_allWorth_3_0 : ∀ q ∈ ([(6, 180, 1, 86), (9, 162, 0, 17), (15, 182, 1, 104), (20, 132, 3, 1), (23, 167, 255, 237)] : List (Nat × Nat × Nat × Nat)), gb cX12_allWorth q.1 = some q.2.1 ∧ gb cX12_allWorth (q.1 + 1) = some q.2.2.1 ∧ gb cX12_allWorth (q.1 + 2) = some q.2.2.2 := seg_3 SX12_allWorth _ (by decide +kernel)
theorem dX12_allWorth_0 : decode cX12_allWorth 0 = .ok (.lconst 0, 1) := dk9 (BX12_allWorth_1_0 (0, 9) (List.mem_of_getElem? (i := 0) rfl))
theorem dX12_allWorth_1 : decode cX12_allWorth 1 = .ok (.lstore_n 1, 1) := dk64 (BX12_allWorth_1_0 (1, 64) (List.mem_of_getElem? (i := 1) rfl))
theorem dX12_allWorth_2 : decode cX12_allWorth 2 = .ok (.iconst 0, 1) := dk3 (BX12_allWorth_1_0 (2, 3) (List.mem_of_getElem? (i := 2) rfl))
theorem dX12_allWorth_3 : decode cX12_allWorth 3 = .ok (.istore_n 3, 1) := dk62 (BX12_allWorth_1_0 (3, 62) (List.mem_of_getElem? (i := 3) rfl))
theorem dX12_allWorth_4 : decode cX12_allWorth 4 = .ok (.iload_n 3, 1) := dk29 (BX12_allWorth_1_0 (4, 29) (List.mem_of_getElem? (i := 4) rfl))
theorem dX12_allWorth_5 : decode cX12_allWorth 5 = .ok (.aload_n 0, 1) := dk42 (BX12_allWorth_1_0 (5, 42) (List.mem_of_getElem? (i := 5) rfl))
theorem dX12_allWorth_6 : decode cX12_allWorth 6 = .ok (.getfield 342, 3) := dk180 1 86 (BX12_allWorth_3_0 (6, 180, 1, 86) (List.mem_of_getElem? (i := 0) rfl))
theorem dX12_allWorth_9 : decode cX12_allWorth 9 = .ok (.if_icmp .ge 17, 3) := dk162 0 17 (BX12_allWorth_3_0 (9, 162, 0, 17) (List.mem_of_getElem? (i := 1) rfl))
theorem dX12_allWorth_12 : decode cX12_allWorth 12 = .ok (.lload_n 1, 1) := dk31 (BX12_allWorth_1_0 (12, 31) (List.mem_of_getElem? (i := 6) rfl))
theorem dX12_allWorth_13 : decode cX12_allWorth 13 = .ok (.aload_n 0, 1) := dk42 (BX12_allWorth_1_0 (13, 42) (List.mem_of_getElem? (i := 7) rfl))
theorem dX12_allWorth_14 : decode cX12_allWorth 14 = .ok (.iload_n 3, 1) := dk29 (BX12_allWorth_1_0 (14, 29) (List.mem_of_getElem? (i := 8) rfl))
theorem dX12_allWorth_15 : decode cX12_allWorth 15 = .ok (.invokevirtual 360, 3) := dk182 1 104 (BX12_allWorth_3_0 (15, 182, 1, 104) (List.mem_of_getElem? (i := 2) rfl))
theorem dX12_allWorth_18 : decode cX12_allWorth 18 = .ok (.ladd, 1) := dk97 (BX12_allWorth_1_0 (18, 97) (List.mem_of_getElem? (i := 9) rfl))
theorem dX12_allWorth_19 : decode cX12_allWorth 19 = .ok (.lstore_n 1, 1) := dk64 (BX12_allWorth_1_0 (19, 64) (List.mem_of_getElem? (i := 10) rfl))
theorem dX12_allWorth_20 : decode cX12_allWorth 20 = .ok (.iinc 3 1, 3) := dk132 3 1 (BX12_allWorth_3_0 (20, 132, 3, 1) (List.mem_of_getElem? (i := 3) rfl))
theorem dX12_allWorth_23 : decode cX12_allWorth 23 = .ok (.goto (-19), 3) := dk167 255 237 (BX12_allWorth_3_0 (23, 167, 255, 237) (List.mem_of_getElem? (i := 4) rfl))
theorem dX12_allWorth_26 : decode cX12_allWorth 26 = .ok (.lload_n 1, 1) := dk31 (BX12_allWorth_1_0 (26, 31) (List.mem_of_getElem? (i := 11) rfl))
theorem dX12_allWorth_27 : decode cX12_allWorth 27 = .ok (.lreturn, 1) := dk173 (BX12_allWorth_1_1 (27, 173) (List.mem_of_getElem? (i := 0) rfl))
set_option maxRecDepth 20000 in
theorem ggX12_oddsOf_X12_allWorth : GoodIn wsX12_oddsOf wsX12_allWorth := gcons (goodIn_g ch_wsX12_oddsOf_flat gd_wsX12_oddsOf _ [(1, 5)] rfl) (goodIn_app (goodIn_app (goodIn_g ch_wsX12_oddsOf_flat gd_wsX12_oddsOf _ [(1, 6), (1, 7), (1, 8), (1, 9), (1, 4), (1, 10), (1, 11), (1, 12), (1, 13), (1, 14), (1, 15), (1, 16), (1, 17), (1, 18), (1, 19), (1, 20), (1, 21), (1, 22), (1, 23), (2, 0), (2, 1), (2, 2), (2, 3), (2, 4)] rfl) (goodIn_app (goodIn_g ch_wsX12_oddsOf_flat gd_wsX12_oddsOf _ [(2, 5), (2, 6), (2, 7), (2, 8), (2, 9), (2, 10), (2, 11), (2, 12), (2, 13), (2, 14), (2, 15), (2, 16), (2, 17), (2, 18), (2, 19), (2, 20), (2, 21), (2, 22), (2, 23), (3, 0), (3, 1), (3, 2), (3, 3), (3, 4)] rfl) (goodIn_app (goodIn_g ch_wsX12_oddsOf_flat gd_wsX12_oddsOf _ [(3, 5), (3, 6), (3, 7), (3, 8), (3, 9), (3, 10), (3, 11), (3, 12), (3, 13), (3, 14), (3, 15), (3, 16), (3, 17), (3, 18), (3, 19), (3, 20), (3, 21), (3, 22), (3, 23), (4, 0), (4, 1), (4, 2), (4, 3), (4, 4)] rfl) (goodIn_app (goodIn_g ch_wsX12_oddsOf_flat gd_wsX12_oddsOf _ [(4, 5), (4, 6), (4, 7), (4, 8), (4, 9), (4, 10), (4, 11), (4, 12), (4, 13), (4, 14), (4, 15), (4, 16), (4, 17), (4, 18), (4, 19), (4, 20), (4, 21), (4, 22), (4, 23), (5, 0), (5, 1), (5, 2), (5, 3), (5, 4)] rfl) (goodIn_g ch_wsX12_oddsOf_flat gd_wsX12_oddsOf _ [(5, 5), (5, 6), (5, 7), (5, 8), (5, 9), (5, 10), (5, 11), (5, 12), (5, 13), (5, 14), (5, 15), (5, 16), (5, 17), (5, 18), (5, 19), (5, 20), (5, 21), (5, 22), (5, 23), (6, 0), (6, 1), (6, 2), (6, 3)] rfl))))) (gchunk ch_wsX12_oddsOf_flat gd_wsX12_oddsOf 7 rfl))
set_option maxRecDepth 20000 in
theorem gX12_oddsOf_X12_allWorth : GoodIn wsX12_oddsOf (wsV RX12 364 RX12 yX12_allWorth wsX12_allWorth) := goodIn_app (goodIn_g ch_wsX12_oddsOf_flat gd_wsX12_oddsOf _ [(1, 1), (1, 2), (1, 3), (1, 4)] rfl) ggX12_oddsOf_X12_allWorth
set_option maxRecDepth 20000 in
theorem ggX12_oddsOf_X12_worth : GoodIn wsX12_oddsOf wsX12_worth := gcons (goodIn_g ch_wsX12_oddsOf_flat gd_wsX12_oddsOf _ [(1, 10)] rfl) (goodIn_app (goodIn_app (goodIn_g ch_wsX12_oddsOf_flat gd_wsX12_oddsOf _ [(1, 11), (1, 12), (1, 13), (1, 14), (1, 4), (1, 15), (1, 16), (1, 17), (1, 18), (1, 19), (1, 20), (1, 21), (1, 22), (1, 23), (2, 0), (2, 1), (2, 2), (2, 3), (2, 4), (2, 5), (2, 6), (2, 7), (2, 8), (2, 9)] rfl) (goodIn_app (goodIn_g ch_wsX12_oddsOf_flat gd_wsX12_oddsOf _ [(2, 10), (2, 11), (2, 12), (2, 13), (2, 14), (2, 15), (2, 16), (2, 17), (2, 18), (2, 19), (2, 20), (2, 21), (2, 22), (2, 23), (3, 0), (3, 1), (3, 2), (3, 3), (3, 4), (3, 5), (3, 6), (3, 7), (3, 8), (3, 9)] rfl) (goodIn_app (goodIn_g ch_wsX12_oddsOf_flat gd_wsX12_oddsOf _ [(3, 10), (3, 11), (3, 12), (3, 13), (3, 14), (3, 15), (3, 16), (3, 17), (3, 18), (3, 19), (3, 20), (3, 21), (3, 22), (3, 23), (4, 0), (4, 1), (4, 2), (4, 3), (4, 4), (4, 5), (4, 6), (4, 7), (4, 8), (4, 9)] rfl) (goodIn_app (goodIn_g ch_wsX12_oddsOf_flat gd_wsX12_oddsOf _ [(4, 10), (4, 11), (4, 12), (4, 13), (4, 14), (4, 15), (4, 16), (4, 17), (4, 18), (4, 19), (4, 20), (4, 21), (4, 22), (4, 23), (5, 0), (5, 1), (5, 2), (5, 3), (5, 4), (5, 5), (5, 6), (5, 7), (5, 8), (5, 9)] rfl) (goodIn_g ch_wsX12_oddsOf_flat gd_wsX12_oddsOf _ [(5, 10), (5, 11), (5, 12), (5, 13), (5, 14), (5, 15), (5, 16), (5, 17), (5, 18), (5, 19), (5, 20), (5, 21), (5, 22), (5, 23), (6, 0), (6, 1), (6, 2), (6, 3)] rfl))))) (gchunk ch_wsX12_oddsOf_flat gd_wsX12_oddsOf 7 rfl))
set_option maxRecDepth 20000 in
theorem gX12_oddsOf_X12_worth : GoodIn wsX12_oddsOf (wsV RX12 360 RX12 yX12_worth wsX12_worth) := goodIn_app (goodIn_g ch_wsX12_oddsOf_flat gd_wsX12_oddsOf _ [(1, 7), (1, 8), (1, 9), (1, 4)] rfl) ggX12_oddsOf_X12_worth
set_option maxRecDepth 20000 in
theorem SX12_oddsOf : ∀ p : Nat, gb cX12_oddsOf p = segF [[42, 182, 1, 108, 65, 32, 9, 148, 154, 0, 7, 3, 167, 0, 15, 20, 1, 112, 42, 27, 182, 1, 104, 105, 32, 109, 136, 172]] p := seg_gb (S := [[42, 182, 1, 108, 65, 32, 9, 148, 154, 0, 7, 3, 167, 0, 15, 20, 1, 112, 42, 27, 182, 1, 104, 105, 32, 109, 136, 172]]) (by decide +kernel) (by decide +kernel)
set_option maxRecDepth 20000 in
theorem BX12_oddsOf_1_0 : ∀ q ∈ ([(0, 42), (4, 65), (5, 32), (6, 9), (7, 148), (11, 3), (18, 42), (19, 27), (23, 105), (24, 32), (25, 109), (26, 136)] : List (Nat × Nat)), gb cX12_oddsOf q.1 = some q.2 := seg_1 SX12_oddsOf _ (by decide +kernel)
set_option maxRecDepth 20000 in
theorem BX12_oddsOf_1_1 : ∀ q ∈ ([(27, 172)] : List (Nat × Nat)), gb cX12_oddsOf q.1 = some q.2 := seg_1 SX12_oddsOf _ (by decide +kernel)
set_option maxRecDepth 20000 in
theorem BX12_oddsOf_3_0 : ∀ q ∈ ([(1, 182, 1, 108), (8, 154, 0, 7), (12, 167, 0, 15), (15, 20, 1, 112), (20, 182, 1, 104)] : List (Nat × Nat × Nat × Nat)), gb cX12_oddsOf q.1 = some q.2.1 ∧ gb cX12_oddsOf (q.1 + 1) = some q.2.2.1 ∧ gb cX12_oddsOf (q.1 + 2) = some q.2.2.2 := seg_3 SX12_oddsOf _ (by decide +kernel)
theorem dX12_oddsOf_0 : decode cX12_oddsOf 0 = .ok (.aload_n 0, 1) := dk42 (BX12_oddsOf_1_0 (0, 42) (List.mem_of_getElem? (i := 0) rfl))
theorem dX12_oddsOf_1 : decode cX12_oddsOf 1 = .ok (.invokevirtual 364, 3) := dk182 1 108 (BX12_oddsOf_3_0 (1, 182, 1, 108) (List.mem_of_getElem? (i := 0) rfl))
theorem dX12_oddsOf_4 : decode cX12_oddsOf 4 = .ok (.lstore_n 2, 1) := dk65 (BX12_oddsOf_1_0 (4, 65) (List.mem_of_getElem? (i := 1) rfl))
theorem dX12_oddsOf_5 : decode cX12_oddsOf 5 = .ok (.lload_n 2, 1) := dk32 (BX12_oddsOf_1_0 (5, 32) (List.mem_of_getElem? (i := 2) rfl))
theorem dX12_oddsOf_6 : decode cX12_oddsOf 6 = .ok (.lconst 0, 1) := dk9 (BX12_oddsOf_1_0 (6, 9) (List.mem_of_getElem? (i := 3) rfl))
theorem dX12_oddsOf_7 : decode cX12_oddsOf 7 = .ok (.lcmp, 1) := dk148 (BX12_oddsOf_1_0 (7, 148) (List.mem_of_getElem? (i := 4) rfl))
theorem dX12_oddsOf_8 : decode cX12_oddsOf 8 = .ok (.ifCond .ne 7, 3) := dk154 0 7 (BX12_oddsOf_3_0 (8, 154, 0, 7) (List.mem_of_getElem? (i := 1) rfl))
theorem dX12_oddsOf_11 : decode cX12_oddsOf 11 = .ok (.iconst 0, 1) := dk3 (BX12_oddsOf_1_0 (11, 3) (List.mem_of_getElem? (i := 5) rfl))
theorem dX12_oddsOf_12 : decode cX12_oddsOf 12 = .ok (.goto 15, 3) := dk167 0 15 (BX12_oddsOf_3_0 (12, 167, 0, 15) (List.mem_of_getElem? (i := 2) rfl))
theorem dX12_oddsOf_15 : decode cX12_oddsOf 15 = .ok (.ldc2_w 368, 3) := dk20 1 112 (BX12_oddsOf_3_0 (15, 20, 1, 112) (List.mem_of_getElem? (i := 3) rfl))
theorem dX12_oddsOf_18 : decode cX12_oddsOf 18 = .ok (.aload_n 0, 1) := dk42 (BX12_oddsOf_1_0 (18, 42) (List.mem_of_getElem? (i := 6) rfl))
theorem dX12_oddsOf_19 : decode cX12_oddsOf 19 = .ok (.iload_n 1, 1) := dk27 (BX12_oddsOf_1_0 (19, 27) (List.mem_of_getElem? (i := 7) rfl))
theorem dX12_oddsOf_20 : decode cX12_oddsOf 20 = .ok (.invokevirtual 360, 3) := dk182 1 104 (BX12_oddsOf_3_0 (20, 182, 1, 104) (List.mem_of_getElem? (i := 4) rfl))
theorem dX12_oddsOf_23 : decode cX12_oddsOf 23 = .ok (.lmul, 1) := dk105 (BX12_oddsOf_1_0 (23, 105) (List.mem_of_getElem? (i := 8) rfl))
theorem dX12_oddsOf_24 : decode cX12_oddsOf 24 = .ok (.lload_n 2, 1) := dk32 (BX12_oddsOf_1_0 (24, 32) (List.mem_of_getElem? (i := 9) rfl))
theorem dX12_oddsOf_25 : decode cX12_oddsOf 25 = .ok (.ldiv, 1) := dk109 (BX12_oddsOf_1_0 (25, 109) (List.mem_of_getElem? (i := 10) rfl))
theorem dX12_oddsOf_26 : decode cX12_oddsOf 26 = .ok (.l2i, 1) := dk136 (BX12_oddsOf_1_0 (26, 136) (List.mem_of_getElem? (i := 11) rfl))
theorem dX12_oddsOf_27 : decode cX12_oddsOf 27 = .ok (.ireturn, 1) := dk172 (BX12_oddsOf_1_1 (27, 172) (List.mem_of_getElem? (i := 0) rfl))
set_option maxRecDepth 20000 in
theorem ggX12_odds_X12_isStory : GoodIn wsX12_odds wsX12_isStory := gcons (goodIn_g ch_wsX12_odds_flat gd_wsX12_odds _ [(1, 4)] rfl) (goodIn_app (goodIn_g ch_wsX12_odds_flat gd_wsX12_odds _ [(1, 5), (1, 6), (1, 7), (1, 3), (1, 8)] rfl) (gchunk ch_wsX12_odds_flat gd_wsX12_odds 7 rfl))
set_option maxRecDepth 20000 in
theorem gX12_odds_X12_isStory : GoodIn wsX12_odds (wsV RX12 348 RX12 yX12_isStory wsX12_isStory) := goodIn_app (goodIn_g ch_wsX12_odds_flat gd_wsX12_odds _ [(1, 0), (1, 1), (1, 2), (1, 3)] rfl) ggX12_odds_X12_isStory
set_option maxRecDepth 20000 in
theorem ggX12_odds_X12_within : GoodIn wsX12_odds wsX12_within := goodIn_g ch_wsX12_odds_flat gd_wsX12_odds _ [(1, 8)] rfl
set_option maxRecDepth 20000 in
theorem gX12_odds_X12_within : GoodIn wsX12_odds (va_wsS RX12 136 yX12_within wsX12_within) := goodIn_app (goodIn_g ch_wsX12_odds_flat gd_wsX12_odds _ [(1, 6), (1, 7), (1, 3)] rfl) ggX12_odds_X12_within
set_option maxRecDepth 20000 in
theorem ggX12_odds_X12_weightOf : GoodIn wsX12_odds wsX12_weightOf := gcons (goodIn_g ch_wsX12_odds_flat gd_wsX12_odds _ [(1, 12)] rfl) (goodIn_app (goodIn_app (goodIn_g ch_wsX12_odds_flat gd_wsX12_odds _ [(1, 13), (1, 14), (1, 15), (1, 16), (1, 17), (1, 18), (1, 19), (1, 20), (1, 21), (1, 22), (1, 3), (1, 23), (2, 0), (2, 1), (2, 2), (1, 6), (1, 7), (1, 8), (2, 3), (2, 4), (2, 5), (2, 6), (2, 7), (2, 8)] rfl) (goodIn_app (goodIn_g ch_wsX12_odds_flat gd_wsX12_odds _ [(2, 9), (2, 10), (2, 11), (2, 12), (2, 13), (2, 14), (2, 15), (2, 16), (2, 17), (2, 18), (2, 19), (2, 20), (2, 21), (2, 22), (2, 23), (3, 0), (3, 1), (3, 2), (3, 3), (3, 4), (3, 5), (3, 6), (3, 7), (3, 8)] rfl) (goodIn_app (goodIn_g ch_wsX12_odds_flat gd_wsX12_odds _ [(3, 9), (3, 10), (3, 11), (3, 12), (3, 13), (3, 14), (3, 15), (3, 16), (3, 17), (3, 18), (3, 19), (3, 20), (3, 21), (3, 22), (3, 23), (4, 0), (4, 1), (4, 2), (4, 3), (4, 4), (4, 5), (4, 6), (4, 7), (4, 8)] rfl) (goodIn_app (goodIn_g ch_wsX12_odds_flat gd_wsX12_odds _ [(4, 9), (4, 10), (4, 11), (4, 12), (4, 13), (4, 14), (4, 15), (4, 16), (4, 17), (4, 18), (4, 19), (4, 20), (4, 21), (4, 22), (4, 23), (5, 0), (5, 1), (5, 2), (5, 3), (5, 4), (5, 5), (5, 6), (5, 7), (5, 8)] rfl) (goodIn_g ch_wsX12_odds_flat gd_wsX12_odds _ [(5, 9), (5, 10), (5, 11), (5, 12), (5, 13), (5, 14), (5, 15), (5, 16), (5, 17), (5, 18), (5, 19), (5, 20), (5, 21), (5, 22)] rfl))))) (gchunk ch_wsX12_odds_flat gd_wsX12_odds 7 rfl))
set_option maxRecDepth 20000 in
theorem gX12_odds_X12_weightOf : GoodIn wsX12_odds (wsV RX12 357 RX12 yX12_weightOf wsX12_weightOf) := goodIn_app (goodIn_g ch_wsX12_odds_flat gd_wsX12_odds _ [(1, 9), (1, 10), (1, 11), (1, 3)] rfl) ggX12_odds_X12_weightOf
set_option maxRecDepth 20000 in
theorem ggX12_odds_X12_allWorth : GoodIn wsX12_odds wsX12_allWorth := gcons (goodIn_g ch_wsX12_odds_flat gd_wsX12_odds _ [(6, 2)] rfl) (goodIn_app (goodIn_app (goodIn_g ch_wsX12_odds_flat gd_wsX12_odds _ [(1, 5), (6, 3), (6, 4), (6, 5), (1, 3), (6, 6), (1, 18), (1, 9), (1, 10), (1, 11), (1, 12), (1, 13), (1, 14), (1, 15), (1, 16), (1, 17), (1, 19), (1, 20), (1, 21), (1, 22), (1, 23), (2, 0), (2, 1), (2, 2)] rfl) (goodIn_app (goodIn_g ch_wsX12_odds_flat gd_wsX12_odds _ [(1, 6), (1, 7), (1, 8), (2, 3), (2, 4), (2, 5), (2, 6), (2, 7), (2, 8), (2, 9), (2, 10), (2, 11), (2, 12), (2, 13), (2, 14), (2, 15), (2, 16), (2, 17), (2, 18), (2, 19), (2, 20), (2, 21), (2, 22), (2, 23)] rfl) (goodIn_app (goodIn_g ch_wsX12_odds_flat gd_wsX12_odds _ [(3, 0), (3, 1), (3, 2), (3, 3), (3, 4), (3, 5), (3, 6), (3, 7), (3, 8), (3, 9), (3, 10), (3, 11), (3, 12), (3, 13), (3, 14), (3, 15), (3, 16), (3, 17), (3, 18), (3, 19), (3, 20), (3, 21), (3, 22), (3, 23)] rfl) (goodIn_app (goodIn_g ch_wsX12_odds_flat gd_wsX12_odds _ [(4, 0), (4, 1), (4, 2), (4, 3), (4, 4), (4, 5), (4, 6), (4, 7), (4, 8), (4, 9), (4, 10), (4, 11), (4, 12), (4, 13), (4, 14), (4, 15), (4, 16), (4, 17), (4, 18), (4, 19), (4, 20), (4, 21), (4, 22), (4, 23)] rfl) (goodIn_g ch_wsX12_odds_flat gd_wsX12_odds _ [(5, 0), (5, 1), (5, 2), (5, 3), (5, 4), (5, 5), (5, 6), (5, 7), (5, 8), (5, 9), (5, 10), (5, 11), (5, 12), (5, 13), (5, 14), (5, 15), (5, 16), (5, 17), (5, 18), (5, 19), (5, 20), (5, 21), (5, 22)] rfl))))) (gchunk ch_wsX12_odds_flat gd_wsX12_odds 7 rfl))
set_option maxRecDepth 20000 in
theorem gX12_odds_X12_allWorth : GoodIn wsX12_odds (wsV RX12 364 RX12 yX12_allWorth wsX12_allWorth) := goodIn_app (goodIn_g ch_wsX12_odds_flat gd_wsX12_odds _ [(5, 23), (6, 0), (6, 1), (1, 3)] rfl) ggX12_odds_X12_allWorth
set_option maxRecDepth 20000 in
theorem ggX12_odds_X12_oddsOf : GoodIn wsX12_odds wsX12_oddsOf := gcons (goodIn_g ch_wsX12_odds_flat gd_wsX12_odds _ [(6, 10)] rfl) (goodIn_app (goodIn_app (goodIn_g ch_wsX12_odds_flat gd_wsX12_odds _ [(6, 11), (5, 23), (6, 0), (6, 1), (1, 3), (6, 2), (1, 5), (6, 3), (6, 4), (6, 5), (6, 6), (1, 18), (1, 9), (1, 10), (1, 11), (1, 12), (1, 13), (1, 14), (1, 15), (1, 16), (1, 17), (1, 19), (1, 20), (1, 21)] rfl) (goodIn_app (goodIn_g ch_wsX12_odds_flat gd_wsX12_odds _ [(1, 22), (1, 23), (2, 0), (2, 1), (2, 2), (1, 6), (1, 7), (1, 8), (2, 3), (2, 4), (2, 5), (2, 6), (2, 7), (2, 8), (2, 9), (2, 10), (2, 11), (2, 12), (2, 13), (2, 14), (2, 15), (2, 16), (2, 17), (2, 18)] rfl) (goodIn_app (goodIn_g ch_wsX12_odds_flat gd_wsX12_odds _ [(2, 19), (2, 20), (2, 21), (2, 22), (2, 23), (3, 0), (3, 1), (3, 2), (3, 3), (3, 4), (3, 5), (3, 6), (3, 7), (3, 8), (3, 9), (3, 10), (3, 11), (3, 12), (3, 13), (3, 14), (3, 15), (3, 16), (3, 17), (3, 18)] rfl) (goodIn_app (goodIn_g ch_wsX12_odds_flat gd_wsX12_odds _ [(3, 19), (3, 20), (3, 21), (3, 22), (3, 23), (4, 0), (4, 1), (4, 2), (4, 3), (4, 4), (4, 5), (4, 6), (4, 7), (4, 8), (4, 9), (4, 10), (4, 11), (4, 12), (4, 13), (4, 14), (4, 15), (4, 16), (4, 17), (4, 18)] rfl) (goodIn_app (goodIn_g ch_wsX12_odds_flat gd_wsX12_odds _ [(4, 19), (4, 20), (4, 21), (4, 22), (4, 23), (5, 0), (5, 1), (5, 2), (5, 3), (5, 4), (5, 5), (5, 6), (5, 7), (5, 8), (5, 9), (5, 10), (5, 11), (5, 12), (5, 13), (5, 14), (5, 15), (5, 16), (5, 17), (5, 18)] rfl) (goodIn_g ch_wsX12_odds_flat gd_wsX12_odds _ [(5, 19), (5, 20), (5, 21), (5, 22)] rfl)))))) (gchunk ch_wsX12_odds_flat gd_wsX12_odds 7 rfl))
set_option maxRecDepth 20000 in
theorem gX12_odds_X12_oddsOf : GoodIn wsX12_odds (wsV RX12 370 RX12 yX12_oddsOf wsX12_oddsOf) := goodIn_app (goodIn_g ch_wsX12_odds_flat gd_wsX12_odds _ [(6, 7), (6, 8), (6, 9), (1, 3)] rfl) ggX12_odds_X12_oddsOf
set_option maxRecDepth 20000 in
theorem SX12_odds : ∀ p : Nat, gb cX12_odds p = segF [[42, 27, 182, 1, 92, 153, 0, 13, 28, 133, 9, 10, 184, 0, 136, 154, 0, 5, 2, 172, 28, 154, 0, 11, 42, 27, 182, 1, 101, 167, 0, 22, 42, 182, 1, 108, 9, 148, 154, 0, 8, 16, 254, 167, 0, 8, 42, 27, 182, 1, 114, 172]] p := seg_gb (S := [[42, 27, 182, 1, 92, 153, 0, 13, 28, 133, 9, 10, 184, 0, 136, 154, 0, 5, 2, 172, 28, 154, 0, 11, 42, 27, 182, 1, 101, 167, 0, 22, 42, 182, 1, 108, 9, 148, 154, 0, 8, 16, 254, 167, 0, 8, 42, 27, 182, 1, 114, 172]]) (by decide +kernel) (by decide +kernel)
set_option maxRecDepth 20000 in
theorem BX12_odds_1_0 : ∀ q ∈ ([(0, 42), (1, 27), (8, 28), (9, 133), (10, 9), (11, 10), (18, 2), (19, 172), (20, 28), (24, 42), (25, 27), (32, 42)] : List (Nat × Nat)), gb cX12_odds q.1 = some q.2 := seg_1 SX12_odds _ (by decide +kernel)
set_option maxRecDepth 20000 in
theorem BX12_odds_1_1 : ∀ q ∈ ([(36, 9), (37, 148), (46, 42), (47, 27), (51, 172)] : List (Nat × Nat)), gb cX12_odds q.1 = some q.2 := seg_1 SX12_odds _ (by decide +kernel)
set_option maxRecDepth 20000 in
theorem BX12_odds_2_0 : ∀ q ∈ ([(41, 16, 254)] : List (Nat × Nat × Nat)), gb cX12_odds q.1 = some q.2.1 ∧ gb cX12_odds (q.1 + 1) = some q.2.2 := seg_2 SX12_odds _ (by decide +kernel)
set_option maxRecDepth 20000 in
theorem BX12_odds_3_0 : ∀ q ∈ ([(2, 182, 1, 92), (5, 153, 0, 13), (12, 184, 0, 136), (15, 154, 0, 5), (21, 154, 0, 11), (26, 182, 1, 101), (29, 167, 0, 22), (33, 182, 1, 108), (38, 154, 0, 8), (43, 167, 0, 8), (48, 182, 1, 114)] : List (Nat × Nat × Nat × Nat)), gb cX12_odds q.1 = some q.2.1 ∧ gb cX12_odds (q.1 + 1) = some q.2.2.1 ∧ gb cX12_odds (q.1 + 2) = some q.2.2.2 := seg_3 SX12_odds _ (by decide +kernel)
theorem dX12_odds_0 : decode cX12_odds 0 = .ok (.aload_n 0, 1) := dk42 (BX12_odds_1_0 (0, 42) (List.mem_of_getElem? (i := 0) rfl))
theorem dX12_odds_1 : decode cX12_odds 1 = .ok (.iload_n 1, 1) := dk27 (BX12_odds_1_0 (1, 27) (List.mem_of_getElem? (i := 1) rfl))
theorem dX12_odds_2 : decode cX12_odds 2 = .ok (.invokevirtual 348, 3) := dk182 1 92 (BX12_odds_3_0 (2, 182, 1, 92) (List.mem_of_getElem? (i := 0) rfl))
theorem dX12_odds_5 : decode cX12_odds 5 = .ok (.ifCond .eq 13, 3) := dk153 0 13 (BX12_odds_3_0 (5, 153, 0, 13) (List.mem_of_getElem? (i := 1) rfl))
theorem dX12_odds_8 : decode cX12_odds 8 = .ok (.iload_n 2, 1) := dk28 (BX12_odds_1_0 (8, 28) (List.mem_of_getElem? (i := 2) rfl))
theorem dX12_odds_9 : decode cX12_odds 9 = .ok (.i2l, 1) := dk133 (BX12_odds_1_0 (9, 133) (List.mem_of_getElem? (i := 3) rfl))
theorem dX12_odds_10 : decode cX12_odds 10 = .ok (.lconst 0, 1) := dk9 (BX12_odds_1_0 (10, 9) (List.mem_of_getElem? (i := 4) rfl))
theorem dX12_odds_11 : decode cX12_odds 11 = .ok (.lconst 1, 1) := dk10 (BX12_odds_1_0 (11, 10) (List.mem_of_getElem? (i := 5) rfl))
theorem dX12_odds_12 : decode cX12_odds 12 = .ok (.invokestatic 136, 3) := dk184 0 136 (BX12_odds_3_0 (12, 184, 0, 136) (List.mem_of_getElem? (i := 2) rfl))
theorem dX12_odds_15 : decode cX12_odds 15 = .ok (.ifCond .ne 5, 3) := dk154 0 5 (BX12_odds_3_0 (15, 154, 0, 5) (List.mem_of_getElem? (i := 3) rfl))
theorem dX12_odds_18 : decode cX12_odds 18 = .ok (.iconst (-1), 1) := dk2 (BX12_odds_1_0 (18, 2) (List.mem_of_getElem? (i := 6) rfl))
theorem dX12_odds_19 : decode cX12_odds 19 = .ok (.ireturn, 1) := dk172 (BX12_odds_1_0 (19, 172) (List.mem_of_getElem? (i := 7) rfl))
theorem dX12_odds_20 : decode cX12_odds 20 = .ok (.iload_n 2, 1) := dk28 (BX12_odds_1_0 (20, 28) (List.mem_of_getElem? (i := 8) rfl))
theorem dX12_odds_21 : decode cX12_odds 21 = .ok (.ifCond .ne 11, 3) := dk154 0 11 (BX12_odds_3_0 (21, 154, 0, 11) (List.mem_of_getElem? (i := 4) rfl))
theorem dX12_odds_24 : decode cX12_odds 24 = .ok (.aload_n 0, 1) := dk42 (BX12_odds_1_0 (24, 42) (List.mem_of_getElem? (i := 9) rfl))
theorem dX12_odds_25 : decode cX12_odds 25 = .ok (.iload_n 1, 1) := dk27 (BX12_odds_1_0 (25, 27) (List.mem_of_getElem? (i := 10) rfl))
theorem dX12_odds_26 : decode cX12_odds 26 = .ok (.invokevirtual 357, 3) := dk182 1 101 (BX12_odds_3_0 (26, 182, 1, 101) (List.mem_of_getElem? (i := 5) rfl))
theorem dX12_odds_29 : decode cX12_odds 29 = .ok (.goto 22, 3) := dk167 0 22 (BX12_odds_3_0 (29, 167, 0, 22) (List.mem_of_getElem? (i := 6) rfl))
theorem dX12_odds_32 : decode cX12_odds 32 = .ok (.aload_n 0, 1) := dk42 (BX12_odds_1_0 (32, 42) (List.mem_of_getElem? (i := 11) rfl))
theorem dX12_odds_33 : decode cX12_odds 33 = .ok (.invokevirtual 364, 3) := dk182 1 108 (BX12_odds_3_0 (33, 182, 1, 108) (List.mem_of_getElem? (i := 7) rfl))
theorem dX12_odds_36 : decode cX12_odds 36 = .ok (.lconst 0, 1) := dk9 (BX12_odds_1_1 (36, 9) (List.mem_of_getElem? (i := 0) rfl))
theorem dX12_odds_37 : decode cX12_odds 37 = .ok (.lcmp, 1) := dk148 (BX12_odds_1_1 (37, 148) (List.mem_of_getElem? (i := 1) rfl))
theorem dX12_odds_38 : decode cX12_odds 38 = .ok (.ifCond .ne 8, 3) := dk154 0 8 (BX12_odds_3_0 (38, 154, 0, 8) (List.mem_of_getElem? (i := 8) rfl))
theorem dX12_odds_41 : decode cX12_odds 41 = .ok (.bipush (-2), 2) := dk16 254 (BX12_odds_2_0 (41, 16, 254) (List.mem_of_getElem? (i := 0) rfl))
theorem dX12_odds_43 : decode cX12_odds 43 = .ok (.goto 8, 3) := dk167 0 8 (BX12_odds_3_0 (43, 167, 0, 8) (List.mem_of_getElem? (i := 9) rfl))
theorem dX12_odds_46 : decode cX12_odds 46 = .ok (.aload_n 0, 1) := dk42 (BX12_odds_1_1 (46, 42) (List.mem_of_getElem? (i := 2) rfl))
theorem dX12_odds_47 : decode cX12_odds 47 = .ok (.iload_n 1, 1) := dk27 (BX12_odds_1_1 (47, 27) (List.mem_of_getElem? (i := 3) rfl))
theorem dX12_odds_48 : decode cX12_odds 48 = .ok (.invokevirtual 370, 3) := dk182 1 114 (BX12_odds_3_0 (48, 182, 1, 114) (List.mem_of_getElem? (i := 10) rfl))
theorem dX12_odds_51 : decode cX12_odds 51 = .ok (.ireturn, 1) := dk172 (BX12_odds_1_1 (51, 172) (List.mem_of_getElem? (i := 4) rfl))
set_option maxRecDepth 20000 in
theorem ggX12_bestStory_X12_worth : GoodIn wsX12_bestStory wsX12_worth := gcons (goodIn_g ch_wsX12_bestStory_flat gd_wsX12_bestStory _ [(1, 5)] rfl) (goodIn_app (goodIn_app (goodIn_g ch_wsX12_bestStory_flat gd_wsX12_bestStory _ [(1, 6), (1, 7), (1, 8), (1, 9), (1, 4), (1, 10), (1, 11), (1, 12), (1, 13), (1, 14), (1, 15), (1, 16), (1, 17), (1, 18), (1, 19), (1, 20), (1, 21), (1, 22), (1, 23), (2, 0), (2, 1), (2, 2), (2, 3), (2, 4)] rfl) (goodIn_app (goodIn_g ch_wsX12_bestStory_flat gd_wsX12_bestStory _ [(2, 5), (2, 6), (2, 7), (2, 8), (2, 9), (2, 10), (2, 11), (2, 12), (2, 13), (2, 14), (2, 15), (2, 16), (2, 17), (2, 18), (2, 19), (2, 20), (2, 21), (2, 22), (2, 23), (3, 0), (3, 1), (3, 2), (3, 3), (3, 4)] rfl) (goodIn_app (goodIn_g ch_wsX12_bestStory_flat gd_wsX12_bestStory _ [(3, 5), (3, 6), (3, 7), (3, 8), (3, 9), (3, 10), (3, 11), (3, 12), (3, 13), (3, 14), (3, 15), (3, 16), (3, 17), (3, 18), (3, 19), (3, 20), (3, 21), (3, 22), (3, 23), (4, 0), (4, 1), (4, 2), (4, 3), (4, 4)] rfl) (goodIn_app (goodIn_g ch_wsX12_bestStory_flat gd_wsX12_bestStory _ [(4, 5), (4, 6), (4, 7), (4, 8), (4, 9), (4, 10), (4, 11), (4, 12), (4, 13), (4, 14), (4, 15), (4, 16), (4, 17), (4, 18), (4, 19), (4, 20), (4, 21), (4, 22), (4, 23), (5, 0), (5, 1), (5, 2), (5, 3), (5, 4)] rfl) (goodIn_g ch_wsX12_bestStory_flat gd_wsX12_bestStory _ [(5, 5), (5, 6), (5, 7), (5, 8), (5, 9), (5, 10), (5, 11), (5, 12), (5, 13), (5, 14), (5, 15), (5, 16), (5, 17), (5, 18), (5, 19), (5, 20), (5, 21), (5, 22)] rfl))))) (gchunk ch_wsX12_bestStory_flat gd_wsX12_bestStory 6 rfl))
set_option maxRecDepth 20000 in
theorem gX12_bestStory_X12_worth : GoodIn wsX12_bestStory (wsV RX12 360 RX12 yX12_worth wsX12_worth) := goodIn_app (goodIn_g ch_wsX12_bestStory_flat gd_wsX12_bestStory _ [(1, 1), (1, 2), (1, 3), (1, 4)] rfl) ggX12_bestStory_X12_worth
set_option maxRecDepth 20000 in
theorem SX12_bestStory : ∀ p : Nat, gb cX12_bestStory p = segF [[3, 60, 4, 61, 28, 42, 180, 1, 86, 162, 0, 29, 42, 28, 182, 1, 104, 42, 27, 182, 1, 104, 148, 158, 0, 7, 28, 167, 0, 4, 27, 60, 132, 2, 1, 167, 255, 225, 27, 172]] p := seg_gb (S := [[3, 60, 4, 61, 28, 42, 180, 1, 86, 162, 0, 29, 42, 28, 182, 1, 104, 42, 27, 182, 1, 104, 148, 158, 0, 7, 28, 167, 0, 4, 27, 60, 132, 2, 1, 167, 255, 225, 27, 172]]) (by decide +kernel) (by decide +kernel)
set_option maxRecDepth 20000 in
theorem BX12_bestStory_1_0 : ∀ q ∈ ([(0, 3), (1, 60), (2, 4), (3, 61), (4, 28), (5, 42), (12, 42), (13, 28), (17, 42), (18, 27), (22, 148), (26, 28)] : List (Nat × Nat)), gb cX12_bestStory q.1 = some q.2 := seg_1 SX12_bestStory _ (by decide +kernel)
set_option maxRecDepth 20000 in
theorem BX12_bestStory_1_1 : ∀ q ∈ ([(30, 27), (31, 60), (38, 27), (39, 172)] : List (Nat × Nat)), gb cX12_bestStory q.1 = some q.2 := seg_1 SX12_bestStory _ (by decide +kernel)
set_option maxRecDepth 20000 in
theorem BX12_bestStory_3_0 : ∀ q ∈ ([(6, 180, 1, 86), (9, 162, 0, 29), (14, 182, 1, 104), (19, 182, 1, 104), (23, 158, 0, 7), (27, 167, 0, 4), (32, 132, 2, 1), (35, 167, 255, 225)] : List (Nat × Nat × Nat × Nat)), gb cX12_bestStory q.1 = some q.2.1 ∧ gb cX12_bestStory (q.1 + 1) = some q.2.2.1 ∧ gb cX12_bestStory (q.1 + 2) = some q.2.2.2 := seg_3 SX12_bestStory _ (by decide +kernel)
theorem dX12_bestStory_0 : decode cX12_bestStory 0 = .ok (.iconst 0, 1) := dk3 (BX12_bestStory_1_0 (0, 3) (List.mem_of_getElem? (i := 0) rfl))
theorem dX12_bestStory_1 : decode cX12_bestStory 1 = .ok (.istore_n 1, 1) := dk60 (BX12_bestStory_1_0 (1, 60) (List.mem_of_getElem? (i := 1) rfl))
theorem dX12_bestStory_2 : decode cX12_bestStory 2 = .ok (.iconst 1, 1) := dk4 (BX12_bestStory_1_0 (2, 4) (List.mem_of_getElem? (i := 2) rfl))
theorem dX12_bestStory_3 : decode cX12_bestStory 3 = .ok (.istore_n 2, 1) := dk61 (BX12_bestStory_1_0 (3, 61) (List.mem_of_getElem? (i := 3) rfl))
theorem dX12_bestStory_4 : decode cX12_bestStory 4 = .ok (.iload_n 2, 1) := dk28 (BX12_bestStory_1_0 (4, 28) (List.mem_of_getElem? (i := 4) rfl))
theorem dX12_bestStory_5 : decode cX12_bestStory 5 = .ok (.aload_n 0, 1) := dk42 (BX12_bestStory_1_0 (5, 42) (List.mem_of_getElem? (i := 5) rfl))
theorem dX12_bestStory_6 : decode cX12_bestStory 6 = .ok (.getfield 342, 3) := dk180 1 86 (BX12_bestStory_3_0 (6, 180, 1, 86) (List.mem_of_getElem? (i := 0) rfl))
theorem dX12_bestStory_9 : decode cX12_bestStory 9 = .ok (.if_icmp .ge 29, 3) := dk162 0 29 (BX12_bestStory_3_0 (9, 162, 0, 29) (List.mem_of_getElem? (i := 1) rfl))
theorem dX12_bestStory_12 : decode cX12_bestStory 12 = .ok (.aload_n 0, 1) := dk42 (BX12_bestStory_1_0 (12, 42) (List.mem_of_getElem? (i := 6) rfl))
theorem dX12_bestStory_13 : decode cX12_bestStory 13 = .ok (.iload_n 2, 1) := dk28 (BX12_bestStory_1_0 (13, 28) (List.mem_of_getElem? (i := 7) rfl))
theorem dX12_bestStory_14 : decode cX12_bestStory 14 = .ok (.invokevirtual 360, 3) := dk182 1 104 (BX12_bestStory_3_0 (14, 182, 1, 104) (List.mem_of_getElem? (i := 2) rfl))
theorem dX12_bestStory_17 : decode cX12_bestStory 17 = .ok (.aload_n 0, 1) := dk42 (BX12_bestStory_1_0 (17, 42) (List.mem_of_getElem? (i := 8) rfl))
theorem dX12_bestStory_18 : decode cX12_bestStory 18 = .ok (.iload_n 1, 1) := dk27 (BX12_bestStory_1_0 (18, 27) (List.mem_of_getElem? (i := 9) rfl))
theorem dX12_bestStory_19 : decode cX12_bestStory 19 = .ok (.invokevirtual 360, 3) := dk182 1 104 (BX12_bestStory_3_0 (19, 182, 1, 104) (List.mem_of_getElem? (i := 3) rfl))
theorem dX12_bestStory_22 : decode cX12_bestStory 22 = .ok (.lcmp, 1) := dk148 (BX12_bestStory_1_0 (22, 148) (List.mem_of_getElem? (i := 10) rfl))
theorem dX12_bestStory_23 : decode cX12_bestStory 23 = .ok (.ifCond .le 7, 3) := dk158 0 7 (BX12_bestStory_3_0 (23, 158, 0, 7) (List.mem_of_getElem? (i := 4) rfl))
theorem dX12_bestStory_26 : decode cX12_bestStory 26 = .ok (.iload_n 2, 1) := dk28 (BX12_bestStory_1_0 (26, 28) (List.mem_of_getElem? (i := 11) rfl))
theorem dX12_bestStory_27 : decode cX12_bestStory 27 = .ok (.goto 4, 3) := dk167 0 4 (BX12_bestStory_3_0 (27, 167, 0, 4) (List.mem_of_getElem? (i := 5) rfl))
theorem dX12_bestStory_30 : decode cX12_bestStory 30 = .ok (.iload_n 1, 1) := dk27 (BX12_bestStory_1_1 (30, 27) (List.mem_of_getElem? (i := 0) rfl))
theorem dX12_bestStory_31 : decode cX12_bestStory 31 = .ok (.istore_n 1, 1) := dk60 (BX12_bestStory_1_1 (31, 60) (List.mem_of_getElem? (i := 1) rfl))
theorem dX12_bestStory_32 : decode cX12_bestStory 32 = .ok (.iinc 2 1, 3) := dk132 2 1 (BX12_bestStory_3_0 (32, 132, 2, 1) (List.mem_of_getElem? (i := 6) rfl))
theorem dX12_bestStory_35 : decode cX12_bestStory 35 = .ok (.goto (-31), 3) := dk167 255 225 (BX12_bestStory_3_0 (35, 167, 255, 225) (List.mem_of_getElem? (i := 7) rfl))
theorem dX12_bestStory_38 : decode cX12_bestStory 38 = .ok (.iload_n 1, 1) := dk27 (BX12_bestStory_1_1 (38, 27) (List.mem_of_getElem? (i := 2) rfl))
theorem dX12_bestStory_39 : decode cX12_bestStory 39 = .ok (.ireturn, 1) := dk172 (BX12_bestStory_1_1 (39, 172) (List.mem_of_getElem? (i := 3) rfl))
set_option maxRecDepth 20000 in
theorem ggX12_best_X12_bestStory : GoodIn wsX12_best wsX12_bestStory := gcons (goodIn_g ch_wsX12_best_flat gd_wsX12_best _ [(1, 5)] rfl) (goodIn_app (goodIn_app (goodIn_g ch_wsX12_best_flat gd_wsX12_best _ [(1, 0), (1, 6), (1, 7), (1, 8), (1, 4), (1, 9), (1, 10), (1, 11), (1, 12), (1, 13), (1, 14), (1, 15), (1, 16), (1, 17), (1, 18), (1, 19), (1, 20), (1, 21), (1, 22), (1, 23), (2, 0), (2, 1), (2, 2), (2, 3)] rfl) (goodIn_app (goodIn_g ch_wsX12_best_flat gd_wsX12_best _ [(2, 4), (2, 5), (2, 6), (2, 7), (2, 8), (2, 9), (2, 10), (2, 11), (2, 12), (2, 13), (2, 14), (2, 15), (2, 16), (2, 17), (2, 18), (2, 19), (2, 20), (2, 21), (2, 22), (2, 23), (3, 0), (3, 1), (3, 2), (3, 3)] rfl) (goodIn_app (goodIn_g ch_wsX12_best_flat gd_wsX12_best _ [(3, 4), (3, 5), (3, 6), (3, 7), (3, 8), (3, 9), (3, 10), (3, 11), (3, 12), (3, 13), (3, 14), (3, 15), (3, 16), (3, 17), (3, 18), (3, 19), (3, 20), (3, 21), (3, 22), (3, 23), (4, 0), (4, 1), (4, 2), (4, 3)] rfl) (goodIn_app (goodIn_g ch_wsX12_best_flat gd_wsX12_best _ [(4, 4), (4, 5), (4, 6), (4, 7), (4, 8), (4, 9), (4, 10), (4, 11), (4, 12), (4, 13), (4, 14), (4, 15), (4, 16), (4, 17), (4, 18), (4, 19), (4, 20), (4, 21), (4, 22), (4, 23), (5, 0), (5, 1), (5, 2), (5, 3)] rfl) (goodIn_g ch_wsX12_best_flat gd_wsX12_best _ [(5, 4), (5, 5), (5, 6), (5, 7), (5, 8), (5, 9), (5, 10), (5, 11), (5, 12), (5, 13), (5, 14), (5, 15), (5, 16), (5, 17), (5, 18), (5, 19), (5, 20), (5, 21), (5, 22), (5, 23), (6, 0), (6, 1), (6, 2)] rfl))))) (gchunk ch_wsX12_best_flat gd_wsX12_best 7 rfl))
set_option maxRecDepth 20000 in
theorem gX12_best_X12_bestStory : GoodIn wsX12_best (wsV RX12 373 RX12 yX12_bestStory wsX12_bestStory) := goodIn_app (goodIn_g ch_wsX12_best_flat gd_wsX12_best _ [(1, 1), (1, 2), (1, 3), (1, 4)] rfl) ggX12_best_X12_bestStory
set_option maxRecDepth 20000 in
theorem SX12_best : ∀ p : Nat, gb cX12_best p = segF [[42, 180, 1, 86, 154, 0, 8, 16, 251, 167, 0, 7, 42, 182, 1, 117, 172]] p := seg_gb (S := [[42, 180, 1, 86, 154, 0, 8, 16, 251, 167, 0, 7, 42, 182, 1, 117, 172]]) (by decide +kernel) (by decide +kernel)
set_option maxRecDepth 20000 in
theorem BX12_best_1_0 : ∀ q ∈ ([(0, 42), (12, 42), (16, 172)] : List (Nat × Nat)), gb cX12_best q.1 = some q.2 := seg_1 SX12_best _ (by decide +kernel)
set_option maxRecDepth 20000 in
theorem BX12_best_2_0 : ∀ q ∈ ([(7, 16, 251)] : List (Nat × Nat × Nat)), gb cX12_best q.1 = some q.2.1 ∧ gb cX12_best (q.1 + 1) = some q.2.2 := seg_2 SX12_best _ (by decide +kernel)
set_option maxRecDepth 20000 in
theorem BX12_best_3_0 : ∀ q ∈ ([(1, 180, 1, 86), (4, 154, 0, 8), (9, 167, 0, 7), (13, 182, 1, 117)] : List (Nat × Nat × Nat × Nat)), gb cX12_best q.1 = some q.2.1 ∧ gb cX12_best (q.1 + 1) = some q.2.2.1 ∧ gb cX12_best (q.1 + 2) = some q.2.2.2 := seg_3 SX12_best _ (by decide +kernel)
theorem dX12_best_0 : decode cX12_best 0 = .ok (.aload_n 0, 1) := dk42 (BX12_best_1_0 (0, 42) (List.mem_of_getElem? (i := 0) rfl))
theorem dX12_best_1 : decode cX12_best 1 = .ok (.getfield 342, 3) := dk180 1 86 (BX12_best_3_0 (1, 180, 1, 86) (List.mem_of_getElem? (i := 0) rfl))
theorem dX12_best_4 : decode cX12_best 4 = .ok (.ifCond .ne 8, 3) := dk154 0 8 (BX12_best_3_0 (4, 154, 0, 8) (List.mem_of_getElem? (i := 1) rfl))
theorem dX12_best_7 : decode cX12_best 7 = .ok (.bipush (-5), 2) := dk16 251 (BX12_best_2_0 (7, 16, 251) (List.mem_of_getElem? (i := 0) rfl))
theorem dX12_best_9 : decode cX12_best 9 = .ok (.goto 7, 3) := dk167 0 7 (BX12_best_3_0 (9, 167, 0, 7) (List.mem_of_getElem? (i := 2) rfl))
theorem dX12_best_12 : decode cX12_best 12 = .ok (.aload_n 0, 1) := dk42 (BX12_best_1_0 (12, 42) (List.mem_of_getElem? (i := 1) rfl))
theorem dX12_best_13 : decode cX12_best 13 = .ok (.invokevirtual 373, 3) := dk182 1 117 (BX12_best_3_0 (13, 182, 1, 117) (List.mem_of_getElem? (i := 3) rfl))
theorem dX12_best_16 : decode cX12_best 16 = .ok (.ireturn, 1) := dk172 (BX12_best_1_0 (16, 172) (List.mem_of_getElem? (i := 2) rfl))
set_option maxRecDepth 20000 in
theorem ggX12_oddsWith_X12_adds : GoodIn wsX12_oddsWith wsX12_adds := gcons (goodIn_g ch_wsX12_oddsWith_flat gd_wsX12_oddsWith _ [(1, 5)] rfl) (goodIn_app (goodIn_g ch_wsX12_oddsWith_flat gd_wsX12_oddsWith _ [(1, 6), (1, 0), (1, 7), (1, 8)] rfl) (gchunk ch_wsX12_oddsWith_flat gd_wsX12_oddsWith 7 rfl))
set_option maxRecDepth 20000 in
theorem gX12_oddsWith_X12_adds : GoodIn wsX12_oddsWith (wsV RX12 234 RX12 yX12_adds wsX12_adds) := goodIn_app (goodIn_g ch_wsX12_oddsWith_flat gd_wsX12_oddsWith _ [(1, 1), (1, 2), (1, 3), (1, 4)] rfl) ggX12_oddsWith_X12_adds
set_option maxRecDepth 20000 in
theorem ggX12_oddsWith_X12_oddsOf : GoodIn wsX12_oddsWith wsX12_oddsOf := gcons (goodIn_g ch_wsX12_oddsWith_flat gd_wsX12_oddsWith _ [(1, 12)] rfl) (goodIn_app (goodIn_app (goodIn_g ch_wsX12_oddsWith_flat gd_wsX12_oddsWith _ [(1, 13), (1, 14), (1, 15), (1, 16), (1, 4), (1, 17), (1, 18), (1, 19), (1, 20), (1, 21), (1, 22), (1, 8), (1, 23), (2, 0), (2, 1), (2, 2), (2, 3), (2, 4), (2, 5), (2, 6), (2, 7), (2, 8), (2, 9), (2, 10)] rfl) (goodIn_app (goodIn_g ch_wsX12_oddsWith_flat gd_wsX12_oddsWith _ [(2, 11), (2, 12), (1, 0), (1, 6), (1, 7), (2, 13), (2, 14), (2, 15), (2, 16), (2, 17), (2, 18), (2, 19), (2, 20), (2, 21), (2, 22), (2, 23), (3, 0), (3, 1), (3, 2), (3, 3), (3, 4), (3, 5), (3, 6), (3, 7)] rfl) (goodIn_app (goodIn_g ch_wsX12_oddsWith_flat gd_wsX12_oddsWith _ [(3, 8), (3, 9), (3, 10), (3, 11), (3, 12), (3, 13), (3, 14), (3, 15), (3, 16), (3, 17), (3, 18), (3, 19), (3, 20), (3, 21), (3, 22), (3, 23), (4, 0), (4, 1), (4, 2), (4, 3), (4, 4), (4, 5), (4, 6), (4, 7)] rfl) (goodIn_app (goodIn_g ch_wsX12_oddsWith_flat gd_wsX12_oddsWith _ [(4, 8), (4, 9), (4, 10), (4, 11), (4, 12), (4, 13), (4, 14), (4, 15), (4, 16), (4, 17), (4, 18), (4, 19), (4, 20), (4, 21), (4, 22), (4, 23), (5, 0), (5, 1), (5, 2), (5, 3), (5, 4), (5, 5), (5, 6), (5, 7)] rfl) (goodIn_app (goodIn_g ch_wsX12_oddsWith_flat gd_wsX12_oddsWith _ [(5, 8), (5, 9), (5, 10), (5, 11), (5, 12), (5, 13), (5, 14), (5, 15), (5, 16), (5, 17), (5, 18), (5, 19), (5, 20), (5, 21), (5, 22), (5, 23), (6, 0), (6, 1), (6, 2), (6, 3), (6, 4), (6, 5), (6, 6), (6, 7)] rfl) (goodIn_g ch_wsX12_oddsWith_flat gd_wsX12_oddsWith _ [(6, 8), (6, 9), (6, 10), (6, 11)] rfl)))))) (gchunk ch_wsX12_oddsWith_flat gd_wsX12_oddsWith 7 rfl))
set_option maxRecDepth 20000 in
theorem gX12_oddsWith_X12_oddsOf : GoodIn wsX12_oddsWith (wsV RX12 370 RX12 yX12_oddsOf wsX12_oddsOf) := goodIn_app (goodIn_g ch_wsX12_oddsWith_flat gd_wsX12_oddsWith _ [(1, 9), (1, 10), (1, 11), (1, 4)] rfl) ggX12_oddsWith_X12_oddsOf
set_option maxRecDepth 20000 in
theorem SX12_oddsWith : ∀ p : Nat, gb cX12_oddsWith p = segF [[42, 3, 28, 29, 182, 0, 234, 42, 27, 182, 1, 114, 54, 4, 42, 89, 180, 0, 227, 4, 100, 181, 0, 227, 21, 4, 172]] p := seg_gb (S := [[42, 3, 28, 29, 182, 0, 234, 42, 27, 182, 1, 114, 54, 4, 42, 89, 180, 0, 227, 4, 100, 181, 0, 227, 21, 4, 172]]) (by decide +kernel) (by decide +kernel)
set_option maxRecDepth 20000 in
theorem BX12_oddsWith_1_0 : ∀ q ∈ ([(0, 42), (1, 3), (2, 28), (3, 29), (7, 42), (8, 27), (14, 42), (15, 89), (19, 4), (20, 100), (26, 172)] : List (Nat × Nat)), gb cX12_oddsWith q.1 = some q.2 := seg_1 SX12_oddsWith _ (by decide +kernel)
set_option maxRecDepth 20000 in
theorem BX12_oddsWith_2_0 : ∀ q ∈ ([(12, 54, 4), (24, 21, 4)] : List (Nat × Nat × Nat)), gb cX12_oddsWith q.1 = some q.2.1 ∧ gb cX12_oddsWith (q.1 + 1) = some q.2.2 := seg_2 SX12_oddsWith _ (by decide +kernel)
set_option maxRecDepth 20000 in
theorem BX12_oddsWith_3_0 : ∀ q ∈ ([(4, 182, 0, 234), (9, 182, 1, 114), (16, 180, 0, 227), (21, 181, 0, 227)] : List (Nat × Nat × Nat × Nat)), gb cX12_oddsWith q.1 = some q.2.1 ∧ gb cX12_oddsWith (q.1 + 1) = some q.2.2.1 ∧ gb cX12_oddsWith (q.1 + 2) = some q.2.2.2 := seg_3 SX12_oddsWith _ (by decide +kernel)
theorem dX12_oddsWith_0 : decode cX12_oddsWith 0 = .ok (.aload_n 0, 1) := dk42 (BX12_oddsWith_1_0 (0, 42) (List.mem_of_getElem? (i := 0) rfl))
theorem dX12_oddsWith_1 : decode cX12_oddsWith 1 = .ok (.iconst 0, 1) := dk3 (BX12_oddsWith_1_0 (1, 3) (List.mem_of_getElem? (i := 1) rfl))
theorem dX12_oddsWith_2 : decode cX12_oddsWith 2 = .ok (.iload_n 2, 1) := dk28 (BX12_oddsWith_1_0 (2, 28) (List.mem_of_getElem? (i := 2) rfl))
theorem dX12_oddsWith_3 : decode cX12_oddsWith 3 = .ok (.iload_n 3, 1) := dk29 (BX12_oddsWith_1_0 (3, 29) (List.mem_of_getElem? (i := 3) rfl))
theorem dX12_oddsWith_4 : decode cX12_oddsWith 4 = .ok (.invokevirtual 234, 3) := dk182 0 234 (BX12_oddsWith_3_0 (4, 182, 0, 234) (List.mem_of_getElem? (i := 0) rfl))
theorem dX12_oddsWith_7 : decode cX12_oddsWith 7 = .ok (.aload_n 0, 1) := dk42 (BX12_oddsWith_1_0 (7, 42) (List.mem_of_getElem? (i := 4) rfl))
theorem dX12_oddsWith_8 : decode cX12_oddsWith 8 = .ok (.iload_n 1, 1) := dk27 (BX12_oddsWith_1_0 (8, 27) (List.mem_of_getElem? (i := 5) rfl))
theorem dX12_oddsWith_9 : decode cX12_oddsWith 9 = .ok (.invokevirtual 370, 3) := dk182 1 114 (BX12_oddsWith_3_0 (9, 182, 1, 114) (List.mem_of_getElem? (i := 1) rfl))
theorem dX12_oddsWith_12 : decode cX12_oddsWith 12 = .ok (.istore 4, 2) := dk54 4 (BX12_oddsWith_2_0 (12, 54, 4) (List.mem_of_getElem? (i := 0) rfl))
theorem dX12_oddsWith_14 : decode cX12_oddsWith 14 = .ok (.aload_n 0, 1) := dk42 (BX12_oddsWith_1_0 (14, 42) (List.mem_of_getElem? (i := 6) rfl))
theorem dX12_oddsWith_15 : decode cX12_oddsWith 15 = .ok (.dup, 1) := dk89 (BX12_oddsWith_1_0 (15, 89) (List.mem_of_getElem? (i := 7) rfl))
theorem dX12_oddsWith_16 : decode cX12_oddsWith 16 = .ok (.getfield 227, 3) := dk180 0 227 (BX12_oddsWith_3_0 (16, 180, 0, 227) (List.mem_of_getElem? (i := 2) rfl))
theorem dX12_oddsWith_19 : decode cX12_oddsWith 19 = .ok (.iconst 1, 1) := dk4 (BX12_oddsWith_1_0 (19, 4) (List.mem_of_getElem? (i := 8) rfl))
theorem dX12_oddsWith_20 : decode cX12_oddsWith 20 = .ok (.isub, 1) := dk100 (BX12_oddsWith_1_0 (20, 100) (List.mem_of_getElem? (i := 9) rfl))
theorem dX12_oddsWith_21 : decode cX12_oddsWith 21 = .ok (.putfield 227, 3) := dk181 0 227 (BX12_oddsWith_3_0 (21, 181, 0, 227) (List.mem_of_getElem? (i := 3) rfl))
theorem dX12_oddsWith_24 : decode cX12_oddsWith 24 = .ok (.iload 4, 2) := dk21 4 (BX12_oddsWith_2_0 (24, 21, 4) (List.mem_of_getElem? (i := 1) rfl))
theorem dX12_oddsWith_26 : decode cX12_oddsWith 26 = .ok (.ireturn, 1) := dk172 (BX12_oddsWith_1_0 (26, 172) (List.mem_of_getElem? (i := 10) rfl))
set_option maxRecDepth 20000 in
theorem ggX12_next_X12_within : GoodIn wsX12_next wsX12_within := goodIn_g ch_wsX12_next_flat gd_wsX12_next _ [(1, 6)] rfl
set_option maxRecDepth 20000 in
theorem gX12_next_X12_within : GoodIn wsX12_next (va_wsS RX12 136 yX12_within wsX12_within) := goodIn_app (goodIn_g ch_wsX12_next_flat gd_wsX12_next _ [(1, 3), (1, 4), (1, 5)] rfl) ggX12_next_X12_within
set_option maxRecDepth 20000 in
theorem ggX12_next_X12_allWorth : GoodIn wsX12_next wsX12_allWorth := gcons (goodIn_g ch_wsX12_next_flat gd_wsX12_next _ [(1, 10)] rfl) (goodIn_app (goodIn_app (goodIn_g ch_wsX12_next_flat gd_wsX12_next _ [(1, 1), (1, 11), (1, 12), (1, 13), (1, 5), (1, 14), (1, 15), (1, 16), (1, 17), (1, 18), (1, 19), (1, 20), (1, 21), (1, 22), (1, 23), (2, 0), (2, 1), (2, 2), (2, 3), (2, 4), (2, 5), (1, 2), (2, 6), (2, 7)] rfl) (goodIn_app (goodIn_g ch_wsX12_next_flat gd_wsX12_next _ [(1, 3), (1, 4), (1, 6), (2, 8), (2, 9), (2, 10), (2, 11), (2, 12), (2, 13), (2, 14), (2, 15), (2, 16), (2, 17), (2, 18), (2, 19), (2, 20), (2, 21), (2, 22), (2, 23), (3, 0), (3, 1), (3, 2), (3, 3), (3, 4)] rfl) (goodIn_app (goodIn_g ch_wsX12_next_flat gd_wsX12_next _ [(3, 5), (3, 6), (3, 7), (3, 8), (3, 9), (3, 10), (3, 11), (3, 12), (3, 13), (3, 14), (3, 15), (3, 16), (3, 17), (3, 18), (3, 19), (3, 20), (3, 21), (3, 22), (3, 23), (4, 0), (4, 1), (4, 2), (4, 3), (4, 4)] rfl) (goodIn_app (goodIn_g ch_wsX12_next_flat gd_wsX12_next _ [(4, 5), (4, 6), (4, 7), (4, 8), (4, 9), (4, 10), (4, 11), (4, 12), (4, 13), (4, 14), (4, 15), (4, 16), (4, 17), (4, 18), (4, 19), (4, 20), (4, 21), (4, 22), (4, 23), (5, 0), (5, 1), (5, 2), (5, 3), (5, 4)] rfl) (goodIn_g ch_wsX12_next_flat gd_wsX12_next _ [(5, 5), (5, 6), (5, 7), (5, 8), (5, 9), (5, 10), (5, 11), (5, 12), (5, 13), (5, 14), (5, 15), (5, 16), (5, 17), (5, 18), (5, 19), (5, 20), (5, 21), (5, 22), (5, 23), (6, 0), (6, 1), (6, 2), (6, 3)] rfl))))) (gchunk ch_wsX12_next_flat gd_wsX12_next 7 rfl))
set_option maxRecDepth 20000 in
theorem gX12_next_X12_allWorth : GoodIn wsX12_next (wsV RX12 364 RX12 yX12_allWorth wsX12_allWorth) := goodIn_app (goodIn_g ch_wsX12_next_flat gd_wsX12_next _ [(1, 7), (1, 8), (1, 9), (1, 5)] rfl) ggX12_next_X12_allWorth
set_option maxRecDepth 20000 in
theorem ggX12_next_X12_bestStory : GoodIn wsX12_next wsX12_bestStory := gcons (goodIn_g ch_wsX12_next_flat gd_wsX12_next _ [(6, 7)] rfl) (goodIn_app (goodIn_app (goodIn_g ch_wsX12_next_flat gd_wsX12_next _ [(1, 1), (1, 11), (1, 12), (1, 13), (1, 5), (1, 14), (1, 15), (1, 16), (1, 17), (1, 18), (1, 19), (1, 20), (1, 21), (1, 22), (1, 23), (2, 0), (2, 1), (2, 2), (2, 3), (2, 4), (2, 5), (1, 2), (2, 6), (2, 7)] rfl) (goodIn_app (goodIn_g ch_wsX12_next_flat gd_wsX12_next _ [(1, 3), (1, 4), (1, 6), (2, 8), (2, 9), (2, 10), (2, 11), (2, 12), (2, 13), (2, 14), (2, 15), (2, 16), (2, 17), (2, 18), (2, 19), (2, 20), (2, 21), (2, 22), (2, 23), (3, 0), (3, 1), (3, 2), (3, 3), (3, 4)] rfl) (goodIn_app (goodIn_g ch_wsX12_next_flat gd_wsX12_next _ [(3, 5), (3, 6), (3, 7), (3, 8), (3, 9), (3, 10), (3, 11), (3, 12), (3, 13), (3, 14), (3, 15), (3, 16), (3, 17), (3, 18), (3, 19), (3, 20), (3, 21), (3, 22), (3, 23), (4, 0), (4, 1), (4, 2), (4, 3), (4, 4)] rfl) (goodIn_app (goodIn_g ch_wsX12_next_flat gd_wsX12_next _ [(4, 5), (4, 6), (4, 7), (4, 8), (4, 9), (4, 10), (4, 11), (4, 12), (4, 13), (4, 14), (4, 15), (4, 16), (4, 17), (4, 18), (4, 19), (4, 20), (4, 21), (4, 22), (4, 23), (5, 0), (5, 1), (5, 2), (5, 3), (5, 4)] rfl) (goodIn_g ch_wsX12_next_flat gd_wsX12_next _ [(5, 5), (5, 6), (5, 7), (5, 8), (5, 9), (5, 10), (5, 11), (5, 12), (5, 13), (5, 14), (5, 15), (5, 16), (5, 17), (5, 18), (5, 19), (5, 20), (5, 21), (5, 22), (5, 23), (6, 0), (6, 1), (6, 2), (6, 3)] rfl))))) (gchunk ch_wsX12_next_flat gd_wsX12_next 7 rfl))
set_option maxRecDepth 20000 in
theorem gX12_next_X12_bestStory : GoodIn wsX12_next (wsV RX12 373 RX12 yX12_bestStory wsX12_bestStory) := goodIn_app (goodIn_g ch_wsX12_next_flat gd_wsX12_next _ [(6, 4), (6, 5), (6, 6), (1, 5)] rfl) ggX12_next_X12_bestStory
set_option maxRecDepth 20000 in
theorem ggX12_next_X12_oddsOf : GoodIn wsX12_next wsX12_oddsOf := gcons (goodIn_g ch_wsX12_next_flat gd_wsX12_next _ [(6, 11)] rfl) (goodIn_app (goodIn_app (goodIn_g ch_wsX12_next_flat gd_wsX12_next _ [(6, 12), (1, 7), (1, 8), (1, 9), (1, 5), (1, 10), (1, 1), (1, 11), (1, 12), (1, 13), (1, 14), (1, 15), (1, 16), (1, 17), (1, 18), (1, 19), (1, 20), (1, 21), (1, 22), (1, 23), (2, 0), (2, 1), (2, 2), (2, 3)] rfl) (goodIn_app (goodIn_g ch_wsX12_next_flat gd_wsX12_next _ [(2, 4), (2, 5), (1, 2), (2, 6), (2, 7), (1, 3), (1, 4), (1, 6), (2, 8), (2, 9), (2, 10), (2, 11), (2, 12), (2, 13), (2, 14), (2, 15), (2, 16), (2, 17), (2, 18), (2, 19), (2, 20), (2, 21), (2, 22), (2, 23)] rfl) (goodIn_app (goodIn_g ch_wsX12_next_flat gd_wsX12_next _ [(3, 0), (3, 1), (3, 2), (3, 3), (3, 4), (3, 5), (3, 6), (3, 7), (3, 8), (3, 9), (3, 10), (3, 11), (3, 12), (3, 13), (3, 14), (3, 15), (3, 16), (3, 17), (3, 18), (3, 19), (3, 20), (3, 21), (3, 22), (3, 23)] rfl) (goodIn_app (goodIn_g ch_wsX12_next_flat gd_wsX12_next _ [(4, 0), (4, 1), (4, 2), (4, 3), (4, 4), (4, 5), (4, 6), (4, 7), (4, 8), (4, 9), (4, 10), (4, 11), (4, 12), (4, 13), (4, 14), (4, 15), (4, 16), (4, 17), (4, 18), (4, 19), (4, 20), (4, 21), (4, 22), (4, 23)] rfl) (goodIn_app (goodIn_g ch_wsX12_next_flat gd_wsX12_next _ [(5, 0), (5, 1), (5, 2), (5, 3), (5, 4), (5, 5), (5, 6), (5, 7), (5, 8), (5, 9), (5, 10), (5, 11), (5, 12), (5, 13), (5, 14), (5, 15), (5, 16), (5, 17), (5, 18), (5, 19), (5, 20), (5, 21), (5, 22), (5, 23)] rfl) (goodIn_g ch_wsX12_next_flat gd_wsX12_next _ [(6, 0), (6, 1), (6, 2), (6, 3)] rfl)))))) (gchunk ch_wsX12_next_flat gd_wsX12_next 7 rfl))
set_option maxRecDepth 20000 in
theorem gX12_next_X12_oddsOf : GoodIn wsX12_next (wsV RX12 370 RX12 yX12_oddsOf wsX12_oddsOf) := goodIn_app (goodIn_g ch_wsX12_next_flat gd_wsX12_next _ [(6, 8), (6, 9), (6, 10), (1, 5)] rfl) ggX12_next_X12_oddsOf
set_option maxRecDepth 20000 in
theorem ggX12_next_X12_oddsWith : GoodIn wsX12_next wsX12_oddsWith := gcons (goodIn_g ch_wsX12_next_flat gd_wsX12_next _ [(6, 16)] rfl) (goodIn_app (goodIn_app (goodIn_g ch_wsX12_next_flat gd_wsX12_next _ [(1, 2), (6, 17), (6, 18), (6, 19), (1, 5), (6, 20), (2, 6), (2, 7), (1, 15), (6, 8), (6, 9), (6, 10), (6, 11), (6, 12), (1, 7), (1, 8), (1, 9), (1, 10), (1, 1), (1, 11), (1, 12), (1, 13), (1, 14), (1, 16)] rfl) (goodIn_app (goodIn_g ch_wsX12_next_flat gd_wsX12_next _ [(1, 17), (1, 18), (1, 19), (1, 20), (1, 21), (1, 22), (1, 23), (2, 0), (2, 1), (2, 2), (2, 3), (2, 4), (2, 5), (1, 3), (1, 4), (1, 6), (2, 8), (2, 9), (2, 10), (2, 11), (2, 12), (2, 13), (2, 14), (2, 15)] rfl) (goodIn_app (goodIn_g ch_wsX12_next_flat gd_wsX12_next _ [(2, 16), (2, 17), (2, 18), (2, 19), (2, 20), (2, 21), (2, 22), (2, 23), (3, 0), (3, 1), (3, 2), (3, 3), (3, 4), (3, 5), (3, 6), (3, 7), (3, 8), (3, 9), (3, 10), (3, 11), (3, 12), (3, 13), (3, 14), (3, 15)] rfl) (goodIn_app (goodIn_g ch_wsX12_next_flat gd_wsX12_next _ [(3, 16), (3, 17), (3, 18), (3, 19), (3, 20), (3, 21), (3, 22), (3, 23), (4, 0), (4, 1), (4, 2), (4, 3), (4, 4), (4, 5), (4, 6), (4, 7), (4, 8), (4, 9), (4, 10), (4, 11), (4, 12), (4, 13), (4, 14), (4, 15)] rfl) (goodIn_app (goodIn_g ch_wsX12_next_flat gd_wsX12_next _ [(4, 16), (4, 17), (4, 18), (4, 19), (4, 20), (4, 21), (4, 22), (4, 23), (5, 0), (5, 1), (5, 2), (5, 3), (5, 4), (5, 5), (5, 6), (5, 7), (5, 8), (5, 9), (5, 10), (5, 11), (5, 12), (5, 13), (5, 14), (5, 15)] rfl) (goodIn_g ch_wsX12_next_flat gd_wsX12_next _ [(5, 16), (5, 17), (5, 18), (5, 19), (5, 20), (5, 21), (5, 22), (5, 23), (6, 0), (6, 1), (6, 2), (6, 3)] rfl)))))) (gchunk ch_wsX12_next_flat gd_wsX12_next 7 rfl))
set_option maxRecDepth 20000 in
theorem gX12_next_X12_oddsWith : GoodIn wsX12_next (wsV RX12 376 RX12 yX12_oddsWith wsX12_oddsWith) := goodIn_app (goodIn_g ch_wsX12_next_flat gd_wsX12_next _ [(6, 13), (6, 14), (6, 15), (1, 5)] rfl) ggX12_next_X12_oddsWith
set_option maxRecDepth 20000 in
theorem ggX12_next_X12_size : GoodIn wsX12_next wsX12_size := goodIn_g ch_wsX12_next_flat gd_wsX12_next _ [(6, 23)] rfl
set_option maxRecDepth 20000 in
theorem gX12_next_X12_size : GoodIn wsX12_next (va_wsS RX12 265 yX12_size wsX12_size) := goodIn_app (goodIn_g ch_wsX12_next_flat gd_wsX12_next _ [(6, 21), (6, 22), (1, 5)] rfl) ggX12_next_X12_size
set_option maxRecDepth 20000 in
theorem SX12_next : ∀ p : Nat, gb cX12_next p = segF [[27, 133, 9, 20, 0, 225, 184, 0, 136, 153, 0, 13, 28, 133, 9, 10, 184, 0, 136, 154, 0, 5, 2, 172, 42, 180, 1, 86, 153, 0, 12, 42, 180, 0, 227, 16, 40, 160, 0, 6, 16, 251, 172, 42, 182, 1, 108, 9, 148, 154, 0, 6, 16, 254, 172, 42, 182, 1, 117, 62, 42, 29, 182, 1], [114, 54, 4, 3, 54, 5, 2, 54, 6, 3, 54, 7, 21, 7, 16, 7, 163, 0, 72, 42, 29, 21, 7, 3, 182, 1, 120, 21, 4, 100, 184, 1, 9, 54, 8, 42, 29, 21, 7, 27, 182, 1, 120, 21, 4, 100, 184, 1, 9, 54, 9, 21, 8, 21, 9, 164, 0, 8, 21, 8, 167, 0, 5, 21], [9, 54, 10, 21, 10, 21, 6, 164, 0, 11, 21, 7, 54, 5, 21, 10, 54, 6, 132, 7, 1, 167, 255, 183, 28, 154, 0, 8, 21, 5, 167, 0, 5, 21, 6, 172]] p := seg_gb (S := [[27, 133, 9, 20, 0, 225, 184, 0, 136, 153, 0, 13, 28, 133, 9, 10, 184, 0, 136, 154, 0, 5, 2, 172, 42, 180, 1, 86, 153, 0, 12, 42, 180, 0, 227, 16, 40, 160, 0, 6, 16, 251, 172, 42, 182, 1, 108, 9, 148, 154, 0, 6, 16, 254, 172, 42, 182, 1, 117, 62, 42, 29, 182, 1], [114, 54, 4, 3, 54, 5, 2, 54, 6, 3, 54, 7, 21, 7, 16, 7, 163, 0, 72, 42, 29, 21, 7, 3, 182, 1, 120, 21, 4, 100, 184, 1, 9, 54, 8, 42, 29, 21, 7, 27, 182, 1, 120, 21, 4, 100, 184, 1, 9, 54, 9, 21, 8, 21, 9, 164, 0, 8, 21, 8, 167, 0, 5, 21], [9, 54, 10, 21, 10, 21, 6, 164, 0, 11, 21, 7, 54, 5, 21, 10, 54, 6, 132, 7, 1, 167, 255, 183, 28, 154, 0, 8, 21, 5, 167, 0, 5, 21, 6, 172]]) (by decide +kernel) (by decide +kernel)
set_option maxRecDepth 20000 in
theorem BX12_next_1_0 : ∀ q ∈ ([(0, 27), (1, 133), (2, 9), (12, 28), (13, 133), (14, 9), (15, 10), (22, 2), (23, 172), (24, 42), (31, 42), (42, 172)] : List (Nat × Nat)), gb cX12_next q.1 = some q.2 := seg_1 SX12_next _ (by decide +kernel)
set_option maxRecDepth 20000 in
theorem BX12_next_1_1 : ∀ q ∈ ([(43, 42), (47, 9), (48, 148), (54, 172), (55, 42), (59, 62), (60, 42), (61, 29), (67, 3), (70, 2), (73, 3), (83, 42)] : List (Nat × Nat)), gb cX12_next q.1 = some q.2 := seg_1 SX12_next _ (by decide +kernel)
set_option maxRecDepth 20000 in
theorem BX12_next_1_2 : ∀ q ∈ ([(84, 29), (87, 3), (93, 100), (99, 42), (100, 29), (103, 27), (109, 100), (152, 28), (163, 172)] : List (Nat × Nat)), gb cX12_next q.1 = some q.2 := seg_1 SX12_next _ (by decide +kernel)
set_option maxRecDepth 20000 in
theorem BX12_next_2_0 : ∀ q ∈ ([(35, 16, 40), (40, 16, 251), (52, 16, 254), (65, 54, 4), (68, 54, 5), (71, 54, 6), (74, 54, 7), (76, 21, 7), (78, 16, 7), (85, 21, 7), (91, 21, 4), (97, 54, 8)] : List (Nat × Nat × Nat)), gb cX12_next q.1 = some q.2.1 ∧ gb cX12_next (q.1 + 1) = some q.2.2 := seg_2 SX12_next _ (by decide +kernel)
set_option maxRecDepth 20000 in
theorem BX12_next_2_1 : ∀ q ∈ ([(101, 21, 7), (107, 21, 4), (113, 54, 9), (115, 21, 8), (117, 21, 9), (122, 21, 8), (127, 21, 9), (129, 54, 10), (131, 21, 10), (133, 21, 6), (138, 21, 7), (140, 54, 5)] : List (Nat × Nat × Nat)), gb cX12_next q.1 = some q.2.1 ∧ gb cX12_next (q.1 + 1) = some q.2.2 := seg_2 SX12_next _ (by decide +kernel)
set_option maxRecDepth 20000 in
theorem BX12_next_2_2 : ∀ q ∈ ([(142, 21, 10), (144, 54, 6), (156, 21, 5), (161, 21, 6)] : List (Nat × Nat × Nat)), gb cX12_next q.1 = some q.2.1 ∧ gb cX12_next (q.1 + 1) = some q.2.2 := seg_2 SX12_next _ (by decide +kernel)
set_option maxRecDepth 20000 in
theorem BX12_next_3_0 : ∀ q ∈ ([(3, 20, 0, 225), (6, 184, 0, 136), (9, 153, 0, 13), (16, 184, 0, 136), (19, 154, 0, 5), (25, 180, 1, 86), (28, 153, 0, 12), (32, 180, 0, 227), (37, 160, 0, 6), (44, 182, 1, 108), (49, 154, 0, 6), (56, 182, 1, 117)] : List (Nat × Nat × Nat × Nat)), gb cX12_next q.1 = some q.2.1 ∧ gb cX12_next (q.1 + 1) = some q.2.2.1 ∧ gb cX12_next (q.1 + 2) = some q.2.2.2 := seg_3 SX12_next _ (by decide +kernel)
set_option maxRecDepth 20000 in
theorem BX12_next_3_1 : ∀ q ∈ ([(62, 182, 1, 114), (80, 163, 0, 72), (88, 182, 1, 120), (94, 184, 1, 9), (104, 182, 1, 120), (110, 184, 1, 9), (119, 164, 0, 8), (124, 167, 0, 5), (135, 164, 0, 11), (146, 132, 7, 1), (149, 167, 255, 183), (153, 154, 0, 8)] : List (Nat × Nat × Nat × Nat)), gb cX12_next q.1 = some q.2.1 ∧ gb cX12_next (q.1 + 1) = some q.2.2.1 ∧ gb cX12_next (q.1 + 2) = some q.2.2.2 := seg_3 SX12_next _ (by decide +kernel)
set_option maxRecDepth 20000 in
theorem BX12_next_3_2 : ∀ q ∈ ([(158, 167, 0, 5)] : List (Nat × Nat × Nat × Nat)), gb cX12_next q.1 = some q.2.1 ∧ gb cX12_next (q.1 + 1) = some q.2.2.1 ∧ gb cX12_next (q.1 + 2) = some q.2.2.2 := seg_3 SX12_next _ (by decide +kernel)
theorem dX12_next_0 : decode cX12_next 0 = .ok (.iload_n 1, 1) := dk27 (BX12_next_1_0 (0, 27) (List.mem_of_getElem? (i := 0) rfl))
theorem dX12_next_1 : decode cX12_next 1 = .ok (.i2l, 1) := dk133 (BX12_next_1_0 (1, 133) (List.mem_of_getElem? (i := 1) rfl))
theorem dX12_next_2 : decode cX12_next 2 = .ok (.lconst 0, 1) := dk9 (BX12_next_1_0 (2, 9) (List.mem_of_getElem? (i := 2) rfl))
theorem dX12_next_3 : decode cX12_next 3 = .ok (.ldc2_w 225, 3) := dk20 0 225 (BX12_next_3_0 (3, 20, 0, 225) (List.mem_of_getElem? (i := 0) rfl))
theorem dX12_next_6 : decode cX12_next 6 = .ok (.invokestatic 136, 3) := dk184 0 136 (BX12_next_3_0 (6, 184, 0, 136) (List.mem_of_getElem? (i := 1) rfl))
theorem dX12_next_9 : decode cX12_next 9 = .ok (.ifCond .eq 13, 3) := dk153 0 13 (BX12_next_3_0 (9, 153, 0, 13) (List.mem_of_getElem? (i := 2) rfl))
theorem dX12_next_12 : decode cX12_next 12 = .ok (.iload_n 2, 1) := dk28 (BX12_next_1_0 (12, 28) (List.mem_of_getElem? (i := 3) rfl))
theorem dX12_next_13 : decode cX12_next 13 = .ok (.i2l, 1) := dk133 (BX12_next_1_0 (13, 133) (List.mem_of_getElem? (i := 4) rfl))
theorem dX12_next_14 : decode cX12_next 14 = .ok (.lconst 0, 1) := dk9 (BX12_next_1_0 (14, 9) (List.mem_of_getElem? (i := 5) rfl))
theorem dX12_next_15 : decode cX12_next 15 = .ok (.lconst 1, 1) := dk10 (BX12_next_1_0 (15, 10) (List.mem_of_getElem? (i := 6) rfl))
theorem dX12_next_16 : decode cX12_next 16 = .ok (.invokestatic 136, 3) := dk184 0 136 (BX12_next_3_0 (16, 184, 0, 136) (List.mem_of_getElem? (i := 3) rfl))
theorem dX12_next_19 : decode cX12_next 19 = .ok (.ifCond .ne 5, 3) := dk154 0 5 (BX12_next_3_0 (19, 154, 0, 5) (List.mem_of_getElem? (i := 4) rfl))
theorem dX12_next_22 : decode cX12_next 22 = .ok (.iconst (-1), 1) := dk2 (BX12_next_1_0 (22, 2) (List.mem_of_getElem? (i := 7) rfl))
theorem dX12_next_23 : decode cX12_next 23 = .ok (.ireturn, 1) := dk172 (BX12_next_1_0 (23, 172) (List.mem_of_getElem? (i := 8) rfl))
theorem dX12_next_24 : decode cX12_next 24 = .ok (.aload_n 0, 1) := dk42 (BX12_next_1_0 (24, 42) (List.mem_of_getElem? (i := 9) rfl))
theorem dX12_next_25 : decode cX12_next 25 = .ok (.getfield 342, 3) := dk180 1 86 (BX12_next_3_0 (25, 180, 1, 86) (List.mem_of_getElem? (i := 5) rfl))
theorem dX12_next_28 : decode cX12_next 28 = .ok (.ifCond .eq 12, 3) := dk153 0 12 (BX12_next_3_0 (28, 153, 0, 12) (List.mem_of_getElem? (i := 6) rfl))
theorem dX12_next_31 : decode cX12_next 31 = .ok (.aload_n 0, 1) := dk42 (BX12_next_1_0 (31, 42) (List.mem_of_getElem? (i := 10) rfl))
theorem dX12_next_32 : decode cX12_next 32 = .ok (.getfield 227, 3) := dk180 0 227 (BX12_next_3_0 (32, 180, 0, 227) (List.mem_of_getElem? (i := 7) rfl))
theorem dX12_next_35 : decode cX12_next 35 = .ok (.bipush 40, 2) := dk16 40 (BX12_next_2_0 (35, 16, 40) (List.mem_of_getElem? (i := 0) rfl))
theorem dX12_next_37 : decode cX12_next 37 = .ok (.if_icmp .ne 6, 3) := dk160 0 6 (BX12_next_3_0 (37, 160, 0, 6) (List.mem_of_getElem? (i := 8) rfl))
theorem dX12_next_40 : decode cX12_next 40 = .ok (.bipush (-5), 2) := dk16 251 (BX12_next_2_0 (40, 16, 251) (List.mem_of_getElem? (i := 1) rfl))
theorem dX12_next_42 : decode cX12_next 42 = .ok (.ireturn, 1) := dk172 (BX12_next_1_0 (42, 172) (List.mem_of_getElem? (i := 11) rfl))
theorem dX12_next_43 : decode cX12_next 43 = .ok (.aload_n 0, 1) := dk42 (BX12_next_1_1 (43, 42) (List.mem_of_getElem? (i := 0) rfl))
theorem dX12_next_44 : decode cX12_next 44 = .ok (.invokevirtual 364, 3) := dk182 1 108 (BX12_next_3_0 (44, 182, 1, 108) (List.mem_of_getElem? (i := 9) rfl))
theorem dX12_next_47 : decode cX12_next 47 = .ok (.lconst 0, 1) := dk9 (BX12_next_1_1 (47, 9) (List.mem_of_getElem? (i := 1) rfl))
theorem dX12_next_48 : decode cX12_next 48 = .ok (.lcmp, 1) := dk148 (BX12_next_1_1 (48, 148) (List.mem_of_getElem? (i := 2) rfl))
theorem dX12_next_49 : decode cX12_next 49 = .ok (.ifCond .ne 6, 3) := dk154 0 6 (BX12_next_3_0 (49, 154, 0, 6) (List.mem_of_getElem? (i := 10) rfl))
theorem dX12_next_52 : decode cX12_next 52 = .ok (.bipush (-2), 2) := dk16 254 (BX12_next_2_0 (52, 16, 254) (List.mem_of_getElem? (i := 2) rfl))
theorem dX12_next_54 : decode cX12_next 54 = .ok (.ireturn, 1) := dk172 (BX12_next_1_1 (54, 172) (List.mem_of_getElem? (i := 3) rfl))
theorem dX12_next_55 : decode cX12_next 55 = .ok (.aload_n 0, 1) := dk42 (BX12_next_1_1 (55, 42) (List.mem_of_getElem? (i := 4) rfl))
theorem dX12_next_56 : decode cX12_next 56 = .ok (.invokevirtual 373, 3) := dk182 1 117 (BX12_next_3_0 (56, 182, 1, 117) (List.mem_of_getElem? (i := 11) rfl))
theorem dX12_next_59 : decode cX12_next 59 = .ok (.istore_n 3, 1) := dk62 (BX12_next_1_1 (59, 62) (List.mem_of_getElem? (i := 5) rfl))
theorem dX12_next_60 : decode cX12_next 60 = .ok (.aload_n 0, 1) := dk42 (BX12_next_1_1 (60, 42) (List.mem_of_getElem? (i := 6) rfl))
theorem dX12_next_61 : decode cX12_next 61 = .ok (.iload_n 3, 1) := dk29 (BX12_next_1_1 (61, 29) (List.mem_of_getElem? (i := 7) rfl))
theorem dX12_next_62 : decode cX12_next 62 = .ok (.invokevirtual 370, 3) := dk182 1 114 (BX12_next_3_1 (62, 182, 1, 114) (List.mem_of_getElem? (i := 0) rfl))
theorem dX12_next_65 : decode cX12_next 65 = .ok (.istore 4, 2) := dk54 4 (BX12_next_2_0 (65, 54, 4) (List.mem_of_getElem? (i := 3) rfl))
theorem dX12_next_67 : decode cX12_next 67 = .ok (.iconst 0, 1) := dk3 (BX12_next_1_1 (67, 3) (List.mem_of_getElem? (i := 8) rfl))
theorem dX12_next_68 : decode cX12_next 68 = .ok (.istore 5, 2) := dk54 5 (BX12_next_2_0 (68, 54, 5) (List.mem_of_getElem? (i := 4) rfl))
theorem dX12_next_70 : decode cX12_next 70 = .ok (.iconst (-1), 1) := dk2 (BX12_next_1_1 (70, 2) (List.mem_of_getElem? (i := 9) rfl))
theorem dX12_next_71 : decode cX12_next 71 = .ok (.istore 6, 2) := dk54 6 (BX12_next_2_0 (71, 54, 6) (List.mem_of_getElem? (i := 5) rfl))
theorem dX12_next_73 : decode cX12_next 73 = .ok (.iconst 0, 1) := dk3 (BX12_next_1_1 (73, 3) (List.mem_of_getElem? (i := 10) rfl))
theorem dX12_next_74 : decode cX12_next 74 = .ok (.istore 7, 2) := dk54 7 (BX12_next_2_0 (74, 54, 7) (List.mem_of_getElem? (i := 6) rfl))
theorem dX12_next_76 : decode cX12_next 76 = .ok (.iload 7, 2) := dk21 7 (BX12_next_2_0 (76, 21, 7) (List.mem_of_getElem? (i := 7) rfl))
theorem dX12_next_78 : decode cX12_next 78 = .ok (.bipush 7, 2) := dk16 7 (BX12_next_2_0 (78, 16, 7) (List.mem_of_getElem? (i := 8) rfl))
theorem dX12_next_80 : decode cX12_next 80 = .ok (.if_icmp .gt 72, 3) := dk163 0 72 (BX12_next_3_1 (80, 163, 0, 72) (List.mem_of_getElem? (i := 1) rfl))
theorem dX12_next_83 : decode cX12_next 83 = .ok (.aload_n 0, 1) := dk42 (BX12_next_1_1 (83, 42) (List.mem_of_getElem? (i := 11) rfl))
theorem dX12_next_84 : decode cX12_next 84 = .ok (.iload_n 3, 1) := dk29 (BX12_next_1_2 (84, 29) (List.mem_of_getElem? (i := 0) rfl))
theorem dX12_next_85 : decode cX12_next 85 = .ok (.iload 7, 2) := dk21 7 (BX12_next_2_0 (85, 21, 7) (List.mem_of_getElem? (i := 9) rfl))
theorem dX12_next_87 : decode cX12_next 87 = .ok (.iconst 0, 1) := dk3 (BX12_next_1_2 (87, 3) (List.mem_of_getElem? (i := 1) rfl))
theorem dX12_next_88 : decode cX12_next 88 = .ok (.invokevirtual 376, 3) := dk182 1 120 (BX12_next_3_1 (88, 182, 1, 120) (List.mem_of_getElem? (i := 2) rfl))
theorem dX12_next_91 : decode cX12_next 91 = .ok (.iload 4, 2) := dk21 4 (BX12_next_2_0 (91, 21, 4) (List.mem_of_getElem? (i := 10) rfl))
theorem dX12_next_93 : decode cX12_next 93 = .ok (.isub, 1) := dk100 (BX12_next_1_2 (93, 100) (List.mem_of_getElem? (i := 2) rfl))
theorem dX12_next_94 : decode cX12_next 94 = .ok (.invokestatic 265, 3) := dk184 1 9 (BX12_next_3_1 (94, 184, 1, 9) (List.mem_of_getElem? (i := 3) rfl))
theorem dX12_next_97 : decode cX12_next 97 = .ok (.istore 8, 2) := dk54 8 (BX12_next_2_0 (97, 54, 8) (List.mem_of_getElem? (i := 11) rfl))
theorem dX12_next_99 : decode cX12_next 99 = .ok (.aload_n 0, 1) := dk42 (BX12_next_1_2 (99, 42) (List.mem_of_getElem? (i := 3) rfl))
theorem dX12_next_100 : decode cX12_next 100 = .ok (.iload_n 3, 1) := dk29 (BX12_next_1_2 (100, 29) (List.mem_of_getElem? (i := 4) rfl))
theorem dX12_next_101 : decode cX12_next 101 = .ok (.iload 7, 2) := dk21 7 (BX12_next_2_1 (101, 21, 7) (List.mem_of_getElem? (i := 0) rfl))
theorem dX12_next_103 : decode cX12_next 103 = .ok (.iload_n 1, 1) := dk27 (BX12_next_1_2 (103, 27) (List.mem_of_getElem? (i := 5) rfl))
theorem dX12_next_104 : decode cX12_next 104 = .ok (.invokevirtual 376, 3) := dk182 1 120 (BX12_next_3_1 (104, 182, 1, 120) (List.mem_of_getElem? (i := 4) rfl))
theorem dX12_next_107 : decode cX12_next 107 = .ok (.iload 4, 2) := dk21 4 (BX12_next_2_1 (107, 21, 4) (List.mem_of_getElem? (i := 1) rfl))
theorem dX12_next_109 : decode cX12_next 109 = .ok (.isub, 1) := dk100 (BX12_next_1_2 (109, 100) (List.mem_of_getElem? (i := 6) rfl))
theorem dX12_next_110 : decode cX12_next 110 = .ok (.invokestatic 265, 3) := dk184 1 9 (BX12_next_3_1 (110, 184, 1, 9) (List.mem_of_getElem? (i := 5) rfl))
theorem dX12_next_113 : decode cX12_next 113 = .ok (.istore 9, 2) := dk54 9 (BX12_next_2_1 (113, 54, 9) (List.mem_of_getElem? (i := 2) rfl))
theorem dX12_next_115 : decode cX12_next 115 = .ok (.iload 8, 2) := dk21 8 (BX12_next_2_1 (115, 21, 8) (List.mem_of_getElem? (i := 3) rfl))
theorem dX12_next_117 : decode cX12_next 117 = .ok (.iload 9, 2) := dk21 9 (BX12_next_2_1 (117, 21, 9) (List.mem_of_getElem? (i := 4) rfl))
theorem dX12_next_119 : decode cX12_next 119 = .ok (.if_icmp .le 8, 3) := dk164 0 8 (BX12_next_3_1 (119, 164, 0, 8) (List.mem_of_getElem? (i := 6) rfl))
theorem dX12_next_122 : decode cX12_next 122 = .ok (.iload 8, 2) := dk21 8 (BX12_next_2_1 (122, 21, 8) (List.mem_of_getElem? (i := 5) rfl))
theorem dX12_next_124 : decode cX12_next 124 = .ok (.goto 5, 3) := dk167 0 5 (BX12_next_3_1 (124, 167, 0, 5) (List.mem_of_getElem? (i := 7) rfl))
theorem dX12_next_127 : decode cX12_next 127 = .ok (.iload 9, 2) := dk21 9 (BX12_next_2_1 (127, 21, 9) (List.mem_of_getElem? (i := 6) rfl))
theorem dX12_next_129 : decode cX12_next 129 = .ok (.istore 10, 2) := dk54 10 (BX12_next_2_1 (129, 54, 10) (List.mem_of_getElem? (i := 7) rfl))
theorem dX12_next_131 : decode cX12_next 131 = .ok (.iload 10, 2) := dk21 10 (BX12_next_2_1 (131, 21, 10) (List.mem_of_getElem? (i := 8) rfl))
theorem dX12_next_133 : decode cX12_next 133 = .ok (.iload 6, 2) := dk21 6 (BX12_next_2_1 (133, 21, 6) (List.mem_of_getElem? (i := 9) rfl))
theorem dX12_next_135 : decode cX12_next 135 = .ok (.if_icmp .le 11, 3) := dk164 0 11 (BX12_next_3_1 (135, 164, 0, 11) (List.mem_of_getElem? (i := 8) rfl))
theorem dX12_next_138 : decode cX12_next 138 = .ok (.iload 7, 2) := dk21 7 (BX12_next_2_1 (138, 21, 7) (List.mem_of_getElem? (i := 10) rfl))
theorem dX12_next_140 : decode cX12_next 140 = .ok (.istore 5, 2) := dk54 5 (BX12_next_2_1 (140, 54, 5) (List.mem_of_getElem? (i := 11) rfl))
theorem dX12_next_142 : decode cX12_next 142 = .ok (.iload 10, 2) := dk21 10 (BX12_next_2_2 (142, 21, 10) (List.mem_of_getElem? (i := 0) rfl))
theorem dX12_next_144 : decode cX12_next 144 = .ok (.istore 6, 2) := dk54 6 (BX12_next_2_2 (144, 54, 6) (List.mem_of_getElem? (i := 1) rfl))
theorem dX12_next_146 : decode cX12_next 146 = .ok (.iinc 7 1, 3) := dk132 7 1 (BX12_next_3_1 (146, 132, 7, 1) (List.mem_of_getElem? (i := 9) rfl))
theorem dX12_next_149 : decode cX12_next 149 = .ok (.goto (-73), 3) := dk167 255 183 (BX12_next_3_1 (149, 167, 255, 183) (List.mem_of_getElem? (i := 10) rfl))
theorem dX12_next_152 : decode cX12_next 152 = .ok (.iload_n 2, 1) := dk28 (BX12_next_1_2 (152, 28) (List.mem_of_getElem? (i := 7) rfl))
theorem dX12_next_153 : decode cX12_next 153 = .ok (.ifCond .ne 8, 3) := dk154 0 8 (BX12_next_3_1 (153, 154, 0, 8) (List.mem_of_getElem? (i := 11) rfl))
theorem dX12_next_156 : decode cX12_next 156 = .ok (.iload 5, 2) := dk21 5 (BX12_next_2_2 (156, 21, 5) (List.mem_of_getElem? (i := 2) rfl))
theorem dX12_next_158 : decode cX12_next 158 = .ok (.goto 5, 3) := dk167 0 5 (BX12_next_3_2 (158, 167, 0, 5) (List.mem_of_getElem? (i := 0) rfl))
theorem dX12_next_161 : decode cX12_next 161 = .ok (.iload 6, 2) := dk21 6 (BX12_next_2_2 (161, 21, 6) (List.mem_of_getElem? (i := 3) rfl))
theorem dX12_next_163 : decode cX12_next 163 = .ok (.ireturn, 1) := dk172 (BX12_next_1_2 (163, 172) (List.mem_of_getElem? (i := 8) rfl))
set_option maxRecDepth 20000 in
theorem ggX12_isBody_X12_within : GoodIn wsX12_isBody wsX12_within := goodIn_g ch_wsX12_isBody_flat gd_wsX12_isBody _ [(1, 4)] rfl
set_option maxRecDepth 20000 in
theorem gX12_isBody_X12_within : GoodIn wsX12_isBody (va_wsS RX12 136 yX12_within wsX12_within) := goodIn_app (goodIn_g ch_wsX12_isBody_flat gd_wsX12_isBody _ [(1, 1), (1, 2), (1, 3)] rfl) ggX12_isBody_X12_within
set_option maxRecDepth 20000 in
theorem SX12_isBody : ∀ p : Nat, gb cX12_isBody p = segF [[27, 133, 9, 42, 180, 1, 123, 4, 100, 133, 184, 0, 136, 172]] p := seg_gb (S := [[27, 133, 9, 42, 180, 1, 123, 4, 100, 133, 184, 0, 136, 172]]) (by decide +kernel) (by decide +kernel)
set_option maxRecDepth 20000 in
theorem BX12_isBody_1_0 : ∀ q ∈ ([(0, 27), (1, 133), (2, 9), (3, 42), (7, 4), (8, 100), (9, 133), (13, 172)] : List (Nat × Nat)), gb cX12_isBody q.1 = some q.2 := seg_1 SX12_isBody _ (by decide +kernel)
set_option maxRecDepth 20000 in
theorem BX12_isBody_3_0 : ∀ q ∈ ([(4, 180, 1, 123), (10, 184, 0, 136)] : List (Nat × Nat × Nat × Nat)), gb cX12_isBody q.1 = some q.2.1 ∧ gb cX12_isBody (q.1 + 1) = some q.2.2.1 ∧ gb cX12_isBody (q.1 + 2) = some q.2.2.2 := seg_3 SX12_isBody _ (by decide +kernel)
theorem dX12_isBody_0 : decode cX12_isBody 0 = .ok (.iload_n 1, 1) := dk27 (BX12_isBody_1_0 (0, 27) (List.mem_of_getElem? (i := 0) rfl))
theorem dX12_isBody_1 : decode cX12_isBody 1 = .ok (.i2l, 1) := dk133 (BX12_isBody_1_0 (1, 133) (List.mem_of_getElem? (i := 1) rfl))
theorem dX12_isBody_2 : decode cX12_isBody 2 = .ok (.lconst 0, 1) := dk9 (BX12_isBody_1_0 (2, 9) (List.mem_of_getElem? (i := 2) rfl))
theorem dX12_isBody_3 : decode cX12_isBody 3 = .ok (.aload_n 0, 1) := dk42 (BX12_isBody_1_0 (3, 42) (List.mem_of_getElem? (i := 3) rfl))
theorem dX12_isBody_4 : decode cX12_isBody 4 = .ok (.getfield 379, 3) := dk180 1 123 (BX12_isBody_3_0 (4, 180, 1, 123) (List.mem_of_getElem? (i := 0) rfl))
theorem dX12_isBody_7 : decode cX12_isBody 7 = .ok (.iconst 1, 1) := dk4 (BX12_isBody_1_0 (7, 4) (List.mem_of_getElem? (i := 4) rfl))
theorem dX12_isBody_8 : decode cX12_isBody 8 = .ok (.isub, 1) := dk100 (BX12_isBody_1_0 (8, 100) (List.mem_of_getElem? (i := 5) rfl))
theorem dX12_isBody_9 : decode cX12_isBody 9 = .ok (.i2l, 1) := dk133 (BX12_isBody_1_0 (9, 133) (List.mem_of_getElem? (i := 6) rfl))
theorem dX12_isBody_10 : decode cX12_isBody 10 = .ok (.invokestatic 136, 3) := dk184 0 136 (BX12_isBody_3_0 (10, 184, 0, 136) (List.mem_of_getElem? (i := 1) rfl))
theorem dX12_isBody_13 : decode cX12_isBody 13 = .ok (.ireturn, 1) := dk172 (BX12_isBody_1_0 (13, 172) (List.mem_of_getElem? (i := 7) rfl))
set_option maxRecDepth 20000 in
theorem SX12_kindOf : ∀ p : Nat, gb cX12_kindOf p = segF [[42, 180, 0, 101, 27, 46, 172]] p := seg_gb (S := [[42, 180, 0, 101, 27, 46, 172]]) (by decide +kernel) (by decide +kernel)
set_option maxRecDepth 20000 in
theorem BX12_kindOf_1_0 : ∀ q ∈ ([(0, 42), (4, 27), (5, 46), (6, 172)] : List (Nat × Nat)), gb cX12_kindOf q.1 = some q.2 := seg_1 SX12_kindOf _ (by decide +kernel)
set_option maxRecDepth 20000 in
theorem BX12_kindOf_3_0 : ∀ q ∈ ([(1, 180, 0, 101)] : List (Nat × Nat × Nat × Nat)), gb cX12_kindOf q.1 = some q.2.1 ∧ gb cX12_kindOf (q.1 + 1) = some q.2.2.1 ∧ gb cX12_kindOf (q.1 + 2) = some q.2.2.2 := seg_3 SX12_kindOf _ (by decide +kernel)
theorem dX12_kindOf_0 : decode cX12_kindOf 0 = .ok (.aload_n 0, 1) := dk42 (BX12_kindOf_1_0 (0, 42) (List.mem_of_getElem? (i := 0) rfl))
theorem dX12_kindOf_1 : decode cX12_kindOf 1 = .ok (.getfield 101, 3) := dk180 0 101 (BX12_kindOf_3_0 (1, 180, 0, 101) (List.mem_of_getElem? (i := 0) rfl))
theorem dX12_kindOf_4 : decode cX12_kindOf 4 = .ok (.iload_n 1, 1) := dk27 (BX12_kindOf_1_0 (4, 27) (List.mem_of_getElem? (i := 1) rfl))
theorem dX12_kindOf_5 : decode cX12_kindOf 5 = .ok (.iaload, 1) := dk46 (BX12_kindOf_1_0 (5, 46) (List.mem_of_getElem? (i := 2) rfl))
theorem dX12_kindOf_6 : decode cX12_kindOf 6 = .ok (.ireturn, 1) := dk172 (BX12_kindOf_1_0 (6, 172) (List.mem_of_getElem? (i := 3) rfl))
set_option maxRecDepth 20000 in
theorem ggX12_body_X12_within : GoodIn wsX12_body wsX12_within := goodIn_g ch_wsX12_body_flat gd_wsX12_body _ [(1, 6)] rfl
set_option maxRecDepth 20000 in
theorem gX12_body_X12_within : GoodIn wsX12_body (va_wsS RX12 136 yX12_within wsX12_within) := goodIn_app (goodIn_g ch_wsX12_body_flat gd_wsX12_body _ [(1, 3), (1, 4), (1, 5)] rfl) ggX12_body_X12_within
set_option maxRecDepth 20000 in
theorem SX12_body : ∀ p : Nat, gb cX12_body p = segF [[27, 133, 9, 20, 0, 223, 184, 0, 136, 154, 0, 5, 2, 172, 42, 180, 1, 123, 16, 50, 160, 0, 6, 16, 253, 172, 42, 180, 0, 101, 42, 180, 1, 123, 27, 79, 42, 89, 180, 1, 123, 4, 96, 181, 1, 123, 42, 180, 1, 123, 4, 100, 172]] p := seg_gb (S := [[27, 133, 9, 20, 0, 223, 184, 0, 136, 154, 0, 5, 2, 172, 42, 180, 1, 123, 16, 50, 160, 0, 6, 16, 253, 172, 42, 180, 0, 101, 42, 180, 1, 123, 27, 79, 42, 89, 180, 1, 123, 4, 96, 181, 1, 123, 42, 180, 1, 123, 4, 100, 172]]) (by decide +kernel) (by decide +kernel)
set_option maxRecDepth 20000 in
theorem BX12_body_1_0 : ∀ q ∈ ([(0, 27), (1, 133), (2, 9), (12, 2), (13, 172), (14, 42), (25, 172), (26, 42), (30, 42), (34, 27), (35, 79), (36, 42)] : List (Nat × Nat)), gb cX12_body q.1 = some q.2 := seg_1 SX12_body _ (by decide +kernel)
set_option maxRecDepth 20000 in
theorem BX12_body_1_1 : ∀ q ∈ ([(37, 89), (41, 4), (42, 96), (46, 42), (50, 4), (51, 100), (52, 172)] : List (Nat × Nat)), gb cX12_body q.1 = some q.2 := seg_1 SX12_body _ (by decide +kernel)
set_option maxRecDepth 20000 in
theorem BX12_body_2_0 : ∀ q ∈ ([(18, 16, 50), (23, 16, 253)] : List (Nat × Nat × Nat)), gb cX12_body q.1 = some q.2.1 ∧ gb cX12_body (q.1 + 1) = some q.2.2 := seg_2 SX12_body _ (by decide +kernel)
set_option maxRecDepth 20000 in
theorem BX12_body_3_0 : ∀ q ∈ ([(3, 20, 0, 223), (6, 184, 0, 136), (9, 154, 0, 5), (15, 180, 1, 123), (20, 160, 0, 6), (27, 180, 0, 101), (31, 180, 1, 123), (38, 180, 1, 123), (43, 181, 1, 123), (47, 180, 1, 123)] : List (Nat × Nat × Nat × Nat)), gb cX12_body q.1 = some q.2.1 ∧ gb cX12_body (q.1 + 1) = some q.2.2.1 ∧ gb cX12_body (q.1 + 2) = some q.2.2.2 := seg_3 SX12_body _ (by decide +kernel)
theorem dX12_body_0 : decode cX12_body 0 = .ok (.iload_n 1, 1) := dk27 (BX12_body_1_0 (0, 27) (List.mem_of_getElem? (i := 0) rfl))
theorem dX12_body_1 : decode cX12_body 1 = .ok (.i2l, 1) := dk133 (BX12_body_1_0 (1, 133) (List.mem_of_getElem? (i := 1) rfl))
theorem dX12_body_2 : decode cX12_body 2 = .ok (.lconst 0, 1) := dk9 (BX12_body_1_0 (2, 9) (List.mem_of_getElem? (i := 2) rfl))
theorem dX12_body_3 : decode cX12_body 3 = .ok (.ldc2_w 223, 3) := dk20 0 223 (BX12_body_3_0 (3, 20, 0, 223) (List.mem_of_getElem? (i := 0) rfl))
theorem dX12_body_6 : decode cX12_body 6 = .ok (.invokestatic 136, 3) := dk184 0 136 (BX12_body_3_0 (6, 184, 0, 136) (List.mem_of_getElem? (i := 1) rfl))
theorem dX12_body_9 : decode cX12_body 9 = .ok (.ifCond .ne 5, 3) := dk154 0 5 (BX12_body_3_0 (9, 154, 0, 5) (List.mem_of_getElem? (i := 2) rfl))
theorem dX12_body_12 : decode cX12_body 12 = .ok (.iconst (-1), 1) := dk2 (BX12_body_1_0 (12, 2) (List.mem_of_getElem? (i := 3) rfl))
theorem dX12_body_13 : decode cX12_body 13 = .ok (.ireturn, 1) := dk172 (BX12_body_1_0 (13, 172) (List.mem_of_getElem? (i := 4) rfl))
theorem dX12_body_14 : decode cX12_body 14 = .ok (.aload_n 0, 1) := dk42 (BX12_body_1_0 (14, 42) (List.mem_of_getElem? (i := 5) rfl))
theorem dX12_body_15 : decode cX12_body 15 = .ok (.getfield 379, 3) := dk180 1 123 (BX12_body_3_0 (15, 180, 1, 123) (List.mem_of_getElem? (i := 3) rfl))
theorem dX12_body_18 : decode cX12_body 18 = .ok (.bipush 50, 2) := dk16 50 (BX12_body_2_0 (18, 16, 50) (List.mem_of_getElem? (i := 0) rfl))
theorem dX12_body_20 : decode cX12_body 20 = .ok (.if_icmp .ne 6, 3) := dk160 0 6 (BX12_body_3_0 (20, 160, 0, 6) (List.mem_of_getElem? (i := 4) rfl))
theorem dX12_body_23 : decode cX12_body 23 = .ok (.bipush (-3), 2) := dk16 253 (BX12_body_2_0 (23, 16, 253) (List.mem_of_getElem? (i := 1) rfl))
theorem dX12_body_25 : decode cX12_body 25 = .ok (.ireturn, 1) := dk172 (BX12_body_1_0 (25, 172) (List.mem_of_getElem? (i := 6) rfl))
theorem dX12_body_26 : decode cX12_body 26 = .ok (.aload_n 0, 1) := dk42 (BX12_body_1_0 (26, 42) (List.mem_of_getElem? (i := 7) rfl))
theorem dX12_body_27 : decode cX12_body 27 = .ok (.getfield 101, 3) := dk180 0 101 (BX12_body_3_0 (27, 180, 0, 101) (List.mem_of_getElem? (i := 5) rfl))
theorem dX12_body_30 : decode cX12_body 30 = .ok (.aload_n 0, 1) := dk42 (BX12_body_1_0 (30, 42) (List.mem_of_getElem? (i := 8) rfl))
theorem dX12_body_31 : decode cX12_body 31 = .ok (.getfield 379, 3) := dk180 1 123 (BX12_body_3_0 (31, 180, 1, 123) (List.mem_of_getElem? (i := 6) rfl))
theorem dX12_body_34 : decode cX12_body 34 = .ok (.iload_n 1, 1) := dk27 (BX12_body_1_0 (34, 27) (List.mem_of_getElem? (i := 9) rfl))
theorem dX12_body_35 : decode cX12_body 35 = .ok (.iastore, 1) := dk79 (BX12_body_1_0 (35, 79) (List.mem_of_getElem? (i := 10) rfl))
theorem dX12_body_36 : decode cX12_body 36 = .ok (.aload_n 0, 1) := dk42 (BX12_body_1_0 (36, 42) (List.mem_of_getElem? (i := 11) rfl))
theorem dX12_body_37 : decode cX12_body 37 = .ok (.dup, 1) := dk89 (BX12_body_1_1 (37, 89) (List.mem_of_getElem? (i := 0) rfl))
theorem dX12_body_38 : decode cX12_body 38 = .ok (.getfield 379, 3) := dk180 1 123 (BX12_body_3_0 (38, 180, 1, 123) (List.mem_of_getElem? (i := 7) rfl))
theorem dX12_body_41 : decode cX12_body 41 = .ok (.iconst 1, 1) := dk4 (BX12_body_1_1 (41, 4) (List.mem_of_getElem? (i := 1) rfl))
theorem dX12_body_42 : decode cX12_body 42 = .ok (.iadd, 1) := dk96 (BX12_body_1_1 (42, 96) (List.mem_of_getElem? (i := 2) rfl))
theorem dX12_body_43 : decode cX12_body 43 = .ok (.putfield 379, 3) := dk181 1 123 (BX12_body_3_0 (43, 181, 1, 123) (List.mem_of_getElem? (i := 8) rfl))
theorem dX12_body_46 : decode cX12_body 46 = .ok (.aload_n 0, 1) := dk42 (BX12_body_1_1 (46, 42) (List.mem_of_getElem? (i := 3) rfl))
theorem dX12_body_47 : decode cX12_body 47 = .ok (.getfield 379, 3) := dk180 1 123 (BX12_body_3_0 (47, 180, 1, 123) (List.mem_of_getElem? (i := 9) rfl))
theorem dX12_body_50 : decode cX12_body 50 = .ok (.iconst 1, 1) := dk4 (BX12_body_1_1 (50, 4) (List.mem_of_getElem? (i := 4) rfl))
theorem dX12_body_51 : decode cX12_body 51 = .ok (.isub, 1) := dk100 (BX12_body_1_1 (51, 100) (List.mem_of_getElem? (i := 5) rfl))
theorem dX12_body_52 : decode cX12_body 52 = .ok (.ireturn, 1) := dk172 (BX12_body_1_1 (52, 172) (List.mem_of_getElem? (i := 6) rfl))
set_option maxRecDepth 20000 in
theorem SX12_above : ∀ p : Nat, gb cX12_above p = segF [[26, 6, 160, 0, 7, 4, 167, 0, 24, 26, 7, 160, 0, 7, 5, 167, 0, 15, 26, 16, 7, 160, 0, 8, 16, 6, 167, 0, 4, 3, 172]] p := seg_gb (S := [[26, 6, 160, 0, 7, 4, 167, 0, 24, 26, 7, 160, 0, 7, 5, 167, 0, 15, 26, 16, 7, 160, 0, 8, 16, 6, 167, 0, 4, 3, 172]]) (by decide +kernel) (by decide +kernel)
set_option maxRecDepth 20000 in
theorem BX12_above_1_0 : ∀ q ∈ ([(0, 26), (1, 6), (5, 4), (9, 26), (10, 7), (14, 5), (18, 26), (29, 3), (30, 172)] : List (Nat × Nat)), gb cX12_above q.1 = some q.2 := seg_1 SX12_above _ (by decide +kernel)
set_option maxRecDepth 20000 in
theorem BX12_above_2_0 : ∀ q ∈ ([(19, 16, 7), (24, 16, 6)] : List (Nat × Nat × Nat)), gb cX12_above q.1 = some q.2.1 ∧ gb cX12_above (q.1 + 1) = some q.2.2 := seg_2 SX12_above _ (by decide +kernel)
set_option maxRecDepth 20000 in
theorem BX12_above_3_0 : ∀ q ∈ ([(2, 160, 0, 7), (6, 167, 0, 24), (11, 160, 0, 7), (15, 167, 0, 15), (21, 160, 0, 8), (26, 167, 0, 4)] : List (Nat × Nat × Nat × Nat)), gb cX12_above q.1 = some q.2.1 ∧ gb cX12_above (q.1 + 1) = some q.2.2.1 ∧ gb cX12_above (q.1 + 2) = some q.2.2.2 := seg_3 SX12_above _ (by decide +kernel)
theorem dX12_above_0 : decode cX12_above 0 = .ok (.iload_n 0, 1) := dk26 (BX12_above_1_0 (0, 26) (List.mem_of_getElem? (i := 0) rfl))
theorem dX12_above_1 : decode cX12_above 1 = .ok (.iconst 3, 1) := dk6 (BX12_above_1_0 (1, 6) (List.mem_of_getElem? (i := 1) rfl))
theorem dX12_above_2 : decode cX12_above 2 = .ok (.if_icmp .ne 7, 3) := dk160 0 7 (BX12_above_3_0 (2, 160, 0, 7) (List.mem_of_getElem? (i := 0) rfl))
theorem dX12_above_5 : decode cX12_above 5 = .ok (.iconst 1, 1) := dk4 (BX12_above_1_0 (5, 4) (List.mem_of_getElem? (i := 2) rfl))
theorem dX12_above_6 : decode cX12_above 6 = .ok (.goto 24, 3) := dk167 0 24 (BX12_above_3_0 (6, 167, 0, 24) (List.mem_of_getElem? (i := 1) rfl))
theorem dX12_above_9 : decode cX12_above 9 = .ok (.iload_n 0, 1) := dk26 (BX12_above_1_0 (9, 26) (List.mem_of_getElem? (i := 3) rfl))
theorem dX12_above_10 : decode cX12_above 10 = .ok (.iconst 4, 1) := dk7 (BX12_above_1_0 (10, 7) (List.mem_of_getElem? (i := 4) rfl))
theorem dX12_above_11 : decode cX12_above 11 = .ok (.if_icmp .ne 7, 3) := dk160 0 7 (BX12_above_3_0 (11, 160, 0, 7) (List.mem_of_getElem? (i := 2) rfl))
theorem dX12_above_14 : decode cX12_above 14 = .ok (.iconst 2, 1) := dk5 (BX12_above_1_0 (14, 5) (List.mem_of_getElem? (i := 5) rfl))
theorem dX12_above_15 : decode cX12_above 15 = .ok (.goto 15, 3) := dk167 0 15 (BX12_above_3_0 (15, 167, 0, 15) (List.mem_of_getElem? (i := 3) rfl))
theorem dX12_above_18 : decode cX12_above 18 = .ok (.iload_n 0, 1) := dk26 (BX12_above_1_0 (18, 26) (List.mem_of_getElem? (i := 6) rfl))
theorem dX12_above_19 : decode cX12_above 19 = .ok (.bipush 7, 2) := dk16 7 (BX12_above_2_0 (19, 16, 7) (List.mem_of_getElem? (i := 0) rfl))
theorem dX12_above_21 : decode cX12_above 21 = .ok (.if_icmp .ne 8, 3) := dk160 0 8 (BX12_above_3_0 (21, 160, 0, 8) (List.mem_of_getElem? (i := 4) rfl))
theorem dX12_above_24 : decode cX12_above 24 = .ok (.bipush 6, 2) := dk16 6 (BX12_above_2_0 (24, 16, 6) (List.mem_of_getElem? (i := 1) rfl))
theorem dX12_above_26 : decode cX12_above 26 = .ok (.goto 4, 3) := dk167 0 4 (BX12_above_3_0 (26, 167, 0, 4) (List.mem_of_getElem? (i := 5) rfl))
theorem dX12_above_29 : decode cX12_above 29 = .ok (.iconst 0, 1) := dk3 (BX12_above_1_0 (29, 3) (List.mem_of_getElem? (i := 7) rfl))
theorem dX12_above_30 : decode cX12_above 30 = .ok (.ireturn, 1) := dk172 (BX12_above_1_0 (30, 172) (List.mem_of_getElem? (i := 8) rfl))
set_option maxRecDepth 20000 in
theorem SX12_begins : ∀ p : Nat, gb cX12_begins p = segF [[42, 180, 1, 126, 16, 24, 162, 0, 13, 42, 180, 0, 104, 42, 180, 1, 126, 27, 79, 42, 89, 180, 1, 126, 4, 96, 181, 1, 126, 177]] p := seg_gb (S := [[42, 180, 1, 126, 16, 24, 162, 0, 13, 42, 180, 0, 104, 42, 180, 1, 126, 27, 79, 42, 89, 180, 1, 126, 4, 96, 181, 1, 126, 177]]) (by decide +kernel) (by decide +kernel)
set_option maxRecDepth 20000 in
theorem BX12_begins_1_0 : ∀ q ∈ ([(0, 42), (9, 42), (13, 42), (17, 27), (18, 79), (19, 42), (20, 89), (24, 4), (25, 96), (29, 177)] : List (Nat × Nat)), gb cX12_begins q.1 = some q.2 := seg_1 SX12_begins _ (by decide +kernel)
set_option maxRecDepth 20000 in
theorem BX12_begins_2_0 : ∀ q ∈ ([(4, 16, 24)] : List (Nat × Nat × Nat)), gb cX12_begins q.1 = some q.2.1 ∧ gb cX12_begins (q.1 + 1) = some q.2.2 := seg_2 SX12_begins _ (by decide +kernel)
set_option maxRecDepth 20000 in
theorem BX12_begins_3_0 : ∀ q ∈ ([(1, 180, 1, 126), (6, 162, 0, 13), (10, 180, 0, 104), (14, 180, 1, 126), (21, 180, 1, 126), (26, 181, 1, 126)] : List (Nat × Nat × Nat × Nat)), gb cX12_begins q.1 = some q.2.1 ∧ gb cX12_begins (q.1 + 1) = some q.2.2.1 ∧ gb cX12_begins (q.1 + 2) = some q.2.2.2 := seg_3 SX12_begins _ (by decide +kernel)
theorem dX12_begins_0 : decode cX12_begins 0 = .ok (.aload_n 0, 1) := dk42 (BX12_begins_1_0 (0, 42) (List.mem_of_getElem? (i := 0) rfl))
theorem dX12_begins_1 : decode cX12_begins 1 = .ok (.getfield 382, 3) := dk180 1 126 (BX12_begins_3_0 (1, 180, 1, 126) (List.mem_of_getElem? (i := 0) rfl))
theorem dX12_begins_4 : decode cX12_begins 4 = .ok (.bipush 24, 2) := dk16 24 (BX12_begins_2_0 (4, 16, 24) (List.mem_of_getElem? (i := 0) rfl))
theorem dX12_begins_6 : decode cX12_begins 6 = .ok (.if_icmp .ge 13, 3) := dk162 0 13 (BX12_begins_3_0 (6, 162, 0, 13) (List.mem_of_getElem? (i := 1) rfl))
theorem dX12_begins_9 : decode cX12_begins 9 = .ok (.aload_n 0, 1) := dk42 (BX12_begins_1_0 (9, 42) (List.mem_of_getElem? (i := 1) rfl))
theorem dX12_begins_10 : decode cX12_begins 10 = .ok (.getfield 104, 3) := dk180 0 104 (BX12_begins_3_0 (10, 180, 0, 104) (List.mem_of_getElem? (i := 2) rfl))
theorem dX12_begins_13 : decode cX12_begins 13 = .ok (.aload_n 0, 1) := dk42 (BX12_begins_1_0 (13, 42) (List.mem_of_getElem? (i := 2) rfl))
theorem dX12_begins_14 : decode cX12_begins 14 = .ok (.getfield 382, 3) := dk180 1 126 (BX12_begins_3_0 (14, 180, 1, 126) (List.mem_of_getElem? (i := 3) rfl))
theorem dX12_begins_17 : decode cX12_begins 17 = .ok (.iload_n 1, 1) := dk27 (BX12_begins_1_0 (17, 27) (List.mem_of_getElem? (i := 3) rfl))
theorem dX12_begins_18 : decode cX12_begins 18 = .ok (.iastore, 1) := dk79 (BX12_begins_1_0 (18, 79) (List.mem_of_getElem? (i := 4) rfl))
theorem dX12_begins_19 : decode cX12_begins 19 = .ok (.aload_n 0, 1) := dk42 (BX12_begins_1_0 (19, 42) (List.mem_of_getElem? (i := 5) rfl))
theorem dX12_begins_20 : decode cX12_begins 20 = .ok (.dup, 1) := dk89 (BX12_begins_1_0 (20, 89) (List.mem_of_getElem? (i := 6) rfl))
theorem dX12_begins_21 : decode cX12_begins 21 = .ok (.getfield 382, 3) := dk180 1 126 (BX12_begins_3_0 (21, 180, 1, 126) (List.mem_of_getElem? (i := 4) rfl))
theorem dX12_begins_24 : decode cX12_begins 24 = .ok (.iconst 1, 1) := dk4 (BX12_begins_1_0 (24, 4) (List.mem_of_getElem? (i := 7) rfl))
theorem dX12_begins_25 : decode cX12_begins 25 = .ok (.iadd, 1) := dk96 (BX12_begins_1_0 (25, 96) (List.mem_of_getElem? (i := 8) rfl))
theorem dX12_begins_26 : decode cX12_begins 26 = .ok (.putfield 382, 3) := dk181 1 126 (BX12_begins_3_0 (26, 181, 1, 126) (List.mem_of_getElem? (i := 5) rfl))
theorem dX12_begins_29 : decode cX12_begins 29 = .ok (.return_, 1) := dk177 (BX12_begins_1_0 (29, 177) (List.mem_of_getElem? (i := 9) rfl))
set_option maxRecDepth 20000 in
theorem ggX12_liesAs_X12_begins : GoodIn wsX12_liesAs wsX12_begins := gcons (goodIn_g ch_wsX12_liesAs_flat gd_wsX12_liesAs _ [(1, 5)] rfl) (goodIn_app (goodIn_g ch_wsX12_liesAs_flat gd_wsX12_liesAs _ [(1, 6), (1, 7)] rfl) (gchunk ch_wsX12_liesAs_flat gd_wsX12_liesAs 2 rfl))
set_option maxRecDepth 20000 in
theorem gX12_liesAs_X12_begins : GoodIn wsX12_liesAs (wsV RX12 385 RX12 yX12_begins wsX12_begins) := goodIn_app (goodIn_g ch_wsX12_liesAs_flat gd_wsX12_liesAs _ [(1, 1), (1, 2), (1, 3), (1, 4)] rfl) ggX12_liesAs_X12_begins
set_option maxRecDepth 20000 in
theorem ggX12_liesAs_X12_liesAs : GoodIn wsX12_liesAs wsX12_liesAs := gcons (goodIn_g ch_wsX12_liesAs_flat gd_wsX12_liesAs _ [(0, 0)] rfl) (goodIn_app (goodIn_g ch_wsX12_liesAs_flat gd_wsX12_liesAs _ [(1, 0), (1, 1), (1, 2), (1, 3), (1, 4), (1, 5), (1, 6), (1, 7), (1, 8), (1, 9), (1, 10)] rfl) (gchunk ch_wsX12_liesAs_flat gd_wsX12_liesAs 2 rfl))
set_option maxRecDepth 20000 in
theorem gX12_liesAs_X12_liesAs : GoodIn wsX12_liesAs (wsV RX12 389 RX12 yX12_liesAs wsX12_liesAs) := goodIn_app (goodIn_g ch_wsX12_liesAs_flat gd_wsX12_liesAs _ [(1, 8), (1, 9), (1, 10), (1, 4)] rfl) ggX12_liesAs_X12_liesAs
set_option maxRecDepth 20000 in
theorem SX12_liesAs : ∀ p : Nat, gb cX12_liesAs p = segF [[27, 4, 159, 0, 8, 27, 6, 160, 0, 18, 42, 16, 20, 182, 1, 129, 42, 3, 28, 182, 1, 133, 6, 96, 172, 27, 16, 6, 159, 0, 9, 27, 16, 7, 160, 0, 18, 42, 16, 70, 182, 1, 129, 42, 3, 28, 182, 1, 133, 5, 104, 172, 42, 4, 182, 1, 129, 28, 42, 180, 1, 136, 96, 172]] p := seg_gb (S := [[27, 4, 159, 0, 8, 27, 6, 160, 0, 18, 42, 16, 20, 182, 1, 129, 42, 3, 28, 182, 1, 133, 6, 96, 172, 27, 16, 6, 159, 0, 9, 27, 16, 7, 160, 0, 18, 42, 16, 70, 182, 1, 129, 42, 3, 28, 182, 1, 133, 5, 104, 172, 42, 4, 182, 1, 129, 28, 42, 180, 1, 136, 96, 172]]) (by decide +kernel) (by decide +kernel)
set_option maxRecDepth 20000 in
theorem BX12_liesAs_1_0 : ∀ q ∈ ([(0, 27), (1, 4), (5, 27), (6, 6), (10, 42), (16, 42), (17, 3), (18, 28), (22, 6), (23, 96), (24, 172), (25, 27)] : List (Nat × Nat)), gb cX12_liesAs q.1 = some q.2 := seg_1 SX12_liesAs _ (by decide +kernel)
set_option maxRecDepth 20000 in
theorem BX12_liesAs_1_1 : ∀ q ∈ ([(31, 27), (37, 42), (43, 42), (44, 3), (45, 28), (49, 5), (50, 104), (51, 172), (52, 42), (53, 4), (57, 28), (58, 42)] : List (Nat × Nat)), gb cX12_liesAs q.1 = some q.2 := seg_1 SX12_liesAs _ (by decide +kernel)
set_option maxRecDepth 20000 in
theorem BX12_liesAs_1_2 : ∀ q ∈ ([(62, 96), (63, 172)] : List (Nat × Nat)), gb cX12_liesAs q.1 = some q.2 := seg_1 SX12_liesAs _ (by decide +kernel)
set_option maxRecDepth 20000 in
theorem BX12_liesAs_2_0 : ∀ q ∈ ([(11, 16, 20), (26, 16, 6), (32, 16, 7), (38, 16, 70)] : List (Nat × Nat × Nat)), gb cX12_liesAs q.1 = some q.2.1 ∧ gb cX12_liesAs (q.1 + 1) = some q.2.2 := seg_2 SX12_liesAs _ (by decide +kernel)
set_option maxRecDepth 20000 in
theorem BX12_liesAs_3_0 : ∀ q ∈ ([(2, 159, 0, 8), (7, 160, 0, 18), (13, 182, 1, 129), (19, 182, 1, 133), (28, 159, 0, 9), (34, 160, 0, 18), (40, 182, 1, 129), (46, 182, 1, 133), (54, 182, 1, 129), (59, 180, 1, 136)] : List (Nat × Nat × Nat × Nat)), gb cX12_liesAs q.1 = some q.2.1 ∧ gb cX12_liesAs (q.1 + 1) = some q.2.2.1 ∧ gb cX12_liesAs (q.1 + 2) = some q.2.2.2 := seg_3 SX12_liesAs _ (by decide +kernel)
theorem dX12_liesAs_0 : decode cX12_liesAs 0 = .ok (.iload_n 1, 1) := dk27 (BX12_liesAs_1_0 (0, 27) (List.mem_of_getElem? (i := 0) rfl))
theorem dX12_liesAs_1 : decode cX12_liesAs 1 = .ok (.iconst 1, 1) := dk4 (BX12_liesAs_1_0 (1, 4) (List.mem_of_getElem? (i := 1) rfl))
theorem dX12_liesAs_2 : decode cX12_liesAs 2 = .ok (.if_icmp .eq 8, 3) := dk159 0 8 (BX12_liesAs_3_0 (2, 159, 0, 8) (List.mem_of_getElem? (i := 0) rfl))
theorem dX12_liesAs_5 : decode cX12_liesAs 5 = .ok (.iload_n 1, 1) := dk27 (BX12_liesAs_1_0 (5, 27) (List.mem_of_getElem? (i := 2) rfl))
theorem dX12_liesAs_6 : decode cX12_liesAs 6 = .ok (.iconst 3, 1) := dk6 (BX12_liesAs_1_0 (6, 6) (List.mem_of_getElem? (i := 3) rfl))
theorem dX12_liesAs_7 : decode cX12_liesAs 7 = .ok (.if_icmp .ne 18, 3) := dk160 0 18 (BX12_liesAs_3_0 (7, 160, 0, 18) (List.mem_of_getElem? (i := 1) rfl))
theorem dX12_liesAs_10 : decode cX12_liesAs 10 = .ok (.aload_n 0, 1) := dk42 (BX12_liesAs_1_0 (10, 42) (List.mem_of_getElem? (i := 4) rfl))
theorem dX12_liesAs_11 : decode cX12_liesAs 11 = .ok (.bipush 20, 2) := dk16 20 (BX12_liesAs_2_0 (11, 16, 20) (List.mem_of_getElem? (i := 0) rfl))
theorem dX12_liesAs_13 : decode cX12_liesAs 13 = .ok (.invokevirtual 385, 3) := dk182 1 129 (BX12_liesAs_3_0 (13, 182, 1, 129) (List.mem_of_getElem? (i := 2) rfl))
theorem dX12_liesAs_16 : decode cX12_liesAs 16 = .ok (.aload_n 0, 1) := dk42 (BX12_liesAs_1_0 (16, 42) (List.mem_of_getElem? (i := 5) rfl))
theorem dX12_liesAs_17 : decode cX12_liesAs 17 = .ok (.iconst 0, 1) := dk3 (BX12_liesAs_1_0 (17, 3) (List.mem_of_getElem? (i := 6) rfl))
theorem dX12_liesAs_18 : decode cX12_liesAs 18 = .ok (.iload_n 2, 1) := dk28 (BX12_liesAs_1_0 (18, 28) (List.mem_of_getElem? (i := 7) rfl))
theorem dX12_liesAs_19 : decode cX12_liesAs 19 = .ok (.invokevirtual 389, 3) := dk182 1 133 (BX12_liesAs_3_0 (19, 182, 1, 133) (List.mem_of_getElem? (i := 3) rfl))
theorem dX12_liesAs_22 : decode cX12_liesAs 22 = .ok (.iconst 3, 1) := dk6 (BX12_liesAs_1_0 (22, 6) (List.mem_of_getElem? (i := 8) rfl))
theorem dX12_liesAs_23 : decode cX12_liesAs 23 = .ok (.iadd, 1) := dk96 (BX12_liesAs_1_0 (23, 96) (List.mem_of_getElem? (i := 9) rfl))
theorem dX12_liesAs_24 : decode cX12_liesAs 24 = .ok (.ireturn, 1) := dk172 (BX12_liesAs_1_0 (24, 172) (List.mem_of_getElem? (i := 10) rfl))
theorem dX12_liesAs_25 : decode cX12_liesAs 25 = .ok (.iload_n 1, 1) := dk27 (BX12_liesAs_1_0 (25, 27) (List.mem_of_getElem? (i := 11) rfl))
theorem dX12_liesAs_26 : decode cX12_liesAs 26 = .ok (.bipush 6, 2) := dk16 6 (BX12_liesAs_2_0 (26, 16, 6) (List.mem_of_getElem? (i := 1) rfl))
theorem dX12_liesAs_28 : decode cX12_liesAs 28 = .ok (.if_icmp .eq 9, 3) := dk159 0 9 (BX12_liesAs_3_0 (28, 159, 0, 9) (List.mem_of_getElem? (i := 4) rfl))
theorem dX12_liesAs_31 : decode cX12_liesAs 31 = .ok (.iload_n 1, 1) := dk27 (BX12_liesAs_1_1 (31, 27) (List.mem_of_getElem? (i := 0) rfl))
theorem dX12_liesAs_32 : decode cX12_liesAs 32 = .ok (.bipush 7, 2) := dk16 7 (BX12_liesAs_2_0 (32, 16, 7) (List.mem_of_getElem? (i := 2) rfl))
theorem dX12_liesAs_34 : decode cX12_liesAs 34 = .ok (.if_icmp .ne 18, 3) := dk160 0 18 (BX12_liesAs_3_0 (34, 160, 0, 18) (List.mem_of_getElem? (i := 5) rfl))
theorem dX12_liesAs_37 : decode cX12_liesAs 37 = .ok (.aload_n 0, 1) := dk42 (BX12_liesAs_1_1 (37, 42) (List.mem_of_getElem? (i := 1) rfl))
theorem dX12_liesAs_38 : decode cX12_liesAs 38 = .ok (.bipush 70, 2) := dk16 70 (BX12_liesAs_2_0 (38, 16, 70) (List.mem_of_getElem? (i := 3) rfl))
theorem dX12_liesAs_40 : decode cX12_liesAs 40 = .ok (.invokevirtual 385, 3) := dk182 1 129 (BX12_liesAs_3_0 (40, 182, 1, 129) (List.mem_of_getElem? (i := 6) rfl))
theorem dX12_liesAs_43 : decode cX12_liesAs 43 = .ok (.aload_n 0, 1) := dk42 (BX12_liesAs_1_1 (43, 42) (List.mem_of_getElem? (i := 2) rfl))
theorem dX12_liesAs_44 : decode cX12_liesAs 44 = .ok (.iconst 0, 1) := dk3 (BX12_liesAs_1_1 (44, 3) (List.mem_of_getElem? (i := 3) rfl))
theorem dX12_liesAs_45 : decode cX12_liesAs 45 = .ok (.iload_n 2, 1) := dk28 (BX12_liesAs_1_1 (45, 28) (List.mem_of_getElem? (i := 4) rfl))
theorem dX12_liesAs_46 : decode cX12_liesAs 46 = .ok (.invokevirtual 389, 3) := dk182 1 133 (BX12_liesAs_3_0 (46, 182, 1, 133) (List.mem_of_getElem? (i := 7) rfl))
theorem dX12_liesAs_49 : decode cX12_liesAs 49 = .ok (.iconst 2, 1) := dk5 (BX12_liesAs_1_1 (49, 5) (List.mem_of_getElem? (i := 5) rfl))
theorem dX12_liesAs_50 : decode cX12_liesAs 50 = .ok (.imul, 1) := dk104 (BX12_liesAs_1_1 (50, 104) (List.mem_of_getElem? (i := 6) rfl))
theorem dX12_liesAs_51 : decode cX12_liesAs 51 = .ok (.ireturn, 1) := dk172 (BX12_liesAs_1_1 (51, 172) (List.mem_of_getElem? (i := 7) rfl))
theorem dX12_liesAs_52 : decode cX12_liesAs 52 = .ok (.aload_n 0, 1) := dk42 (BX12_liesAs_1_1 (52, 42) (List.mem_of_getElem? (i := 8) rfl))
theorem dX12_liesAs_53 : decode cX12_liesAs 53 = .ok (.iconst 1, 1) := dk4 (BX12_liesAs_1_1 (53, 4) (List.mem_of_getElem? (i := 9) rfl))
theorem dX12_liesAs_54 : decode cX12_liesAs 54 = .ok (.invokevirtual 385, 3) := dk182 1 129 (BX12_liesAs_3_0 (54, 182, 1, 129) (List.mem_of_getElem? (i := 8) rfl))
theorem dX12_liesAs_57 : decode cX12_liesAs 57 = .ok (.iload_n 2, 1) := dk28 (BX12_liesAs_1_1 (57, 28) (List.mem_of_getElem? (i := 10) rfl))
theorem dX12_liesAs_58 : decode cX12_liesAs 58 = .ok (.aload_n 0, 1) := dk42 (BX12_liesAs_1_1 (58, 42) (List.mem_of_getElem? (i := 11) rfl))
theorem dX12_liesAs_59 : decode cX12_liesAs 59 = .ok (.getfield 392, 3) := dk180 1 136 (BX12_liesAs_3_0 (59, 180, 1, 136) (List.mem_of_getElem? (i := 9) rfl))
theorem dX12_liesAs_62 : decode cX12_liesAs 62 = .ok (.iadd, 1) := dk96 (BX12_liesAs_1_2 (62, 96) (List.mem_of_getElem? (i := 0) rfl))
theorem dX12_liesAs_63 : decode cX12_liesAs 63 = .ok (.ireturn, 1) := dk172 (BX12_liesAs_1_2 (63, 172) (List.mem_of_getElem? (i := 1) rfl))
set_option maxRecDepth 20000 in
theorem ggX12_needsAs_X12_begins : GoodIn wsX12_needsAs wsX12_begins := gcons (goodIn_g ch_wsX12_needsAs_flat gd_wsX12_needsAs _ [(1, 5)] rfl) (goodIn_app (goodIn_g ch_wsX12_needsAs_flat gd_wsX12_needsAs _ [(1, 6), (1, 7)] rfl) (gchunk ch_wsX12_needsAs_flat gd_wsX12_needsAs 2 rfl))
set_option maxRecDepth 20000 in
theorem gX12_needsAs_X12_begins : GoodIn wsX12_needsAs (wsV RX12 385 RX12 yX12_begins wsX12_begins) := goodIn_app (goodIn_g ch_wsX12_needsAs_flat gd_wsX12_needsAs _ [(1, 1), (1, 2), (1, 3), (1, 4)] rfl) ggX12_needsAs_X12_begins
set_option maxRecDepth 20000 in
theorem ggX12_needsAs_X12_needsAs : GoodIn wsX12_needsAs wsX12_needsAs := gcons (goodIn_g ch_wsX12_needsAs_flat gd_wsX12_needsAs _ [(0, 0)] rfl) (goodIn_app (goodIn_g ch_wsX12_needsAs_flat gd_wsX12_needsAs _ [(1, 0), (1, 1), (1, 2), (1, 3), (1, 4), (1, 5), (1, 6), (1, 7), (1, 8), (1, 9), (1, 10), (1, 11), (1, 12), (1, 13), (1, 14), (1, 15), (1, 16), (1, 17), (1, 18), (1, 19)] rfl) (gchunk ch_wsX12_needsAs_flat gd_wsX12_needsAs 2 rfl))
set_option maxRecDepth 20000 in
theorem gX12_needsAs_X12_needsAs : GoodIn wsX12_needsAs (wsV RX12 395 RX12 yX12_needsAs wsX12_needsAs) := goodIn_app (goodIn_g ch_wsX12_needsAs_flat gd_wsX12_needsAs _ [(1, 8), (1, 9), (1, 10), (1, 4)] rfl) ggX12_needsAs_X12_needsAs
set_option maxRecDepth 20000 in
theorem ggX12_needsAs_X12_showsAs : GoodIn wsX12_needsAs wsX12_showsAs := gcons (goodIn_g ch_wsX12_needsAs_flat gd_wsX12_needsAs _ [(1, 14)] rfl) (goodIn_app (goodIn_g ch_wsX12_needsAs_flat gd_wsX12_needsAs _ [(1, 0), (1, 15), (1, 1), (1, 2), (1, 3), (1, 4), (1, 5), (1, 6), (1, 7), (1, 11), (1, 12), (1, 13), (1, 16), (1, 17), (1, 18), (1, 19)] rfl) (gchunk ch_wsX12_needsAs_flat gd_wsX12_needsAs 2 rfl))
set_option maxRecDepth 20000 in
theorem gX12_needsAs_X12_showsAs : GoodIn wsX12_needsAs (wsV RX12 401 RX12 yX12_showsAs wsX12_showsAs) := goodIn_app (goodIn_g ch_wsX12_needsAs_flat gd_wsX12_needsAs _ [(1, 11), (1, 12), (1, 13), (1, 4)] rfl) ggX12_needsAs_X12_showsAs
set_option maxRecDepth 20000 in
theorem ggX12_needsAs_X12_liesAs : GoodIn wsX12_needsAs wsX12_liesAs := gcons (goodIn_g ch_wsX12_needsAs_flat gd_wsX12_needsAs _ [(1, 19)] rfl) (goodIn_app (goodIn_g ch_wsX12_needsAs_flat gd_wsX12_needsAs _ [(1, 15), (1, 1), (1, 2), (1, 3), (1, 4), (1, 5), (1, 6), (1, 7), (1, 16), (1, 17), (1, 18)] rfl) (gchunk ch_wsX12_needsAs_flat gd_wsX12_needsAs 2 rfl))
set_option maxRecDepth 20000 in
theorem gX12_needsAs_X12_liesAs : GoodIn wsX12_needsAs (wsV RX12 389 RX12 yX12_liesAs wsX12_liesAs) := goodIn_app (goodIn_g ch_wsX12_needsAs_flat gd_wsX12_needsAs _ [(1, 16), (1, 17), (1, 18), (1, 4)] rfl) ggX12_needsAs_X12_liesAs
set_option maxRecDepth 20000 in
theorem SX12_needsAs : ∀ p : Nat, gb cX12_needsAs p = segF [[27, 7, 160, 0, 18, 42, 16, 51, 182, 1, 129, 42, 5, 28, 4, 96, 182, 1, 139, 172, 27, 5, 160, 0, 17, 42, 16, 30, 182, 1, 129, 42, 3, 28, 182, 1, 139, 116, 172, 27, 16, 7, 160, 0, 29, 42, 16, 80, 182, 1, 129, 42, 16, 6, 28, 182, 1, 139, 62, 29, 42, 42, 180, 1], [142, 5, 182, 1, 145, 96, 172, 42, 16, 10, 182, 1, 129, 42, 42, 180, 1, 142, 28, 182, 1, 133, 5, 104, 172]] p := seg_gb (S := [[27, 7, 160, 0, 18, 42, 16, 51, 182, 1, 129, 42, 5, 28, 4, 96, 182, 1, 139, 172, 27, 5, 160, 0, 17, 42, 16, 30, 182, 1, 129, 42, 3, 28, 182, 1, 139, 116, 172, 27, 16, 7, 160, 0, 29, 42, 16, 80, 182, 1, 129, 42, 16, 6, 28, 182, 1, 139, 62, 29, 42, 42, 180, 1], [142, 5, 182, 1, 145, 96, 172, 42, 16, 10, 182, 1, 129, 42, 42, 180, 1, 142, 28, 182, 1, 133, 5, 104, 172]]) (by decide +kernel) (by decide +kernel)
set_option maxRecDepth 20000 in
theorem BX12_needsAs_1_0 : ∀ q ∈ ([(0, 27), (1, 7), (5, 42), (11, 42), (12, 5), (13, 28), (14, 4), (15, 96), (19, 172), (20, 27), (21, 5), (25, 42)] : List (Nat × Nat)), gb cX12_needsAs q.1 = some q.2 := seg_1 SX12_needsAs _ (by decide +kernel)
set_option maxRecDepth 20000 in
theorem BX12_needsAs_1_1 : ∀ q ∈ ([(31, 42), (32, 3), (33, 28), (37, 116), (38, 172), (39, 27), (45, 42), (51, 42), (54, 28), (58, 62), (59, 29), (60, 42)] : List (Nat × Nat)), gb cX12_needsAs q.1 = some q.2 := seg_1 SX12_needsAs _ (by decide +kernel)
set_option maxRecDepth 20000 in
theorem BX12_needsAs_1_2 : ∀ q ∈ ([(61, 42), (65, 5), (69, 96), (70, 172), (71, 42), (77, 42), (78, 42), (82, 28), (86, 5), (87, 104), (88, 172)] : List (Nat × Nat)), gb cX12_needsAs q.1 = some q.2 := seg_1 SX12_needsAs _ (by decide +kernel)
set_option maxRecDepth 20000 in
theorem BX12_needsAs_2_0 : ∀ q ∈ ([(6, 16, 51), (26, 16, 30), (40, 16, 7), (46, 16, 80), (52, 16, 6), (72, 16, 10)] : List (Nat × Nat × Nat)), gb cX12_needsAs q.1 = some q.2.1 ∧ gb cX12_needsAs (q.1 + 1) = some q.2.2 := seg_2 SX12_needsAs _ (by decide +kernel)
set_option maxRecDepth 20000 in
theorem BX12_needsAs_3_0 : ∀ q ∈ ([(2, 160, 0, 18), (8, 182, 1, 129), (16, 182, 1, 139), (22, 160, 0, 17), (28, 182, 1, 129), (34, 182, 1, 139), (42, 160, 0, 29), (48, 182, 1, 129), (55, 182, 1, 139), (62, 180, 1, 142), (66, 182, 1, 145), (74, 182, 1, 129)] : List (Nat × Nat × Nat × Nat)), gb cX12_needsAs q.1 = some q.2.1 ∧ gb cX12_needsAs (q.1 + 1) = some q.2.2.1 ∧ gb cX12_needsAs (q.1 + 2) = some q.2.2.2 := seg_3 SX12_needsAs _ (by decide +kernel)
set_option maxRecDepth 20000 in
theorem BX12_needsAs_3_1 : ∀ q ∈ ([(79, 180, 1, 142), (83, 182, 1, 133)] : List (Nat × Nat × Nat × Nat)), gb cX12_needsAs q.1 = some q.2.1 ∧ gb cX12_needsAs (q.1 + 1) = some q.2.2.1 ∧ gb cX12_needsAs (q.1 + 2) = some q.2.2.2 := seg_3 SX12_needsAs _ (by decide +kernel)
theorem dX12_needsAs_0 : decode cX12_needsAs 0 = .ok (.iload_n 1, 1) := dk27 (BX12_needsAs_1_0 (0, 27) (List.mem_of_getElem? (i := 0) rfl))
theorem dX12_needsAs_1 : decode cX12_needsAs 1 = .ok (.iconst 4, 1) := dk7 (BX12_needsAs_1_0 (1, 7) (List.mem_of_getElem? (i := 1) rfl))
theorem dX12_needsAs_2 : decode cX12_needsAs 2 = .ok (.if_icmp .ne 18, 3) := dk160 0 18 (BX12_needsAs_3_0 (2, 160, 0, 18) (List.mem_of_getElem? (i := 0) rfl))
theorem dX12_needsAs_5 : decode cX12_needsAs 5 = .ok (.aload_n 0, 1) := dk42 (BX12_needsAs_1_0 (5, 42) (List.mem_of_getElem? (i := 2) rfl))
theorem dX12_needsAs_6 : decode cX12_needsAs 6 = .ok (.bipush 51, 2) := dk16 51 (BX12_needsAs_2_0 (6, 16, 51) (List.mem_of_getElem? (i := 0) rfl))
theorem dX12_needsAs_8 : decode cX12_needsAs 8 = .ok (.invokevirtual 385, 3) := dk182 1 129 (BX12_needsAs_3_0 (8, 182, 1, 129) (List.mem_of_getElem? (i := 1) rfl))
theorem dX12_needsAs_11 : decode cX12_needsAs 11 = .ok (.aload_n 0, 1) := dk42 (BX12_needsAs_1_0 (11, 42) (List.mem_of_getElem? (i := 3) rfl))
theorem dX12_needsAs_12 : decode cX12_needsAs 12 = .ok (.iconst 2, 1) := dk5 (BX12_needsAs_1_0 (12, 5) (List.mem_of_getElem? (i := 4) rfl))
theorem dX12_needsAs_13 : decode cX12_needsAs 13 = .ok (.iload_n 2, 1) := dk28 (BX12_needsAs_1_0 (13, 28) (List.mem_of_getElem? (i := 5) rfl))
theorem dX12_needsAs_14 : decode cX12_needsAs 14 = .ok (.iconst 1, 1) := dk4 (BX12_needsAs_1_0 (14, 4) (List.mem_of_getElem? (i := 6) rfl))
theorem dX12_needsAs_15 : decode cX12_needsAs 15 = .ok (.iadd, 1) := dk96 (BX12_needsAs_1_0 (15, 96) (List.mem_of_getElem? (i := 7) rfl))
theorem dX12_needsAs_16 : decode cX12_needsAs 16 = .ok (.invokevirtual 395, 3) := dk182 1 139 (BX12_needsAs_3_0 (16, 182, 1, 139) (List.mem_of_getElem? (i := 2) rfl))
theorem dX12_needsAs_19 : decode cX12_needsAs 19 = .ok (.ireturn, 1) := dk172 (BX12_needsAs_1_0 (19, 172) (List.mem_of_getElem? (i := 8) rfl))
theorem dX12_needsAs_20 : decode cX12_needsAs 20 = .ok (.iload_n 1, 1) := dk27 (BX12_needsAs_1_0 (20, 27) (List.mem_of_getElem? (i := 9) rfl))
theorem dX12_needsAs_21 : decode cX12_needsAs 21 = .ok (.iconst 2, 1) := dk5 (BX12_needsAs_1_0 (21, 5) (List.mem_of_getElem? (i := 10) rfl))
theorem dX12_needsAs_22 : decode cX12_needsAs 22 = .ok (.if_icmp .ne 17, 3) := dk160 0 17 (BX12_needsAs_3_0 (22, 160, 0, 17) (List.mem_of_getElem? (i := 3) rfl))
theorem dX12_needsAs_25 : decode cX12_needsAs 25 = .ok (.aload_n 0, 1) := dk42 (BX12_needsAs_1_0 (25, 42) (List.mem_of_getElem? (i := 11) rfl))
theorem dX12_needsAs_26 : decode cX12_needsAs 26 = .ok (.bipush 30, 2) := dk16 30 (BX12_needsAs_2_0 (26, 16, 30) (List.mem_of_getElem? (i := 1) rfl))
theorem dX12_needsAs_28 : decode cX12_needsAs 28 = .ok (.invokevirtual 385, 3) := dk182 1 129 (BX12_needsAs_3_0 (28, 182, 1, 129) (List.mem_of_getElem? (i := 4) rfl))
theorem dX12_needsAs_31 : decode cX12_needsAs 31 = .ok (.aload_n 0, 1) := dk42 (BX12_needsAs_1_1 (31, 42) (List.mem_of_getElem? (i := 0) rfl))
theorem dX12_needsAs_32 : decode cX12_needsAs 32 = .ok (.iconst 0, 1) := dk3 (BX12_needsAs_1_1 (32, 3) (List.mem_of_getElem? (i := 1) rfl))
theorem dX12_needsAs_33 : decode cX12_needsAs 33 = .ok (.iload_n 2, 1) := dk28 (BX12_needsAs_1_1 (33, 28) (List.mem_of_getElem? (i := 2) rfl))
theorem dX12_needsAs_34 : decode cX12_needsAs 34 = .ok (.invokevirtual 395, 3) := dk182 1 139 (BX12_needsAs_3_0 (34, 182, 1, 139) (List.mem_of_getElem? (i := 5) rfl))
theorem dX12_needsAs_37 : decode cX12_needsAs 37 = .ok (.ineg, 1) := dk116 (BX12_needsAs_1_1 (37, 116) (List.mem_of_getElem? (i := 3) rfl))
theorem dX12_needsAs_38 : decode cX12_needsAs 38 = .ok (.ireturn, 1) := dk172 (BX12_needsAs_1_1 (38, 172) (List.mem_of_getElem? (i := 4) rfl))
theorem dX12_needsAs_39 : decode cX12_needsAs 39 = .ok (.iload_n 1, 1) := dk27 (BX12_needsAs_1_1 (39, 27) (List.mem_of_getElem? (i := 5) rfl))
theorem dX12_needsAs_40 : decode cX12_needsAs 40 = .ok (.bipush 7, 2) := dk16 7 (BX12_needsAs_2_0 (40, 16, 7) (List.mem_of_getElem? (i := 2) rfl))
theorem dX12_needsAs_42 : decode cX12_needsAs 42 = .ok (.if_icmp .ne 29, 3) := dk160 0 29 (BX12_needsAs_3_0 (42, 160, 0, 29) (List.mem_of_getElem? (i := 6) rfl))
theorem dX12_needsAs_45 : decode cX12_needsAs 45 = .ok (.aload_n 0, 1) := dk42 (BX12_needsAs_1_1 (45, 42) (List.mem_of_getElem? (i := 6) rfl))
theorem dX12_needsAs_46 : decode cX12_needsAs 46 = .ok (.bipush 80, 2) := dk16 80 (BX12_needsAs_2_0 (46, 16, 80) (List.mem_of_getElem? (i := 3) rfl))
theorem dX12_needsAs_48 : decode cX12_needsAs 48 = .ok (.invokevirtual 385, 3) := dk182 1 129 (BX12_needsAs_3_0 (48, 182, 1, 129) (List.mem_of_getElem? (i := 7) rfl))
theorem dX12_needsAs_51 : decode cX12_needsAs 51 = .ok (.aload_n 0, 1) := dk42 (BX12_needsAs_1_1 (51, 42) (List.mem_of_getElem? (i := 7) rfl))
theorem dX12_needsAs_52 : decode cX12_needsAs 52 = .ok (.bipush 6, 2) := dk16 6 (BX12_needsAs_2_0 (52, 16, 6) (List.mem_of_getElem? (i := 4) rfl))
theorem dX12_needsAs_54 : decode cX12_needsAs 54 = .ok (.iload_n 2, 1) := dk28 (BX12_needsAs_1_1 (54, 28) (List.mem_of_getElem? (i := 8) rfl))
theorem dX12_needsAs_55 : decode cX12_needsAs 55 = .ok (.invokevirtual 395, 3) := dk182 1 139 (BX12_needsAs_3_0 (55, 182, 1, 139) (List.mem_of_getElem? (i := 8) rfl))
theorem dX12_needsAs_58 : decode cX12_needsAs 58 = .ok (.istore_n 3, 1) := dk62 (BX12_needsAs_1_1 (58, 62) (List.mem_of_getElem? (i := 9) rfl))
theorem dX12_needsAs_59 : decode cX12_needsAs 59 = .ok (.iload_n 3, 1) := dk29 (BX12_needsAs_1_1 (59, 29) (List.mem_of_getElem? (i := 10) rfl))
theorem dX12_needsAs_60 : decode cX12_needsAs 60 = .ok (.aload_n 0, 1) := dk42 (BX12_needsAs_1_1 (60, 42) (List.mem_of_getElem? (i := 11) rfl))
theorem dX12_needsAs_61 : decode cX12_needsAs 61 = .ok (.aload_n 0, 1) := dk42 (BX12_needsAs_1_2 (61, 42) (List.mem_of_getElem? (i := 0) rfl))
theorem dX12_needsAs_62 : decode cX12_needsAs 62 = .ok (.getfield 398, 3) := dk180 1 142 (BX12_needsAs_3_0 (62, 180, 1, 142) (List.mem_of_getElem? (i := 9) rfl))
theorem dX12_needsAs_65 : decode cX12_needsAs 65 = .ok (.iconst 2, 1) := dk5 (BX12_needsAs_1_2 (65, 5) (List.mem_of_getElem? (i := 1) rfl))
theorem dX12_needsAs_66 : decode cX12_needsAs 66 = .ok (.invokevirtual 401, 3) := dk182 1 145 (BX12_needsAs_3_0 (66, 182, 1, 145) (List.mem_of_getElem? (i := 10) rfl))
theorem dX12_needsAs_69 : decode cX12_needsAs 69 = .ok (.iadd, 1) := dk96 (BX12_needsAs_1_2 (69, 96) (List.mem_of_getElem? (i := 2) rfl))
theorem dX12_needsAs_70 : decode cX12_needsAs 70 = .ok (.ireturn, 1) := dk172 (BX12_needsAs_1_2 (70, 172) (List.mem_of_getElem? (i := 3) rfl))
theorem dX12_needsAs_71 : decode cX12_needsAs 71 = .ok (.aload_n 0, 1) := dk42 (BX12_needsAs_1_2 (71, 42) (List.mem_of_getElem? (i := 4) rfl))
theorem dX12_needsAs_72 : decode cX12_needsAs 72 = .ok (.bipush 10, 2) := dk16 10 (BX12_needsAs_2_0 (72, 16, 10) (List.mem_of_getElem? (i := 5) rfl))
theorem dX12_needsAs_74 : decode cX12_needsAs 74 = .ok (.invokevirtual 385, 3) := dk182 1 129 (BX12_needsAs_3_0 (74, 182, 1, 129) (List.mem_of_getElem? (i := 11) rfl))
theorem dX12_needsAs_77 : decode cX12_needsAs 77 = .ok (.aload_n 0, 1) := dk42 (BX12_needsAs_1_2 (77, 42) (List.mem_of_getElem? (i := 5) rfl))
theorem dX12_needsAs_78 : decode cX12_needsAs 78 = .ok (.aload_n 0, 1) := dk42 (BX12_needsAs_1_2 (78, 42) (List.mem_of_getElem? (i := 6) rfl))
theorem dX12_needsAs_79 : decode cX12_needsAs 79 = .ok (.getfield 398, 3) := dk180 1 142 (BX12_needsAs_3_1 (79, 180, 1, 142) (List.mem_of_getElem? (i := 0) rfl))
theorem dX12_needsAs_82 : decode cX12_needsAs 82 = .ok (.iload_n 2, 1) := dk28 (BX12_needsAs_1_2 (82, 28) (List.mem_of_getElem? (i := 7) rfl))
theorem dX12_needsAs_83 : decode cX12_needsAs 83 = .ok (.invokevirtual 389, 3) := dk182 1 133 (BX12_needsAs_3_1 (83, 182, 1, 133) (List.mem_of_getElem? (i := 1) rfl))
theorem dX12_needsAs_86 : decode cX12_needsAs 86 = .ok (.iconst 2, 1) := dk5 (BX12_needsAs_1_2 (86, 5) (List.mem_of_getElem? (i := 8) rfl))
theorem dX12_needsAs_87 : decode cX12_needsAs 87 = .ok (.imul, 1) := dk104 (BX12_needsAs_1_2 (87, 104) (List.mem_of_getElem? (i := 9) rfl))
theorem dX12_needsAs_88 : decode cX12_needsAs 88 = .ok (.ireturn, 1) := dk172 (BX12_needsAs_1_2 (88, 172) (List.mem_of_getElem? (i := 10) rfl))
set_option maxRecDepth 20000 in
theorem ggX12_showsAs_X12_begins : GoodIn wsX12_showsAs wsX12_begins := gcons (goodIn_g ch_wsX12_showsAs_flat gd_wsX12_showsAs _ [(1, 6)] rfl) (goodIn_app (goodIn_g ch_wsX12_showsAs_flat gd_wsX12_showsAs _ [(1, 7), (1, 8)] rfl) (gchunk ch_wsX12_showsAs_flat gd_wsX12_showsAs 2 rfl))
set_option maxRecDepth 20000 in
theorem gX12_showsAs_X12_begins : GoodIn wsX12_showsAs (wsV RX12 385 RX12 yX12_begins wsX12_begins) := goodIn_app (goodIn_g ch_wsX12_showsAs_flat gd_wsX12_showsAs _ [(1, 2), (1, 3), (1, 4), (1, 5)] rfl) ggX12_showsAs_X12_begins
set_option maxRecDepth 20000 in
theorem ggX12_showsAs_X12_showsAs : GoodIn wsX12_showsAs wsX12_showsAs := gcons (goodIn_g ch_wsX12_showsAs_flat gd_wsX12_showsAs _ [(0, 0)] rfl) (goodIn_app (goodIn_g ch_wsX12_showsAs_flat gd_wsX12_showsAs _ [(1, 0), (1, 1), (1, 2), (1, 3), (1, 4), (1, 5), (1, 6), (1, 7), (1, 8), (1, 9), (1, 10), (1, 11), (1, 12), (1, 13), (1, 14), (1, 15)] rfl) (gchunk ch_wsX12_showsAs_flat gd_wsX12_showsAs 2 rfl))
set_option maxRecDepth 20000 in
theorem gX12_showsAs_X12_showsAs : GoodIn wsX12_showsAs (wsV RX12 401 RX12 yX12_showsAs wsX12_showsAs) := goodIn_app (goodIn_g ch_wsX12_showsAs_flat gd_wsX12_showsAs _ [(1, 9), (1, 10), (1, 11), (1, 5)] rfl) ggX12_showsAs_X12_showsAs
set_option maxRecDepth 20000 in
theorem ggX12_showsAs_X12_liesAs : GoodIn wsX12_showsAs wsX12_liesAs := gcons (goodIn_g ch_wsX12_showsAs_flat gd_wsX12_showsAs _ [(1, 15)] rfl) (goodIn_app (goodIn_g ch_wsX12_showsAs_flat gd_wsX12_showsAs _ [(1, 1), (1, 2), (1, 3), (1, 4), (1, 5), (1, 6), (1, 7), (1, 8), (1, 12), (1, 13), (1, 14)] rfl) (gchunk ch_wsX12_showsAs_flat gd_wsX12_showsAs 2 rfl))
set_option maxRecDepth 20000 in
theorem gX12_showsAs_X12_liesAs : GoodIn wsX12_showsAs (wsV RX12 389 RX12 yX12_liesAs wsX12_liesAs) := goodIn_app (goodIn_g ch_wsX12_showsAs_flat gd_wsX12_showsAs _ [(1, 12), (1, 13), (1, 14), (1, 5)] rfl) ggX12_showsAs_X12_liesAs
set_option maxRecDepth 20000 in
theorem SX12_showsAs : ∀ p : Nat, gb cX12_showsAs p = segF [[27, 6, 160, 0, 18, 42, 16, 40, 182, 1, 129, 42, 4, 28, 182, 1, 145, 6, 104, 172, 27, 8, 160, 0, 28, 42, 16, 60, 182, 1, 129, 42, 3, 28, 182, 1, 145, 62, 29, 42, 42, 180, 1, 142, 5, 182, 1, 133, 100, 172, 42, 16, 11, 182, 1, 129, 28, 42, 180, 1, 136, 130, 172]] p := seg_gb (S := [[27, 6, 160, 0, 18, 42, 16, 40, 182, 1, 129, 42, 4, 28, 182, 1, 145, 6, 104, 172, 27, 8, 160, 0, 28, 42, 16, 60, 182, 1, 129, 42, 3, 28, 182, 1, 145, 62, 29, 42, 42, 180, 1, 142, 5, 182, 1, 133, 100, 172, 42, 16, 11, 182, 1, 129, 28, 42, 180, 1, 136, 130, 172]]) (by decide +kernel) (by decide +kernel)
set_option maxRecDepth 20000 in
theorem BX12_showsAs_1_0 : ∀ q ∈ ([(0, 27), (1, 6), (5, 42), (11, 42), (12, 4), (13, 28), (17, 6), (18, 104), (19, 172), (20, 27), (21, 8), (25, 42)] : List (Nat × Nat)), gb cX12_showsAs q.1 = some q.2 := seg_1 SX12_showsAs _ (by decide +kernel)
set_option maxRecDepth 20000 in
theorem BX12_showsAs_1_1 : ∀ q ∈ ([(31, 42), (32, 3), (33, 28), (37, 62), (38, 29), (39, 42), (40, 42), (44, 5), (48, 100), (49, 172), (50, 42), (56, 28)] : List (Nat × Nat)), gb cX12_showsAs q.1 = some q.2 := seg_1 SX12_showsAs _ (by decide +kernel)
set_option maxRecDepth 20000 in
theorem BX12_showsAs_1_2 : ∀ q ∈ ([(57, 42), (61, 130), (62, 172)] : List (Nat × Nat)), gb cX12_showsAs q.1 = some q.2 := seg_1 SX12_showsAs _ (by decide +kernel)
set_option maxRecDepth 20000 in
theorem BX12_showsAs_2_0 : ∀ q ∈ ([(6, 16, 40), (26, 16, 60), (51, 16, 11)] : List (Nat × Nat × Nat)), gb cX12_showsAs q.1 = some q.2.1 ∧ gb cX12_showsAs (q.1 + 1) = some q.2.2 := seg_2 SX12_showsAs _ (by decide +kernel)
set_option maxRecDepth 20000 in
theorem BX12_showsAs_3_0 : ∀ q ∈ ([(2, 160, 0, 18), (8, 182, 1, 129), (14, 182, 1, 145), (22, 160, 0, 28), (28, 182, 1, 129), (34, 182, 1, 145), (41, 180, 1, 142), (45, 182, 1, 133), (53, 182, 1, 129), (58, 180, 1, 136)] : List (Nat × Nat × Nat × Nat)), gb cX12_showsAs q.1 = some q.2.1 ∧ gb cX12_showsAs (q.1 + 1) = some q.2.2.1 ∧ gb cX12_showsAs (q.1 + 2) = some q.2.2.2 := seg_3 SX12_showsAs _ (by decide +kernel)
theorem dX12_showsAs_0 : decode cX12_showsAs 0 = .ok (.iload_n 1, 1) := dk27 (BX12_showsAs_1_0 (0, 27) (List.mem_of_getElem? (i := 0) rfl))
theorem dX12_showsAs_1 : decode cX12_showsAs 1 = .ok (.iconst 3, 1) := dk6 (BX12_showsAs_1_0 (1, 6) (List.mem_of_getElem? (i := 1) rfl))
theorem dX12_showsAs_2 : decode cX12_showsAs 2 = .ok (.if_icmp .ne 18, 3) := dk160 0 18 (BX12_showsAs_3_0 (2, 160, 0, 18) (List.mem_of_getElem? (i := 0) rfl))
theorem dX12_showsAs_5 : decode cX12_showsAs 5 = .ok (.aload_n 0, 1) := dk42 (BX12_showsAs_1_0 (5, 42) (List.mem_of_getElem? (i := 2) rfl))
theorem dX12_showsAs_6 : decode cX12_showsAs 6 = .ok (.bipush 40, 2) := dk16 40 (BX12_showsAs_2_0 (6, 16, 40) (List.mem_of_getElem? (i := 0) rfl))
theorem dX12_showsAs_8 : decode cX12_showsAs 8 = .ok (.invokevirtual 385, 3) := dk182 1 129 (BX12_showsAs_3_0 (8, 182, 1, 129) (List.mem_of_getElem? (i := 1) rfl))
theorem dX12_showsAs_11 : decode cX12_showsAs 11 = .ok (.aload_n 0, 1) := dk42 (BX12_showsAs_1_0 (11, 42) (List.mem_of_getElem? (i := 3) rfl))
theorem dX12_showsAs_12 : decode cX12_showsAs 12 = .ok (.iconst 1, 1) := dk4 (BX12_showsAs_1_0 (12, 4) (List.mem_of_getElem? (i := 4) rfl))
theorem dX12_showsAs_13 : decode cX12_showsAs 13 = .ok (.iload_n 2, 1) := dk28 (BX12_showsAs_1_0 (13, 28) (List.mem_of_getElem? (i := 5) rfl))
theorem dX12_showsAs_14 : decode cX12_showsAs 14 = .ok (.invokevirtual 401, 3) := dk182 1 145 (BX12_showsAs_3_0 (14, 182, 1, 145) (List.mem_of_getElem? (i := 2) rfl))
theorem dX12_showsAs_17 : decode cX12_showsAs 17 = .ok (.iconst 3, 1) := dk6 (BX12_showsAs_1_0 (17, 6) (List.mem_of_getElem? (i := 6) rfl))
theorem dX12_showsAs_18 : decode cX12_showsAs 18 = .ok (.imul, 1) := dk104 (BX12_showsAs_1_0 (18, 104) (List.mem_of_getElem? (i := 7) rfl))
theorem dX12_showsAs_19 : decode cX12_showsAs 19 = .ok (.ireturn, 1) := dk172 (BX12_showsAs_1_0 (19, 172) (List.mem_of_getElem? (i := 8) rfl))
theorem dX12_showsAs_20 : decode cX12_showsAs 20 = .ok (.iload_n 1, 1) := dk27 (BX12_showsAs_1_0 (20, 27) (List.mem_of_getElem? (i := 9) rfl))
theorem dX12_showsAs_21 : decode cX12_showsAs 21 = .ok (.iconst 5, 1) := dk8 (BX12_showsAs_1_0 (21, 8) (List.mem_of_getElem? (i := 10) rfl))
theorem dX12_showsAs_22 : decode cX12_showsAs 22 = .ok (.if_icmp .ne 28, 3) := dk160 0 28 (BX12_showsAs_3_0 (22, 160, 0, 28) (List.mem_of_getElem? (i := 3) rfl))
theorem dX12_showsAs_25 : decode cX12_showsAs 25 = .ok (.aload_n 0, 1) := dk42 (BX12_showsAs_1_0 (25, 42) (List.mem_of_getElem? (i := 11) rfl))
theorem dX12_showsAs_26 : decode cX12_showsAs 26 = .ok (.bipush 60, 2) := dk16 60 (BX12_showsAs_2_0 (26, 16, 60) (List.mem_of_getElem? (i := 1) rfl))
theorem dX12_showsAs_28 : decode cX12_showsAs 28 = .ok (.invokevirtual 385, 3) := dk182 1 129 (BX12_showsAs_3_0 (28, 182, 1, 129) (List.mem_of_getElem? (i := 4) rfl))
theorem dX12_showsAs_31 : decode cX12_showsAs 31 = .ok (.aload_n 0, 1) := dk42 (BX12_showsAs_1_1 (31, 42) (List.mem_of_getElem? (i := 0) rfl))
theorem dX12_showsAs_32 : decode cX12_showsAs 32 = .ok (.iconst 0, 1) := dk3 (BX12_showsAs_1_1 (32, 3) (List.mem_of_getElem? (i := 1) rfl))
theorem dX12_showsAs_33 : decode cX12_showsAs 33 = .ok (.iload_n 2, 1) := dk28 (BX12_showsAs_1_1 (33, 28) (List.mem_of_getElem? (i := 2) rfl))
theorem dX12_showsAs_34 : decode cX12_showsAs 34 = .ok (.invokevirtual 401, 3) := dk182 1 145 (BX12_showsAs_3_0 (34, 182, 1, 145) (List.mem_of_getElem? (i := 5) rfl))
theorem dX12_showsAs_37 : decode cX12_showsAs 37 = .ok (.istore_n 3, 1) := dk62 (BX12_showsAs_1_1 (37, 62) (List.mem_of_getElem? (i := 3) rfl))
theorem dX12_showsAs_38 : decode cX12_showsAs 38 = .ok (.iload_n 3, 1) := dk29 (BX12_showsAs_1_1 (38, 29) (List.mem_of_getElem? (i := 4) rfl))
theorem dX12_showsAs_39 : decode cX12_showsAs 39 = .ok (.aload_n 0, 1) := dk42 (BX12_showsAs_1_1 (39, 42) (List.mem_of_getElem? (i := 5) rfl))
theorem dX12_showsAs_40 : decode cX12_showsAs 40 = .ok (.aload_n 0, 1) := dk42 (BX12_showsAs_1_1 (40, 42) (List.mem_of_getElem? (i := 6) rfl))
theorem dX12_showsAs_41 : decode cX12_showsAs 41 = .ok (.getfield 398, 3) := dk180 1 142 (BX12_showsAs_3_0 (41, 180, 1, 142) (List.mem_of_getElem? (i := 6) rfl))
theorem dX12_showsAs_44 : decode cX12_showsAs 44 = .ok (.iconst 2, 1) := dk5 (BX12_showsAs_1_1 (44, 5) (List.mem_of_getElem? (i := 7) rfl))
theorem dX12_showsAs_45 : decode cX12_showsAs 45 = .ok (.invokevirtual 389, 3) := dk182 1 133 (BX12_showsAs_3_0 (45, 182, 1, 133) (List.mem_of_getElem? (i := 7) rfl))
theorem dX12_showsAs_48 : decode cX12_showsAs 48 = .ok (.isub, 1) := dk100 (BX12_showsAs_1_1 (48, 100) (List.mem_of_getElem? (i := 8) rfl))
theorem dX12_showsAs_49 : decode cX12_showsAs 49 = .ok (.ireturn, 1) := dk172 (BX12_showsAs_1_1 (49, 172) (List.mem_of_getElem? (i := 9) rfl))
theorem dX12_showsAs_50 : decode cX12_showsAs 50 = .ok (.aload_n 0, 1) := dk42 (BX12_showsAs_1_1 (50, 42) (List.mem_of_getElem? (i := 10) rfl))
theorem dX12_showsAs_51 : decode cX12_showsAs 51 = .ok (.bipush 11, 2) := dk16 11 (BX12_showsAs_2_0 (51, 16, 11) (List.mem_of_getElem? (i := 2) rfl))
theorem dX12_showsAs_53 : decode cX12_showsAs 53 = .ok (.invokevirtual 385, 3) := dk182 1 129 (BX12_showsAs_3_0 (53, 182, 1, 129) (List.mem_of_getElem? (i := 8) rfl))
theorem dX12_showsAs_56 : decode cX12_showsAs 56 = .ok (.iload_n 2, 1) := dk28 (BX12_showsAs_1_1 (56, 28) (List.mem_of_getElem? (i := 11) rfl))
theorem dX12_showsAs_57 : decode cX12_showsAs 57 = .ok (.aload_n 0, 1) := dk42 (BX12_showsAs_1_2 (57, 42) (List.mem_of_getElem? (i := 0) rfl))
theorem dX12_showsAs_58 : decode cX12_showsAs 58 = .ok (.getfield 392, 3) := dk180 1 136 (BX12_showsAs_3_0 (58, 180, 1, 136) (List.mem_of_getElem? (i := 9) rfl))
theorem dX12_showsAs_61 : decode cX12_showsAs 61 = .ok (.ixor, 1) := dk130 (BX12_showsAs_1_2 (61, 130) (List.mem_of_getElem? (i := 1) rfl))
theorem dX12_showsAs_62 : decode cX12_showsAs 62 = .ok (.ireturn, 1) := dk172 (BX12_showsAs_1_2 (62, 172) (List.mem_of_getElem? (i := 2) rfl))
set_option maxRecDepth 20000 in
theorem ggX12_tellsAs_X12_begins : GoodIn wsX12_tellsAs wsX12_begins := gcons (goodIn_g ch_wsX12_tellsAs_flat gd_wsX12_tellsAs _ [(1, 5)] rfl) (goodIn_app (goodIn_g ch_wsX12_tellsAs_flat gd_wsX12_tellsAs _ [(1, 6), (1, 7)] rfl) (gchunk ch_wsX12_tellsAs_flat gd_wsX12_tellsAs 2 rfl))
set_option maxRecDepth 20000 in
theorem gX12_tellsAs_X12_begins : GoodIn wsX12_tellsAs (wsV RX12 385 RX12 yX12_begins wsX12_begins) := goodIn_app (goodIn_g ch_wsX12_tellsAs_flat gd_wsX12_tellsAs _ [(1, 1), (1, 2), (1, 3), (1, 4)] rfl) ggX12_tellsAs_X12_begins
set_option maxRecDepth 20000 in
theorem ggX12_tellsAs_X12_tellsAs : GoodIn wsX12_tellsAs wsX12_tellsAs := gcons (goodIn_g ch_wsX12_tellsAs_flat gd_wsX12_tellsAs _ [(0, 0)] rfl) (goodIn_app (goodIn_g ch_wsX12_tellsAs_flat gd_wsX12_tellsAs _ [(1, 0), (1, 1), (1, 2), (1, 3), (1, 4), (1, 5), (1, 6), (1, 7), (1, 8), (1, 9), (1, 10), (1, 11), (1, 12), (1, 13), (1, 14), (1, 15), (1, 16), (1, 17), (1, 18), (1, 19), (1, 20), (1, 21), (1, 22), (1, 23)] rfl) (gchunk ch_wsX12_tellsAs_flat gd_wsX12_tellsAs 2 rfl))
set_option maxRecDepth 20000 in
theorem gX12_tellsAs_X12_tellsAs : GoodIn wsX12_tellsAs (wsV RX12 404 RX12 yX12_tellsAs wsX12_tellsAs) := goodIn_app (goodIn_g ch_wsX12_tellsAs_flat gd_wsX12_tellsAs _ [(1, 8), (1, 9), (1, 10), (1, 4)] rfl) ggX12_tellsAs_X12_tellsAs
set_option maxRecDepth 20000 in
theorem ggX12_tellsAs_X12_needsAs : GoodIn wsX12_tellsAs wsX12_needsAs := gcons (goodIn_g ch_wsX12_tellsAs_flat gd_wsX12_tellsAs _ [(1, 14)] rfl) (goodIn_app (goodIn_g ch_wsX12_tellsAs_flat gd_wsX12_tellsAs _ [(1, 0), (1, 1), (1, 2), (1, 3), (1, 4), (1, 5), (1, 6), (1, 7), (1, 11), (1, 12), (1, 13), (1, 15), (1, 16), (1, 17), (1, 18), (1, 19), (1, 20), (1, 21), (1, 22), (1, 23)] rfl) (gchunk ch_wsX12_tellsAs_flat gd_wsX12_tellsAs 2 rfl))
set_option maxRecDepth 20000 in
theorem gX12_tellsAs_X12_needsAs : GoodIn wsX12_tellsAs (wsV RX12 395 RX12 yX12_needsAs wsX12_needsAs) := goodIn_app (goodIn_g ch_wsX12_tellsAs_flat gd_wsX12_tellsAs _ [(1, 11), (1, 12), (1, 13), (1, 4)] rfl) ggX12_tellsAs_X12_needsAs
set_option maxRecDepth 20000 in
theorem ggX12_tellsAs_X12_showsAs : GoodIn wsX12_tellsAs wsX12_showsAs := gcons (goodIn_g ch_wsX12_tellsAs_flat gd_wsX12_tellsAs _ [(1, 18)] rfl) (goodIn_app (goodIn_g ch_wsX12_tellsAs_flat gd_wsX12_tellsAs _ [(1, 0), (1, 19), (1, 1), (1, 2), (1, 3), (1, 4), (1, 5), (1, 6), (1, 7), (1, 15), (1, 16), (1, 17), (1, 20), (1, 21), (1, 22), (1, 23)] rfl) (gchunk ch_wsX12_tellsAs_flat gd_wsX12_tellsAs 2 rfl))
set_option maxRecDepth 20000 in
theorem gX12_tellsAs_X12_showsAs : GoodIn wsX12_tellsAs (wsV RX12 401 RX12 yX12_showsAs wsX12_showsAs) := goodIn_app (goodIn_g ch_wsX12_tellsAs_flat gd_wsX12_tellsAs _ [(1, 15), (1, 16), (1, 17), (1, 4)] rfl) ggX12_tellsAs_X12_showsAs
set_option maxRecDepth 20000 in
theorem SX12_tellsAs : ∀ p : Nat, gb cX12_tellsAs p = segF [[27, 7, 160, 0, 18, 42, 16, 50, 182, 1, 129, 42, 5, 28, 182, 1, 148, 8, 130, 172, 27, 16, 7, 160, 0, 19, 42, 16, 81, 182, 1, 129, 42, 16, 6, 28, 182, 1, 148, 4, 100, 172, 42, 5, 182, 1, 129, 42, 42, 180, 1, 142, 28, 182, 1, 139, 62, 29, 42, 42, 180, 1, 142, 4], [182, 1, 145, 100, 172]] p := seg_gb (S := [[27, 7, 160, 0, 18, 42, 16, 50, 182, 1, 129, 42, 5, 28, 182, 1, 148, 8, 130, 172, 27, 16, 7, 160, 0, 19, 42, 16, 81, 182, 1, 129, 42, 16, 6, 28, 182, 1, 148, 4, 100, 172, 42, 5, 182, 1, 129, 42, 42, 180, 1, 142, 28, 182, 1, 139, 62, 29, 42, 42, 180, 1, 142, 4], [182, 1, 145, 100, 172]]) (by decide +kernel) (by decide +kernel)
set_option maxRecDepth 20000 in
theorem BX12_tellsAs_1_0 : ∀ q ∈ ([(0, 27), (1, 7), (5, 42), (11, 42), (12, 5), (13, 28), (17, 8), (18, 130), (19, 172), (20, 27), (26, 42), (32, 42)] : List (Nat × Nat)), gb cX12_tellsAs q.1 = some q.2 := seg_1 SX12_tellsAs _ (by decide +kernel)
set_option maxRecDepth 20000 in
theorem BX12_tellsAs_1_1 : ∀ q ∈ ([(35, 28), (39, 4), (40, 100), (41, 172), (42, 42), (43, 5), (47, 42), (48, 42), (52, 28), (56, 62), (57, 29), (58, 42)] : List (Nat × Nat)), gb cX12_tellsAs q.1 = some q.2 := seg_1 SX12_tellsAs _ (by decide +kernel)
set_option maxRecDepth 20000 in
theorem BX12_tellsAs_1_2 : ∀ q ∈ ([(59, 42), (63, 4), (67, 100), (68, 172)] : List (Nat × Nat)), gb cX12_tellsAs q.1 = some q.2 := seg_1 SX12_tellsAs _ (by decide +kernel)
set_option maxRecDepth 20000 in
theorem BX12_tellsAs_2_0 : ∀ q ∈ ([(6, 16, 50), (21, 16, 7), (27, 16, 81), (33, 16, 6)] : List (Nat × Nat × Nat)), gb cX12_tellsAs q.1 = some q.2.1 ∧ gb cX12_tellsAs (q.1 + 1) = some q.2.2 := seg_2 SX12_tellsAs _ (by decide +kernel)
set_option maxRecDepth 20000 in
theorem BX12_tellsAs_3_0 : ∀ q ∈ ([(2, 160, 0, 18), (8, 182, 1, 129), (14, 182, 1, 148), (23, 160, 0, 19), (29, 182, 1, 129), (36, 182, 1, 148), (44, 182, 1, 129), (49, 180, 1, 142), (53, 182, 1, 139), (60, 180, 1, 142), (64, 182, 1, 145)] : List (Nat × Nat × Nat × Nat)), gb cX12_tellsAs q.1 = some q.2.1 ∧ gb cX12_tellsAs (q.1 + 1) = some q.2.2.1 ∧ gb cX12_tellsAs (q.1 + 2) = some q.2.2.2 := seg_3 SX12_tellsAs _ (by decide +kernel)
theorem dX12_tellsAs_0 : decode cX12_tellsAs 0 = .ok (.iload_n 1, 1) := dk27 (BX12_tellsAs_1_0 (0, 27) (List.mem_of_getElem? (i := 0) rfl))
theorem dX12_tellsAs_1 : decode cX12_tellsAs 1 = .ok (.iconst 4, 1) := dk7 (BX12_tellsAs_1_0 (1, 7) (List.mem_of_getElem? (i := 1) rfl))
theorem dX12_tellsAs_2 : decode cX12_tellsAs 2 = .ok (.if_icmp .ne 18, 3) := dk160 0 18 (BX12_tellsAs_3_0 (2, 160, 0, 18) (List.mem_of_getElem? (i := 0) rfl))
theorem dX12_tellsAs_5 : decode cX12_tellsAs 5 = .ok (.aload_n 0, 1) := dk42 (BX12_tellsAs_1_0 (5, 42) (List.mem_of_getElem? (i := 2) rfl))
theorem dX12_tellsAs_6 : decode cX12_tellsAs 6 = .ok (.bipush 50, 2) := dk16 50 (BX12_tellsAs_2_0 (6, 16, 50) (List.mem_of_getElem? (i := 0) rfl))
theorem dX12_tellsAs_8 : decode cX12_tellsAs 8 = .ok (.invokevirtual 385, 3) := dk182 1 129 (BX12_tellsAs_3_0 (8, 182, 1, 129) (List.mem_of_getElem? (i := 1) rfl))
theorem dX12_tellsAs_11 : decode cX12_tellsAs 11 = .ok (.aload_n 0, 1) := dk42 (BX12_tellsAs_1_0 (11, 42) (List.mem_of_getElem? (i := 3) rfl))
theorem dX12_tellsAs_12 : decode cX12_tellsAs 12 = .ok (.iconst 2, 1) := dk5 (BX12_tellsAs_1_0 (12, 5) (List.mem_of_getElem? (i := 4) rfl))
theorem dX12_tellsAs_13 : decode cX12_tellsAs 13 = .ok (.iload_n 2, 1) := dk28 (BX12_tellsAs_1_0 (13, 28) (List.mem_of_getElem? (i := 5) rfl))
theorem dX12_tellsAs_14 : decode cX12_tellsAs 14 = .ok (.invokevirtual 404, 3) := dk182 1 148 (BX12_tellsAs_3_0 (14, 182, 1, 148) (List.mem_of_getElem? (i := 2) rfl))
theorem dX12_tellsAs_17 : decode cX12_tellsAs 17 = .ok (.iconst 5, 1) := dk8 (BX12_tellsAs_1_0 (17, 8) (List.mem_of_getElem? (i := 6) rfl))
theorem dX12_tellsAs_18 : decode cX12_tellsAs 18 = .ok (.ixor, 1) := dk130 (BX12_tellsAs_1_0 (18, 130) (List.mem_of_getElem? (i := 7) rfl))
theorem dX12_tellsAs_19 : decode cX12_tellsAs 19 = .ok (.ireturn, 1) := dk172 (BX12_tellsAs_1_0 (19, 172) (List.mem_of_getElem? (i := 8) rfl))
theorem dX12_tellsAs_20 : decode cX12_tellsAs 20 = .ok (.iload_n 1, 1) := dk27 (BX12_tellsAs_1_0 (20, 27) (List.mem_of_getElem? (i := 9) rfl))
theorem dX12_tellsAs_21 : decode cX12_tellsAs 21 = .ok (.bipush 7, 2) := dk16 7 (BX12_tellsAs_2_0 (21, 16, 7) (List.mem_of_getElem? (i := 1) rfl))
theorem dX12_tellsAs_23 : decode cX12_tellsAs 23 = .ok (.if_icmp .ne 19, 3) := dk160 0 19 (BX12_tellsAs_3_0 (23, 160, 0, 19) (List.mem_of_getElem? (i := 3) rfl))
theorem dX12_tellsAs_26 : decode cX12_tellsAs 26 = .ok (.aload_n 0, 1) := dk42 (BX12_tellsAs_1_0 (26, 42) (List.mem_of_getElem? (i := 10) rfl))
theorem dX12_tellsAs_27 : decode cX12_tellsAs 27 = .ok (.bipush 81, 2) := dk16 81 (BX12_tellsAs_2_0 (27, 16, 81) (List.mem_of_getElem? (i := 2) rfl))
theorem dX12_tellsAs_29 : decode cX12_tellsAs 29 = .ok (.invokevirtual 385, 3) := dk182 1 129 (BX12_tellsAs_3_0 (29, 182, 1, 129) (List.mem_of_getElem? (i := 4) rfl))
theorem dX12_tellsAs_32 : decode cX12_tellsAs 32 = .ok (.aload_n 0, 1) := dk42 (BX12_tellsAs_1_0 (32, 42) (List.mem_of_getElem? (i := 11) rfl))
theorem dX12_tellsAs_33 : decode cX12_tellsAs 33 = .ok (.bipush 6, 2) := dk16 6 (BX12_tellsAs_2_0 (33, 16, 6) (List.mem_of_getElem? (i := 3) rfl))
theorem dX12_tellsAs_35 : decode cX12_tellsAs 35 = .ok (.iload_n 2, 1) := dk28 (BX12_tellsAs_1_1 (35, 28) (List.mem_of_getElem? (i := 0) rfl))
theorem dX12_tellsAs_36 : decode cX12_tellsAs 36 = .ok (.invokevirtual 404, 3) := dk182 1 148 (BX12_tellsAs_3_0 (36, 182, 1, 148) (List.mem_of_getElem? (i := 5) rfl))
theorem dX12_tellsAs_39 : decode cX12_tellsAs 39 = .ok (.iconst 1, 1) := dk4 (BX12_tellsAs_1_1 (39, 4) (List.mem_of_getElem? (i := 1) rfl))
theorem dX12_tellsAs_40 : decode cX12_tellsAs 40 = .ok (.isub, 1) := dk100 (BX12_tellsAs_1_1 (40, 100) (List.mem_of_getElem? (i := 2) rfl))
theorem dX12_tellsAs_41 : decode cX12_tellsAs 41 = .ok (.ireturn, 1) := dk172 (BX12_tellsAs_1_1 (41, 172) (List.mem_of_getElem? (i := 3) rfl))
theorem dX12_tellsAs_42 : decode cX12_tellsAs 42 = .ok (.aload_n 0, 1) := dk42 (BX12_tellsAs_1_1 (42, 42) (List.mem_of_getElem? (i := 4) rfl))
theorem dX12_tellsAs_43 : decode cX12_tellsAs 43 = .ok (.iconst 2, 1) := dk5 (BX12_tellsAs_1_1 (43, 5) (List.mem_of_getElem? (i := 5) rfl))
theorem dX12_tellsAs_44 : decode cX12_tellsAs 44 = .ok (.invokevirtual 385, 3) := dk182 1 129 (BX12_tellsAs_3_0 (44, 182, 1, 129) (List.mem_of_getElem? (i := 6) rfl))
theorem dX12_tellsAs_47 : decode cX12_tellsAs 47 = .ok (.aload_n 0, 1) := dk42 (BX12_tellsAs_1_1 (47, 42) (List.mem_of_getElem? (i := 6) rfl))
theorem dX12_tellsAs_48 : decode cX12_tellsAs 48 = .ok (.aload_n 0, 1) := dk42 (BX12_tellsAs_1_1 (48, 42) (List.mem_of_getElem? (i := 7) rfl))
theorem dX12_tellsAs_49 : decode cX12_tellsAs 49 = .ok (.getfield 398, 3) := dk180 1 142 (BX12_tellsAs_3_0 (49, 180, 1, 142) (List.mem_of_getElem? (i := 7) rfl))
theorem dX12_tellsAs_52 : decode cX12_tellsAs 52 = .ok (.iload_n 2, 1) := dk28 (BX12_tellsAs_1_1 (52, 28) (List.mem_of_getElem? (i := 8) rfl))
theorem dX12_tellsAs_53 : decode cX12_tellsAs 53 = .ok (.invokevirtual 395, 3) := dk182 1 139 (BX12_tellsAs_3_0 (53, 182, 1, 139) (List.mem_of_getElem? (i := 8) rfl))
theorem dX12_tellsAs_56 : decode cX12_tellsAs 56 = .ok (.istore_n 3, 1) := dk62 (BX12_tellsAs_1_1 (56, 62) (List.mem_of_getElem? (i := 9) rfl))
theorem dX12_tellsAs_57 : decode cX12_tellsAs 57 = .ok (.iload_n 3, 1) := dk29 (BX12_tellsAs_1_1 (57, 29) (List.mem_of_getElem? (i := 10) rfl))
theorem dX12_tellsAs_58 : decode cX12_tellsAs 58 = .ok (.aload_n 0, 1) := dk42 (BX12_tellsAs_1_1 (58, 42) (List.mem_of_getElem? (i := 11) rfl))
theorem dX12_tellsAs_59 : decode cX12_tellsAs 59 = .ok (.aload_n 0, 1) := dk42 (BX12_tellsAs_1_2 (59, 42) (List.mem_of_getElem? (i := 0) rfl))
theorem dX12_tellsAs_60 : decode cX12_tellsAs 60 = .ok (.getfield 398, 3) := dk180 1 142 (BX12_tellsAs_3_0 (60, 180, 1, 142) (List.mem_of_getElem? (i := 9) rfl))
theorem dX12_tellsAs_63 : decode cX12_tellsAs 63 = .ok (.iconst 1, 1) := dk4 (BX12_tellsAs_1_2 (63, 4) (List.mem_of_getElem? (i := 1) rfl))
theorem dX12_tellsAs_64 : decode cX12_tellsAs 64 = .ok (.invokevirtual 401, 3) := dk182 1 145 (BX12_tellsAs_3_0 (64, 182, 1, 145) (List.mem_of_getElem? (i := 10) rfl))
theorem dX12_tellsAs_67 : decode cX12_tellsAs 67 = .ok (.isub, 1) := dk100 (BX12_tellsAs_1_2 (67, 100) (List.mem_of_getElem? (i := 2) rfl))
theorem dX12_tellsAs_68 : decode cX12_tellsAs 68 = .ok (.ireturn, 1) := dk172 (BX12_tellsAs_1_2 (68, 172) (List.mem_of_getElem? (i := 3) rfl))
set_option maxRecDepth 20000 in
theorem ggX12_act_X12_isBody : GoodIn wsX12_act wsX12_isBody := gcons (goodIn_g ch_wsX12_act_flat gd_wsX12_act _ [(1, 8)] rfl) (goodIn_app (goodIn_g ch_wsX12_act_flat gd_wsX12_act _ [(1, 9), (1, 10), (1, 11), (1, 7), (1, 12)] rfl) (gchunk ch_wsX12_act_flat gd_wsX12_act 3 rfl))
set_option maxRecDepth 20000 in
theorem gX12_act_X12_isBody : GoodIn wsX12_act (wsV RX12 407 RX12 yX12_isBody wsX12_isBody) := goodIn_app (goodIn_g ch_wsX12_act_flat gd_wsX12_act _ [(1, 4), (1, 5), (1, 6), (1, 7)] rfl) ggX12_act_X12_isBody
set_option maxRecDepth 20000 in
theorem ggX12_act_X12_liesAs : GoodIn wsX12_act wsX12_liesAs := gcons (goodIn_g ch_wsX12_act_flat gd_wsX12_act _ [(1, 16)] rfl) (goodIn_app (goodIn_g ch_wsX12_act_flat gd_wsX12_act _ [(1, 3), (1, 17), (1, 18), (1, 19), (1, 7), (1, 20), (1, 0), (1, 21), (1, 13), (1, 14), (1, 15)] rfl) (gchunk ch_wsX12_act_flat gd_wsX12_act 3 rfl))
set_option maxRecDepth 20000 in
theorem gX12_act_X12_liesAs : GoodIn wsX12_act (wsV RX12 389 RX12 yX12_liesAs wsX12_liesAs) := goodIn_app (goodIn_g ch_wsX12_act_flat gd_wsX12_act _ [(1, 13), (1, 14), (1, 15), (1, 7)] rfl) ggX12_act_X12_liesAs
set_option maxRecDepth 20000 in
theorem ggX12_act_X12_needsAs : GoodIn wsX12_act wsX12_needsAs := gcons (goodIn_g ch_wsX12_act_flat gd_wsX12_act _ [(2, 1)] rfl) (goodIn_app (goodIn_g ch_wsX12_act_flat gd_wsX12_act _ [(1, 2), (1, 17), (1, 18), (1, 19), (1, 7), (1, 20), (1, 0), (1, 21), (1, 22), (1, 23), (2, 0), (2, 2), (2, 3), (2, 4), (2, 5), (1, 3), (1, 13), (1, 14), (1, 15), (1, 16)] rfl) (gchunk ch_wsX12_act_flat gd_wsX12_act 3 rfl))
set_option maxRecDepth 20000 in
theorem gX12_act_X12_needsAs : GoodIn wsX12_act (wsV RX12 395 RX12 yX12_needsAs wsX12_needsAs) := goodIn_app (goodIn_g ch_wsX12_act_flat gd_wsX12_act _ [(1, 22), (1, 23), (2, 0), (1, 7)] rfl) ggX12_act_X12_needsAs
set_option maxRecDepth 20000 in
theorem ggX12_act_X12_showsAs : GoodIn wsX12_act wsX12_showsAs := gcons (goodIn_g ch_wsX12_act_flat gd_wsX12_act _ [(2, 5)] rfl) (goodIn_app (goodIn_g ch_wsX12_act_flat gd_wsX12_act _ [(1, 2), (1, 3), (1, 17), (1, 18), (1, 19), (1, 7), (1, 20), (1, 0), (1, 21), (2, 2), (2, 3), (2, 4), (1, 13), (1, 14), (1, 15), (1, 16)] rfl) (gchunk ch_wsX12_act_flat gd_wsX12_act 3 rfl))
set_option maxRecDepth 20000 in
theorem gX12_act_X12_showsAs : GoodIn wsX12_act (wsV RX12 401 RX12 yX12_showsAs wsX12_showsAs) := goodIn_app (goodIn_g ch_wsX12_act_flat gd_wsX12_act _ [(2, 2), (2, 3), (2, 4), (1, 7)] rfl) ggX12_act_X12_showsAs
set_option maxRecDepth 20000 in
theorem ggX12_act_X12_tellsAs : GoodIn wsX12_act wsX12_tellsAs := gcons (goodIn_g ch_wsX12_act_flat gd_wsX12_act _ [(2, 9)] rfl) (goodIn_app (goodIn_g ch_wsX12_act_flat gd_wsX12_act _ [(1, 2), (1, 17), (1, 18), (1, 19), (1, 7), (1, 20), (1, 0), (1, 21), (2, 6), (2, 7), (2, 8), (1, 22), (1, 23), (2, 0), (2, 1), (2, 2), (2, 3), (2, 4), (2, 5), (1, 3), (1, 13), (1, 14), (1, 15), (1, 16)] rfl) (gchunk ch_wsX12_act_flat gd_wsX12_act 3 rfl))
set_option maxRecDepth 20000 in
theorem gX12_act_X12_tellsAs : GoodIn wsX12_act (wsV RX12 404 RX12 yX12_tellsAs wsX12_tellsAs) := goodIn_app (goodIn_g ch_wsX12_act_flat gd_wsX12_act _ [(2, 6), (2, 7), (2, 8), (1, 7)] rfl) ggX12_act_X12_tellsAs
set_option maxRecDepth 20000 in
theorem SX12_act : ∀ p : Nat, gb cX12_act p = segF [[42, 3, 181, 1, 126, 42, 27, 182, 1, 151, 154, 0, 5, 3, 172, 42, 42, 180, 0, 101, 27, 46, 181, 1, 142, 42, 27, 181, 1, 136, 28, 170, 0, 0, 0, 69, 0, 0, 0, 0, 0, 0, 0, 3, 0, 0, 0, 29, 0, 0, 0, 39, 0, 0, 0, 49, 0, 0, 0, 59, 42, 42, 180, 1], [142, 29, 182, 1, 133, 172, 42, 42, 180, 1, 142, 29, 182, 1, 139, 172, 42, 42, 180, 1, 142, 29, 182, 1, 145, 172, 42, 42, 180, 1, 142, 29, 182, 1, 148, 172, 3, 172]] p := seg_gb (S := [[42, 3, 181, 1, 126, 42, 27, 182, 1, 151, 154, 0, 5, 3, 172, 42, 42, 180, 0, 101, 27, 46, 181, 1, 142, 42, 27, 181, 1, 136, 28, 170, 0, 0, 0, 69, 0, 0, 0, 0, 0, 0, 0, 3, 0, 0, 0, 29, 0, 0, 0, 39, 0, 0, 0, 49, 0, 0, 0, 59, 42, 42, 180, 1], [142, 29, 182, 1, 133, 172, 42, 42, 180, 1, 142, 29, 182, 1, 139, 172, 42, 42, 180, 1, 142, 29, 182, 1, 145, 172, 42, 42, 180, 1, 142, 29, 182, 1, 148, 172, 3, 172]]) (by decide +kernel) (by decide +kernel)
set_option maxRecDepth 20000 in
theorem BX12_act_1_0 : ∀ q ∈ ([(0, 42), (1, 3), (5, 42), (6, 27), (13, 3), (14, 172), (15, 42), (16, 42), (20, 27), (21, 46), (25, 42), (26, 27)] : List (Nat × Nat)), gb cX12_act q.1 = some q.2 := seg_1 SX12_act _ (by decide +kernel)
set_option maxRecDepth 20000 in
theorem BX12_act_1_1 : ∀ q ∈ ([(30, 28), (60, 42), (61, 42), (65, 29), (69, 172), (70, 42), (71, 42), (75, 29), (79, 172), (80, 42), (81, 42), (85, 29)] : List (Nat × Nat)), gb cX12_act q.1 = some q.2 := seg_1 SX12_act _ (by decide +kernel)
set_option maxRecDepth 20000 in
theorem BX12_act_1_2 : ∀ q ∈ ([(89, 172), (90, 42), (91, 42), (95, 29), (99, 172), (100, 3), (101, 172)] : List (Nat × Nat)), gb cX12_act q.1 = some q.2 := seg_1 SX12_act _ (by decide +kernel)
set_option maxRecDepth 20000 in
theorem BX12_act_3_0 : ∀ q ∈ ([(2, 181, 1, 126), (7, 182, 1, 151), (10, 154, 0, 5), (17, 180, 0, 101), (22, 181, 1, 142), (27, 181, 1, 136), (62, 180, 1, 142), (66, 182, 1, 133), (72, 180, 1, 142), (76, 182, 1, 139), (82, 180, 1, 142), (86, 182, 1, 145)] : List (Nat × Nat × Nat × Nat)), gb cX12_act q.1 = some q.2.1 ∧ gb cX12_act (q.1 + 1) = some q.2.2.1 ∧ gb cX12_act (q.1 + 2) = some q.2.2.2 := seg_3 SX12_act _ (by decide +kernel)
set_option maxRecDepth 20000 in
theorem BX12_act_3_1 : ∀ q ∈ ([(92, 180, 1, 142), (96, 182, 1, 148)] : List (Nat × Nat × Nat × Nat)), gb cX12_act q.1 = some q.2.1 ∧ gb cX12_act (q.1 + 1) = some q.2.2.1 ∧ gb cX12_act (q.1 + 2) = some q.2.2.2 := seg_3 SX12_act _ (by decide +kernel)
theorem dX12_act_0 : decode cX12_act 0 = .ok (.aload_n 0, 1) := dk42 (BX12_act_1_0 (0, 42) (List.mem_of_getElem? (i := 0) rfl))
theorem dX12_act_1 : decode cX12_act 1 = .ok (.iconst 0, 1) := dk3 (BX12_act_1_0 (1, 3) (List.mem_of_getElem? (i := 1) rfl))
theorem dX12_act_2 : decode cX12_act 2 = .ok (.putfield 382, 3) := dk181 1 126 (BX12_act_3_0 (2, 181, 1, 126) (List.mem_of_getElem? (i := 0) rfl))
theorem dX12_act_5 : decode cX12_act 5 = .ok (.aload_n 0, 1) := dk42 (BX12_act_1_0 (5, 42) (List.mem_of_getElem? (i := 2) rfl))
theorem dX12_act_6 : decode cX12_act 6 = .ok (.iload_n 1, 1) := dk27 (BX12_act_1_0 (6, 27) (List.mem_of_getElem? (i := 3) rfl))
theorem dX12_act_7 : decode cX12_act 7 = .ok (.invokevirtual 407, 3) := dk182 1 151 (BX12_act_3_0 (7, 182, 1, 151) (List.mem_of_getElem? (i := 1) rfl))
theorem dX12_act_10 : decode cX12_act 10 = .ok (.ifCond .ne 5, 3) := dk154 0 5 (BX12_act_3_0 (10, 154, 0, 5) (List.mem_of_getElem? (i := 2) rfl))
theorem dX12_act_13 : decode cX12_act 13 = .ok (.iconst 0, 1) := dk3 (BX12_act_1_0 (13, 3) (List.mem_of_getElem? (i := 4) rfl))
theorem dX12_act_14 : decode cX12_act 14 = .ok (.ireturn, 1) := dk172 (BX12_act_1_0 (14, 172) (List.mem_of_getElem? (i := 5) rfl))
theorem dX12_act_15 : decode cX12_act 15 = .ok (.aload_n 0, 1) := dk42 (BX12_act_1_0 (15, 42) (List.mem_of_getElem? (i := 6) rfl))
theorem dX12_act_16 : decode cX12_act 16 = .ok (.aload_n 0, 1) := dk42 (BX12_act_1_0 (16, 42) (List.mem_of_getElem? (i := 7) rfl))
theorem dX12_act_17 : decode cX12_act 17 = .ok (.getfield 101, 3) := dk180 0 101 (BX12_act_3_0 (17, 180, 0, 101) (List.mem_of_getElem? (i := 3) rfl))
theorem dX12_act_20 : decode cX12_act 20 = .ok (.iload_n 1, 1) := dk27 (BX12_act_1_0 (20, 27) (List.mem_of_getElem? (i := 8) rfl))
theorem dX12_act_21 : decode cX12_act 21 = .ok (.iaload, 1) := dk46 (BX12_act_1_0 (21, 46) (List.mem_of_getElem? (i := 9) rfl))
theorem dX12_act_22 : decode cX12_act 22 = .ok (.putfield 398, 3) := dk181 1 142 (BX12_act_3_0 (22, 181, 1, 142) (List.mem_of_getElem? (i := 4) rfl))
theorem dX12_act_25 : decode cX12_act 25 = .ok (.aload_n 0, 1) := dk42 (BX12_act_1_0 (25, 42) (List.mem_of_getElem? (i := 10) rfl))
theorem dX12_act_26 : decode cX12_act 26 = .ok (.iload_n 1, 1) := dk27 (BX12_act_1_0 (26, 27) (List.mem_of_getElem? (i := 11) rfl))
theorem dX12_act_27 : decode cX12_act 27 = .ok (.putfield 392, 3) := dk181 1 136 (BX12_act_3_0 (27, 181, 1, 136) (List.mem_of_getElem? (i := 5) rfl))
theorem dX12_act_30 : decode cX12_act 30 = .ok (.iload_n 2, 1) := dk28 (BX12_act_1_1 (30, 28) (List.mem_of_getElem? (i := 0) rfl))
theorem dX12_act_31 : decode cX12_act 31 = .ok (.tableswitch 69 0 3 #[29, 39, 49, 59], 29) := by decide +kernel
theorem dX12_act_60 : decode cX12_act 60 = .ok (.aload_n 0, 1) := dk42 (BX12_act_1_1 (60, 42) (List.mem_of_getElem? (i := 1) rfl))
theorem dX12_act_61 : decode cX12_act 61 = .ok (.aload_n 0, 1) := dk42 (BX12_act_1_1 (61, 42) (List.mem_of_getElem? (i := 2) rfl))
theorem dX12_act_62 : decode cX12_act 62 = .ok (.getfield 398, 3) := dk180 1 142 (BX12_act_3_0 (62, 180, 1, 142) (List.mem_of_getElem? (i := 6) rfl))
theorem dX12_act_65 : decode cX12_act 65 = .ok (.iload_n 3, 1) := dk29 (BX12_act_1_1 (65, 29) (List.mem_of_getElem? (i := 3) rfl))
theorem dX12_act_66 : decode cX12_act 66 = .ok (.invokevirtual 389, 3) := dk182 1 133 (BX12_act_3_0 (66, 182, 1, 133) (List.mem_of_getElem? (i := 7) rfl))
theorem dX12_act_69 : decode cX12_act 69 = .ok (.ireturn, 1) := dk172 (BX12_act_1_1 (69, 172) (List.mem_of_getElem? (i := 4) rfl))
theorem dX12_act_70 : decode cX12_act 70 = .ok (.aload_n 0, 1) := dk42 (BX12_act_1_1 (70, 42) (List.mem_of_getElem? (i := 5) rfl))
theorem dX12_act_71 : decode cX12_act 71 = .ok (.aload_n 0, 1) := dk42 (BX12_act_1_1 (71, 42) (List.mem_of_getElem? (i := 6) rfl))
theorem dX12_act_72 : decode cX12_act 72 = .ok (.getfield 398, 3) := dk180 1 142 (BX12_act_3_0 (72, 180, 1, 142) (List.mem_of_getElem? (i := 8) rfl))
theorem dX12_act_75 : decode cX12_act 75 = .ok (.iload_n 3, 1) := dk29 (BX12_act_1_1 (75, 29) (List.mem_of_getElem? (i := 7) rfl))
theorem dX12_act_76 : decode cX12_act 76 = .ok (.invokevirtual 395, 3) := dk182 1 139 (BX12_act_3_0 (76, 182, 1, 139) (List.mem_of_getElem? (i := 9) rfl))
theorem dX12_act_79 : decode cX12_act 79 = .ok (.ireturn, 1) := dk172 (BX12_act_1_1 (79, 172) (List.mem_of_getElem? (i := 8) rfl))
theorem dX12_act_80 : decode cX12_act 80 = .ok (.aload_n 0, 1) := dk42 (BX12_act_1_1 (80, 42) (List.mem_of_getElem? (i := 9) rfl))
theorem dX12_act_81 : decode cX12_act 81 = .ok (.aload_n 0, 1) := dk42 (BX12_act_1_1 (81, 42) (List.mem_of_getElem? (i := 10) rfl))
theorem dX12_act_82 : decode cX12_act 82 = .ok (.getfield 398, 3) := dk180 1 142 (BX12_act_3_0 (82, 180, 1, 142) (List.mem_of_getElem? (i := 10) rfl))
theorem dX12_act_85 : decode cX12_act 85 = .ok (.iload_n 3, 1) := dk29 (BX12_act_1_1 (85, 29) (List.mem_of_getElem? (i := 11) rfl))
theorem dX12_act_86 : decode cX12_act 86 = .ok (.invokevirtual 401, 3) := dk182 1 145 (BX12_act_3_0 (86, 182, 1, 145) (List.mem_of_getElem? (i := 11) rfl))
theorem dX12_act_89 : decode cX12_act 89 = .ok (.ireturn, 1) := dk172 (BX12_act_1_2 (89, 172) (List.mem_of_getElem? (i := 0) rfl))
theorem dX12_act_90 : decode cX12_act 90 = .ok (.aload_n 0, 1) := dk42 (BX12_act_1_2 (90, 42) (List.mem_of_getElem? (i := 1) rfl))
theorem dX12_act_91 : decode cX12_act 91 = .ok (.aload_n 0, 1) := dk42 (BX12_act_1_2 (91, 42) (List.mem_of_getElem? (i := 2) rfl))
theorem dX12_act_92 : decode cX12_act 92 = .ok (.getfield 398, 3) := dk180 1 142 (BX12_act_3_1 (92, 180, 1, 142) (List.mem_of_getElem? (i := 0) rfl))
theorem dX12_act_95 : decode cX12_act 95 = .ok (.iload_n 3, 1) := dk29 (BX12_act_1_2 (95, 29) (List.mem_of_getElem? (i := 3) rfl))
theorem dX12_act_96 : decode cX12_act 96 = .ok (.invokevirtual 404, 3) := dk182 1 148 (BX12_act_3_1 (96, 182, 1, 148) (List.mem_of_getElem? (i := 1) rfl))
theorem dX12_act_99 : decode cX12_act 99 = .ok (.ireturn, 1) := dk172 (BX12_act_1_2 (99, 172) (List.mem_of_getElem? (i := 4) rfl))
theorem dX12_act_100 : decode cX12_act 100 = .ok (.iconst 0, 1) := dk3 (BX12_act_1_2 (100, 3) (List.mem_of_getElem? (i := 5) rfl))
theorem dX12_act_101 : decode cX12_act 101 = .ok (.ireturn, 1) := dk172 (BX12_act_1_2 (101, 172) (List.mem_of_getElem? (i := 6) rfl))
set_option maxRecDepth 20000 in
theorem SX12_trace : ∀ p : Nat, gb cX12_trace p = segF [[27, 155, 0, 26, 27, 42, 180, 1, 126, 162, 0, 18, 27, 16, 24, 162, 0, 12, 42, 180, 0, 104, 27, 46, 167, 0, 4, 2, 172]] p := seg_gb (S := [[27, 155, 0, 26, 27, 42, 180, 1, 126, 162, 0, 18, 27, 16, 24, 162, 0, 12, 42, 180, 0, 104, 27, 46, 167, 0, 4, 2, 172]]) (by decide +kernel) (by decide +kernel)
set_option maxRecDepth 20000 in
theorem BX12_trace_1_0 : ∀ q ∈ ([(0, 27), (4, 27), (5, 42), (12, 27), (18, 42), (22, 27), (23, 46), (27, 2), (28, 172)] : List (Nat × Nat)), gb cX12_trace q.1 = some q.2 := seg_1 SX12_trace _ (by decide +kernel)
set_option maxRecDepth 20000 in
theorem BX12_trace_2_0 : ∀ q ∈ ([(13, 16, 24)] : List (Nat × Nat × Nat)), gb cX12_trace q.1 = some q.2.1 ∧ gb cX12_trace (q.1 + 1) = some q.2.2 := seg_2 SX12_trace _ (by decide +kernel)
set_option maxRecDepth 20000 in
theorem BX12_trace_3_0 : ∀ q ∈ ([(1, 155, 0, 26), (6, 180, 1, 126), (9, 162, 0, 18), (15, 162, 0, 12), (19, 180, 0, 104), (24, 167, 0, 4)] : List (Nat × Nat × Nat × Nat)), gb cX12_trace q.1 = some q.2.1 ∧ gb cX12_trace (q.1 + 1) = some q.2.2.1 ∧ gb cX12_trace (q.1 + 2) = some q.2.2.2 := seg_3 SX12_trace _ (by decide +kernel)
theorem dX12_trace_0 : decode cX12_trace 0 = .ok (.iload_n 1, 1) := dk27 (BX12_trace_1_0 (0, 27) (List.mem_of_getElem? (i := 0) rfl))
theorem dX12_trace_1 : decode cX12_trace 1 = .ok (.ifCond .lt 26, 3) := dk155 0 26 (BX12_trace_3_0 (1, 155, 0, 26) (List.mem_of_getElem? (i := 0) rfl))
theorem dX12_trace_4 : decode cX12_trace 4 = .ok (.iload_n 1, 1) := dk27 (BX12_trace_1_0 (4, 27) (List.mem_of_getElem? (i := 1) rfl))
theorem dX12_trace_5 : decode cX12_trace 5 = .ok (.aload_n 0, 1) := dk42 (BX12_trace_1_0 (5, 42) (List.mem_of_getElem? (i := 2) rfl))
theorem dX12_trace_6 : decode cX12_trace 6 = .ok (.getfield 382, 3) := dk180 1 126 (BX12_trace_3_0 (6, 180, 1, 126) (List.mem_of_getElem? (i := 1) rfl))
theorem dX12_trace_9 : decode cX12_trace 9 = .ok (.if_icmp .ge 18, 3) := dk162 0 18 (BX12_trace_3_0 (9, 162, 0, 18) (List.mem_of_getElem? (i := 2) rfl))
theorem dX12_trace_12 : decode cX12_trace 12 = .ok (.iload_n 1, 1) := dk27 (BX12_trace_1_0 (12, 27) (List.mem_of_getElem? (i := 3) rfl))
theorem dX12_trace_13 : decode cX12_trace 13 = .ok (.bipush 24, 2) := dk16 24 (BX12_trace_2_0 (13, 16, 24) (List.mem_of_getElem? (i := 0) rfl))
theorem dX12_trace_15 : decode cX12_trace 15 = .ok (.if_icmp .ge 12, 3) := dk162 0 12 (BX12_trace_3_0 (15, 162, 0, 12) (List.mem_of_getElem? (i := 3) rfl))
theorem dX12_trace_18 : decode cX12_trace 18 = .ok (.aload_n 0, 1) := dk42 (BX12_trace_1_0 (18, 42) (List.mem_of_getElem? (i := 4) rfl))
theorem dX12_trace_19 : decode cX12_trace 19 = .ok (.getfield 104, 3) := dk180 0 104 (BX12_trace_3_0 (19, 180, 0, 104) (List.mem_of_getElem? (i := 4) rfl))
theorem dX12_trace_22 : decode cX12_trace 22 = .ok (.iload_n 1, 1) := dk27 (BX12_trace_1_0 (22, 27) (List.mem_of_getElem? (i := 5) rfl))
theorem dX12_trace_23 : decode cX12_trace 23 = .ok (.iaload, 1) := dk46 (BX12_trace_1_0 (23, 46) (List.mem_of_getElem? (i := 6) rfl))
theorem dX12_trace_24 : decode cX12_trace 24 = .ok (.goto 4, 3) := dk167 0 4 (BX12_trace_3_0 (24, 167, 0, 4) (List.mem_of_getElem? (i := 5) rfl))
theorem dX12_trace_27 : decode cX12_trace 27 = .ok (.iconst (-1), 1) := dk2 (BX12_trace_1_0 (27, 2) (List.mem_of_getElem? (i := 7) rfl))
theorem dX12_trace_28 : decode cX12_trace 28 = .ok (.ireturn, 1) := dk172 (BX12_trace_1_0 (28, 172) (List.mem_of_getElem? (i := 8) rfl))
set_option maxRecDepth 20000 in
theorem ggX12_isShelf_X12_within : GoodIn wsX12_isShelf wsX12_within := goodIn_r _ [5] rfl (by decide +kernel)
set_option maxRecDepth 20000 in
theorem gX12_isShelf_X12_within : GoodIn wsX12_isShelf (va_wsS RX12 136 yX12_within wsX12_within) := goodIn_app (goodIn_r _ [2, 3, 4] rfl (by decide +kernel)) ggX12_isShelf_X12_within
set_option maxRecDepth 20000 in
theorem SX12_isShelf : ∀ p : Nat, gb cX12_isShelf p = segF [[26, 133, 9, 20, 0, 195, 184, 0, 136, 172]] p := seg_gb (S := [[26, 133, 9, 20, 0, 195, 184, 0, 136, 172]]) (by decide +kernel) (by decide +kernel)
set_option maxRecDepth 20000 in
theorem BX12_isShelf_1_0 : ∀ q ∈ ([(0, 26), (1, 133), (2, 9), (9, 172)] : List (Nat × Nat)), gb cX12_isShelf q.1 = some q.2 := seg_1 SX12_isShelf _ (by decide +kernel)
set_option maxRecDepth 20000 in
theorem BX12_isShelf_3_0 : ∀ q ∈ ([(3, 20, 0, 195), (6, 184, 0, 136)] : List (Nat × Nat × Nat × Nat)), gb cX12_isShelf q.1 = some q.2.1 ∧ gb cX12_isShelf (q.1 + 1) = some q.2.2.1 ∧ gb cX12_isShelf (q.1 + 2) = some q.2.2.2 := seg_3 SX12_isShelf _ (by decide +kernel)
theorem dX12_isShelf_0 : decode cX12_isShelf 0 = .ok (.iload_n 0, 1) := dk26 (BX12_isShelf_1_0 (0, 26) (List.mem_of_getElem? (i := 0) rfl))
theorem dX12_isShelf_1 : decode cX12_isShelf 1 = .ok (.i2l, 1) := dk133 (BX12_isShelf_1_0 (1, 133) (List.mem_of_getElem? (i := 1) rfl))
theorem dX12_isShelf_2 : decode cX12_isShelf 2 = .ok (.lconst 0, 1) := dk9 (BX12_isShelf_1_0 (2, 9) (List.mem_of_getElem? (i := 2) rfl))
theorem dX12_isShelf_3 : decode cX12_isShelf 3 = .ok (.ldc2_w 195, 3) := dk20 0 195 (BX12_isShelf_3_0 (3, 20, 0, 195) (List.mem_of_getElem? (i := 0) rfl))
theorem dX12_isShelf_6 : decode cX12_isShelf 6 = .ok (.invokestatic 136, 3) := dk184 0 136 (BX12_isShelf_3_0 (6, 184, 0, 136) (List.mem_of_getElem? (i := 1) rfl))
theorem dX12_isShelf_9 : decode cX12_isShelf 9 = .ok (.ireturn, 1) := dk172 (BX12_isShelf_1_0 (9, 172) (List.mem_of_getElem? (i := 3) rfl))
set_option maxRecDepth 20000 in
theorem ggX12_keep_X12_isShelf : GoodIn wsX12_keep wsX12_isShelf := goodIn_g ch_wsX12_keep_flat gd_wsX12_keep _ [(1, 5), (1, 6), (1, 7), (1, 8), (1, 4), (1, 9)] rfl
set_option maxRecDepth 20000 in
theorem gX12_keep_X12_isShelf : GoodIn wsX12_keep (va_wsS RX12 238 yX12_isShelf wsX12_isShelf) := goodIn_app (goodIn_g ch_wsX12_keep_flat gd_wsX12_keep _ [(1, 2), (1, 3), (1, 4)] rfl) ggX12_keep_X12_isShelf
set_option maxRecDepth 20000 in
theorem ggX12_keep_X12_isBody : GoodIn wsX12_keep wsX12_isBody := gcons (goodIn_g ch_wsX12_keep_flat gd_wsX12_keep _ [(1, 13)] rfl) (goodIn_app (goodIn_g ch_wsX12_keep_flat gd_wsX12_keep _ [(1, 14), (1, 7), (1, 8), (1, 4), (1, 9)] rfl) (gchunk ch_wsX12_keep_flat gd_wsX12_keep 2 rfl))
set_option maxRecDepth 20000 in
theorem gX12_keep_X12_isBody : GoodIn wsX12_keep (wsV RX12 407 RX12 yX12_isBody wsX12_isBody) := goodIn_app (goodIn_g ch_wsX12_keep_flat gd_wsX12_keep _ [(1, 10), (1, 11), (1, 12), (1, 4)] rfl) ggX12_keep_X12_isBody
set_option maxRecDepth 20000 in
theorem SX12_keep : ∀ p : Nat, gb cX12_keep p = segF [[27, 184, 0, 238, 153, 0, 16, 28, 2, 159, 0, 13, 42, 28, 182, 1, 151, 154, 0, 5, 2, 172, 42, 180, 0, 107, 27, 28, 79, 42, 180, 0, 110, 27, 3, 79, 4, 172]] p := seg_gb (S := [[27, 184, 0, 238, 153, 0, 16, 28, 2, 159, 0, 13, 42, 28, 182, 1, 151, 154, 0, 5, 2, 172, 42, 180, 0, 107, 27, 28, 79, 42, 180, 0, 110, 27, 3, 79, 4, 172]]) (by decide +kernel) (by decide +kernel)
set_option maxRecDepth 20000 in
theorem BX12_keep_1_0 : ∀ q ∈ ([(0, 27), (7, 28), (8, 2), (12, 42), (13, 28), (20, 2), (21, 172), (22, 42), (26, 27), (27, 28), (28, 79), (29, 42)] : List (Nat × Nat)), gb cX12_keep q.1 = some q.2 := seg_1 SX12_keep _ (by decide +kernel)
set_option maxRecDepth 20000 in
theorem BX12_keep_1_1 : ∀ q ∈ ([(33, 27), (34, 3), (35, 79), (36, 4), (37, 172)] : List (Nat × Nat)), gb cX12_keep q.1 = some q.2 := seg_1 SX12_keep _ (by decide +kernel)
set_option maxRecDepth 20000 in
theorem BX12_keep_3_0 : ∀ q ∈ ([(1, 184, 0, 238), (4, 153, 0, 16), (9, 159, 0, 13), (14, 182, 1, 151), (17, 154, 0, 5), (23, 180, 0, 107), (30, 180, 0, 110)] : List (Nat × Nat × Nat × Nat)), gb cX12_keep q.1 = some q.2.1 ∧ gb cX12_keep (q.1 + 1) = some q.2.2.1 ∧ gb cX12_keep (q.1 + 2) = some q.2.2.2 := seg_3 SX12_keep _ (by decide +kernel)
theorem dX12_keep_0 : decode cX12_keep 0 = .ok (.iload_n 1, 1) := dk27 (BX12_keep_1_0 (0, 27) (List.mem_of_getElem? (i := 0) rfl))
theorem dX12_keep_1 : decode cX12_keep 1 = .ok (.invokestatic 238, 3) := dk184 0 238 (BX12_keep_3_0 (1, 184, 0, 238) (List.mem_of_getElem? (i := 0) rfl))
theorem dX12_keep_4 : decode cX12_keep 4 = .ok (.ifCond .eq 16, 3) := dk153 0 16 (BX12_keep_3_0 (4, 153, 0, 16) (List.mem_of_getElem? (i := 1) rfl))
theorem dX12_keep_7 : decode cX12_keep 7 = .ok (.iload_n 2, 1) := dk28 (BX12_keep_1_0 (7, 28) (List.mem_of_getElem? (i := 1) rfl))
theorem dX12_keep_8 : decode cX12_keep 8 = .ok (.iconst (-1), 1) := dk2 (BX12_keep_1_0 (8, 2) (List.mem_of_getElem? (i := 2) rfl))
theorem dX12_keep_9 : decode cX12_keep 9 = .ok (.if_icmp .eq 13, 3) := dk159 0 13 (BX12_keep_3_0 (9, 159, 0, 13) (List.mem_of_getElem? (i := 2) rfl))
theorem dX12_keep_12 : decode cX12_keep 12 = .ok (.aload_n 0, 1) := dk42 (BX12_keep_1_0 (12, 42) (List.mem_of_getElem? (i := 3) rfl))
theorem dX12_keep_13 : decode cX12_keep 13 = .ok (.iload_n 2, 1) := dk28 (BX12_keep_1_0 (13, 28) (List.mem_of_getElem? (i := 4) rfl))
theorem dX12_keep_14 : decode cX12_keep 14 = .ok (.invokevirtual 407, 3) := dk182 1 151 (BX12_keep_3_0 (14, 182, 1, 151) (List.mem_of_getElem? (i := 3) rfl))
theorem dX12_keep_17 : decode cX12_keep 17 = .ok (.ifCond .ne 5, 3) := dk154 0 5 (BX12_keep_3_0 (17, 154, 0, 5) (List.mem_of_getElem? (i := 4) rfl))
theorem dX12_keep_20 : decode cX12_keep 20 = .ok (.iconst (-1), 1) := dk2 (BX12_keep_1_0 (20, 2) (List.mem_of_getElem? (i := 5) rfl))
theorem dX12_keep_21 : decode cX12_keep 21 = .ok (.ireturn, 1) := dk172 (BX12_keep_1_0 (21, 172) (List.mem_of_getElem? (i := 6) rfl))
theorem dX12_keep_22 : decode cX12_keep 22 = .ok (.aload_n 0, 1) := dk42 (BX12_keep_1_0 (22, 42) (List.mem_of_getElem? (i := 7) rfl))
theorem dX12_keep_23 : decode cX12_keep 23 = .ok (.getfield 107, 3) := dk180 0 107 (BX12_keep_3_0 (23, 180, 0, 107) (List.mem_of_getElem? (i := 5) rfl))
theorem dX12_keep_26 : decode cX12_keep 26 = .ok (.iload_n 1, 1) := dk27 (BX12_keep_1_0 (26, 27) (List.mem_of_getElem? (i := 8) rfl))
theorem dX12_keep_27 : decode cX12_keep 27 = .ok (.iload_n 2, 1) := dk28 (BX12_keep_1_0 (27, 28) (List.mem_of_getElem? (i := 9) rfl))
theorem dX12_keep_28 : decode cX12_keep 28 = .ok (.iastore, 1) := dk79 (BX12_keep_1_0 (28, 79) (List.mem_of_getElem? (i := 10) rfl))
theorem dX12_keep_29 : decode cX12_keep 29 = .ok (.aload_n 0, 1) := dk42 (BX12_keep_1_0 (29, 42) (List.mem_of_getElem? (i := 11) rfl))
theorem dX12_keep_30 : decode cX12_keep 30 = .ok (.getfield 110, 3) := dk180 0 110 (BX12_keep_3_0 (30, 180, 0, 110) (List.mem_of_getElem? (i := 6) rfl))
theorem dX12_keep_33 : decode cX12_keep 33 = .ok (.iload_n 1, 1) := dk27 (BX12_keep_1_1 (33, 27) (List.mem_of_getElem? (i := 0) rfl))
theorem dX12_keep_34 : decode cX12_keep 34 = .ok (.iconst 0, 1) := dk3 (BX12_keep_1_1 (34, 3) (List.mem_of_getElem? (i := 1) rfl))
theorem dX12_keep_35 : decode cX12_keep 35 = .ok (.iastore, 1) := dk79 (BX12_keep_1_1 (35, 79) (List.mem_of_getElem? (i := 2) rfl))
theorem dX12_keep_36 : decode cX12_keep 36 = .ok (.iconst 1, 1) := dk4 (BX12_keep_1_1 (36, 4) (List.mem_of_getElem? (i := 3) rfl))
theorem dX12_keep_37 : decode cX12_keep 37 = .ok (.ireturn, 1) := dk172 (BX12_keep_1_1 (37, 172) (List.mem_of_getElem? (i := 4) rfl))
set_option maxRecDepth 20000 in
theorem ggX12_row_X12_isShelf : GoodIn wsX12_row wsX12_isShelf := goodIn_g ch_wsX12_row_flat gd_wsX12_row _ [(1, 7), (1, 8), (1, 9), (1, 10), (1, 6), (1, 11)] rfl
set_option maxRecDepth 20000 in
theorem gX12_row_X12_isShelf : GoodIn wsX12_row (va_wsS RX12 238 yX12_isShelf wsX12_isShelf) := goodIn_app (goodIn_g ch_wsX12_row_flat gd_wsX12_row _ [(1, 4), (1, 5), (1, 6)] rfl) ggX12_row_X12_isShelf
set_option maxRecDepth 20000 in
theorem ggX12_row_X12_within : GoodIn wsX12_row wsX12_within := goodIn_g ch_wsX12_row_flat gd_wsX12_row _ [(1, 11)] rfl
set_option maxRecDepth 20000 in
theorem gX12_row_X12_within : GoodIn wsX12_row (va_wsS RX12 136 yX12_within wsX12_within) := goodIn_app (goodIn_g ch_wsX12_row_flat gd_wsX12_row _ [(1, 9), (1, 10), (1, 6)] rfl) ggX12_row_X12_within
set_option maxRecDepth 20000 in
theorem SX12_row : ∀ p : Nat, gb cX12_row p = segF [[27, 184, 0, 238, 153, 0, 21, 28, 133, 9, 20, 0, 221, 184, 0, 136, 153, 0, 9, 29, 16, 60, 164, 0, 5, 2, 172, 29, 156, 0, 6, 16, 242, 172, 42, 180, 0, 107, 27, 16, 50, 28, 96, 79, 42, 180, 0, 110, 27, 29, 79, 16, 60, 27, 104, 54, 4, 21, 4, 16, 60, 27, 104, 16], [60, 96, 162, 0, 17, 42, 180, 0, 113, 21, 4, 9, 80, 132, 4, 1, 167, 255, 233, 4, 172]] p := seg_gb (S := [[27, 184, 0, 238, 153, 0, 21, 28, 133, 9, 20, 0, 221, 184, 0, 136, 153, 0, 9, 29, 16, 60, 164, 0, 5, 2, 172, 29, 156, 0, 6, 16, 242, 172, 42, 180, 0, 107, 27, 16, 50, 28, 96, 79, 42, 180, 0, 110, 27, 29, 79, 16, 60, 27, 104, 54, 4, 21, 4, 16, 60, 27, 104, 16], [60, 96, 162, 0, 17, 42, 180, 0, 113, 21, 4, 9, 80, 132, 4, 1, 167, 255, 233, 4, 172]]) (by decide +kernel) (by decide +kernel)
set_option maxRecDepth 20000 in
theorem BX12_row_1_0 : ∀ q ∈ ([(0, 27), (7, 28), (8, 133), (9, 9), (19, 29), (25, 2), (26, 172), (27, 29), (33, 172), (34, 42), (38, 27), (41, 28)] : List (Nat × Nat)), gb cX12_row q.1 = some q.2 := seg_1 SX12_row _ (by decide +kernel)
set_option maxRecDepth 20000 in
theorem BX12_row_1_1 : ∀ q ∈ ([(42, 96), (43, 79), (44, 42), (48, 27), (49, 29), (50, 79), (53, 27), (54, 104), (61, 27), (62, 104), (65, 96), (69, 42)] : List (Nat × Nat)), gb cX12_row q.1 = some q.2 := seg_1 SX12_row _ (by decide +kernel)
set_option maxRecDepth 20000 in
theorem BX12_row_1_2 : ∀ q ∈ ([(75, 9), (76, 80), (83, 4), (84, 172)] : List (Nat × Nat)), gb cX12_row q.1 = some q.2 := seg_1 SX12_row _ (by decide +kernel)
set_option maxRecDepth 20000 in
theorem BX12_row_2_0 : ∀ q ∈ ([(20, 16, 60), (31, 16, 242), (39, 16, 50), (51, 16, 60), (55, 54, 4), (57, 21, 4), (59, 16, 60), (63, 16, 60), (73, 21, 4)] : List (Nat × Nat × Nat)), gb cX12_row q.1 = some q.2.1 ∧ gb cX12_row (q.1 + 1) = some q.2.2 := seg_2 SX12_row _ (by decide +kernel)
set_option maxRecDepth 20000 in
theorem BX12_row_3_0 : ∀ q ∈ ([(1, 184, 0, 238), (4, 153, 0, 21), (10, 20, 0, 221), (13, 184, 0, 136), (16, 153, 0, 9), (22, 164, 0, 5), (28, 156, 0, 6), (35, 180, 0, 107), (45, 180, 0, 110), (66, 162, 0, 17), (70, 180, 0, 113), (77, 132, 4, 1)] : List (Nat × Nat × Nat × Nat)), gb cX12_row q.1 = some q.2.1 ∧ gb cX12_row (q.1 + 1) = some q.2.2.1 ∧ gb cX12_row (q.1 + 2) = some q.2.2.2 := seg_3 SX12_row _ (by decide +kernel)
set_option maxRecDepth 20000 in
theorem BX12_row_3_1 : ∀ q ∈ ([(80, 167, 255, 233)] : List (Nat × Nat × Nat × Nat)), gb cX12_row q.1 = some q.2.1 ∧ gb cX12_row (q.1 + 1) = some q.2.2.1 ∧ gb cX12_row (q.1 + 2) = some q.2.2.2 := seg_3 SX12_row _ (by decide +kernel)
theorem dX12_row_0 : decode cX12_row 0 = .ok (.iload_n 1, 1) := dk27 (BX12_row_1_0 (0, 27) (List.mem_of_getElem? (i := 0) rfl))
theorem dX12_row_1 : decode cX12_row 1 = .ok (.invokestatic 238, 3) := dk184 0 238 (BX12_row_3_0 (1, 184, 0, 238) (List.mem_of_getElem? (i := 0) rfl))
theorem dX12_row_4 : decode cX12_row 4 = .ok (.ifCond .eq 21, 3) := dk153 0 21 (BX12_row_3_0 (4, 153, 0, 21) (List.mem_of_getElem? (i := 1) rfl))
theorem dX12_row_7 : decode cX12_row 7 = .ok (.iload_n 2, 1) := dk28 (BX12_row_1_0 (7, 28) (List.mem_of_getElem? (i := 1) rfl))
theorem dX12_row_8 : decode cX12_row 8 = .ok (.i2l, 1) := dk133 (BX12_row_1_0 (8, 133) (List.mem_of_getElem? (i := 2) rfl))
theorem dX12_row_9 : decode cX12_row 9 = .ok (.lconst 0, 1) := dk9 (BX12_row_1_0 (9, 9) (List.mem_of_getElem? (i := 3) rfl))
theorem dX12_row_10 : decode cX12_row 10 = .ok (.ldc2_w 221, 3) := dk20 0 221 (BX12_row_3_0 (10, 20, 0, 221) (List.mem_of_getElem? (i := 2) rfl))
theorem dX12_row_13 : decode cX12_row 13 = .ok (.invokestatic 136, 3) := dk184 0 136 (BX12_row_3_0 (13, 184, 0, 136) (List.mem_of_getElem? (i := 3) rfl))
theorem dX12_row_16 : decode cX12_row 16 = .ok (.ifCond .eq 9, 3) := dk153 0 9 (BX12_row_3_0 (16, 153, 0, 9) (List.mem_of_getElem? (i := 4) rfl))
theorem dX12_row_19 : decode cX12_row 19 = .ok (.iload_n 3, 1) := dk29 (BX12_row_1_0 (19, 29) (List.mem_of_getElem? (i := 4) rfl))
theorem dX12_row_20 : decode cX12_row 20 = .ok (.bipush 60, 2) := dk16 60 (BX12_row_2_0 (20, 16, 60) (List.mem_of_getElem? (i := 0) rfl))
theorem dX12_row_22 : decode cX12_row 22 = .ok (.if_icmp .le 5, 3) := dk164 0 5 (BX12_row_3_0 (22, 164, 0, 5) (List.mem_of_getElem? (i := 5) rfl))
theorem dX12_row_25 : decode cX12_row 25 = .ok (.iconst (-1), 1) := dk2 (BX12_row_1_0 (25, 2) (List.mem_of_getElem? (i := 5) rfl))
theorem dX12_row_26 : decode cX12_row 26 = .ok (.ireturn, 1) := dk172 (BX12_row_1_0 (26, 172) (List.mem_of_getElem? (i := 6) rfl))
theorem dX12_row_27 : decode cX12_row 27 = .ok (.iload_n 3, 1) := dk29 (BX12_row_1_0 (27, 29) (List.mem_of_getElem? (i := 7) rfl))
theorem dX12_row_28 : decode cX12_row 28 = .ok (.ifCond .ge 6, 3) := dk156 0 6 (BX12_row_3_0 (28, 156, 0, 6) (List.mem_of_getElem? (i := 6) rfl))
theorem dX12_row_31 : decode cX12_row 31 = .ok (.bipush (-14), 2) := dk16 242 (BX12_row_2_0 (31, 16, 242) (List.mem_of_getElem? (i := 1) rfl))
theorem dX12_row_33 : decode cX12_row 33 = .ok (.ireturn, 1) := dk172 (BX12_row_1_0 (33, 172) (List.mem_of_getElem? (i := 8) rfl))
theorem dX12_row_34 : decode cX12_row 34 = .ok (.aload_n 0, 1) := dk42 (BX12_row_1_0 (34, 42) (List.mem_of_getElem? (i := 9) rfl))
theorem dX12_row_35 : decode cX12_row 35 = .ok (.getfield 107, 3) := dk180 0 107 (BX12_row_3_0 (35, 180, 0, 107) (List.mem_of_getElem? (i := 7) rfl))
theorem dX12_row_38 : decode cX12_row 38 = .ok (.iload_n 1, 1) := dk27 (BX12_row_1_0 (38, 27) (List.mem_of_getElem? (i := 10) rfl))
theorem dX12_row_39 : decode cX12_row 39 = .ok (.bipush 50, 2) := dk16 50 (BX12_row_2_0 (39, 16, 50) (List.mem_of_getElem? (i := 2) rfl))
theorem dX12_row_41 : decode cX12_row 41 = .ok (.iload_n 2, 1) := dk28 (BX12_row_1_0 (41, 28) (List.mem_of_getElem? (i := 11) rfl))
theorem dX12_row_42 : decode cX12_row 42 = .ok (.iadd, 1) := dk96 (BX12_row_1_1 (42, 96) (List.mem_of_getElem? (i := 0) rfl))
theorem dX12_row_43 : decode cX12_row 43 = .ok (.iastore, 1) := dk79 (BX12_row_1_1 (43, 79) (List.mem_of_getElem? (i := 1) rfl))
theorem dX12_row_44 : decode cX12_row 44 = .ok (.aload_n 0, 1) := dk42 (BX12_row_1_1 (44, 42) (List.mem_of_getElem? (i := 2) rfl))
theorem dX12_row_45 : decode cX12_row 45 = .ok (.getfield 110, 3) := dk180 0 110 (BX12_row_3_0 (45, 180, 0, 110) (List.mem_of_getElem? (i := 8) rfl))
theorem dX12_row_48 : decode cX12_row 48 = .ok (.iload_n 1, 1) := dk27 (BX12_row_1_1 (48, 27) (List.mem_of_getElem? (i := 3) rfl))
theorem dX12_row_49 : decode cX12_row 49 = .ok (.iload_n 3, 1) := dk29 (BX12_row_1_1 (49, 29) (List.mem_of_getElem? (i := 4) rfl))
theorem dX12_row_50 : decode cX12_row 50 = .ok (.iastore, 1) := dk79 (BX12_row_1_1 (50, 79) (List.mem_of_getElem? (i := 5) rfl))
theorem dX12_row_51 : decode cX12_row 51 = .ok (.bipush 60, 2) := dk16 60 (BX12_row_2_0 (51, 16, 60) (List.mem_of_getElem? (i := 3) rfl))
theorem dX12_row_53 : decode cX12_row 53 = .ok (.iload_n 1, 1) := dk27 (BX12_row_1_1 (53, 27) (List.mem_of_getElem? (i := 6) rfl))
theorem dX12_row_54 : decode cX12_row 54 = .ok (.imul, 1) := dk104 (BX12_row_1_1 (54, 104) (List.mem_of_getElem? (i := 7) rfl))
theorem dX12_row_55 : decode cX12_row 55 = .ok (.istore 4, 2) := dk54 4 (BX12_row_2_0 (55, 54, 4) (List.mem_of_getElem? (i := 4) rfl))
theorem dX12_row_57 : decode cX12_row 57 = .ok (.iload 4, 2) := dk21 4 (BX12_row_2_0 (57, 21, 4) (List.mem_of_getElem? (i := 5) rfl))
theorem dX12_row_59 : decode cX12_row 59 = .ok (.bipush 60, 2) := dk16 60 (BX12_row_2_0 (59, 16, 60) (List.mem_of_getElem? (i := 6) rfl))
theorem dX12_row_61 : decode cX12_row 61 = .ok (.iload_n 1, 1) := dk27 (BX12_row_1_1 (61, 27) (List.mem_of_getElem? (i := 8) rfl))
theorem dX12_row_62 : decode cX12_row 62 = .ok (.imul, 1) := dk104 (BX12_row_1_1 (62, 104) (List.mem_of_getElem? (i := 9) rfl))
theorem dX12_row_63 : decode cX12_row 63 = .ok (.bipush 60, 2) := dk16 60 (BX12_row_2_0 (63, 16, 60) (List.mem_of_getElem? (i := 7) rfl))
theorem dX12_row_65 : decode cX12_row 65 = .ok (.iadd, 1) := dk96 (BX12_row_1_1 (65, 96) (List.mem_of_getElem? (i := 10) rfl))
theorem dX12_row_66 : decode cX12_row 66 = .ok (.if_icmp .ge 17, 3) := dk162 0 17 (BX12_row_3_0 (66, 162, 0, 17) (List.mem_of_getElem? (i := 9) rfl))
theorem dX12_row_69 : decode cX12_row 69 = .ok (.aload_n 0, 1) := dk42 (BX12_row_1_1 (69, 42) (List.mem_of_getElem? (i := 11) rfl))
theorem dX12_row_70 : decode cX12_row 70 = .ok (.getfield 113, 3) := dk180 0 113 (BX12_row_3_0 (70, 180, 0, 113) (List.mem_of_getElem? (i := 10) rfl))
theorem dX12_row_73 : decode cX12_row 73 = .ok (.iload 4, 2) := dk21 4 (BX12_row_2_0 (73, 21, 4) (List.mem_of_getElem? (i := 8) rfl))
theorem dX12_row_75 : decode cX12_row 75 = .ok (.lconst 0, 1) := dk9 (BX12_row_1_2 (75, 9) (List.mem_of_getElem? (i := 0) rfl))
theorem dX12_row_76 : decode cX12_row 76 = .ok (.lastore, 1) := dk80 (BX12_row_1_2 (76, 80) (List.mem_of_getElem? (i := 1) rfl))
theorem dX12_row_77 : decode cX12_row 77 = .ok (.iinc 4 1, 3) := dk132 4 1 (BX12_row_3_0 (77, 132, 4, 1) (List.mem_of_getElem? (i := 11) rfl))
theorem dX12_row_80 : decode cX12_row 80 = .ok (.goto (-23), 3) := dk167 255 233 (BX12_row_3_1 (80, 167, 255, 233) (List.mem_of_getElem? (i := 0) rfl))
theorem dX12_row_83 : decode cX12_row 83 = .ok (.iconst 1, 1) := dk4 (BX12_row_1_2 (83, 4) (List.mem_of_getElem? (i := 2) rfl))
theorem dX12_row_84 : decode cX12_row 84 = .ok (.ireturn, 1) := dk172 (BX12_row_1_2 (84, 172) (List.mem_of_getElem? (i := 3) rfl))
set_option maxRecDepth 20000 in
theorem ggX12_refusal_X12_isShelf : GoodIn wsX12_refusal wsX12_isShelf := goodIn_g ch_wsX12_refusal_flat gd_wsX12_refusal _ [(1, 5), (1, 6), (1, 7), (1, 8), (1, 4), (1, 9)] rfl
set_option maxRecDepth 20000 in
theorem gX12_refusal_X12_isShelf : GoodIn wsX12_refusal (va_wsS RX12 238 yX12_isShelf wsX12_isShelf) := goodIn_app (goodIn_g ch_wsX12_refusal_flat gd_wsX12_refusal _ [(1, 2), (1, 3), (1, 4)] rfl) ggX12_refusal_X12_isShelf
set_option maxRecDepth 20000 in
theorem SX12_refusal : ∀ p : Nat, gb cX12_refusal p = segF [[27, 184, 0, 238, 154, 0, 5, 2, 172, 42, 180, 0, 107, 27, 46, 156, 0, 6, 16, 245, 172, 42, 180, 0, 107, 27, 46, 16, 50, 162, 0, 6, 16, 244, 172, 28, 155, 0, 17, 28, 42, 180, 0, 110, 27, 46, 162, 0, 7, 3, 167, 0, 5, 16, 243, 172]] p := seg_gb (S := [[27, 184, 0, 238, 154, 0, 5, 2, 172, 42, 180, 0, 107, 27, 46, 156, 0, 6, 16, 245, 172, 42, 180, 0, 107, 27, 46, 16, 50, 162, 0, 6, 16, 244, 172, 28, 155, 0, 17, 28, 42, 180, 0, 110, 27, 46, 162, 0, 7, 3, 167, 0, 5, 16, 243, 172]]) (by decide +kernel) (by decide +kernel)
set_option maxRecDepth 20000 in
theorem BX12_refusal_1_0 : ∀ q ∈ ([(0, 27), (7, 2), (8, 172), (9, 42), (13, 27), (14, 46), (20, 172), (21, 42), (25, 27), (26, 46), (34, 172), (35, 28)] : List (Nat × Nat)), gb cX12_refusal q.1 = some q.2 := seg_1 SX12_refusal _ (by decide +kernel)
set_option maxRecDepth 20000 in
theorem BX12_refusal_1_1 : ∀ q ∈ ([(39, 28), (40, 42), (44, 27), (45, 46), (49, 3), (55, 172)] : List (Nat × Nat)), gb cX12_refusal q.1 = some q.2 := seg_1 SX12_refusal _ (by decide +kernel)
set_option maxRecDepth 20000 in
theorem BX12_refusal_2_0 : ∀ q ∈ ([(18, 16, 245), (27, 16, 50), (32, 16, 244), (53, 16, 243)] : List (Nat × Nat × Nat)), gb cX12_refusal q.1 = some q.2.1 ∧ gb cX12_refusal (q.1 + 1) = some q.2.2 := seg_2 SX12_refusal _ (by decide +kernel)
set_option maxRecDepth 20000 in
theorem BX12_refusal_3_0 : ∀ q ∈ ([(1, 184, 0, 238), (4, 154, 0, 5), (10, 180, 0, 107), (15, 156, 0, 6), (22, 180, 0, 107), (29, 162, 0, 6), (36, 155, 0, 17), (41, 180, 0, 110), (46, 162, 0, 7), (50, 167, 0, 5)] : List (Nat × Nat × Nat × Nat)), gb cX12_refusal q.1 = some q.2.1 ∧ gb cX12_refusal (q.1 + 1) = some q.2.2.1 ∧ gb cX12_refusal (q.1 + 2) = some q.2.2.2 := seg_3 SX12_refusal _ (by decide +kernel)
theorem dX12_refusal_0 : decode cX12_refusal 0 = .ok (.iload_n 1, 1) := dk27 (BX12_refusal_1_0 (0, 27) (List.mem_of_getElem? (i := 0) rfl))
theorem dX12_refusal_1 : decode cX12_refusal 1 = .ok (.invokestatic 238, 3) := dk184 0 238 (BX12_refusal_3_0 (1, 184, 0, 238) (List.mem_of_getElem? (i := 0) rfl))
theorem dX12_refusal_4 : decode cX12_refusal 4 = .ok (.ifCond .ne 5, 3) := dk154 0 5 (BX12_refusal_3_0 (4, 154, 0, 5) (List.mem_of_getElem? (i := 1) rfl))
theorem dX12_refusal_7 : decode cX12_refusal 7 = .ok (.iconst (-1), 1) := dk2 (BX12_refusal_1_0 (7, 2) (List.mem_of_getElem? (i := 1) rfl))
theorem dX12_refusal_8 : decode cX12_refusal 8 = .ok (.ireturn, 1) := dk172 (BX12_refusal_1_0 (8, 172) (List.mem_of_getElem? (i := 2) rfl))
theorem dX12_refusal_9 : decode cX12_refusal 9 = .ok (.aload_n 0, 1) := dk42 (BX12_refusal_1_0 (9, 42) (List.mem_of_getElem? (i := 3) rfl))
theorem dX12_refusal_10 : decode cX12_refusal 10 = .ok (.getfield 107, 3) := dk180 0 107 (BX12_refusal_3_0 (10, 180, 0, 107) (List.mem_of_getElem? (i := 2) rfl))
theorem dX12_refusal_13 : decode cX12_refusal 13 = .ok (.iload_n 1, 1) := dk27 (BX12_refusal_1_0 (13, 27) (List.mem_of_getElem? (i := 4) rfl))
theorem dX12_refusal_14 : decode cX12_refusal 14 = .ok (.iaload, 1) := dk46 (BX12_refusal_1_0 (14, 46) (List.mem_of_getElem? (i := 5) rfl))
theorem dX12_refusal_15 : decode cX12_refusal 15 = .ok (.ifCond .ge 6, 3) := dk156 0 6 (BX12_refusal_3_0 (15, 156, 0, 6) (List.mem_of_getElem? (i := 3) rfl))
theorem dX12_refusal_18 : decode cX12_refusal 18 = .ok (.bipush (-11), 2) := dk16 245 (BX12_refusal_2_0 (18, 16, 245) (List.mem_of_getElem? (i := 0) rfl))
theorem dX12_refusal_20 : decode cX12_refusal 20 = .ok (.ireturn, 1) := dk172 (BX12_refusal_1_0 (20, 172) (List.mem_of_getElem? (i := 6) rfl))
theorem dX12_refusal_21 : decode cX12_refusal 21 = .ok (.aload_n 0, 1) := dk42 (BX12_refusal_1_0 (21, 42) (List.mem_of_getElem? (i := 7) rfl))
theorem dX12_refusal_22 : decode cX12_refusal 22 = .ok (.getfield 107, 3) := dk180 0 107 (BX12_refusal_3_0 (22, 180, 0, 107) (List.mem_of_getElem? (i := 4) rfl))
theorem dX12_refusal_25 : decode cX12_refusal 25 = .ok (.iload_n 1, 1) := dk27 (BX12_refusal_1_0 (25, 27) (List.mem_of_getElem? (i := 8) rfl))
theorem dX12_refusal_26 : decode cX12_refusal 26 = .ok (.iaload, 1) := dk46 (BX12_refusal_1_0 (26, 46) (List.mem_of_getElem? (i := 9) rfl))
theorem dX12_refusal_27 : decode cX12_refusal 27 = .ok (.bipush 50, 2) := dk16 50 (BX12_refusal_2_0 (27, 16, 50) (List.mem_of_getElem? (i := 1) rfl))
theorem dX12_refusal_29 : decode cX12_refusal 29 = .ok (.if_icmp .ge 6, 3) := dk162 0 6 (BX12_refusal_3_0 (29, 162, 0, 6) (List.mem_of_getElem? (i := 5) rfl))
theorem dX12_refusal_32 : decode cX12_refusal 32 = .ok (.bipush (-12), 2) := dk16 244 (BX12_refusal_2_0 (32, 16, 244) (List.mem_of_getElem? (i := 2) rfl))
theorem dX12_refusal_34 : decode cX12_refusal 34 = .ok (.ireturn, 1) := dk172 (BX12_refusal_1_0 (34, 172) (List.mem_of_getElem? (i := 10) rfl))
theorem dX12_refusal_35 : decode cX12_refusal 35 = .ok (.iload_n 2, 1) := dk28 (BX12_refusal_1_0 (35, 28) (List.mem_of_getElem? (i := 11) rfl))
theorem dX12_refusal_36 : decode cX12_refusal 36 = .ok (.ifCond .lt 17, 3) := dk155 0 17 (BX12_refusal_3_0 (36, 155, 0, 17) (List.mem_of_getElem? (i := 6) rfl))
theorem dX12_refusal_39 : decode cX12_refusal 39 = .ok (.iload_n 2, 1) := dk28 (BX12_refusal_1_1 (39, 28) (List.mem_of_getElem? (i := 0) rfl))
theorem dX12_refusal_40 : decode cX12_refusal 40 = .ok (.aload_n 0, 1) := dk42 (BX12_refusal_1_1 (40, 42) (List.mem_of_getElem? (i := 1) rfl))
theorem dX12_refusal_41 : decode cX12_refusal 41 = .ok (.getfield 110, 3) := dk180 0 110 (BX12_refusal_3_0 (41, 180, 0, 110) (List.mem_of_getElem? (i := 7) rfl))
theorem dX12_refusal_44 : decode cX12_refusal 44 = .ok (.iload_n 1, 1) := dk27 (BX12_refusal_1_1 (44, 27) (List.mem_of_getElem? (i := 2) rfl))
theorem dX12_refusal_45 : decode cX12_refusal 45 = .ok (.iaload, 1) := dk46 (BX12_refusal_1_1 (45, 46) (List.mem_of_getElem? (i := 3) rfl))
theorem dX12_refusal_46 : decode cX12_refusal 46 = .ok (.if_icmp .ge 7, 3) := dk162 0 7 (BX12_refusal_3_0 (46, 162, 0, 7) (List.mem_of_getElem? (i := 8) rfl))
theorem dX12_refusal_49 : decode cX12_refusal 49 = .ok (.iconst 0, 1) := dk3 (BX12_refusal_1_1 (49, 3) (List.mem_of_getElem? (i := 4) rfl))
theorem dX12_refusal_50 : decode cX12_refusal 50 = .ok (.goto 5, 3) := dk167 0 5 (BX12_refusal_3_0 (50, 167, 0, 5) (List.mem_of_getElem? (i := 9) rfl))
theorem dX12_refusal_53 : decode cX12_refusal 53 = .ok (.bipush (-13), 2) := dk16 243 (BX12_refusal_2_0 (53, 16, 243) (List.mem_of_getElem? (i := 3) rfl))
theorem dX12_refusal_55 : decode cX12_refusal 55 = .ok (.ireturn, 1) := dk172 (BX12_refusal_1_1 (55, 172) (List.mem_of_getElem? (i := 5) rfl))
set_option maxRecDepth 20000 in
theorem SX12_asSort : ∀ p : Nat, gb cX12_asSort p = segF [[26, 154, 0, 10, 31, 136, 145, 133, 167, 0, 46, 26, 4, 160, 0, 10, 31, 136, 147, 133, 167, 0, 34, 26, 5, 160, 0, 9, 31, 136, 133, 167, 0, 23, 26, 7, 160, 0, 17, 31, 9, 148, 153, 0, 7, 10, 167, 0, 8, 9, 167, 0, 4, 31, 173]] p := seg_gb (S := [[26, 154, 0, 10, 31, 136, 145, 133, 167, 0, 46, 26, 4, 160, 0, 10, 31, 136, 147, 133, 167, 0, 34, 26, 5, 160, 0, 9, 31, 136, 133, 167, 0, 23, 26, 7, 160, 0, 17, 31, 9, 148, 153, 0, 7, 10, 167, 0, 8, 9, 167, 0, 4, 31, 173]]) (by decide +kernel) (by decide +kernel)
set_option maxRecDepth 20000 in
theorem BX12_asSort_1_0 : ∀ q ∈ ([(0, 26), (4, 31), (5, 136), (6, 145), (7, 133), (11, 26), (12, 4), (16, 31), (17, 136), (18, 147), (19, 133), (23, 26)] : List (Nat × Nat)), gb cX12_asSort q.1 = some q.2 := seg_1 SX12_asSort _ (by decide +kernel)
set_option maxRecDepth 20000 in
theorem BX12_asSort_1_1 : ∀ q ∈ ([(24, 5), (28, 31), (29, 136), (30, 133), (34, 26), (35, 7), (39, 31), (40, 9), (41, 148), (45, 10), (49, 9), (53, 31)] : List (Nat × Nat)), gb cX12_asSort q.1 = some q.2 := seg_1 SX12_asSort _ (by decide +kernel)
set_option maxRecDepth 20000 in
theorem BX12_asSort_1_2 : ∀ q ∈ ([(54, 173)] : List (Nat × Nat)), gb cX12_asSort q.1 = some q.2 := seg_1 SX12_asSort _ (by decide +kernel)
set_option maxRecDepth 20000 in
theorem BX12_asSort_3_0 : ∀ q ∈ ([(1, 154, 0, 10), (8, 167, 0, 46), (13, 160, 0, 10), (20, 167, 0, 34), (25, 160, 0, 9), (31, 167, 0, 23), (36, 160, 0, 17), (42, 153, 0, 7), (46, 167, 0, 8), (50, 167, 0, 4)] : List (Nat × Nat × Nat × Nat)), gb cX12_asSort q.1 = some q.2.1 ∧ gb cX12_asSort (q.1 + 1) = some q.2.2.1 ∧ gb cX12_asSort (q.1 + 2) = some q.2.2.2 := seg_3 SX12_asSort _ (by decide +kernel)
theorem dX12_asSort_0 : decode cX12_asSort 0 = .ok (.iload_n 0, 1) := dk26 (BX12_asSort_1_0 (0, 26) (List.mem_of_getElem? (i := 0) rfl))
theorem dX12_asSort_1 : decode cX12_asSort 1 = .ok (.ifCond .ne 10, 3) := dk154 0 10 (BX12_asSort_3_0 (1, 154, 0, 10) (List.mem_of_getElem? (i := 0) rfl))
theorem dX12_asSort_4 : decode cX12_asSort 4 = .ok (.lload_n 1, 1) := dk31 (BX12_asSort_1_0 (4, 31) (List.mem_of_getElem? (i := 1) rfl))
theorem dX12_asSort_5 : decode cX12_asSort 5 = .ok (.l2i, 1) := dk136 (BX12_asSort_1_0 (5, 136) (List.mem_of_getElem? (i := 2) rfl))
theorem dX12_asSort_6 : decode cX12_asSort 6 = .ok (.i2b, 1) := dk145 (BX12_asSort_1_0 (6, 145) (List.mem_of_getElem? (i := 3) rfl))
theorem dX12_asSort_7 : decode cX12_asSort 7 = .ok (.i2l, 1) := dk133 (BX12_asSort_1_0 (7, 133) (List.mem_of_getElem? (i := 4) rfl))
theorem dX12_asSort_8 : decode cX12_asSort 8 = .ok (.goto 46, 3) := dk167 0 46 (BX12_asSort_3_0 (8, 167, 0, 46) (List.mem_of_getElem? (i := 1) rfl))
theorem dX12_asSort_11 : decode cX12_asSort 11 = .ok (.iload_n 0, 1) := dk26 (BX12_asSort_1_0 (11, 26) (List.mem_of_getElem? (i := 5) rfl))
theorem dX12_asSort_12 : decode cX12_asSort 12 = .ok (.iconst 1, 1) := dk4 (BX12_asSort_1_0 (12, 4) (List.mem_of_getElem? (i := 6) rfl))
theorem dX12_asSort_13 : decode cX12_asSort 13 = .ok (.if_icmp .ne 10, 3) := dk160 0 10 (BX12_asSort_3_0 (13, 160, 0, 10) (List.mem_of_getElem? (i := 2) rfl))
theorem dX12_asSort_16 : decode cX12_asSort 16 = .ok (.lload_n 1, 1) := dk31 (BX12_asSort_1_0 (16, 31) (List.mem_of_getElem? (i := 7) rfl))
theorem dX12_asSort_17 : decode cX12_asSort 17 = .ok (.l2i, 1) := dk136 (BX12_asSort_1_0 (17, 136) (List.mem_of_getElem? (i := 8) rfl))
theorem dX12_asSort_18 : decode cX12_asSort 18 = .ok (.i2s, 1) := dk147 (BX12_asSort_1_0 (18, 147) (List.mem_of_getElem? (i := 9) rfl))
theorem dX12_asSort_19 : decode cX12_asSort 19 = .ok (.i2l, 1) := dk133 (BX12_asSort_1_0 (19, 133) (List.mem_of_getElem? (i := 10) rfl))
theorem dX12_asSort_20 : decode cX12_asSort 20 = .ok (.goto 34, 3) := dk167 0 34 (BX12_asSort_3_0 (20, 167, 0, 34) (List.mem_of_getElem? (i := 3) rfl))
theorem dX12_asSort_23 : decode cX12_asSort 23 = .ok (.iload_n 0, 1) := dk26 (BX12_asSort_1_0 (23, 26) (List.mem_of_getElem? (i := 11) rfl))
theorem dX12_asSort_24 : decode cX12_asSort 24 = .ok (.iconst 2, 1) := dk5 (BX12_asSort_1_1 (24, 5) (List.mem_of_getElem? (i := 0) rfl))
theorem dX12_asSort_25 : decode cX12_asSort 25 = .ok (.if_icmp .ne 9, 3) := dk160 0 9 (BX12_asSort_3_0 (25, 160, 0, 9) (List.mem_of_getElem? (i := 4) rfl))
theorem dX12_asSort_28 : decode cX12_asSort 28 = .ok (.lload_n 1, 1) := dk31 (BX12_asSort_1_1 (28, 31) (List.mem_of_getElem? (i := 1) rfl))
theorem dX12_asSort_29 : decode cX12_asSort 29 = .ok (.l2i, 1) := dk136 (BX12_asSort_1_1 (29, 136) (List.mem_of_getElem? (i := 2) rfl))
theorem dX12_asSort_30 : decode cX12_asSort 30 = .ok (.i2l, 1) := dk133 (BX12_asSort_1_1 (30, 133) (List.mem_of_getElem? (i := 3) rfl))
theorem dX12_asSort_31 : decode cX12_asSort 31 = .ok (.goto 23, 3) := dk167 0 23 (BX12_asSort_3_0 (31, 167, 0, 23) (List.mem_of_getElem? (i := 5) rfl))
theorem dX12_asSort_34 : decode cX12_asSort 34 = .ok (.iload_n 0, 1) := dk26 (BX12_asSort_1_1 (34, 26) (List.mem_of_getElem? (i := 4) rfl))
theorem dX12_asSort_35 : decode cX12_asSort 35 = .ok (.iconst 4, 1) := dk7 (BX12_asSort_1_1 (35, 7) (List.mem_of_getElem? (i := 5) rfl))
theorem dX12_asSort_36 : decode cX12_asSort 36 = .ok (.if_icmp .ne 17, 3) := dk160 0 17 (BX12_asSort_3_0 (36, 160, 0, 17) (List.mem_of_getElem? (i := 6) rfl))
theorem dX12_asSort_39 : decode cX12_asSort 39 = .ok (.lload_n 1, 1) := dk31 (BX12_asSort_1_1 (39, 31) (List.mem_of_getElem? (i := 6) rfl))
theorem dX12_asSort_40 : decode cX12_asSort 40 = .ok (.lconst 0, 1) := dk9 (BX12_asSort_1_1 (40, 9) (List.mem_of_getElem? (i := 7) rfl))
theorem dX12_asSort_41 : decode cX12_asSort 41 = .ok (.lcmp, 1) := dk148 (BX12_asSort_1_1 (41, 148) (List.mem_of_getElem? (i := 8) rfl))
theorem dX12_asSort_42 : decode cX12_asSort 42 = .ok (.ifCond .eq 7, 3) := dk153 0 7 (BX12_asSort_3_0 (42, 153, 0, 7) (List.mem_of_getElem? (i := 7) rfl))
theorem dX12_asSort_45 : decode cX12_asSort 45 = .ok (.lconst 1, 1) := dk10 (BX12_asSort_1_1 (45, 10) (List.mem_of_getElem? (i := 9) rfl))
theorem dX12_asSort_46 : decode cX12_asSort 46 = .ok (.goto 8, 3) := dk167 0 8 (BX12_asSort_3_0 (46, 167, 0, 8) (List.mem_of_getElem? (i := 8) rfl))
theorem dX12_asSort_49 : decode cX12_asSort 49 = .ok (.lconst 0, 1) := dk9 (BX12_asSort_1_1 (49, 9) (List.mem_of_getElem? (i := 10) rfl))
theorem dX12_asSort_50 : decode cX12_asSort 50 = .ok (.goto 4, 3) := dk167 0 4 (BX12_asSort_3_0 (50, 167, 0, 4) (List.mem_of_getElem? (i := 9) rfl))
theorem dX12_asSort_53 : decode cX12_asSort 53 = .ok (.lload_n 1, 1) := dk31 (BX12_asSort_1_1 (53, 31) (List.mem_of_getElem? (i := 11) rfl))
theorem dX12_asSort_54 : decode cX12_asSort 54 = .ok (.lreturn, 1) := dk173 (BX12_asSort_1_2 (54, 173) (List.mem_of_getElem? (i := 0) rfl))
set_option maxRecDepth 20000 in
theorem ggX12_put_X12_refusal : GoodIn wsX12_put wsX12_refusal := gcons (goodIn_g ch_wsX12_put_flat gd_wsX12_put _ [(1, 6)] rfl) (goodIn_app (goodIn_g ch_wsX12_put_flat gd_wsX12_put _ [(1, 1), (1, 7), (1, 8), (1, 9), (1, 5), (1, 10), (1, 11), (1, 12), (1, 13), (1, 14)] rfl) (gchunk ch_wsX12_put_flat gd_wsX12_put 2 rfl))
set_option maxRecDepth 20000 in
theorem gX12_put_X12_refusal : GoodIn wsX12_put (wsV RX12 410 RX12 yX12_refusal wsX12_refusal) := goodIn_app (goodIn_g ch_wsX12_put_flat gd_wsX12_put _ [(1, 2), (1, 3), (1, 4), (1, 5)] rfl) ggX12_put_X12_refusal
set_option maxRecDepth 20000 in
theorem ggX12_put_X12_asSort : GoodIn wsX12_put wsX12_asSort := goodIn_g ch_wsX12_put_flat gd_wsX12_put _ [(1, 17)] rfl
set_option maxRecDepth 20000 in
theorem gX12_put_X12_asSort : GoodIn wsX12_put (va_wsS RX12 413 yX12_asSort wsX12_asSort) := goodIn_app (goodIn_g ch_wsX12_put_flat gd_wsX12_put _ [(1, 15), (1, 16), (1, 5)] rfl) ggX12_put_X12_asSort
set_option maxRecDepth 20000 in
theorem SX12_put : ∀ p : Nat, gb cX12_put p = segF [[42, 27, 28, 182, 1, 154, 54, 5, 21, 5, 154, 0, 27, 42, 180, 0, 113, 16, 60, 27, 104, 28, 96, 42, 180, 0, 107, 27, 46, 16, 50, 100, 33, 184, 1, 157, 80, 21, 5, 154, 0, 7, 4, 167, 0, 5, 21, 5, 172]] p := seg_gb (S := [[42, 27, 28, 182, 1, 154, 54, 5, 21, 5, 154, 0, 27, 42, 180, 0, 113, 16, 60, 27, 104, 28, 96, 42, 180, 0, 107, 27, 46, 16, 50, 100, 33, 184, 1, 157, 80, 21, 5, 154, 0, 7, 4, 167, 0, 5, 21, 5, 172]]) (by decide +kernel) (by decide +kernel)
set_option maxRecDepth 20000 in
theorem BX12_put_1_0 : ∀ q ∈ ([(0, 42), (1, 27), (2, 28), (13, 42), (19, 27), (20, 104), (21, 28), (22, 96), (23, 42), (27, 27), (28, 46), (31, 100)] : List (Nat × Nat)), gb cX12_put q.1 = some q.2 := seg_1 SX12_put _ (by decide +kernel)
set_option maxRecDepth 20000 in
theorem BX12_put_1_1 : ∀ q ∈ ([(32, 33), (36, 80), (42, 4), (48, 172)] : List (Nat × Nat)), gb cX12_put q.1 = some q.2 := seg_1 SX12_put _ (by decide +kernel)
set_option maxRecDepth 20000 in
theorem BX12_put_2_0 : ∀ q ∈ ([(6, 54, 5), (8, 21, 5), (17, 16, 60), (29, 16, 50), (37, 21, 5), (46, 21, 5)] : List (Nat × Nat × Nat)), gb cX12_put q.1 = some q.2.1 ∧ gb cX12_put (q.1 + 1) = some q.2.2 := seg_2 SX12_put _ (by decide +kernel)
set_option maxRecDepth 20000 in
theorem BX12_put_3_0 : ∀ q ∈ ([(3, 182, 1, 154), (10, 154, 0, 27), (14, 180, 0, 113), (24, 180, 0, 107), (33, 184, 1, 157), (39, 154, 0, 7), (43, 167, 0, 5)] : List (Nat × Nat × Nat × Nat)), gb cX12_put q.1 = some q.2.1 ∧ gb cX12_put (q.1 + 1) = some q.2.2.1 ∧ gb cX12_put (q.1 + 2) = some q.2.2.2 := seg_3 SX12_put _ (by decide +kernel)
theorem dX12_put_0 : decode cX12_put 0 = .ok (.aload_n 0, 1) := dk42 (BX12_put_1_0 (0, 42) (List.mem_of_getElem? (i := 0) rfl))
theorem dX12_put_1 : decode cX12_put 1 = .ok (.iload_n 1, 1) := dk27 (BX12_put_1_0 (1, 27) (List.mem_of_getElem? (i := 1) rfl))
theorem dX12_put_2 : decode cX12_put 2 = .ok (.iload_n 2, 1) := dk28 (BX12_put_1_0 (2, 28) (List.mem_of_getElem? (i := 2) rfl))
theorem dX12_put_3 : decode cX12_put 3 = .ok (.invokevirtual 410, 3) := dk182 1 154 (BX12_put_3_0 (3, 182, 1, 154) (List.mem_of_getElem? (i := 0) rfl))
theorem dX12_put_6 : decode cX12_put 6 = .ok (.istore 5, 2) := dk54 5 (BX12_put_2_0 (6, 54, 5) (List.mem_of_getElem? (i := 0) rfl))
theorem dX12_put_8 : decode cX12_put 8 = .ok (.iload 5, 2) := dk21 5 (BX12_put_2_0 (8, 21, 5) (List.mem_of_getElem? (i := 1) rfl))
theorem dX12_put_10 : decode cX12_put 10 = .ok (.ifCond .ne 27, 3) := dk154 0 27 (BX12_put_3_0 (10, 154, 0, 27) (List.mem_of_getElem? (i := 1) rfl))
theorem dX12_put_13 : decode cX12_put 13 = .ok (.aload_n 0, 1) := dk42 (BX12_put_1_0 (13, 42) (List.mem_of_getElem? (i := 3) rfl))
theorem dX12_put_14 : decode cX12_put 14 = .ok (.getfield 113, 3) := dk180 0 113 (BX12_put_3_0 (14, 180, 0, 113) (List.mem_of_getElem? (i := 2) rfl))
theorem dX12_put_17 : decode cX12_put 17 = .ok (.bipush 60, 2) := dk16 60 (BX12_put_2_0 (17, 16, 60) (List.mem_of_getElem? (i := 2) rfl))
theorem dX12_put_19 : decode cX12_put 19 = .ok (.iload_n 1, 1) := dk27 (BX12_put_1_0 (19, 27) (List.mem_of_getElem? (i := 4) rfl))
theorem dX12_put_20 : decode cX12_put 20 = .ok (.imul, 1) := dk104 (BX12_put_1_0 (20, 104) (List.mem_of_getElem? (i := 5) rfl))
theorem dX12_put_21 : decode cX12_put 21 = .ok (.iload_n 2, 1) := dk28 (BX12_put_1_0 (21, 28) (List.mem_of_getElem? (i := 6) rfl))
theorem dX12_put_22 : decode cX12_put 22 = .ok (.iadd, 1) := dk96 (BX12_put_1_0 (22, 96) (List.mem_of_getElem? (i := 7) rfl))
theorem dX12_put_23 : decode cX12_put 23 = .ok (.aload_n 0, 1) := dk42 (BX12_put_1_0 (23, 42) (List.mem_of_getElem? (i := 8) rfl))
theorem dX12_put_24 : decode cX12_put 24 = .ok (.getfield 107, 3) := dk180 0 107 (BX12_put_3_0 (24, 180, 0, 107) (List.mem_of_getElem? (i := 3) rfl))
theorem dX12_put_27 : decode cX12_put 27 = .ok (.iload_n 1, 1) := dk27 (BX12_put_1_0 (27, 27) (List.mem_of_getElem? (i := 9) rfl))
theorem dX12_put_28 : decode cX12_put 28 = .ok (.iaload, 1) := dk46 (BX12_put_1_0 (28, 46) (List.mem_of_getElem? (i := 10) rfl))
theorem dX12_put_29 : decode cX12_put 29 = .ok (.bipush 50, 2) := dk16 50 (BX12_put_2_0 (29, 16, 50) (List.mem_of_getElem? (i := 3) rfl))
theorem dX12_put_31 : decode cX12_put 31 = .ok (.isub, 1) := dk100 (BX12_put_1_0 (31, 100) (List.mem_of_getElem? (i := 11) rfl))
theorem dX12_put_32 : decode cX12_put 32 = .ok (.lload_n 3, 1) := dk33 (BX12_put_1_1 (32, 33) (List.mem_of_getElem? (i := 0) rfl))
theorem dX12_put_33 : decode cX12_put 33 = .ok (.invokestatic 413, 3) := dk184 1 157 (BX12_put_3_0 (33, 184, 1, 157) (List.mem_of_getElem? (i := 4) rfl))
theorem dX12_put_36 : decode cX12_put 36 = .ok (.lastore, 1) := dk80 (BX12_put_1_1 (36, 80) (List.mem_of_getElem? (i := 1) rfl))
theorem dX12_put_37 : decode cX12_put 37 = .ok (.iload 5, 2) := dk21 5 (BX12_put_2_0 (37, 21, 5) (List.mem_of_getElem? (i := 4) rfl))
theorem dX12_put_39 : decode cX12_put 39 = .ok (.ifCond .ne 7, 3) := dk154 0 7 (BX12_put_3_0 (39, 154, 0, 7) (List.mem_of_getElem? (i := 5) rfl))
theorem dX12_put_42 : decode cX12_put 42 = .ok (.iconst 1, 1) := dk4 (BX12_put_1_1 (42, 4) (List.mem_of_getElem? (i := 2) rfl))
theorem dX12_put_43 : decode cX12_put 43 = .ok (.goto 5, 3) := dk167 0 5 (BX12_put_3_0 (43, 167, 0, 5) (List.mem_of_getElem? (i := 6) rfl))
theorem dX12_put_46 : decode cX12_put 46 = .ok (.iload 5, 2) := dk21 5 (BX12_put_2_0 (46, 21, 5) (List.mem_of_getElem? (i := 5) rfl))
theorem dX12_put_48 : decode cX12_put 48 = .ok (.ireturn, 1) := dk172 (BX12_put_1_1 (48, 172) (List.mem_of_getElem? (i := 3) rfl))
set_option maxRecDepth 20000 in
theorem ggX12_element_X12_refusal : GoodIn wsX12_element wsX12_refusal := gcons (goodIn_g ch_wsX12_element_flat gd_wsX12_element _ [(1, 6)] rfl) (goodIn_app (goodIn_g ch_wsX12_element_flat gd_wsX12_element _ [(1, 7), (1, 8), (1, 9), (1, 10), (1, 5), (1, 11), (1, 12), (1, 13), (1, 14), (1, 15)] rfl) (gchunk ch_wsX12_element_flat gd_wsX12_element 2 rfl))
set_option maxRecDepth 20000 in
theorem gX12_element_X12_refusal : GoodIn wsX12_element (wsV RX12 410 RX12 yX12_refusal wsX12_refusal) := goodIn_app (goodIn_g ch_wsX12_element_flat gd_wsX12_element _ [(1, 2), (1, 3), (1, 4), (1, 5)] rfl) ggX12_element_X12_refusal
set_option maxRecDepth 20000 in
theorem SX12_element : ∀ p : Nat, gb cX12_element p = segF [[42, 27, 28, 182, 1, 154, 153, 0, 9, 20, 1, 163, 167, 0, 14, 42, 180, 0, 113, 16, 60, 27, 104, 28, 96, 47, 173]] p := seg_gb (S := [[42, 27, 28, 182, 1, 154, 153, 0, 9, 20, 1, 163, 167, 0, 14, 42, 180, 0, 113, 16, 60, 27, 104, 28, 96, 47, 173]]) (by decide +kernel) (by decide +kernel)
set_option maxRecDepth 20000 in
theorem BX12_element_1_0 : ∀ q ∈ ([(0, 42), (1, 27), (2, 28), (15, 42), (21, 27), (22, 104), (23, 28), (24, 96), (25, 47), (26, 173)] : List (Nat × Nat)), gb cX12_element q.1 = some q.2 := seg_1 SX12_element _ (by decide +kernel)
set_option maxRecDepth 20000 in
theorem BX12_element_2_0 : ∀ q ∈ ([(19, 16, 60)] : List (Nat × Nat × Nat)), gb cX12_element q.1 = some q.2.1 ∧ gb cX12_element (q.1 + 1) = some q.2.2 := seg_2 SX12_element _ (by decide +kernel)
set_option maxRecDepth 20000 in
theorem BX12_element_3_0 : ∀ q ∈ ([(3, 182, 1, 154), (6, 153, 0, 9), (9, 20, 1, 163), (12, 167, 0, 14), (16, 180, 0, 113)] : List (Nat × Nat × Nat × Nat)), gb cX12_element q.1 = some q.2.1 ∧ gb cX12_element (q.1 + 1) = some q.2.2.1 ∧ gb cX12_element (q.1 + 2) = some q.2.2.2 := seg_3 SX12_element _ (by decide +kernel)
theorem dX12_element_0 : decode cX12_element 0 = .ok (.aload_n 0, 1) := dk42 (BX12_element_1_0 (0, 42) (List.mem_of_getElem? (i := 0) rfl))
theorem dX12_element_1 : decode cX12_element 1 = .ok (.iload_n 1, 1) := dk27 (BX12_element_1_0 (1, 27) (List.mem_of_getElem? (i := 1) rfl))
theorem dX12_element_2 : decode cX12_element 2 = .ok (.iload_n 2, 1) := dk28 (BX12_element_1_0 (2, 28) (List.mem_of_getElem? (i := 2) rfl))
theorem dX12_element_3 : decode cX12_element 3 = .ok (.invokevirtual 410, 3) := dk182 1 154 (BX12_element_3_0 (3, 182, 1, 154) (List.mem_of_getElem? (i := 0) rfl))
theorem dX12_element_6 : decode cX12_element 6 = .ok (.ifCond .eq 9, 3) := dk153 0 9 (BX12_element_3_0 (6, 153, 0, 9) (List.mem_of_getElem? (i := 1) rfl))
theorem dX12_element_9 : decode cX12_element 9 = .ok (.ldc2_w 419, 3) := dk20 1 163 (BX12_element_3_0 (9, 20, 1, 163) (List.mem_of_getElem? (i := 2) rfl))
theorem dX12_element_12 : decode cX12_element 12 = .ok (.goto 14, 3) := dk167 0 14 (BX12_element_3_0 (12, 167, 0, 14) (List.mem_of_getElem? (i := 3) rfl))
theorem dX12_element_15 : decode cX12_element 15 = .ok (.aload_n 0, 1) := dk42 (BX12_element_1_0 (15, 42) (List.mem_of_getElem? (i := 3) rfl))
theorem dX12_element_16 : decode cX12_element 16 = .ok (.getfield 113, 3) := dk180 0 113 (BX12_element_3_0 (16, 180, 0, 113) (List.mem_of_getElem? (i := 4) rfl))
theorem dX12_element_19 : decode cX12_element 19 = .ok (.bipush 60, 2) := dk16 60 (BX12_element_2_0 (19, 16, 60) (List.mem_of_getElem? (i := 0) rfl))
theorem dX12_element_21 : decode cX12_element 21 = .ok (.iload_n 1, 1) := dk27 (BX12_element_1_0 (21, 27) (List.mem_of_getElem? (i := 4) rfl))
theorem dX12_element_22 : decode cX12_element 22 = .ok (.imul, 1) := dk104 (BX12_element_1_0 (22, 104) (List.mem_of_getElem? (i := 5) rfl))
theorem dX12_element_23 : decode cX12_element 23 = .ok (.iload_n 2, 1) := dk28 (BX12_element_1_0 (23, 28) (List.mem_of_getElem? (i := 6) rfl))
theorem dX12_element_24 : decode cX12_element 24 = .ok (.iadd, 1) := dk96 (BX12_element_1_0 (24, 96) (List.mem_of_getElem? (i := 7) rfl))
theorem dX12_element_25 : decode cX12_element 25 = .ok (.laload, 1) := dk47 (BX12_element_1_0 (25, 47) (List.mem_of_getElem? (i := 8) rfl))
theorem dX12_element_26 : decode cX12_element 26 = .ok (.lreturn, 1) := dk173 (BX12_element_1_0 (26, 173) (List.mem_of_getElem? (i := 9) rfl))
set_option maxRecDepth 20000 in
theorem ggX12_shift_X12_isShelf : GoodIn wsX12_shift wsX12_isShelf := goodIn_g ch_wsX12_shift_flat gd_wsX12_shift _ [(1, 7), (1, 8), (1, 9), (1, 10), (1, 6), (1, 11)] rfl
set_option maxRecDepth 20000 in
theorem gX12_shift_X12_isShelf : GoodIn wsX12_shift (va_wsS RX12 238 yX12_isShelf wsX12_isShelf) := goodIn_app (goodIn_g ch_wsX12_shift_flat gd_wsX12_shift _ [(1, 4), (1, 5), (1, 6)] rfl) ggX12_shift_X12_isShelf
set_option maxRecDepth 20000 in
theorem SX12_shift : ∀ p : Nat, gb cX12_shift p = segF [[27, 184, 0, 238, 153, 0, 10, 29, 184, 0, 238, 154, 0, 5, 2, 172, 42, 180, 0, 107, 27, 46, 155, 0, 12, 42, 180, 0, 107, 29, 46, 156, 0, 6, 16, 245, 172, 42, 180, 0, 107, 27, 46, 16, 50, 161, 0, 18, 42, 180, 0, 107, 27, 46, 42, 180, 0, 107, 29, 46, 159, 0, 6, 16], [244, 172, 21, 5, 155, 0, 39, 28, 155, 0, 35, 21, 4, 155, 0, 30, 28, 42, 180, 0, 110, 27, 46, 21, 5, 100, 163, 0, 17, 21, 4, 42, 180, 0, 110, 29, 46, 21, 5, 100, 164, 0, 6, 16, 243, 172, 3, 54, 6, 21, 6, 21, 5, 162, 0, 30, 42, 180, 0, 117, 21, 6, 42, 180], [0, 113, 16, 60, 27, 104, 28, 96, 21, 6, 96, 47, 80, 132, 6, 1, 167, 255, 225, 3, 54, 6, 21, 6, 21, 5, 162, 0, 31, 42, 180, 0, 113, 16, 60, 29, 104, 21, 4, 96, 21, 6, 96, 42, 180, 0, 117, 21, 6, 47, 80, 132, 6, 1, 167, 255, 224, 21, 5, 172]] p := seg_gb (S := [[27, 184, 0, 238, 153, 0, 10, 29, 184, 0, 238, 154, 0, 5, 2, 172, 42, 180, 0, 107, 27, 46, 155, 0, 12, 42, 180, 0, 107, 29, 46, 156, 0, 6, 16, 245, 172, 42, 180, 0, 107, 27, 46, 16, 50, 161, 0, 18, 42, 180, 0, 107, 27, 46, 42, 180, 0, 107, 29, 46, 159, 0, 6, 16], [244, 172, 21, 5, 155, 0, 39, 28, 155, 0, 35, 21, 4, 155, 0, 30, 28, 42, 180, 0, 110, 27, 46, 21, 5, 100, 163, 0, 17, 21, 4, 42, 180, 0, 110, 29, 46, 21, 5, 100, 164, 0, 6, 16, 243, 172, 3, 54, 6, 21, 6, 21, 5, 162, 0, 30, 42, 180, 0, 117, 21, 6, 42, 180], [0, 113, 16, 60, 27, 104, 28, 96, 21, 6, 96, 47, 80, 132, 6, 1, 167, 255, 225, 3, 54, 6, 21, 6, 21, 5, 162, 0, 31, 42, 180, 0, 113, 16, 60, 29, 104, 21, 4, 96, 21, 6, 96, 42, 180, 0, 117, 21, 6, 47, 80, 132, 6, 1, 167, 255, 224, 21, 5, 172]]) (by decide +kernel) (by decide +kernel)
set_option maxRecDepth 20000 in
theorem BX12_shift_1_0 : ∀ q ∈ ([(0, 27), (7, 29), (14, 2), (15, 172), (16, 42), (20, 27), (21, 46), (25, 42), (29, 29), (30, 46), (36, 172), (37, 42)] : List (Nat × Nat)), gb cX12_shift q.1 = some q.2 := seg_1 SX12_shift _ (by decide +kernel)
set_option maxRecDepth 20000 in
theorem BX12_shift_1_1 : ∀ q ∈ ([(41, 27), (42, 46), (48, 42), (52, 27), (53, 46), (54, 42), (58, 29), (59, 46), (65, 172), (71, 28), (80, 28), (81, 42)] : List (Nat × Nat)), gb cX12_shift q.1 = some q.2 := seg_1 SX12_shift _ (by decide +kernel)
set_option maxRecDepth 20000 in
theorem BX12_shift_1_2 : ∀ q ∈ ([(85, 27), (86, 46), (89, 100), (95, 42), (99, 29), (100, 46), (103, 100), (109, 172), (110, 3), (120, 42), (126, 42), (132, 27)] : List (Nat × Nat)), gb cX12_shift q.1 = some q.2 := seg_1 SX12_shift _ (by decide +kernel)
set_option maxRecDepth 20000 in
theorem BX12_shift_1_3 : ∀ q ∈ ([(133, 104), (134, 28), (135, 96), (138, 96), (139, 47), (140, 80), (147, 3), (157, 42), (163, 29), (164, 104), (167, 96), (170, 96)] : List (Nat × Nat)), gb cX12_shift q.1 = some q.2 := seg_1 SX12_shift _ (by decide +kernel)
set_option maxRecDepth 20000 in
theorem BX12_shift_1_4 : ∀ q ∈ ([(171, 42), (177, 47), (178, 80), (187, 172)] : List (Nat × Nat)), gb cX12_shift q.1 = some q.2 := seg_1 SX12_shift _ (by decide +kernel)
set_option maxRecDepth 20000 in
theorem BX12_shift_2_0 : ∀ q ∈ ([(34, 16, 245), (43, 16, 50), (63, 16, 244), (66, 21, 5), (75, 21, 4), (87, 21, 5), (93, 21, 4), (101, 21, 5), (107, 16, 243), (111, 54, 6), (113, 21, 6), (115, 21, 5)] : List (Nat × Nat × Nat)), gb cX12_shift q.1 = some q.2.1 ∧ gb cX12_shift (q.1 + 1) = some q.2.2 := seg_2 SX12_shift _ (by decide +kernel)
set_option maxRecDepth 20000 in
theorem BX12_shift_2_1 : ∀ q ∈ ([(124, 21, 6), (130, 16, 60), (136, 21, 6), (148, 54, 6), (150, 21, 6), (152, 21, 5), (161, 16, 60), (165, 21, 4), (168, 21, 6), (175, 21, 6), (185, 21, 5)] : List (Nat × Nat × Nat)), gb cX12_shift q.1 = some q.2.1 ∧ gb cX12_shift (q.1 + 1) = some q.2.2 := seg_2 SX12_shift _ (by decide +kernel)
set_option maxRecDepth 20000 in
theorem BX12_shift_3_0 : ∀ q ∈ ([(1, 184, 0, 238), (4, 153, 0, 10), (8, 184, 0, 238), (11, 154, 0, 5), (17, 180, 0, 107), (22, 155, 0, 12), (26, 180, 0, 107), (31, 156, 0, 6), (38, 180, 0, 107), (45, 161, 0, 18), (49, 180, 0, 107), (55, 180, 0, 107)] : List (Nat × Nat × Nat × Nat)), gb cX12_shift q.1 = some q.2.1 ∧ gb cX12_shift (q.1 + 1) = some q.2.2.1 ∧ gb cX12_shift (q.1 + 2) = some q.2.2.2 := seg_3 SX12_shift _ (by decide +kernel)
set_option maxRecDepth 20000 in
theorem BX12_shift_3_1 : ∀ q ∈ ([(60, 159, 0, 6), (68, 155, 0, 39), (72, 155, 0, 35), (77, 155, 0, 30), (82, 180, 0, 110), (90, 163, 0, 17), (96, 180, 0, 110), (104, 164, 0, 6), (117, 162, 0, 30), (121, 180, 0, 117), (127, 180, 0, 113), (141, 132, 6, 1)] : List (Nat × Nat × Nat × Nat)), gb cX12_shift q.1 = some q.2.1 ∧ gb cX12_shift (q.1 + 1) = some q.2.2.1 ∧ gb cX12_shift (q.1 + 2) = some q.2.2.2 := seg_3 SX12_shift _ (by decide +kernel)
set_option maxRecDepth 20000 in
theorem BX12_shift_3_2 : ∀ q ∈ ([(144, 167, 255, 225), (154, 162, 0, 31), (158, 180, 0, 113), (172, 180, 0, 117), (179, 132, 6, 1), (182, 167, 255, 224)] : List (Nat × Nat × Nat × Nat)), gb cX12_shift q.1 = some q.2.1 ∧ gb cX12_shift (q.1 + 1) = some q.2.2.1 ∧ gb cX12_shift (q.1 + 2) = some q.2.2.2 := seg_3 SX12_shift _ (by decide +kernel)
theorem dX12_shift_0 : decode cX12_shift 0 = .ok (.iload_n 1, 1) := dk27 (BX12_shift_1_0 (0, 27) (List.mem_of_getElem? (i := 0) rfl))
theorem dX12_shift_1 : decode cX12_shift 1 = .ok (.invokestatic 238, 3) := dk184 0 238 (BX12_shift_3_0 (1, 184, 0, 238) (List.mem_of_getElem? (i := 0) rfl))
theorem dX12_shift_4 : decode cX12_shift 4 = .ok (.ifCond .eq 10, 3) := dk153 0 10 (BX12_shift_3_0 (4, 153, 0, 10) (List.mem_of_getElem? (i := 1) rfl))
theorem dX12_shift_7 : decode cX12_shift 7 = .ok (.iload_n 3, 1) := dk29 (BX12_shift_1_0 (7, 29) (List.mem_of_getElem? (i := 1) rfl))
theorem dX12_shift_8 : decode cX12_shift 8 = .ok (.invokestatic 238, 3) := dk184 0 238 (BX12_shift_3_0 (8, 184, 0, 238) (List.mem_of_getElem? (i := 2) rfl))
theorem dX12_shift_11 : decode cX12_shift 11 = .ok (.ifCond .ne 5, 3) := dk154 0 5 (BX12_shift_3_0 (11, 154, 0, 5) (List.mem_of_getElem? (i := 3) rfl))
theorem dX12_shift_14 : decode cX12_shift 14 = .ok (.iconst (-1), 1) := dk2 (BX12_shift_1_0 (14, 2) (List.mem_of_getElem? (i := 2) rfl))
theorem dX12_shift_15 : decode cX12_shift 15 = .ok (.ireturn, 1) := dk172 (BX12_shift_1_0 (15, 172) (List.mem_of_getElem? (i := 3) rfl))
theorem dX12_shift_16 : decode cX12_shift 16 = .ok (.aload_n 0, 1) := dk42 (BX12_shift_1_0 (16, 42) (List.mem_of_getElem? (i := 4) rfl))
theorem dX12_shift_17 : decode cX12_shift 17 = .ok (.getfield 107, 3) := dk180 0 107 (BX12_shift_3_0 (17, 180, 0, 107) (List.mem_of_getElem? (i := 4) rfl))
theorem dX12_shift_20 : decode cX12_shift 20 = .ok (.iload_n 1, 1) := dk27 (BX12_shift_1_0 (20, 27) (List.mem_of_getElem? (i := 5) rfl))
theorem dX12_shift_21 : decode cX12_shift 21 = .ok (.iaload, 1) := dk46 (BX12_shift_1_0 (21, 46) (List.mem_of_getElem? (i := 6) rfl))
theorem dX12_shift_22 : decode cX12_shift 22 = .ok (.ifCond .lt 12, 3) := dk155 0 12 (BX12_shift_3_0 (22, 155, 0, 12) (List.mem_of_getElem? (i := 5) rfl))
theorem dX12_shift_25 : decode cX12_shift 25 = .ok (.aload_n 0, 1) := dk42 (BX12_shift_1_0 (25, 42) (List.mem_of_getElem? (i := 7) rfl))
theorem dX12_shift_26 : decode cX12_shift 26 = .ok (.getfield 107, 3) := dk180 0 107 (BX12_shift_3_0 (26, 180, 0, 107) (List.mem_of_getElem? (i := 6) rfl))
theorem dX12_shift_29 : decode cX12_shift 29 = .ok (.iload_n 3, 1) := dk29 (BX12_shift_1_0 (29, 29) (List.mem_of_getElem? (i := 8) rfl))
theorem dX12_shift_30 : decode cX12_shift 30 = .ok (.iaload, 1) := dk46 (BX12_shift_1_0 (30, 46) (List.mem_of_getElem? (i := 9) rfl))
theorem dX12_shift_31 : decode cX12_shift 31 = .ok (.ifCond .ge 6, 3) := dk156 0 6 (BX12_shift_3_0 (31, 156, 0, 6) (List.mem_of_getElem? (i := 7) rfl))
theorem dX12_shift_34 : decode cX12_shift 34 = .ok (.bipush (-11), 2) := dk16 245 (BX12_shift_2_0 (34, 16, 245) (List.mem_of_getElem? (i := 0) rfl))
theorem dX12_shift_36 : decode cX12_shift 36 = .ok (.ireturn, 1) := dk172 (BX12_shift_1_0 (36, 172) (List.mem_of_getElem? (i := 10) rfl))
theorem dX12_shift_37 : decode cX12_shift 37 = .ok (.aload_n 0, 1) := dk42 (BX12_shift_1_0 (37, 42) (List.mem_of_getElem? (i := 11) rfl))
theorem dX12_shift_38 : decode cX12_shift 38 = .ok (.getfield 107, 3) := dk180 0 107 (BX12_shift_3_0 (38, 180, 0, 107) (List.mem_of_getElem? (i := 8) rfl))
theorem dX12_shift_41 : decode cX12_shift 41 = .ok (.iload_n 1, 1) := dk27 (BX12_shift_1_1 (41, 27) (List.mem_of_getElem? (i := 0) rfl))
theorem dX12_shift_42 : decode cX12_shift 42 = .ok (.iaload, 1) := dk46 (BX12_shift_1_1 (42, 46) (List.mem_of_getElem? (i := 1) rfl))
theorem dX12_shift_43 : decode cX12_shift 43 = .ok (.bipush 50, 2) := dk16 50 (BX12_shift_2_0 (43, 16, 50) (List.mem_of_getElem? (i := 1) rfl))
theorem dX12_shift_45 : decode cX12_shift 45 = .ok (.if_icmp .lt 18, 3) := dk161 0 18 (BX12_shift_3_0 (45, 161, 0, 18) (List.mem_of_getElem? (i := 9) rfl))
theorem dX12_shift_48 : decode cX12_shift 48 = .ok (.aload_n 0, 1) := dk42 (BX12_shift_1_1 (48, 42) (List.mem_of_getElem? (i := 2) rfl))
theorem dX12_shift_49 : decode cX12_shift 49 = .ok (.getfield 107, 3) := dk180 0 107 (BX12_shift_3_0 (49, 180, 0, 107) (List.mem_of_getElem? (i := 10) rfl))
theorem dX12_shift_52 : decode cX12_shift 52 = .ok (.iload_n 1, 1) := dk27 (BX12_shift_1_1 (52, 27) (List.mem_of_getElem? (i := 3) rfl))
theorem dX12_shift_53 : decode cX12_shift 53 = .ok (.iaload, 1) := dk46 (BX12_shift_1_1 (53, 46) (List.mem_of_getElem? (i := 4) rfl))
theorem dX12_shift_54 : decode cX12_shift 54 = .ok (.aload_n 0, 1) := dk42 (BX12_shift_1_1 (54, 42) (List.mem_of_getElem? (i := 5) rfl))
theorem dX12_shift_55 : decode cX12_shift 55 = .ok (.getfield 107, 3) := dk180 0 107 (BX12_shift_3_0 (55, 180, 0, 107) (List.mem_of_getElem? (i := 11) rfl))
theorem dX12_shift_58 : decode cX12_shift 58 = .ok (.iload_n 3, 1) := dk29 (BX12_shift_1_1 (58, 29) (List.mem_of_getElem? (i := 6) rfl))
theorem dX12_shift_59 : decode cX12_shift 59 = .ok (.iaload, 1) := dk46 (BX12_shift_1_1 (59, 46) (List.mem_of_getElem? (i := 7) rfl))
theorem dX12_shift_60 : decode cX12_shift 60 = .ok (.if_icmp .eq 6, 3) := dk159 0 6 (BX12_shift_3_1 (60, 159, 0, 6) (List.mem_of_getElem? (i := 0) rfl))
theorem dX12_shift_63 : decode cX12_shift 63 = .ok (.bipush (-12), 2) := dk16 244 (BX12_shift_2_0 (63, 16, 244) (List.mem_of_getElem? (i := 2) rfl))
theorem dX12_shift_65 : decode cX12_shift 65 = .ok (.ireturn, 1) := dk172 (BX12_shift_1_1 (65, 172) (List.mem_of_getElem? (i := 8) rfl))
theorem dX12_shift_66 : decode cX12_shift 66 = .ok (.iload 5, 2) := dk21 5 (BX12_shift_2_0 (66, 21, 5) (List.mem_of_getElem? (i := 3) rfl))
theorem dX12_shift_68 : decode cX12_shift 68 = .ok (.ifCond .lt 39, 3) := dk155 0 39 (BX12_shift_3_1 (68, 155, 0, 39) (List.mem_of_getElem? (i := 1) rfl))
theorem dX12_shift_71 : decode cX12_shift 71 = .ok (.iload_n 2, 1) := dk28 (BX12_shift_1_1 (71, 28) (List.mem_of_getElem? (i := 9) rfl))
theorem dX12_shift_72 : decode cX12_shift 72 = .ok (.ifCond .lt 35, 3) := dk155 0 35 (BX12_shift_3_1 (72, 155, 0, 35) (List.mem_of_getElem? (i := 2) rfl))
theorem dX12_shift_75 : decode cX12_shift 75 = .ok (.iload 4, 2) := dk21 4 (BX12_shift_2_0 (75, 21, 4) (List.mem_of_getElem? (i := 4) rfl))
theorem dX12_shift_77 : decode cX12_shift 77 = .ok (.ifCond .lt 30, 3) := dk155 0 30 (BX12_shift_3_1 (77, 155, 0, 30) (List.mem_of_getElem? (i := 3) rfl))
theorem dX12_shift_80 : decode cX12_shift 80 = .ok (.iload_n 2, 1) := dk28 (BX12_shift_1_1 (80, 28) (List.mem_of_getElem? (i := 10) rfl))
theorem dX12_shift_81 : decode cX12_shift 81 = .ok (.aload_n 0, 1) := dk42 (BX12_shift_1_1 (81, 42) (List.mem_of_getElem? (i := 11) rfl))
theorem dX12_shift_82 : decode cX12_shift 82 = .ok (.getfield 110, 3) := dk180 0 110 (BX12_shift_3_1 (82, 180, 0, 110) (List.mem_of_getElem? (i := 4) rfl))
theorem dX12_shift_85 : decode cX12_shift 85 = .ok (.iload_n 1, 1) := dk27 (BX12_shift_1_2 (85, 27) (List.mem_of_getElem? (i := 0) rfl))
theorem dX12_shift_86 : decode cX12_shift 86 = .ok (.iaload, 1) := dk46 (BX12_shift_1_2 (86, 46) (List.mem_of_getElem? (i := 1) rfl))
theorem dX12_shift_87 : decode cX12_shift 87 = .ok (.iload 5, 2) := dk21 5 (BX12_shift_2_0 (87, 21, 5) (List.mem_of_getElem? (i := 5) rfl))
theorem dX12_shift_89 : decode cX12_shift 89 = .ok (.isub, 1) := dk100 (BX12_shift_1_2 (89, 100) (List.mem_of_getElem? (i := 2) rfl))
theorem dX12_shift_90 : decode cX12_shift 90 = .ok (.if_icmp .gt 17, 3) := dk163 0 17 (BX12_shift_3_1 (90, 163, 0, 17) (List.mem_of_getElem? (i := 5) rfl))
theorem dX12_shift_93 : decode cX12_shift 93 = .ok (.iload 4, 2) := dk21 4 (BX12_shift_2_0 (93, 21, 4) (List.mem_of_getElem? (i := 6) rfl))
theorem dX12_shift_95 : decode cX12_shift 95 = .ok (.aload_n 0, 1) := dk42 (BX12_shift_1_2 (95, 42) (List.mem_of_getElem? (i := 3) rfl))
theorem dX12_shift_96 : decode cX12_shift 96 = .ok (.getfield 110, 3) := dk180 0 110 (BX12_shift_3_1 (96, 180, 0, 110) (List.mem_of_getElem? (i := 6) rfl))
theorem dX12_shift_99 : decode cX12_shift 99 = .ok (.iload_n 3, 1) := dk29 (BX12_shift_1_2 (99, 29) (List.mem_of_getElem? (i := 4) rfl))
theorem dX12_shift_100 : decode cX12_shift 100 = .ok (.iaload, 1) := dk46 (BX12_shift_1_2 (100, 46) (List.mem_of_getElem? (i := 5) rfl))
theorem dX12_shift_101 : decode cX12_shift 101 = .ok (.iload 5, 2) := dk21 5 (BX12_shift_2_0 (101, 21, 5) (List.mem_of_getElem? (i := 7) rfl))
theorem dX12_shift_103 : decode cX12_shift 103 = .ok (.isub, 1) := dk100 (BX12_shift_1_2 (103, 100) (List.mem_of_getElem? (i := 6) rfl))
theorem dX12_shift_104 : decode cX12_shift 104 = .ok (.if_icmp .le 6, 3) := dk164 0 6 (BX12_shift_3_1 (104, 164, 0, 6) (List.mem_of_getElem? (i := 7) rfl))
theorem dX12_shift_107 : decode cX12_shift 107 = .ok (.bipush (-13), 2) := dk16 243 (BX12_shift_2_0 (107, 16, 243) (List.mem_of_getElem? (i := 8) rfl))
theorem dX12_shift_109 : decode cX12_shift 109 = .ok (.ireturn, 1) := dk172 (BX12_shift_1_2 (109, 172) (List.mem_of_getElem? (i := 7) rfl))
theorem dX12_shift_110 : decode cX12_shift 110 = .ok (.iconst 0, 1) := dk3 (BX12_shift_1_2 (110, 3) (List.mem_of_getElem? (i := 8) rfl))
theorem dX12_shift_111 : decode cX12_shift 111 = .ok (.istore 6, 2) := dk54 6 (BX12_shift_2_0 (111, 54, 6) (List.mem_of_getElem? (i := 9) rfl))
theorem dX12_shift_113 : decode cX12_shift 113 = .ok (.iload 6, 2) := dk21 6 (BX12_shift_2_0 (113, 21, 6) (List.mem_of_getElem? (i := 10) rfl))
theorem dX12_shift_115 : decode cX12_shift 115 = .ok (.iload 5, 2) := dk21 5 (BX12_shift_2_0 (115, 21, 5) (List.mem_of_getElem? (i := 11) rfl))
theorem dX12_shift_117 : decode cX12_shift 117 = .ok (.if_icmp .ge 30, 3) := dk162 0 30 (BX12_shift_3_1 (117, 162, 0, 30) (List.mem_of_getElem? (i := 8) rfl))
theorem dX12_shift_120 : decode cX12_shift 120 = .ok (.aload_n 0, 1) := dk42 (BX12_shift_1_2 (120, 42) (List.mem_of_getElem? (i := 9) rfl))
theorem dX12_shift_121 : decode cX12_shift 121 = .ok (.getfield 117, 3) := dk180 0 117 (BX12_shift_3_1 (121, 180, 0, 117) (List.mem_of_getElem? (i := 9) rfl))
theorem dX12_shift_124 : decode cX12_shift 124 = .ok (.iload 6, 2) := dk21 6 (BX12_shift_2_1 (124, 21, 6) (List.mem_of_getElem? (i := 0) rfl))
theorem dX12_shift_126 : decode cX12_shift 126 = .ok (.aload_n 0, 1) := dk42 (BX12_shift_1_2 (126, 42) (List.mem_of_getElem? (i := 10) rfl))
theorem dX12_shift_127 : decode cX12_shift 127 = .ok (.getfield 113, 3) := dk180 0 113 (BX12_shift_3_1 (127, 180, 0, 113) (List.mem_of_getElem? (i := 10) rfl))
theorem dX12_shift_130 : decode cX12_shift 130 = .ok (.bipush 60, 2) := dk16 60 (BX12_shift_2_1 (130, 16, 60) (List.mem_of_getElem? (i := 1) rfl))
theorem dX12_shift_132 : decode cX12_shift 132 = .ok (.iload_n 1, 1) := dk27 (BX12_shift_1_2 (132, 27) (List.mem_of_getElem? (i := 11) rfl))
theorem dX12_shift_133 : decode cX12_shift 133 = .ok (.imul, 1) := dk104 (BX12_shift_1_3 (133, 104) (List.mem_of_getElem? (i := 0) rfl))
theorem dX12_shift_134 : decode cX12_shift 134 = .ok (.iload_n 2, 1) := dk28 (BX12_shift_1_3 (134, 28) (List.mem_of_getElem? (i := 1) rfl))
theorem dX12_shift_135 : decode cX12_shift 135 = .ok (.iadd, 1) := dk96 (BX12_shift_1_3 (135, 96) (List.mem_of_getElem? (i := 2) rfl))
theorem dX12_shift_136 : decode cX12_shift 136 = .ok (.iload 6, 2) := dk21 6 (BX12_shift_2_1 (136, 21, 6) (List.mem_of_getElem? (i := 2) rfl))
theorem dX12_shift_138 : decode cX12_shift 138 = .ok (.iadd, 1) := dk96 (BX12_shift_1_3 (138, 96) (List.mem_of_getElem? (i := 3) rfl))
theorem dX12_shift_139 : decode cX12_shift 139 = .ok (.laload, 1) := dk47 (BX12_shift_1_3 (139, 47) (List.mem_of_getElem? (i := 4) rfl))
theorem dX12_shift_140 : decode cX12_shift 140 = .ok (.lastore, 1) := dk80 (BX12_shift_1_3 (140, 80) (List.mem_of_getElem? (i := 5) rfl))
theorem dX12_shift_141 : decode cX12_shift 141 = .ok (.iinc 6 1, 3) := dk132 6 1 (BX12_shift_3_1 (141, 132, 6, 1) (List.mem_of_getElem? (i := 11) rfl))
theorem dX12_shift_144 : decode cX12_shift 144 = .ok (.goto (-31), 3) := dk167 255 225 (BX12_shift_3_2 (144, 167, 255, 225) (List.mem_of_getElem? (i := 0) rfl))
theorem dX12_shift_147 : decode cX12_shift 147 = .ok (.iconst 0, 1) := dk3 (BX12_shift_1_3 (147, 3) (List.mem_of_getElem? (i := 6) rfl))
theorem dX12_shift_148 : decode cX12_shift 148 = .ok (.istore 6, 2) := dk54 6 (BX12_shift_2_1 (148, 54, 6) (List.mem_of_getElem? (i := 3) rfl))
theorem dX12_shift_150 : decode cX12_shift 150 = .ok (.iload 6, 2) := dk21 6 (BX12_shift_2_1 (150, 21, 6) (List.mem_of_getElem? (i := 4) rfl))
theorem dX12_shift_152 : decode cX12_shift 152 = .ok (.iload 5, 2) := dk21 5 (BX12_shift_2_1 (152, 21, 5) (List.mem_of_getElem? (i := 5) rfl))
theorem dX12_shift_154 : decode cX12_shift 154 = .ok (.if_icmp .ge 31, 3) := dk162 0 31 (BX12_shift_3_2 (154, 162, 0, 31) (List.mem_of_getElem? (i := 1) rfl))
theorem dX12_shift_157 : decode cX12_shift 157 = .ok (.aload_n 0, 1) := dk42 (BX12_shift_1_3 (157, 42) (List.mem_of_getElem? (i := 7) rfl))
theorem dX12_shift_158 : decode cX12_shift 158 = .ok (.getfield 113, 3) := dk180 0 113 (BX12_shift_3_2 (158, 180, 0, 113) (List.mem_of_getElem? (i := 2) rfl))
theorem dX12_shift_161 : decode cX12_shift 161 = .ok (.bipush 60, 2) := dk16 60 (BX12_shift_2_1 (161, 16, 60) (List.mem_of_getElem? (i := 6) rfl))
theorem dX12_shift_163 : decode cX12_shift 163 = .ok (.iload_n 3, 1) := dk29 (BX12_shift_1_3 (163, 29) (List.mem_of_getElem? (i := 8) rfl))
theorem dX12_shift_164 : decode cX12_shift 164 = .ok (.imul, 1) := dk104 (BX12_shift_1_3 (164, 104) (List.mem_of_getElem? (i := 9) rfl))
theorem dX12_shift_165 : decode cX12_shift 165 = .ok (.iload 4, 2) := dk21 4 (BX12_shift_2_1 (165, 21, 4) (List.mem_of_getElem? (i := 7) rfl))
theorem dX12_shift_167 : decode cX12_shift 167 = .ok (.iadd, 1) := dk96 (BX12_shift_1_3 (167, 96) (List.mem_of_getElem? (i := 10) rfl))
theorem dX12_shift_168 : decode cX12_shift 168 = .ok (.iload 6, 2) := dk21 6 (BX12_shift_2_1 (168, 21, 6) (List.mem_of_getElem? (i := 8) rfl))
theorem dX12_shift_170 : decode cX12_shift 170 = .ok (.iadd, 1) := dk96 (BX12_shift_1_3 (170, 96) (List.mem_of_getElem? (i := 11) rfl))
theorem dX12_shift_171 : decode cX12_shift 171 = .ok (.aload_n 0, 1) := dk42 (BX12_shift_1_4 (171, 42) (List.mem_of_getElem? (i := 0) rfl))
theorem dX12_shift_172 : decode cX12_shift 172 = .ok (.getfield 117, 3) := dk180 0 117 (BX12_shift_3_2 (172, 180, 0, 117) (List.mem_of_getElem? (i := 3) rfl))
theorem dX12_shift_175 : decode cX12_shift 175 = .ok (.iload 6, 2) := dk21 6 (BX12_shift_2_1 (175, 21, 6) (List.mem_of_getElem? (i := 9) rfl))
theorem dX12_shift_177 : decode cX12_shift 177 = .ok (.laload, 1) := dk47 (BX12_shift_1_4 (177, 47) (List.mem_of_getElem? (i := 1) rfl))
theorem dX12_shift_178 : decode cX12_shift 178 = .ok (.lastore, 1) := dk80 (BX12_shift_1_4 (178, 80) (List.mem_of_getElem? (i := 2) rfl))
theorem dX12_shift_179 : decode cX12_shift 179 = .ok (.iinc 6 1, 3) := dk132 6 1 (BX12_shift_3_2 (179, 132, 6, 1) (List.mem_of_getElem? (i := 4) rfl))
theorem dX12_shift_182 : decode cX12_shift 182 = .ok (.goto (-32), 3) := dk167 255 224 (BX12_shift_3_2 (182, 167, 255, 224) (List.mem_of_getElem? (i := 5) rfl))
theorem dX12_shift_185 : decode cX12_shift 185 = .ok (.iload 5, 2) := dk21 5 (BX12_shift_2_1 (185, 21, 5) (List.mem_of_getElem? (i := 10) rfl))
theorem dX12_shift_187 : decode cX12_shift 187 = .ok (.ireturn, 1) := dk172 (BX12_shift_1_4 (187, 172) (List.mem_of_getElem? (i := 3) rfl))
set_option maxRecDepth 20000 in
theorem ggX12_taken_X12_isShelf : GoodIn wsX12_taken wsX12_isShelf := goodIn_g ch_wsX12_taken_flat gd_wsX12_taken _ [(1, 5), (1, 6), (1, 7), (1, 8), (1, 4), (1, 9)] rfl
set_option maxRecDepth 20000 in
theorem gX12_taken_X12_isShelf : GoodIn wsX12_taken (va_wsS RX12 238 yX12_isShelf wsX12_isShelf) := goodIn_app (goodIn_g ch_wsX12_taken_flat gd_wsX12_taken _ [(1, 2), (1, 3), (1, 4)] rfl) ggX12_taken_X12_isShelf
set_option maxRecDepth 20000 in
theorem ggX12_taken_X12_within : GoodIn wsX12_taken wsX12_within := goodIn_g ch_wsX12_taken_flat gd_wsX12_taken _ [(1, 9)] rfl
set_option maxRecDepth 20000 in
theorem gX12_taken_X12_within : GoodIn wsX12_taken (va_wsS RX12 136 yX12_within wsX12_within) := goodIn_app (goodIn_g ch_wsX12_taken_flat gd_wsX12_taken _ [(1, 7), (1, 8), (1, 4)] rfl) ggX12_taken_X12_within
set_option maxRecDepth 20000 in
theorem ggX12_taken_X12_kindOf : GoodIn wsX12_taken wsX12_kindOf := gcons (goodIn_g ch_wsX12_taken_flat gd_wsX12_taken _ [(1, 13)] rfl) (goodIn_app (goodIn_g ch_wsX12_taken_flat gd_wsX12_taken _ [(1, 14)] rfl) (gchunk ch_wsX12_taken_flat gd_wsX12_taken 2 rfl))
set_option maxRecDepth 20000 in
theorem gX12_taken_X12_kindOf : GoodIn wsX12_taken (wsV RX12 421 RX12 yX12_kindOf wsX12_kindOf) := goodIn_app (goodIn_g ch_wsX12_taken_flat gd_wsX12_taken _ [(1, 10), (1, 11), (1, 12), (1, 4)] rfl) ggX12_taken_X12_kindOf
set_option maxRecDepth 20000 in
theorem ggX12_taken_X12_above : GoodIn wsX12_taken wsX12_above := goodIn_g ch_wsX12_taken_flat gd_wsX12_taken _ [(1, 17)] rfl
set_option maxRecDepth 20000 in
theorem gX12_taken_X12_above : GoodIn wsX12_taken (va_wsS RX12 424 yX12_above wsX12_above) := goodIn_app (goodIn_g ch_wsX12_taken_flat gd_wsX12_taken _ [(1, 15), (1, 16), (1, 4)] rfl) ggX12_taken_X12_above
set_option maxRecDepth 20000 in
theorem SX12_taken : ∀ p : Nat, gb cX12_taken p = segF [[27, 184, 0, 238, 153, 0, 15, 28, 133, 9, 20, 0, 223, 184, 0, 136, 154, 0, 5, 2, 172, 42, 180, 0, 107, 27, 46, 156, 0, 6, 16, 245, 172, 42, 180, 0, 107, 27, 46, 16, 50, 161, 0, 6, 16, 244, 172, 42, 42, 180, 0, 107, 27, 46, 182, 1, 165, 62, 29, 28, 159, 0, 15, 29], [158, 0, 11, 29, 184, 1, 168, 62, 167, 255, 242, 29, 28, 160, 0, 16, 42, 42, 180, 0, 107, 27, 46, 182, 1, 165, 167, 0, 5, 16, 244, 172]] p := seg_gb (S := [[27, 184, 0, 238, 153, 0, 15, 28, 133, 9, 20, 0, 223, 184, 0, 136, 154, 0, 5, 2, 172, 42, 180, 0, 107, 27, 46, 156, 0, 6, 16, 245, 172, 42, 180, 0, 107, 27, 46, 16, 50, 161, 0, 6, 16, 244, 172, 42, 42, 180, 0, 107, 27, 46, 182, 1, 165, 62, 29, 28, 159, 0, 15, 29], [158, 0, 11, 29, 184, 1, 168, 62, 167, 255, 242, 29, 28, 160, 0, 16, 42, 42, 180, 0, 107, 27, 46, 182, 1, 165, 167, 0, 5, 16, 244, 172]]) (by decide +kernel) (by decide +kernel)
set_option maxRecDepth 20000 in
theorem BX12_taken_1_0 : ∀ q ∈ ([(0, 27), (7, 28), (8, 133), (9, 9), (19, 2), (20, 172), (21, 42), (25, 27), (26, 46), (32, 172), (33, 42), (37, 27)] : List (Nat × Nat)), gb cX12_taken q.1 = some q.2 := seg_1 SX12_taken _ (by decide +kernel)
set_option maxRecDepth 20000 in
theorem BX12_taken_1_1 : ∀ q ∈ ([(38, 46), (46, 172), (47, 42), (48, 42), (52, 27), (53, 46), (57, 62), (58, 29), (59, 28), (63, 29), (67, 29), (71, 62)] : List (Nat × Nat)), gb cX12_taken q.1 = some q.2 := seg_1 SX12_taken _ (by decide +kernel)
set_option maxRecDepth 20000 in
theorem BX12_taken_1_2 : ∀ q ∈ ([(75, 29), (76, 28), (80, 42), (81, 42), (85, 27), (86, 46), (95, 172)] : List (Nat × Nat)), gb cX12_taken q.1 = some q.2 := seg_1 SX12_taken _ (by decide +kernel)
set_option maxRecDepth 20000 in
theorem BX12_taken_2_0 : ∀ q ∈ ([(30, 16, 245), (39, 16, 50), (44, 16, 244), (93, 16, 244)] : List (Nat × Nat × Nat)), gb cX12_taken q.1 = some q.2.1 ∧ gb cX12_taken (q.1 + 1) = some q.2.2 := seg_2 SX12_taken _ (by decide +kernel)
set_option maxRecDepth 20000 in
theorem BX12_taken_3_0 : ∀ q ∈ ([(1, 184, 0, 238), (4, 153, 0, 15), (10, 20, 0, 223), (13, 184, 0, 136), (16, 154, 0, 5), (22, 180, 0, 107), (27, 156, 0, 6), (34, 180, 0, 107), (41, 161, 0, 6), (49, 180, 0, 107), (54, 182, 1, 165), (60, 159, 0, 15)] : List (Nat × Nat × Nat × Nat)), gb cX12_taken q.1 = some q.2.1 ∧ gb cX12_taken (q.1 + 1) = some q.2.2.1 ∧ gb cX12_taken (q.1 + 2) = some q.2.2.2 := seg_3 SX12_taken _ (by decide +kernel)
set_option maxRecDepth 20000 in
theorem BX12_taken_3_1 : ∀ q ∈ ([(64, 158, 0, 11), (68, 184, 1, 168), (72, 167, 255, 242), (77, 160, 0, 16), (82, 180, 0, 107), (87, 182, 1, 165), (90, 167, 0, 5)] : List (Nat × Nat × Nat × Nat)), gb cX12_taken q.1 = some q.2.1 ∧ gb cX12_taken (q.1 + 1) = some q.2.2.1 ∧ gb cX12_taken (q.1 + 2) = some q.2.2.2 := seg_3 SX12_taken _ (by decide +kernel)
theorem dX12_taken_0 : decode cX12_taken 0 = .ok (.iload_n 1, 1) := dk27 (BX12_taken_1_0 (0, 27) (List.mem_of_getElem? (i := 0) rfl))
theorem dX12_taken_1 : decode cX12_taken 1 = .ok (.invokestatic 238, 3) := dk184 0 238 (BX12_taken_3_0 (1, 184, 0, 238) (List.mem_of_getElem? (i := 0) rfl))
theorem dX12_taken_4 : decode cX12_taken 4 = .ok (.ifCond .eq 15, 3) := dk153 0 15 (BX12_taken_3_0 (4, 153, 0, 15) (List.mem_of_getElem? (i := 1) rfl))
theorem dX12_taken_7 : decode cX12_taken 7 = .ok (.iload_n 2, 1) := dk28 (BX12_taken_1_0 (7, 28) (List.mem_of_getElem? (i := 1) rfl))
theorem dX12_taken_8 : decode cX12_taken 8 = .ok (.i2l, 1) := dk133 (BX12_taken_1_0 (8, 133) (List.mem_of_getElem? (i := 2) rfl))
theorem dX12_taken_9 : decode cX12_taken 9 = .ok (.lconst 0, 1) := dk9 (BX12_taken_1_0 (9, 9) (List.mem_of_getElem? (i := 3) rfl))
theorem dX12_taken_10 : decode cX12_taken 10 = .ok (.ldc2_w 223, 3) := dk20 0 223 (BX12_taken_3_0 (10, 20, 0, 223) (List.mem_of_getElem? (i := 2) rfl))
theorem dX12_taken_13 : decode cX12_taken 13 = .ok (.invokestatic 136, 3) := dk184 0 136 (BX12_taken_3_0 (13, 184, 0, 136) (List.mem_of_getElem? (i := 3) rfl))
theorem dX12_taken_16 : decode cX12_taken 16 = .ok (.ifCond .ne 5, 3) := dk154 0 5 (BX12_taken_3_0 (16, 154, 0, 5) (List.mem_of_getElem? (i := 4) rfl))
theorem dX12_taken_19 : decode cX12_taken 19 = .ok (.iconst (-1), 1) := dk2 (BX12_taken_1_0 (19, 2) (List.mem_of_getElem? (i := 4) rfl))
theorem dX12_taken_20 : decode cX12_taken 20 = .ok (.ireturn, 1) := dk172 (BX12_taken_1_0 (20, 172) (List.mem_of_getElem? (i := 5) rfl))
theorem dX12_taken_21 : decode cX12_taken 21 = .ok (.aload_n 0, 1) := dk42 (BX12_taken_1_0 (21, 42) (List.mem_of_getElem? (i := 6) rfl))
theorem dX12_taken_22 : decode cX12_taken 22 = .ok (.getfield 107, 3) := dk180 0 107 (BX12_taken_3_0 (22, 180, 0, 107) (List.mem_of_getElem? (i := 5) rfl))
theorem dX12_taken_25 : decode cX12_taken 25 = .ok (.iload_n 1, 1) := dk27 (BX12_taken_1_0 (25, 27) (List.mem_of_getElem? (i := 7) rfl))
theorem dX12_taken_26 : decode cX12_taken 26 = .ok (.iaload, 1) := dk46 (BX12_taken_1_0 (26, 46) (List.mem_of_getElem? (i := 8) rfl))
theorem dX12_taken_27 : decode cX12_taken 27 = .ok (.ifCond .ge 6, 3) := dk156 0 6 (BX12_taken_3_0 (27, 156, 0, 6) (List.mem_of_getElem? (i := 6) rfl))
theorem dX12_taken_30 : decode cX12_taken 30 = .ok (.bipush (-11), 2) := dk16 245 (BX12_taken_2_0 (30, 16, 245) (List.mem_of_getElem? (i := 0) rfl))
theorem dX12_taken_32 : decode cX12_taken 32 = .ok (.ireturn, 1) := dk172 (BX12_taken_1_0 (32, 172) (List.mem_of_getElem? (i := 9) rfl))
theorem dX12_taken_33 : decode cX12_taken 33 = .ok (.aload_n 0, 1) := dk42 (BX12_taken_1_0 (33, 42) (List.mem_of_getElem? (i := 10) rfl))
theorem dX12_taken_34 : decode cX12_taken 34 = .ok (.getfield 107, 3) := dk180 0 107 (BX12_taken_3_0 (34, 180, 0, 107) (List.mem_of_getElem? (i := 7) rfl))
theorem dX12_taken_37 : decode cX12_taken 37 = .ok (.iload_n 1, 1) := dk27 (BX12_taken_1_0 (37, 27) (List.mem_of_getElem? (i := 11) rfl))
theorem dX12_taken_38 : decode cX12_taken 38 = .ok (.iaload, 1) := dk46 (BX12_taken_1_1 (38, 46) (List.mem_of_getElem? (i := 0) rfl))
theorem dX12_taken_39 : decode cX12_taken 39 = .ok (.bipush 50, 2) := dk16 50 (BX12_taken_2_0 (39, 16, 50) (List.mem_of_getElem? (i := 1) rfl))
theorem dX12_taken_41 : decode cX12_taken 41 = .ok (.if_icmp .lt 6, 3) := dk161 0 6 (BX12_taken_3_0 (41, 161, 0, 6) (List.mem_of_getElem? (i := 8) rfl))
theorem dX12_taken_44 : decode cX12_taken 44 = .ok (.bipush (-12), 2) := dk16 244 (BX12_taken_2_0 (44, 16, 244) (List.mem_of_getElem? (i := 2) rfl))
theorem dX12_taken_46 : decode cX12_taken 46 = .ok (.ireturn, 1) := dk172 (BX12_taken_1_1 (46, 172) (List.mem_of_getElem? (i := 1) rfl))
theorem dX12_taken_47 : decode cX12_taken 47 = .ok (.aload_n 0, 1) := dk42 (BX12_taken_1_1 (47, 42) (List.mem_of_getElem? (i := 2) rfl))
theorem dX12_taken_48 : decode cX12_taken 48 = .ok (.aload_n 0, 1) := dk42 (BX12_taken_1_1 (48, 42) (List.mem_of_getElem? (i := 3) rfl))
theorem dX12_taken_49 : decode cX12_taken 49 = .ok (.getfield 107, 3) := dk180 0 107 (BX12_taken_3_0 (49, 180, 0, 107) (List.mem_of_getElem? (i := 9) rfl))
theorem dX12_taken_52 : decode cX12_taken 52 = .ok (.iload_n 1, 1) := dk27 (BX12_taken_1_1 (52, 27) (List.mem_of_getElem? (i := 4) rfl))
theorem dX12_taken_53 : decode cX12_taken 53 = .ok (.iaload, 1) := dk46 (BX12_taken_1_1 (53, 46) (List.mem_of_getElem? (i := 5) rfl))
theorem dX12_taken_54 : decode cX12_taken 54 = .ok (.invokevirtual 421, 3) := dk182 1 165 (BX12_taken_3_0 (54, 182, 1, 165) (List.mem_of_getElem? (i := 10) rfl))
theorem dX12_taken_57 : decode cX12_taken 57 = .ok (.istore_n 3, 1) := dk62 (BX12_taken_1_1 (57, 62) (List.mem_of_getElem? (i := 6) rfl))
theorem dX12_taken_58 : decode cX12_taken 58 = .ok (.iload_n 3, 1) := dk29 (BX12_taken_1_1 (58, 29) (List.mem_of_getElem? (i := 7) rfl))
theorem dX12_taken_59 : decode cX12_taken 59 = .ok (.iload_n 2, 1) := dk28 (BX12_taken_1_1 (59, 28) (List.mem_of_getElem? (i := 8) rfl))
theorem dX12_taken_60 : decode cX12_taken 60 = .ok (.if_icmp .eq 15, 3) := dk159 0 15 (BX12_taken_3_0 (60, 159, 0, 15) (List.mem_of_getElem? (i := 11) rfl))
theorem dX12_taken_63 : decode cX12_taken 63 = .ok (.iload_n 3, 1) := dk29 (BX12_taken_1_1 (63, 29) (List.mem_of_getElem? (i := 9) rfl))
theorem dX12_taken_64 : decode cX12_taken 64 = .ok (.ifCond .le 11, 3) := dk158 0 11 (BX12_taken_3_1 (64, 158, 0, 11) (List.mem_of_getElem? (i := 0) rfl))
theorem dX12_taken_67 : decode cX12_taken 67 = .ok (.iload_n 3, 1) := dk29 (BX12_taken_1_1 (67, 29) (List.mem_of_getElem? (i := 10) rfl))
theorem dX12_taken_68 : decode cX12_taken 68 = .ok (.invokestatic 424, 3) := dk184 1 168 (BX12_taken_3_1 (68, 184, 1, 168) (List.mem_of_getElem? (i := 1) rfl))
theorem dX12_taken_71 : decode cX12_taken 71 = .ok (.istore_n 3, 1) := dk62 (BX12_taken_1_1 (71, 62) (List.mem_of_getElem? (i := 11) rfl))
theorem dX12_taken_72 : decode cX12_taken 72 = .ok (.goto (-14), 3) := dk167 255 242 (BX12_taken_3_1 (72, 167, 255, 242) (List.mem_of_getElem? (i := 2) rfl))
theorem dX12_taken_75 : decode cX12_taken 75 = .ok (.iload_n 3, 1) := dk29 (BX12_taken_1_2 (75, 29) (List.mem_of_getElem? (i := 0) rfl))
theorem dX12_taken_76 : decode cX12_taken 76 = .ok (.iload_n 2, 1) := dk28 (BX12_taken_1_2 (76, 28) (List.mem_of_getElem? (i := 1) rfl))
theorem dX12_taken_77 : decode cX12_taken 77 = .ok (.if_icmp .ne 16, 3) := dk160 0 16 (BX12_taken_3_1 (77, 160, 0, 16) (List.mem_of_getElem? (i := 3) rfl))
theorem dX12_taken_80 : decode cX12_taken 80 = .ok (.aload_n 0, 1) := dk42 (BX12_taken_1_2 (80, 42) (List.mem_of_getElem? (i := 2) rfl))
theorem dX12_taken_81 : decode cX12_taken 81 = .ok (.aload_n 0, 1) := dk42 (BX12_taken_1_2 (81, 42) (List.mem_of_getElem? (i := 3) rfl))
theorem dX12_taken_82 : decode cX12_taken 82 = .ok (.getfield 107, 3) := dk180 0 107 (BX12_taken_3_1 (82, 180, 0, 107) (List.mem_of_getElem? (i := 4) rfl))
theorem dX12_taken_85 : decode cX12_taken 85 = .ok (.iload_n 1, 1) := dk27 (BX12_taken_1_2 (85, 27) (List.mem_of_getElem? (i := 4) rfl))
theorem dX12_taken_86 : decode cX12_taken 86 = .ok (.iaload, 1) := dk46 (BX12_taken_1_2 (86, 46) (List.mem_of_getElem? (i := 5) rfl))
theorem dX12_taken_87 : decode cX12_taken 87 = .ok (.invokevirtual 421, 3) := dk182 1 165 (BX12_taken_3_1 (87, 182, 1, 165) (List.mem_of_getElem? (i := 5) rfl))
theorem dX12_taken_90 : decode cX12_taken 90 = .ok (.goto 5, 3) := dk167 0 5 (BX12_taken_3_1 (90, 167, 0, 5) (List.mem_of_getElem? (i := 6) rfl))
theorem dX12_taken_93 : decode cX12_taken 93 = .ok (.bipush (-12), 2) := dk16 244 (BX12_taken_2_0 (93, 16, 244) (List.mem_of_getElem? (i := 3) rfl))
theorem dX12_taken_95 : decode cX12_taken 95 = .ok (.ireturn, 1) := dk172 (BX12_taken_1_2 (95, 172) (List.mem_of_getElem? (i := 6) rfl))
set_option maxRecDepth 20000 in
theorem SX12_count : ∀ p : Nat, gb cX12_count p = segF [[27, 170, 0, 0, 0, 0, 0, 123, 0, 0, 0, 0, 0, 0, 0, 11, 0, 0, 0, 63, 0, 0, 0, 68, 0, 0, 0, 73, 0, 0, 0, 78, 0, 0, 0, 83, 0, 0, 0, 88, 0, 0, 0, 93, 0, 0, 0, 98, 0, 0, 0, 103, 0, 0, 0, 108, 0, 0, 0, 113, 0, 0, 0, 118], [42, 180, 0, 133, 172, 42, 180, 0, 140, 172, 42, 180, 0, 200, 172, 42, 180, 0, 203, 172, 42, 180, 0, 227, 172, 42, 180, 1, 6, 172, 42, 180, 1, 21, 172, 42, 180, 1, 38, 172, 42, 180, 1, 86, 172, 42, 180, 0, 127, 172, 42, 180, 1, 123, 172, 42, 180, 1, 126, 172, 2, 172]] p := seg_gb (S := [[27, 170, 0, 0, 0, 0, 0, 123, 0, 0, 0, 0, 0, 0, 0, 11, 0, 0, 0, 63, 0, 0, 0, 68, 0, 0, 0, 73, 0, 0, 0, 78, 0, 0, 0, 83, 0, 0, 0, 88, 0, 0, 0, 93, 0, 0, 0, 98, 0, 0, 0, 103, 0, 0, 0, 108, 0, 0, 0, 113, 0, 0, 0, 118], [42, 180, 0, 133, 172, 42, 180, 0, 140, 172, 42, 180, 0, 200, 172, 42, 180, 0, 203, 172, 42, 180, 0, 227, 172, 42, 180, 1, 6, 172, 42, 180, 1, 21, 172, 42, 180, 1, 38, 172, 42, 180, 1, 86, 172, 42, 180, 0, 127, 172, 42, 180, 1, 123, 172, 42, 180, 1, 126, 172, 2, 172]]) (by decide +kernel) (by decide +kernel)
set_option maxRecDepth 20000 in
theorem BX12_count_1_0 : ∀ q ∈ ([(0, 27), (64, 42), (68, 172), (69, 42), (73, 172), (74, 42), (78, 172), (79, 42), (83, 172), (84, 42), (88, 172), (89, 42)] : List (Nat × Nat)), gb cX12_count q.1 = some q.2 := seg_1 SX12_count _ (by decide +kernel)
set_option maxRecDepth 20000 in
theorem BX12_count_1_1 : ∀ q ∈ ([(93, 172), (94, 42), (98, 172), (99, 42), (103, 172), (104, 42), (108, 172), (109, 42), (113, 172), (114, 42), (118, 172), (119, 42)] : List (Nat × Nat)), gb cX12_count q.1 = some q.2 := seg_1 SX12_count _ (by decide +kernel)
set_option maxRecDepth 20000 in
theorem BX12_count_1_2 : ∀ q ∈ ([(123, 172), (124, 2), (125, 172)] : List (Nat × Nat)), gb cX12_count q.1 = some q.2 := seg_1 SX12_count _ (by decide +kernel)
set_option maxRecDepth 20000 in
theorem BX12_count_3_0 : ∀ q ∈ ([(65, 180, 0, 133), (70, 180, 0, 140), (75, 180, 0, 200), (80, 180, 0, 203), (85, 180, 0, 227), (90, 180, 1, 6), (95, 180, 1, 21), (100, 180, 1, 38), (105, 180, 1, 86), (110, 180, 0, 127), (115, 180, 1, 123), (120, 180, 1, 126)] : List (Nat × Nat × Nat × Nat)), gb cX12_count q.1 = some q.2.1 ∧ gb cX12_count (q.1 + 1) = some q.2.2.1 ∧ gb cX12_count (q.1 + 2) = some q.2.2.2 := seg_3 SX12_count _ (by decide +kernel)
theorem dX12_count_0 : decode cX12_count 0 = .ok (.iload_n 1, 1) := dk27 (BX12_count_1_0 (0, 27) (List.mem_of_getElem? (i := 0) rfl))
theorem dX12_count_1 : decode cX12_count 1 = .ok (.tableswitch 123 0 11 #[63, 68, 73, 78, 83, 88, 93, 98, 103, 108, 113, 118], 63) := by decide +kernel
theorem dX12_count_64 : decode cX12_count 64 = .ok (.aload_n 0, 1) := dk42 (BX12_count_1_0 (64, 42) (List.mem_of_getElem? (i := 1) rfl))
theorem dX12_count_65 : decode cX12_count 65 = .ok (.getfield 133, 3) := dk180 0 133 (BX12_count_3_0 (65, 180, 0, 133) (List.mem_of_getElem? (i := 0) rfl))
theorem dX12_count_68 : decode cX12_count 68 = .ok (.ireturn, 1) := dk172 (BX12_count_1_0 (68, 172) (List.mem_of_getElem? (i := 2) rfl))
theorem dX12_count_69 : decode cX12_count 69 = .ok (.aload_n 0, 1) := dk42 (BX12_count_1_0 (69, 42) (List.mem_of_getElem? (i := 3) rfl))
theorem dX12_count_70 : decode cX12_count 70 = .ok (.getfield 140, 3) := dk180 0 140 (BX12_count_3_0 (70, 180, 0, 140) (List.mem_of_getElem? (i := 1) rfl))
theorem dX12_count_73 : decode cX12_count 73 = .ok (.ireturn, 1) := dk172 (BX12_count_1_0 (73, 172) (List.mem_of_getElem? (i := 4) rfl))
theorem dX12_count_74 : decode cX12_count 74 = .ok (.aload_n 0, 1) := dk42 (BX12_count_1_0 (74, 42) (List.mem_of_getElem? (i := 5) rfl))
theorem dX12_count_75 : decode cX12_count 75 = .ok (.getfield 200, 3) := dk180 0 200 (BX12_count_3_0 (75, 180, 0, 200) (List.mem_of_getElem? (i := 2) rfl))
theorem dX12_count_78 : decode cX12_count 78 = .ok (.ireturn, 1) := dk172 (BX12_count_1_0 (78, 172) (List.mem_of_getElem? (i := 6) rfl))
theorem dX12_count_79 : decode cX12_count 79 = .ok (.aload_n 0, 1) := dk42 (BX12_count_1_0 (79, 42) (List.mem_of_getElem? (i := 7) rfl))
theorem dX12_count_80 : decode cX12_count 80 = .ok (.getfield 203, 3) := dk180 0 203 (BX12_count_3_0 (80, 180, 0, 203) (List.mem_of_getElem? (i := 3) rfl))
theorem dX12_count_83 : decode cX12_count 83 = .ok (.ireturn, 1) := dk172 (BX12_count_1_0 (83, 172) (List.mem_of_getElem? (i := 8) rfl))
theorem dX12_count_84 : decode cX12_count 84 = .ok (.aload_n 0, 1) := dk42 (BX12_count_1_0 (84, 42) (List.mem_of_getElem? (i := 9) rfl))
theorem dX12_count_85 : decode cX12_count 85 = .ok (.getfield 227, 3) := dk180 0 227 (BX12_count_3_0 (85, 180, 0, 227) (List.mem_of_getElem? (i := 4) rfl))
theorem dX12_count_88 : decode cX12_count 88 = .ok (.ireturn, 1) := dk172 (BX12_count_1_0 (88, 172) (List.mem_of_getElem? (i := 10) rfl))
theorem dX12_count_89 : decode cX12_count 89 = .ok (.aload_n 0, 1) := dk42 (BX12_count_1_0 (89, 42) (List.mem_of_getElem? (i := 11) rfl))
theorem dX12_count_90 : decode cX12_count 90 = .ok (.getfield 262, 3) := dk180 1 6 (BX12_count_3_0 (90, 180, 1, 6) (List.mem_of_getElem? (i := 5) rfl))
theorem dX12_count_93 : decode cX12_count 93 = .ok (.ireturn, 1) := dk172 (BX12_count_1_1 (93, 172) (List.mem_of_getElem? (i := 0) rfl))
theorem dX12_count_94 : decode cX12_count 94 = .ok (.aload_n 0, 1) := dk42 (BX12_count_1_1 (94, 42) (List.mem_of_getElem? (i := 1) rfl))
theorem dX12_count_95 : decode cX12_count 95 = .ok (.getfield 277, 3) := dk180 1 21 (BX12_count_3_0 (95, 180, 1, 21) (List.mem_of_getElem? (i := 6) rfl))
theorem dX12_count_98 : decode cX12_count 98 = .ok (.ireturn, 1) := dk172 (BX12_count_1_1 (98, 172) (List.mem_of_getElem? (i := 2) rfl))
theorem dX12_count_99 : decode cX12_count 99 = .ok (.aload_n 0, 1) := dk42 (BX12_count_1_1 (99, 42) (List.mem_of_getElem? (i := 3) rfl))
theorem dX12_count_100 : decode cX12_count 100 = .ok (.getfield 294, 3) := dk180 1 38 (BX12_count_3_0 (100, 180, 1, 38) (List.mem_of_getElem? (i := 7) rfl))
theorem dX12_count_103 : decode cX12_count 103 = .ok (.ireturn, 1) := dk172 (BX12_count_1_1 (103, 172) (List.mem_of_getElem? (i := 4) rfl))
theorem dX12_count_104 : decode cX12_count 104 = .ok (.aload_n 0, 1) := dk42 (BX12_count_1_1 (104, 42) (List.mem_of_getElem? (i := 5) rfl))
theorem dX12_count_105 : decode cX12_count 105 = .ok (.getfield 342, 3) := dk180 1 86 (BX12_count_3_0 (105, 180, 1, 86) (List.mem_of_getElem? (i := 8) rfl))
theorem dX12_count_108 : decode cX12_count 108 = .ok (.ireturn, 1) := dk172 (BX12_count_1_1 (108, 172) (List.mem_of_getElem? (i := 6) rfl))
theorem dX12_count_109 : decode cX12_count 109 = .ok (.aload_n 0, 1) := dk42 (BX12_count_1_1 (109, 42) (List.mem_of_getElem? (i := 7) rfl))
theorem dX12_count_110 : decode cX12_count 110 = .ok (.getfield 127, 3) := dk180 0 127 (BX12_count_3_0 (110, 180, 0, 127) (List.mem_of_getElem? (i := 9) rfl))
theorem dX12_count_113 : decode cX12_count 113 = .ok (.ireturn, 1) := dk172 (BX12_count_1_1 (113, 172) (List.mem_of_getElem? (i := 8) rfl))
theorem dX12_count_114 : decode cX12_count 114 = .ok (.aload_n 0, 1) := dk42 (BX12_count_1_1 (114, 42) (List.mem_of_getElem? (i := 9) rfl))
theorem dX12_count_115 : decode cX12_count 115 = .ok (.getfield 379, 3) := dk180 1 123 (BX12_count_3_0 (115, 180, 1, 123) (List.mem_of_getElem? (i := 10) rfl))
theorem dX12_count_118 : decode cX12_count 118 = .ok (.ireturn, 1) := dk172 (BX12_count_1_1 (118, 172) (List.mem_of_getElem? (i := 10) rfl))
theorem dX12_count_119 : decode cX12_count 119 = .ok (.aload_n 0, 1) := dk42 (BX12_count_1_1 (119, 42) (List.mem_of_getElem? (i := 11) rfl))
theorem dX12_count_120 : decode cX12_count 120 = .ok (.getfield 382, 3) := dk180 1 126 (BX12_count_3_0 (120, 180, 1, 126) (List.mem_of_getElem? (i := 11) rfl))
theorem dX12_count_123 : decode cX12_count 123 = .ok (.ireturn, 1) := dk172 (BX12_count_1_2 (123, 172) (List.mem_of_getElem? (i := 0) rfl))
theorem dX12_count_124 : decode cX12_count 124 = .ok (.iconst (-1), 1) := dk2 (BX12_count_1_2 (124, 2) (List.mem_of_getElem? (i := 1) rfl))
theorem dX12_count_125 : decode cX12_count 125 = .ok (.ireturn, 1) := dk172 (BX12_count_1_2 (125, 172) (List.mem_of_getElem? (i := 2) rfl))

